abbrev w_X0_groundWays (g : GE) (a0 a1 a2 a3 a4 a5 a6 a7 : Nat) (u0_0 u0_1 u0_2 u0_3 u0_4 u0_5 u0_6 u0_7 u0_8 u0_9 u1_2 u1_3 u1_4 u2_2 u2_5 u3_1 u3_3 u3_5 : Value) (x2_rows : Int32) (x2_columns : Int32) (x3_count : Int32) (y4_land : Nat → Int32) (y5_riverOf : Nat → Int32) (y6_home : Nat → Int32) (y7_length : Nat → Int32) : va_W := [(a0, .inr (0, [u0_0, u0_1, u0_2, u0_3, u0_4, u0_5, u0_6, u0_7, u0_8, u0_9])), (a1, .inr (6, [.ref a2, .ref a3, u1_2, u1_3, u1_4])), (a2, .inr (1, [.int x2_rows, .int x2_columns, u2_2, .ref a4, .ref a5, u2_5])), (a3, .inr (2, [.int x3_count, u3_1, .ref a6, u3_3, .ref a7, u3_5])), (a4, .inl (g.2.1 1, 144, .inl y4_land)), (a5, .inl (g.2.1 0, 144, .inl y5_riverOf)), (a6, .inl (g.2.1 0, 8, .inl y6_home)), (a7, .inl (g.2.1 0, 8, .inl y7_length))]
set_option maxRecDepth 20000 in
theorem c_X0_groundWays (l : Launch) (g : GE) (a0 a1 a2 a3 a4 a5 a6 a7 : Nat) (sz : Nat) (u0_0 u0_1 u0_2 u0_3 u0_4 u0_5 u0_6 u0_7 u0_8 u0_9 u1_2 u1_3 u1_4 u2_2 u2_5 u3_1 u3_3 u3_5 : Value) (x2_rows : Int32) (x2_columns : Int32) (x3_count : Int32) (y4_land : Nat → Int32) (y5_riverOf : Nat → Int32) (y6_home : Nat → Int32) (y7_length : Nat → Int32) (p2 : Int32) (p3 : Int32)  (r : Int32) (hf : f_X0_groundWays x2_rows x2_columns x3_count y4_land y5_riverOf y6_home y7_length p2 p3 = some r) : MI l g yX0_groundWays wsX0_groundWays 4 96 [.ref a0, .ref a1, .int p2, .int p3] (w_X0_groundWays g a0 a1 a2 a3 a4 a5 a6 a7 u0_0 u0_1 u0_2 u0_3 u0_4 u0_5 u0_6 u0_7 u0_8 u0_9 u1_2 u1_3 u1_4 u2_2 u2_5 u3_1 u3_3 u3_5 x2_rows x2_columns x3_count y4_land y5_riverOf y6_home y7_length) sz (some (.int r)) (w_X0_groundWays g a0 a1 a2 a3 a4 a5 a6 a7 u0_0 u0_1 u0_2 u0_3 u0_4 u0_5 u0_6 u0_7 u0_8 u0_9 u1_2 u1_3 u1_4 u2_2 u2_5 u3_1 u3_3 u3_5 x2_rows x2_columns x3_count y4_land y5_riverOf y6_home y7_length) := by
  refine MI.start (cc := cX0_groundWays) (maxL := 6) (ret := (some .int)) rfl rfl (nle rfl) ?_
  intro p e s m args below meth c A ls Q hQ hexec hb hr hts hown hlocks hml hA hP hD hG hS hl
  unfold f_X0_groundWays at hf
  have hWX1 : ∀ w ∈ wsX10, w.before args s = true := fun w h => hts w (List.mem_cons_of_mem _ (List.mem_append_right _ h))
  have hWX2 : ∀ w ∈ wsX20, w.before args s = true := fun w h => hts w (List.mem_cons_of_mem _ (List.mem_append_left _ (List.mem_append_right _ h)))
  have hWX6 : ∀ w ∈ wsX60, w.before args s = true := fun w h => hts w (List.mem_cons_of_mem _ (List.mem_append_left _ (List.mem_append_left _ (List.mem_append_right _ h))))
  have hS : va_S A s.heap s.heap [] := hS
  refine lv_iconst (pc := 0) hexec hb dX0_groundWays_0 ki_0 ?_
  refine lv_istore (pc := 1) hexec hb dX0_groundWays_1 hl (nle rfl) rfl (fun ls (hl : lv_has ls 6 [(4, .int 0), (0, .ref a0), (1, .ref a1), (2, .int p2), (3, .int p3)]) => ?_)
  refine lv_iconst (pc := 3) hexec hb dX0_groundWays_3 ki_0 ?_
  refine lv_istore (pc := 4) hexec hb dX0_groundWays_4 hl (nle rfl) rfl (fun ls (hl : lv_has ls 6 [(5, .int 0), (4, .int 0), (0, .ref a0), (1, .ref a1), (2, .int p2), (3, .int p3)]) => ?_)
  obtain ⟨l6, el6, hf⟩ := bvf2 hf
  obtain ⟨v4_1, hz, hf⟩ := bd1_e hf
  have hE6 : ∀ (H : Heap) (locs : List Loc) (ls : Array Slot), va_P g.1 vwCl (w_X0_groundWays g a0 a1 a2 a3 a4 a5 a6 a7 u0_0 u0_1 u0_2 u0_3 u0_4 u0_5 u0_6 u0_7 u0_8 u0_9 u1_2 u1_3 u1_4 u2_2 u2_5 u3_1 u3_3 u3_5 x2_rows x2_columns x3_count y4_land y5_riverOf y6_home y7_length) H → va_D A (w_X0_groundWays g a0 a1 a2 a3 a4 a5 a6 a7 u0_0 u0_1 u0_2 u0_3 u0_4 u0_5 u0_6 u0_7 u0_8 u0_9 u1_2 u1_3 u1_4 u2_2 u2_5 u3_1 u3_3 u3_5 x2_rows x2_columns x3_count y4_land y5_riverOf y6_home y7_length) → va_S A s.heap H locs → lv_has ls 6 [(4, .int v4_1)] → W p l e (RM 4 96) s m args below meth c H locs 0 0 Q (F0 m 49 ls []) := by
    intro H locs ls hP hD hS hl
    refine lv_iload (pc := 49) hexec hb dX0_groundWays_49 (lv_at hl 0 rfl) ?_
    cases hf
    exact ke_i hQ hexec hb hr hP hD hS dX0_groundWays_51 hlocks
  obtain ⟨n, hz⟩ := lq2_e hz
  have hL6 : ∀ (n : Nat) (v4 : Int32) (v5 : Int32) (H : Heap) (locs : List Loc) (ls : Array Slot), it2 l6 n v4 v5 = some v4_1 → va_P g.1 vwCl (w_X0_groundWays g a0 a1 a2 a3 a4 a5 a6 a7 u0_0 u0_1 u0_2 u0_3 u0_4 u0_5 u0_6 u0_7 u0_8 u0_9 u1_2 u1_3 u1_4 u2_2 u2_5 u3_1 u3_3 u3_5 x2_rows x2_columns x3_count y4_land y5_riverOf y6_home y7_length) H → va_D A (w_X0_groundWays g a0 a1 a2 a3 a4 a5 a6 a7 u0_0 u0_1 u0_2 u0_3 u0_4 u0_5 u0_6 u0_7 u0_8 u0_9 u1_2 u1_3 u1_4 u2_2 u2_5 u3_1 u3_3 u3_5 x2_rows x2_columns x3_count y4_land y5_riverOf y6_home y7_length) → va_S A s.heap H locs → lv_has ls 6 [(1, .ref a1), (2, .int p2), (3, .int p3), (4, .int v4), (5, .int v5)] → W p l e (RM 4 96) s m args below meth c H locs 0 0 Q (F0 m 6 ls []) := by
    intro n
    induction n with
    | zero =>
      intro v4 v5 H locs ls hf hP hD hS hl
      exact it2_0 hf
    | succ n6 ih6 =>
      intro v4 v5 H locs ls hf hP hD hS hl
      obtain ⟨q6, hf, hk6⟩ := it2_e hf
      have hf := (el6 v4 v5).symm.trans hf
      refine lv_iload (pc := 6) hexec hb dX0_groundWays_6 (lv_at hl 4 rfl) ?_
      refine lv_iconst (pc := 8) hexec hb dX0_groundWays_8 ki_4 ?_
      refine ki_ge (pc := 9) hexec hb dX0_groundWays_9 (tgt := 49) rfl hf (fun hc hf => ?_) (fun hc hf => ?_)
      · cases sr2 hf hk6
        exact hE6 _ _ _ hP hD hS (lv_sub hl [3] rfl)
      · refine lv_iload_n (pc := 12) hexec hb dX0_groundWays_12 rfl (lv_at hl 1 rfl) ?_
        refine lv_aload_n (pc := 13) hexec hb dX0_groundWays_13 rfl (lv_at hl 0 rfl) ?_
        refine kg_getN (pc := 14) hexec hb (own := RX0) hWX6 hown hG hP 1 rfl rfl 1 (nle rfl) 25 rfl rfl rfl dX0_groundWays_14 ?_
        refine kg_getN (pc := 17) hexec hb (own := RX0) hWX2 hown hG hP 3 rfl rfl 0 (nle rfl) 7 rfl rfl rfl dX0_groundWays_17 ?_
        refine ki_ge (pc := 20) hexec hb dX0_groundWays_20 (tgt := 49) rfl hf (fun hc hf => ?_) (fun hc hf => ?_)
        · cases sr2 hf hk6
          exact hE6 _ _ _ hP hD hS (lv_sub hl [3] rfl)
        · refine lv_aload_n (pc := 23) hexec hb dX0_groundWays_23 rfl (lv_at hl 0 rfl) ?_
          refine lv_iload_n (pc := 24) hexec hb dX0_groundWays_24 rfl (lv_at hl 1 rfl) ?_
          refine lv_iload (pc := 25) hexec hb dX0_groundWays_25 (lv_at hl 4 rfl) ?_
          refine lv_iload_n (pc := 27) hexec hb dX0_groundWays_27 rfl (lv_at hl 2 rfl) ?_
          obtain ⟨r28, hc, hf⟩ := bd1_e hf
          refine kVp (pc := 28) (S := ⟨hexec, hb, hml, hown, hts⟩) hP hD hG hA hS [1, 2, 3, 4, 5, 6, 7] [0] [0, 1, 2, 3, 4, 5, 6, 7] (w2 := (w_X0_groundWays g a0 a1 a2 a3 a4 a5 a6 a7 u0_0 u0_1 u0_2 u0_3 u0_4 u0_5 u0_6 u0_7 u0_8 u0_9 u1_2 u1_3 u1_4 u2_2 u2_5 u3_1 u3_3 u3_5 x2_rows x2_columns x3_count y4_land y5_riverOf y6_home y7_length)) rfl rfl rfl rfl rfl rfl (by decide) (c_X6_groundReason l g a1 a2 a3 a4 a5 a6 a7 _ u1_2 u1_3 u1_4 u2_2 u2_5 u3_1 u3_3 u3_5 x2_rows x2_columns x3_count y4_land y5_riverOf y6_home y7_length p2 v5 p3 r28 hc) gX0_groundWays_X6_groundReason rfl hv_X6_groundReason ⟨nle rfl, nle rfl⟩ 6 0 rfl rfl rfl (rest := []) rfl rfl hl.1 (nle rfl) dX0_groundWays_28 (fun H locs hP hD hS => ?_)
          obtain ⟨j43, ej43, hf⟩ := bvf1 hf
          have hj43 : ∀ (v4_2 : Int32) (H : Heap) (locs : List Loc) (ls : Array Slot), j43 v4_2 = some q6 → va_P g.1 vwCl (w_X0_groundWays g a0 a1 a2 a3 a4 a5 a6 a7 u0_0 u0_1 u0_2 u0_3 u0_4 u0_5 u0_6 u0_7 u0_8 u0_9 u1_2 u1_3 u1_4 u2_2 u2_5 u3_1 u3_3 u3_5 x2_rows x2_columns x3_count y4_land y5_riverOf y6_home y7_length) H → va_D A (w_X0_groundWays g a0 a1 a2 a3 a4 a5 a6 a7 u0_0 u0_1 u0_2 u0_3 u0_4 u0_5 u0_6 u0_7 u0_8 u0_9 u1_2 u1_3 u1_4 u2_2 u2_5 u3_1 u3_3 u3_5 x2_rows x2_columns x3_count y4_land y5_riverOf y6_home y7_length) → va_S A s.heap H locs → lv_has ls 6 [(1, .ref a1), (2, .int p2), (3, .int p3), (4, .int v4_2), (5, .int v5)] → W p l e (RM 4 96) s m args below meth c H locs 0 0 Q (F0 m 43 ls []) := by
            intro v4_2 H locs ls hf hP hD hS hl
            have hf := (ej43 v4_2).symm.trans hf
            obtain ⟨v5_1, ev5_1, hf⟩ := bv_e hf
            refine k_iinc (pc := 43) hexec hb dX0_groundWays_43 kq_1 hl (k := 4) rfl ev5_1 (nle rfl) rfl (fun ls (hl : lv_has ls 6 [(5, .int v5_1), (1, .ref a1), (2, .int p2), (3, .int p3), (4, .int v4_2)]) => ?_)
            refine lv_goto (pc := 46) hexec hb dX0_groundWays_46 (tgt := 6) rfl ?_
            exact ih6 _ _ _ _ _ (sl2 hf hk6) hP hD hS (lv_sub hl [1, 2, 3, 4, 0] rfl)
          refine kb_ne (pc := 31) hexec hb dX0_groundWays_31 (tgt := 43) rfl hf (fun hc hf => ?_) (fun hc hf => ?_)
          · exact hj43 _ _ _ _ hf hP hD hS (lv_sub hl [0, 1, 2, 3, 4] rfl)
          · refine lv_iload (pc := 34) hexec hb dX0_groundWays_34 (lv_at hl 3 rfl) ?_
            refine lv_iconst (pc := 36) hexec hb dX0_groundWays_36 ki_1 ?_
            refine lv_iload (pc := 37) hexec hb dX0_groundWays_37 (lv_at hl 4 rfl) ?_
            refine lv_ishl (pc := 39) hexec hb dX0_groundWays_39 ?_
            refine lv_ior (pc := 40) hexec hb dX0_groundWays_40 ?_
            obtain ⟨v4_3, ev4_3, hf⟩ := bv_e hf
            refine kn_i ev4_3 ?_
            refine lv_istore (pc := 41) hexec hb dX0_groundWays_41 hl (nle rfl) rfl (fun ls (hl : lv_has ls 6 [(4, .int v4_3), (1, .ref a1), (2, .int p2), (3, .int p3), (5, .int v5)]) => ?_)
            exact hj43 _ _ _ _ hf hP hD hS (lv_sub hl [1, 2, 3, 0, 4] rfl)
  exact hL6 n _ _ _ _ _ hz hP hD hS (lv_sub hl [3, 4, 5, 1, 0] rfl)
abbrev w_X0_countLeft (g : GE) (a0 a1 a2 a3 : Nat) (u0_1 u0_2 u0_3 u0_5 u0_8 u0_9 : Value) (x0_reds : Int32) (y1_allowed : Nat → Int32) (y2_namesLeft : Nat → Int32) (y3_redsLeft : Nat → Int32) : va_W := [(a0, .inr (0, [.int x0_reds, u0_1, u0_2, u0_3, .ref a1, u0_5, .ref a2, .ref a3, u0_8, u0_9])), (a1, .inl (g.2.1 0, 8, .inl y1_allowed)), (a2, .inl (g.2.1 0, 9, .inl y2_namesLeft)), (a3, .inl (g.2.1 0, 9, .inl y3_redsLeft))]
set_option maxRecDepth 20000 in
theorem c_X0_countLeft (l : Launch) (g : GE) (a0 a1 a2 a3 : Nat) (sz : Nat) (u0_1 u0_2 u0_3 u0_5 u0_8 u0_9 : Value) (x0_reds : Int32) (y1_allowed : Nat → Int32) (y2_namesLeft : Nat → Int32) (y3_redsLeft : Nat → Int32)   (o_y2_namesLeft : Nat → Int32) (o_y3_redsLeft : Nat → Int32) (hf : f_X0_countLeft x0_reds y1_allowed y2_namesLeft y3_redsLeft = some (o_y2_namesLeft, o_y3_redsLeft)) : MI l g yX0_countLeft wsX0_countLeft 1 24 [.ref a0] (w_X0_countLeft g a0 a1 a2 a3 u0_1 u0_2 u0_3 u0_5 u0_8 u0_9 x0_reds y1_allowed y2_namesLeft y3_redsLeft) sz none (w_X0_countLeft g a0 a1 a2 a3 u0_1 u0_2 u0_3 u0_5 u0_8 u0_9 x0_reds y1_allowed o_y2_namesLeft o_y3_redsLeft) := by
  refine MI.start (cc := cX0_countLeft) (maxL := 3) (ret := none) rfl rfl (nle rfl) ?_
  intro p e s m args below meth c A ls Q hQ hexec hb hr hts hown hlocks hml hA hP hD hG hS hl
  unfold f_X0_countLeft at hf
  have hWX0 : ∀ w ∈ wsX00, w.before args s = true := fun w h => hts w (List.mem_cons_of_mem _ (List.mem_append_right _ h))
  have hS : va_S A s.heap s.heap [] := hS
  refine lv_aload_n (pc := 0) hexec hb dX0_countLeft_0 rfl (lv_at hl 0 rfl) ?_
  refine kg_get (pc := 1) hexec hb (own := RX0) hWX0 hown hG hP 0 rfl rfl 6 (nle rfl) (hts _ (List.mem_cons_of_mem _ (List.mem_append_left _ (List.mem_of_getElem? (i := 0) rfl)))) rfl rfl dX0_countLeft_1 ?_
  refine lv_bipush (pc := 4) hexec hb dX0_countLeft_4 kb_8 ?_
  refine lv_iconst (pc := 6) hexec hb dX0_countLeft_6 ki_0 ?_
  refine kw_iast (pc := 7) hexec hb hG hP hD hS 2 rfl hf dX0_countLeft_7 (fun y2_namesLeft_1 H locs hf (hP : va_P g.1 vwCl (w_X0_countLeft g a0 a1 a2 a3 u0_1 u0_2 u0_3 u0_5 u0_8 u0_9 x0_reds y1_allowed y2_namesLeft_1 y3_redsLeft) H) (hD : va_D A (w_X0_countLeft g a0 a1 a2 a3 u0_1 u0_2 u0_3 u0_5 u0_8 u0_9 x0_reds y1_allowed y2_namesLeft_1 y3_redsLeft)) hS => ?_)
  refine lv_aload_n (pc := 8) hexec hb dX0_countLeft_8 rfl (lv_at hl 0 rfl) ?_
  refine kg_get (pc := 9) hexec hb (own := RX0) hWX0 hown hG hP 0 rfl rfl 7 (nle rfl) (hts _ (List.mem_cons_of_mem _ (List.mem_append_left _ (List.mem_of_getElem? (i := 1) rfl)))) rfl rfl dX0_countLeft_9 ?_
  refine lv_bipush (pc := 12) hexec hb dX0_countLeft_12 kb_8 ?_
  refine lv_iconst (pc := 14) hexec hb dX0_countLeft_14 ki_0 ?_
  refine kw_iast (pc := 15) hexec hb hG hP hD hS 3 rfl hf dX0_countLeft_15 (fun y3_redsLeft_1 H locs hf (hP : va_P g.1 vwCl (w_X0_countLeft g a0 a1 a2 a3 u0_1 u0_2 u0_3 u0_5 u0_8 u0_9 x0_reds y1_allowed y2_namesLeft_1 y3_redsLeft_1) H) (hD : va_D A (w_X0_countLeft g a0 a1 a2 a3 u0_1 u0_2 u0_3 u0_5 u0_8 u0_9 x0_reds y1_allowed y2_namesLeft_1 y3_redsLeft_1)) hS => ?_)
  refine lv_bipush (pc := 16) hexec hb dX0_countLeft_16 kb_7 ?_
  refine lv_istore_n (pc := 18) hexec hb dX0_countLeft_18 rfl hl (nle rfl) rfl (fun ls (hl : lv_has ls 3 [(1, .int 7), (0, .ref a0)]) => ?_)
  obtain ⟨l19, el19, hf⟩ := bvf3 hf
  obtain ⟨y2_namesLeft_3, y3_redsLeft_3, hz, hf⟩ := bd2_e hf
  have hE19 : ∀ (H : Heap) (locs : List Loc) (ls : Array Slot), va_P g.1 vwCl (w_X0_countLeft g a0 a1 a2 a3 u0_1 u0_2 u0_3 u0_5 u0_8 u0_9 x0_reds y1_allowed y2_namesLeft_3 y3_redsLeft_3) H → va_D A (w_X0_countLeft g a0 a1 a2 a3 u0_1 u0_2 u0_3 u0_5 u0_8 u0_9 x0_reds y1_allowed y2_namesLeft_3 y3_redsLeft_3) → va_S A s.heap H locs → lv_has ls 3 [] → W p l e (RM 1 24) s m args below meth c H locs 0 0 Q (F0 m 85 ls []) := by
    intro H locs ls hP hD hS hl
    cases hf
    exact ke_v hQ hexec hb hr hP hD hS dX0_countLeft_85 hlocks
  obtain ⟨n, hz⟩ := lq3_e hz
  have hL19 : ∀ (n : Nat) (v1 : Int32) (y2_namesLeft_2 : Nat → Int32) (y3_redsLeft_2 : Nat → Int32) (H : Heap) (locs : List Loc) (ls : Array Slot), it3 l19 n v1 y2_namesLeft_2 y3_redsLeft_2 = some (y2_namesLeft_3, y3_redsLeft_3) → va_P g.1 vwCl (w_X0_countLeft g a0 a1 a2 a3 u0_1 u0_2 u0_3 u0_5 u0_8 u0_9 x0_reds y1_allowed y2_namesLeft_2 y3_redsLeft_2) H → va_D A (w_X0_countLeft g a0 a1 a2 a3 u0_1 u0_2 u0_3 u0_5 u0_8 u0_9 x0_reds y1_allowed y2_namesLeft_2 y3_redsLeft_2) → va_S A s.heap H locs → lv_has ls 3 [(0, .ref a0), (1, .int v1)] → W p l e (RM 1 24) s m args below meth c H locs 0 0 Q (F0 m 19 ls []) := by
    intro n
    induction n with
    | zero =>
      intro v1 y2_namesLeft_2 y3_redsLeft_2 H locs ls hf hP hD hS hl
      exact it3_0 hf
    | succ n19 ih19 =>
      intro v1 y2_namesLeft_2 y3_redsLeft_2 H locs ls hf hP hD hS hl
      obtain ⟨q19, hf, hk19⟩ := it3_e hf
      have hf := (el19 v1 y2_namesLeft_2 y3_redsLeft_2).symm.trans hf
      refine lv_iload_n (pc := 19) hexec hb dX0_countLeft_19 rfl (lv_at hl 1 rfl) ?_
      refine kb_lt (pc := 20) hexec hb dX0_countLeft_20 (tgt := 85) rfl hf (fun hc hf => ?_) (fun hc hf => ?_)
      · cases sr3 hf hk19
        exact hE19 _ _ _ hP hD hS (lv_sub hl [] rfl)
      · refine lv_aload_n (pc := 23) hexec hb dX0_countLeft_23 rfl (lv_at hl 0 rfl) ?_
        refine kg_get (pc := 24) hexec hb (own := RX0) hWX0 hown hG hP 0 rfl rfl 4 (nle rfl) (hts _ (List.mem_cons_of_mem _ (List.mem_append_left _ (List.mem_of_getElem? (i := 2) rfl)))) rfl rfl dX0_countLeft_24 ?_
        refine lv_iload_n (pc := 27) hexec hb dX0_countLeft_27 rfl (lv_at hl 1 rfl) ?_
        refine kr_iald (pc := 28) hexec hb hG hP 1 rfl hf dX0_countLeft_28 (fun hf => ?_)
        obtain ⟨j37, ej37, hf⟩ := bvf1 hf
        have hj37 : ∀ (t37 : Int32) (H : Heap) (locs : List Loc) (ls : Array Slot), j37 t37 = some q19 → va_P g.1 vwCl (w_X0_countLeft g a0 a1 a2 a3 u0_1 u0_2 u0_3 u0_5 u0_8 u0_9 x0_reds y1_allowed y2_namesLeft_2 y3_redsLeft_2) H → va_D A (w_X0_countLeft g a0 a1 a2 a3 u0_1 u0_2 u0_3 u0_5 u0_8 u0_9 x0_reds y1_allowed y2_namesLeft_2 y3_redsLeft_2) → va_S A s.heap H locs → lv_has ls 3 [(0, .ref a0), (1, .int v1)] → W p l e (RM 1 24) s m args below meth c H locs 0 0 Q (F0 m 37 ls [.int t37]) := by
          intro t37 H locs ls hf hP hD hS hl
          have hf := (ej37 t37).symm.trans hf
          refine lv_istore_n (pc := 37) hexec hb dX0_countLeft_37 rfl hl (nle rfl) rfl (fun ls (hl : lv_has ls 3 [(2, .int t37), (0, .ref a0), (1, .int v1)]) => ?_)
          refine lv_aload_n (pc := 38) hexec hb dX0_countLeft_38 rfl (lv_at hl 1 rfl) ?_
          refine kg_get (pc := 39) hexec hb (own := RX0) hWX0 hown hG hP 0 rfl rfl 6 (nle rfl) (hts _ (List.mem_cons_of_mem _ (List.mem_append_left _ (List.mem_of_getElem? (i := 0) rfl)))) rfl rfl dX0_countLeft_39 ?_
          refine lv_iload_n (pc := 42) hexec hb dX0_countLeft_42 rfl (lv_at hl 2 rfl) ?_
          refine lv_aload_n (pc := 43) hexec hb dX0_countLeft_43 rfl (lv_at hl 1 rfl) ?_
          refine kg_get (pc := 44) hexec hb (own := RX0) hWX0 hown hG hP 0 rfl rfl 6 (nle rfl) (hts _ (List.mem_cons_of_mem _ (List.mem_append_left _ (List.mem_of_getElem? (i := 0) rfl)))) rfl rfl dX0_countLeft_44 ?_
          refine lv_iload_n (pc := 47) hexec hb dX0_countLeft_47 rfl (lv_at hl 2 rfl) ?_
          refine lv_iconst (pc := 48) hexec hb dX0_countLeft_48 ki_1 ?_
          refine lv_iadd (pc := 49) hexec hb dX0_countLeft_49 ?_
          refine kr_iald (pc := 50) hexec hb hG hP 2 rfl hf dX0_countLeft_50 (fun hf => ?_)
          refine lv_iload_n (pc := 51) hexec hb dX0_countLeft_51 rfl (lv_at hl 0 rfl) ?_
          refine lv_iadd (pc := 52) hexec hb dX0_countLeft_52 ?_
          refine kw_iast (pc := 53) hexec hb hG hP hD hS 2 rfl hf dX0_countLeft_53 (fun y2_namesLeft_4 H locs hf (hP : va_P g.1 vwCl (w_X0_countLeft g a0 a1 a2 a3 u0_1 u0_2 u0_3 u0_5 u0_8 u0_9 x0_reds y1_allowed y2_namesLeft_4 y3_redsLeft_2) H) (hD : va_D A (w_X0_countLeft g a0 a1 a2 a3 u0_1 u0_2 u0_3 u0_5 u0_8 u0_9 x0_reds y1_allowed y2_namesLeft_4 y3_redsLeft_2)) hS => ?_)
          refine lv_aload_n (pc := 54) hexec hb dX0_countLeft_54 rfl (lv_at hl 1 rfl) ?_
          refine kg_get (pc := 55) hexec hb (own := RX0) hWX0 hown hG hP 0 rfl rfl 7 (nle rfl) (hts _ (List.mem_cons_of_mem _ (List.mem_append_left _ (List.mem_of_getElem? (i := 1) rfl)))) rfl rfl dX0_countLeft_55 ?_
          refine lv_iload_n (pc := 58) hexec hb dX0_countLeft_58 rfl (lv_at hl 2 rfl) ?_
          refine lv_aload_n (pc := 59) hexec hb dX0_countLeft_59 rfl (lv_at hl 1 rfl) ?_
          refine kg_get (pc := 60) hexec hb (own := RX0) hWX0 hown hG hP 0 rfl rfl 7 (nle rfl) (hts _ (List.mem_cons_of_mem _ (List.mem_append_left _ (List.mem_of_getElem? (i := 1) rfl)))) rfl rfl dX0_countLeft_60 ?_
          refine lv_iload_n (pc := 63) hexec hb dX0_countLeft_63 rfl (lv_at hl 2 rfl) ?_
          refine lv_iconst (pc := 64) hexec hb dX0_countLeft_64 ki_1 ?_
          refine lv_iadd (pc := 65) hexec hb dX0_countLeft_65 ?_
          refine kr_iald (pc := 66) hexec hb hG hP 3 rfl hf dX0_countLeft_66 (fun hf => ?_)
          refine lv_iload_n (pc := 67) hexec hb dX0_countLeft_67 rfl (lv_at hl 0 rfl) ?_
          refine lv_aload_n (pc := 68) hexec hb dX0_countLeft_68 rfl (lv_at hl 1 rfl) ?_
          refine kg_get (pc := 69) hexec hb (own := RX0) hWX0 hown hG hP 0 rfl rfl 0 (nle rfl) (hts _ (List.mem_cons_of_mem _ (List.mem_append_left _ (List.mem_of_getElem? (i := 3) rfl)))) rfl rfl dX0_countLeft_69 ?_
          refine lv_iload_n (pc := 72) hexec hb dX0_countLeft_72 rfl (lv_at hl 2 rfl) ?_
          refine lv_ishr (pc := 73) hexec hb dX0_countLeft_73 ?_
          refine lv_iconst (pc := 74) hexec hb dX0_countLeft_74 ki_1 ?_
          refine lv_iand (pc := 75) hexec hb dX0_countLeft_75 ?_
          refine lv_imul (pc := 76) hexec hb dX0_countLeft_76 ?_
          refine lv_iadd (pc := 77) hexec hb dX0_countLeft_77 ?_
          refine kw_iast (pc := 78) hexec hb hG hP hD hS 3 rfl hf dX0_countLeft_78 (fun y3_redsLeft_4 H locs hf (hP : va_P g.1 vwCl (w_X0_countLeft g a0 a1 a2 a3 u0_1 u0_2 u0_3 u0_5 u0_8 u0_9 x0_reds y1_allowed y2_namesLeft_4 y3_redsLeft_4) H) (hD : va_D A (w_X0_countLeft g a0 a1 a2 a3 u0_1 u0_2 u0_3 u0_5 u0_8 u0_9 x0_reds y1_allowed y2_namesLeft_4 y3_redsLeft_4)) hS => ?_)
          obtain ⟨v1_1, ev1_1, hf⟩ := bv_e hf
          refine k_iinc (pc := 79) hexec hb dX0_countLeft_79 kq_m1 hl (k := 2) rfl ev1_1 (nle rfl) rfl (fun ls (hl : lv_has ls 3 [(1, .int v1_1), (2, .int t37), (0, .ref a0)]) => ?_)
          refine lv_goto (pc := 82) hexec hb dX0_countLeft_82 (tgt := 19) rfl ?_
          exact ih19 _ _ _ _ _ _ (sl3 hf hk19) hP hD hS (lv_sub hl [2, 0] rfl)
        refine kb_ne (pc := 29) hexec hb dX0_countLeft_29 (tgt := 36) rfl hf (fun hc hf => ?_) (fun hc hf => ?_)
        · refine lv_iconst (pc := 36) hexec hb dX0_countLeft_36 ki_1 ?_
          exact hj37 _ _ _ _ hf hP hD hS (lv_sub hl [0, 1] rfl)
        · refine lv_iconst (pc := 32) hexec hb dX0_countLeft_32 ki_0 ?_
          refine lv_goto (pc := 33) hexec hb dX0_countLeft_33 (tgt := 37) rfl ?_
          exact hj37 _ _ _ _ hf hP hD hS (lv_sub hl [0, 1] rfl)
  exact hL19 n _ _ _ _ _ _ hz hP hD hS (lv_sub hl [1, 0] rfl)
abbrev w_X0_isAllowed (g : GE) (a0 a1 : Nat) (u0_0 u0_1 u0_2 u0_3 u0_5 u0_6 u0_7 u0_8 u0_9 : Value) (y1_allowed : Nat → Int32) : va_W := [(a0, .inr (0, [u0_0, u0_1, u0_2, u0_3, .ref a1, u0_5, u0_6, u0_7, u0_8, u0_9])), (a1, .inl (g.2.1 0, 8, .inl y1_allowed))]
set_option maxRecDepth 20000 in
theorem c_X0_isAllowed (l : Launch) (g : GE) (a0 a1 : Nat) (sz : Nat) (u0_0 u0_1 u0_2 u0_3 u0_5 u0_6 u0_7 u0_8 u0_9 : Value) (y1_allowed : Nat → Int32) (p1 : Int32)  (r : Int32) (hf : f_X0_isAllowed y1_allowed p1 = some r) : MI l g yX0_isAllowed wsX0_isAllowed 1 24 [.ref a0, .int p1] (w_X0_isAllowed g a0 a1 u0_0 u0_1 u0_2 u0_3 u0_5 u0_6 u0_7 u0_8 u0_9 y1_allowed) sz (some (.int r)) (w_X0_isAllowed g a0 a1 u0_0 u0_1 u0_2 u0_3 u0_5 u0_6 u0_7 u0_8 u0_9 y1_allowed) := by
  refine MI.start (cc := cX0_isAllowed) (maxL := 3) (ret := (some .boolean)) rfl rfl (nle rfl) ?_
  intro p e s m args below meth c A ls Q hQ hexec hb hr hts hown hlocks hml hA hP hD hG hS hl
  unfold f_X0_isAllowed at hf
  have hWX0 : ∀ w ∈ wsX00, w.before args s = true := fun w h => hts w (List.mem_cons_of_mem _ (List.mem_append_right _ h))
  have hS : va_S A s.heap s.heap [] := hS
  refine lv_iload_n (pc := 0) hexec hb dX0_isAllowed_0 rfl (lv_at hl 1 rfl) ?_
  refine lv_iconst (pc := 1) hexec hb dX0_isAllowed_1 ki_4 ?_
  refine lv_idiv (pc := 2) hexec hb dX0_isAllowed_2 (by decide) ?_
  obtain ⟨v2, ev2, hf⟩ := bv_e hf
  refine kn_i ev2 ?_
  refine lv_istore_n (pc := 3) hexec hb dX0_isAllowed_3 rfl hl (nle rfl) rfl (fun ls (hl : lv_has ls 3 [(2, .int v2), (0, .ref a0), (1, .int p1)]) => ?_)
  refine lv_iload_n (pc := 4) hexec hb dX0_isAllowed_4 rfl (lv_at hl 0 rfl) ?_
  refine lv_bipush (pc := 5) hexec hb dX0_isAllowed_5 kb_8 ?_
  obtain ⟨j30, ej30, hf⟩ := bvf1 hf
  have hj30 : ∀ (u : Unit) (H : Heap) (locs : List Loc) (ls : Array Slot), j30 u = some r → va_P g.1 vwCl (w_X0_isAllowed g a0 a1 u0_0 u0_1 u0_2 u0_3 u0_5 u0_6 u0_7 u0_8 u0_9 y1_allowed) H → va_D A (w_X0_isAllowed g a0 a1 u0_0 u0_1 u0_2 u0_3 u0_5 u0_6 u0_7 u0_8 u0_9 y1_allowed) → va_S A s.heap H locs → lv_has ls 3 [] → W p l e (RM 1 24) s m args below meth c H locs 0 0 Q (F0 m 30 ls []) := by
    intro u H locs ls hf hP hD hS hl
    have hf := (ej30 u).symm.trans hf
    refine lv_iconst (pc := 30) hexec hb dX0_isAllowed_30 ki_0 ?_
    cases hf
    exact ke_z hQ hexec hb hr (.inl rfl) hP hD hS dX0_isAllowed_31 hlocks
  refine ki_ge (pc := 7) hexec hb dX0_isAllowed_7 (tgt := 30) rfl hf (fun hc hf => ?_) (fun hc hf => ?_)
  · exact hj30 _ _ _ _ hf hP hD hS (lv_sub hl [] rfl)
  · refine lv_aload_n (pc := 10) hexec hb dX0_isAllowed_10 rfl (lv_at hl 1 rfl) ?_
    refine kg_get (pc := 11) hexec hb (own := RX0) hWX0 hown hG hP 0 rfl rfl 4 (nle rfl) (hts _ (List.mem_cons_of_mem _ (List.mem_append_left _ (List.mem_of_getElem? (i := 0) rfl)))) rfl rfl dX0_isAllowed_11 ?_
    refine lv_iload_n (pc := 14) hexec hb dX0_isAllowed_14 rfl (lv_at hl 0 rfl) ?_
    refine kr_iald (pc := 15) hexec hb hG hP 1 rfl hf dX0_isAllowed_15 (fun hf => ?_)
    refine lv_iload_n (pc := 16) hexec hb dX0_isAllowed_16 rfl (lv_at hl 2 rfl) ?_
    refine lv_iconst (pc := 17) hexec hb dX0_isAllowed_17 ki_4 ?_
    refine lv_irem (pc := 18) hexec hb dX0_isAllowed_18 (by decide) ?_
    refine lv_ishr (pc := 19) hexec hb dX0_isAllowed_19 ?_
    refine lv_iconst (pc := 20) hexec hb dX0_isAllowed_20 ki_1 ?_
    refine lv_iand (pc := 21) hexec hb dX0_isAllowed_21 ?_
    refine lv_iconst (pc := 22) hexec hb dX0_isAllowed_22 ki_1 ?_
    refine ki_ne (pc := 23) hexec hb dX0_isAllowed_23 (tgt := 30) rfl hf (fun hc hf => ?_) (fun hc hf => ?_)
    · exact hj30 _ _ _ _ hf hP hD hS (lv_sub hl [] rfl)
    · refine lv_iconst (pc := 26) hexec hb dX0_isAllowed_26 ki_1 ?_
      refine lv_goto (pc := 27) hexec hb dX0_isAllowed_27 (tgt := 31) rfl ?_
      cases hf
      exact ke_z hQ hexec hb hr (.inr rfl) hP hD hS dX0_isAllowed_31 hlocks
abbrev w_X0_standAgainst (g : GE) (a0 a1 a2 a3 a4 a5 a6 : Nat) (u0_1 u0_2 u0_3 u0_4 u0_5 u0_6 u0_7 u0_8 u0_9 u1_2 u1_3 u1_4 u2_2 u2_3 u2_4 u2_5 u3_1 u3_3 : Value) (x0_reds : Int32) (x2_rows : Int32) (x2_columns : Int32) (x3_count : Int32) (y4_home : Nat → Int32) (y5_length : Nat → Int32) (y6_letters : Nat → Int32) : va_W := [(a0, .inr (0, [.int x0_reds, u0_1, u0_2, u0_3, u0_4, u0_5, u0_6, u0_7, u0_8, u0_9])), (a1, .inr (6, [.ref a2, .ref a3, u1_2, u1_3, u1_4])), (a2, .inr (1, [.int x2_rows, .int x2_columns, u2_2, u2_3, u2_4, u2_5])), (a3, .inr (2, [.int x3_count, u3_1, .ref a4, u3_3, .ref a5, .ref a6])), (a4, .inl (g.2.1 0, 8, .inl y4_home)), (a5, .inl (g.2.1 0, 8, .inl y5_length)), (a6, .inl (g.2.1 0, 64, .inl y6_letters))]
set_option maxRecDepth 20000 in
theorem c_X0_standAgainst (l : Launch) (g : GE) (a0 a1 a2 a3 a4 a5 a6 : Nat) (sz : Nat) (u0_1 u0_2 u0_3 u0_4 u0_5 u0_6 u0_7 u0_8 u0_9 u1_2 u1_3 u1_4 u2_2 u2_3 u2_4 u2_5 u3_1 u3_3 : Value) (x0_reds : Int32) (x2_rows : Int32) (x2_columns : Int32) (x3_count : Int32) (y4_home : Nat → Int32) (y5_length : Nat → Int32) (y6_letters : Nat → Int32) (p2 : Int32) (p3 : Int32)  (r : Int32) (hf : f_X0_standAgainst x0_reds x2_rows x2_columns x3_count y4_home y5_length y6_letters p2 p3 = some r) : MI l g yX0_standAgainst wsX0_standAgainst 3 68 [.ref a0, .ref a1, .int p2, .int p3] (w_X0_standAgainst g a0 a1 a2 a3 a4 a5 a6 u0_1 u0_2 u0_3 u0_4 u0_5 u0_6 u0_7 u0_8 u0_9 u1_2 u1_3 u1_4 u2_2 u2_3 u2_4 u2_5 u3_1 u3_3 x0_reds x2_rows x2_columns x3_count y4_home y5_length y6_letters) sz (some (.int r)) (w_X0_standAgainst g a0 a1 a2 a3 a4 a5 a6 u0_1 u0_2 u0_3 u0_4 u0_5 u0_6 u0_7 u0_8 u0_9 u1_2 u1_3 u1_4 u2_2 u2_3 u2_4 u2_5 u3_1 u3_3 x0_reds x2_rows x2_columns x3_count y4_home y5_length y6_letters) := by
  refine MI.start (cc := cX0_standAgainst) (maxL := 13) (ret := (some .boolean)) rfl rfl (nle rfl) ?_
  intro p e s m args below meth c A ls Q hQ hexec hb hr hts hown hlocks hml hA hP hD hG hS hl
  unfold f_X0_standAgainst at hf
  have hWX0 : ∀ w ∈ wsX00, w.before args s = true := fun w h => hts w (List.mem_cons_of_mem _ (List.mem_append_left _ (List.mem_append_left _ (List.mem_append_left _ (List.mem_append_right _ h)))))
  have hWX1 : ∀ w ∈ wsX10, w.before args s = true := fun w h => hts w (List.mem_cons_of_mem _ (List.mem_append_right _ h))
  have hWX2 : ∀ w ∈ wsX20, w.before args s = true := fun w h => hts w (List.mem_cons_of_mem _ (List.mem_append_left _ (List.mem_append_right _ h)))
  have hWX6 : ∀ w ∈ wsX60, w.before args s = true := fun w h => hts w (List.mem_cons_of_mem _ (List.mem_append_left _ (List.mem_append_left _ (List.mem_append_right _ h))))
  have hS : va_S A s.heap s.heap [] := hS
  refine lv_iload_n (pc := 0) hexec hb dX0_standAgainst_0 rfl (lv_at hl 2 rfl) ?_
  refine lv_iconst (pc := 1) hexec hb dX0_standAgainst_1 ki_4 ?_
  refine lv_idiv (pc := 2) hexec hb dX0_standAgainst_2 (by decide) ?_
  obtain ⟨v4, ev4, hf⟩ := bv_e hf
  refine kn_i ev4 ?_
  refine lv_istore (pc := 3) hexec hb dX0_standAgainst_3 hl (nle rfl) rfl (fun ls (hl : lv_has ls 13 [(4, .int v4), (0, .ref a0), (1, .ref a1), (2, .int p2), (3, .int p3)]) => ?_)
  refine lv_iload_n (pc := 5) hexec hb dX0_standAgainst_5 rfl (lv_at hl 4 rfl) ?_
  refine lv_iconst (pc := 6) hexec hb dX0_standAgainst_6 ki_4 ?_
  refine lv_idiv (pc := 7) hexec hb dX0_standAgainst_7 (by decide) ?_
  obtain ⟨v5, ev5, hf⟩ := bv_e hf
  refine kn_i ev5 ?_
  refine lv_istore (pc := 8) hexec hb dX0_standAgainst_8 hl (nle rfl) rfl (fun ls (hl : lv_has ls 13 [(5, .int v5), (4, .int v4), (0, .ref a0), (1, .ref a1), (2, .int p2), (3, .int p3)]) => ?_)
  refine lv_iconst (pc := 10) hexec hb dX0_standAgainst_10 ki_1 ?_
  refine lv_iload (pc := 11) hexec hb dX0_standAgainst_11 (lv_at hl 1 rfl) ?_
  refine lv_ishl (pc := 13) hexec hb dX0_standAgainst_13 ?_
  refine lv_iconst (pc := 14) hexec hb dX0_standAgainst_14 ki_1 ?_
  refine lv_iload (pc := 15) hexec hb dX0_standAgainst_15 (lv_at hl 0 rfl) ?_
  refine lv_ishl (pc := 17) hexec hb dX0_standAgainst_17 ?_
  refine lv_ior (pc := 18) hexec hb dX0_standAgainst_18 ?_
  refine lv_aload_n (pc := 19) hexec hb dX0_standAgainst_19 rfl (lv_at hl 2 rfl) ?_
  refine kg_get (pc := 20) hexec hb (own := RX0) hWX0 hown hG hP 0 rfl rfl 0 (nle rfl) (hts _ (List.mem_cons_of_mem _ (List.mem_append_left _ (List.mem_append_left _ (List.mem_append_left _ (List.mem_append_left _ (List.mem_append_left _ (List.mem_of_getElem? (i := 0) rfl)))))))) rfl rfl dX0_standAgainst_20 ?_
  refine lv_iand (pc := 23) hexec hb dX0_standAgainst_23 ?_
  obtain ⟨j32, ej32, hf⟩ := bvf1 hf
  have hj32 : ∀ (t32 : Int32) (H : Heap) (locs : List Loc) (ls : Array Slot), j32 t32 = some r → va_P g.1 vwCl (w_X0_standAgainst g a0 a1 a2 a3 a4 a5 a6 u0_1 u0_2 u0_3 u0_4 u0_5 u0_6 u0_7 u0_8 u0_9 u1_2 u1_3 u1_4 u2_2 u2_3 u2_4 u2_5 u3_1 u3_3 x0_reds x2_rows x2_columns x3_count y4_home y5_length y6_letters) H → va_D A (w_X0_standAgainst g a0 a1 a2 a3 a4 a5 a6 u0_1 u0_2 u0_3 u0_4 u0_5 u0_6 u0_7 u0_8 u0_9 u1_2 u1_3 u1_4 u2_2 u2_3 u2_4 u2_5 u3_1 u3_3 x0_reds x2_rows x2_columns x3_count y4_home y5_length y6_letters) → va_S A s.heap H locs → lv_has ls 13 [(1, .ref a1), (2, .int p2), (3, .int p3), (4, .int v4), (5, .int v5)] → W p l e (RM 3 68) s m args below meth c H locs 0 0 Q (F0 m 32 ls [.int t32]) := by
    intro t32 H locs ls hf hP hD hS hl
    have hf := (ej32 t32).symm.trans hf
    refine lv_istore (pc := 32) hexec hb dX0_standAgainst_32 hl (nle rfl) rfl (fun ls (hl : lv_has ls 13 [(6, .int t32), (1, .ref a1), (2, .int p2), (3, .int p3), (4, .int v4), (5, .int v5)]) => ?_)
    refine lv_aload_n (pc := 34) hexec hb dX0_standAgainst_34 rfl (lv_at hl 1 rfl) ?_
    refine kg_getN (pc := 35) hexec hb (own := RX0) hWX6 hown hG hP 1 rfl rfl 1 (nle rfl) 25 rfl rfl rfl dX0_standAgainst_35 ?_
    refine lv_iload (pc := 38) hexec hb dX0_standAgainst_38 (lv_at hl 4 rfl) ?_
    obtain ⟨r40, hc, hf⟩ := bd1_e hf
    refine kVp (pc := 40) (S := ⟨hexec, hb, hml, hown, hts⟩) hP hD hG hA hS [3, 4] [0, 1, 2, 5, 6] [0, 1, 2, 5, 6, 3, 4] (w2 := (w_X0_standAgainst g a0 a1 a2 a3 a4 a5 a6 u0_1 u0_2 u0_3 u0_4 u0_5 u0_6 u0_7 u0_8 u0_9 u1_2 u1_3 u1_4 u2_2 u2_3 u2_4 u2_5 u3_1 u3_3 x0_reds x2_rows x2_columns x3_count y4_home y5_length y6_letters)) rfl rfl rfl rfl rfl rfl (by decide) (c_X2_homeOf l g a3 a4 _ u3_1 u3_3 (.ref a5) (.ref a6) x3_count y4_home v4 r40 hc) gX0_standAgainst_X2_homeOf rfl hv_X2_homeOf ⟨nle rfl, nle rfl⟩ 2 0 rfl rfl rfl (rest := []) rfl rfl hl.1 (nle rfl) dX0_standAgainst_40 (fun H locs hP hD hS => ?_)
    refine lv_istore (pc := 43) hexec hb dX0_standAgainst_43 hl (nle rfl) rfl (fun ls (hl : lv_has ls 13 [(7, .int r40), (6, .int t32), (1, .ref a1), (2, .int p2), (3, .int p3), (4, .int v4), (5, .int v5)]) => ?_)
    refine lv_aload_n (pc := 45) hexec hb dX0_standAgainst_45 rfl (lv_at hl 2 rfl) ?_
    refine kg_getN (pc := 46) hexec hb (own := RX0) hWX6 hown hG hP 1 rfl rfl 1 (nle rfl) 25 rfl rfl rfl dX0_standAgainst_46 ?_
    refine lv_iload (pc := 49) hexec hb dX0_standAgainst_49 (lv_at hl 6 rfl) ?_
    obtain ⟨r51, hc, hf⟩ := bd1_e hf
    refine kVp (pc := 51) (S := ⟨hexec, hb, hml, hown, hts⟩) hP hD hG hA hS [3, 4] [0, 1, 2, 5, 6] [0, 1, 2, 5, 6, 3, 4] (w2 := (w_X0_standAgainst g a0 a1 a2 a3 a4 a5 a6 u0_1 u0_2 u0_3 u0_4 u0_5 u0_6 u0_7 u0_8 u0_9 u1_2 u1_3 u1_4 u2_2 u2_3 u2_4 u2_5 u3_1 u3_3 x0_reds x2_rows x2_columns x3_count y4_home y5_length y6_letters)) rfl rfl rfl rfl rfl rfl (by decide) (c_X2_homeOf l g a3 a4 _ u3_1 u3_3 (.ref a5) (.ref a6) x3_count y4_home v5 r51 hc) gX0_standAgainst_X2_homeOf rfl hv_X2_homeOf ⟨nle rfl, nle rfl⟩ 2 0 rfl rfl rfl (rest := []) rfl rfl hl.1 (nle rfl) dX0_standAgainst_51 (fun H locs hP hD hS => ?_)
    refine lv_istore (pc := 54) hexec hb dX0_standAgainst_54 hl (nle rfl) rfl (fun ls (hl : lv_has ls 13 [(8, .int r51), (7, .int r40), (6, .int t32), (1, .ref a1), (2, .int p2), (3, .int p3), (4, .int v4), (5, .int v5)]) => ?_)
    refine lv_iconst (pc := 56) hexec hb dX0_standAgainst_56 ki_0 ?_
    refine lv_istore (pc := 57) hexec hb dX0_standAgainst_57 hl (nle rfl) rfl (fun ls (hl : lv_has ls 13 [(9, .int 0), (8, .int r51), (7, .int r40), (6, .int t32), (1, .ref a1), (2, .int p2), (3, .int p3), (4, .int v4), (5, .int v5)]) => ?_)
    obtain ⟨l59, el59, hf⟩ := bvf1 hf
    obtain ⟨n, hz⟩ := lq1_e hf
    have hL59 : ∀ (n : Nat) (v9 : Int32) (H : Heap) (locs : List Loc) (ls : Array Slot), it1 l59 n v9 = some r → va_P g.1 vwCl (w_X0_standAgainst g a0 a1 a2 a3 a4 a5 a6 u0_1 u0_2 u0_3 u0_4 u0_5 u0_6 u0_7 u0_8 u0_9 u1_2 u1_3 u1_4 u2_2 u2_3 u2_4 u2_5 u3_1 u3_3 x0_reds x2_rows x2_columns x3_count y4_home y5_length y6_letters) H → va_D A (w_X0_standAgainst g a0 a1 a2 a3 a4 a5 a6 u0_1 u0_2 u0_3 u0_4 u0_5 u0_6 u0_7 u0_8 u0_9 u1_2 u1_3 u1_4 u2_2 u2_3 u2_4 u2_5 u3_1 u3_3 x0_reds x2_rows x2_columns x3_count y4_home y5_length y6_letters) → va_S A s.heap H locs → lv_has ls 13 [(1, .ref a1), (2, .int p2), (3, .int p3), (4, .int v4), (5, .int v5), (6, .int t32), (7, .int r40), (8, .int r51), (9, .int v9)] → W p l e (RM 3 68) s m args below meth c H locs 0 0 Q (F0 m 59 ls []) := by
      intro n
      induction n with
      | zero =>
        intro v9 H locs ls hf hP hD hS hl
        exact it1_0 hf
      | succ n59 ih59 =>
        intro v9 H locs ls hf hP hD hS hl
        obtain ⟨q59, hf, hk59⟩ := it1_e hf
        have hf := (el59 v9).symm.trans hf
        refine lv_iload (pc := 59) hexec hb dX0_standAgainst_59 (lv_at hl 8 rfl) ?_
        refine lv_aload_n (pc := 61) hexec hb dX0_standAgainst_61 rfl (lv_at hl 0 rfl) ?_
        refine kg_getN (pc := 62) hexec hb (own := RX0) hWX6 hown hG hP 1 rfl rfl 1 (nle rfl) 25 rfl rfl rfl dX0_standAgainst_62 ?_
        refine lv_iload (pc := 65) hexec hb dX0_standAgainst_65 (lv_at hl 3 rfl) ?_
        obtain ⟨r67, hc, hf⟩ := bd1_e hf
        refine kVp (pc := 67) (S := ⟨hexec, hb, hml, hown, hts⟩) hP hD hG hA hS [3, 5] [0, 1, 2, 4, 6] [0, 1, 2, 5, 3, 6, 4] (w2 := (w_X0_standAgainst g a0 a1 a2 a3 a4 a5 a6 u0_1 u0_2 u0_3 u0_4 u0_5 u0_6 u0_7 u0_8 u0_9 u1_2 u1_3 u1_4 u2_2 u2_3 u2_4 u2_5 u3_1 u3_3 x0_reds x2_rows x2_columns x3_count y4_home y5_length y6_letters)) rfl rfl rfl rfl rfl rfl (by decide) (c_X2_lengthOf l g a3 a5 _ u3_1 (.ref a4) u3_3 (.ref a6) x3_count y5_length v4 r67 hc) gX0_standAgainst_X2_lengthOf rfl hv_X2_lengthOf ⟨nle rfl, nle rfl⟩ 2 0 rfl rfl rfl (rest := [.int v9]) rfl rfl hl.1 (nle rfl) dX0_standAgainst_67 (fun H locs hP hD hS => ?_)
        refine ki_ge (pc := 70) hexec hb dX0_standAgainst_70 (tgt := 157) rfl hf (fun hc hf => ?_) (fun hc hf => ?_)
        · have hf := mk1 hf hk59
          refine lv_iconst (pc := 157) hexec hb dX0_standAgainst_157 ki_0 ?_
          cases hf
          exact ke_z hQ hexec hb hr (.inl rfl) hP hD hS dX0_standAgainst_158 hlocks
        · refine lv_aload_n (pc := 73) hexec hb dX0_standAgainst_73 rfl (lv_at hl 0 rfl) ?_
          refine kg_getN (pc := 74) hexec hb (own := RX0) hWX6 hown hG hP 1 rfl rfl 0 (nle rfl) 22 rfl rfl rfl dX0_standAgainst_74 ?_
          refine lv_iload (pc := 77) hexec hb dX0_standAgainst_77 (lv_at hl 6 rfl) ?_
          refine lv_iload_n (pc := 79) hexec hb dX0_standAgainst_79 rfl (lv_at hl 1 rfl) ?_
          refine lv_iconst (pc := 80) hexec hb dX0_standAgainst_80 ki_4 ?_
          refine lv_irem (pc := 81) hexec hb dX0_standAgainst_81 (by decide) ?_
          refine lv_iload (pc := 82) hexec hb dX0_standAgainst_82 (lv_at hl 8 rfl) ?_
          refine lv_iconst (pc := 84) hexec hb dX0_standAgainst_84 ki_1 ?_
          refine lv_iadd (pc := 85) hexec hb dX0_standAgainst_85 ?_
          obtain ⟨r86, hc, hf⟩ := bd1_e hf
          refine kVp (pc := 86) (S := ⟨hexec, hb, hml, hown, hts⟩) hP hD hG hA hS [2] [0, 1, 3, 4, 5, 6] [0, 1, 6, 2, 3, 4, 5] (w2 := (w_X0_standAgainst g a0 a1 a2 a3 a4 a5 a6 u0_1 u0_2 u0_3 u0_4 u0_5 u0_6 u0_7 u0_8 u0_9 u1_2 u1_3 u1_4 u2_2 u2_3 u2_4 u2_5 u3_1 u3_3 x0_reds x2_rows x2_columns x3_count y4_home y5_length y6_letters)) rfl rfl rfl rfl rfl rfl (by decide) (c_X1_ahead l g a2 _ u2_2 u2_3 u2_4 u2_5 x2_rows x2_columns r40 (p2 - p2 / 4 * 4) (v9 + 1) r86 hc) gX0_standAgainst_X1_ahead rfl hv_X1_ahead ⟨nle rfl, nle rfl⟩ 1 0 rfl rfl rfl (rest := []) rfl rfl hl.1 (nle rfl) dX0_standAgainst_86 (fun H locs hP hD hS => ?_)
          refine lv_istore (pc := 89) hexec hb dX0_standAgainst_89 hl (nle rfl) rfl (fun ls (hl : lv_has ls 13 [(10, .int r86), (1, .ref a1), (2, .int p2), (3, .int p3), (4, .int v4), (5, .int v5), (6, .int t32), (7, .int r40), (8, .int r51), (9, .int v9)]) => ?_)
          refine lv_aload_n (pc := 91) hexec hb dX0_standAgainst_91 rfl (lv_at hl 1 rfl) ?_
          refine kg_getN (pc := 92) hexec hb (own := RX0) hWX6 hown hG hP 1 rfl rfl 0 (nle rfl) 22 rfl rfl rfl dX0_standAgainst_92 ?_
          refine lv_iload (pc := 95) hexec hb dX0_standAgainst_95 (lv_at hl 8 rfl) ?_
          refine lv_iload_n (pc := 97) hexec hb dX0_standAgainst_97 rfl (lv_at hl 3 rfl) ?_
          refine lv_iconst (pc := 98) hexec hb dX0_standAgainst_98 ki_4 ?_
          refine lv_irem (pc := 99) hexec hb dX0_standAgainst_99 (by decide) ?_
          refine lv_iload (pc := 100) hexec hb dX0_standAgainst_100 (lv_at hl 0 rfl) ?_
          obtain ⟨r102, hc, hf⟩ := bd1_e hf
          refine kVp (pc := 102) (S := ⟨hexec, hb, hml, hown, hts⟩) hP hD hG hA hS [2] [0, 1, 3, 4, 5, 6] [0, 1, 6, 2, 3, 4, 5] (w2 := (w_X0_standAgainst g a0 a1 a2 a3 a4 a5 a6 u0_1 u0_2 u0_3 u0_4 u0_5 u0_6 u0_7 u0_8 u0_9 u1_2 u1_3 u1_4 u2_2 u2_3 u2_4 u2_5 u3_1 u3_3 x0_reds x2_rows x2_columns x3_count y4_home y5_length y6_letters)) rfl rfl rfl rfl rfl rfl (by decide) (c_X1_stepsTo l g a2 _ (.int x2_rows) u2_2 u2_3 u2_4 u2_5 x2_columns r51 (p3 - p3 / 4 * 4) r86 r102 hc) gX0_standAgainst_X1_stepsTo rfl hv_X1_stepsTo ⟨nle rfl, nle rfl⟩ 1 0 rfl rfl rfl (rest := []) rfl rfl hl.1 (nle rfl) dX0_standAgainst_102 (fun H locs hP hD hS => ?_)
          refine lv_istore (pc := 105) hexec hb dX0_standAgainst_105 hl (nle rfl) rfl (fun ls (hl : lv_has ls 13 [(11, .int r102), (10, .int r86), (1, .ref a1), (2, .int p2), (3, .int p3), (4, .int v4), (5, .int v5), (6, .int t32), (7, .int r40), (8, .int r51), (9, .int v9)]) => ?_)
          refine lv_aload_n (pc := 107) hexec hb dX0_standAgainst_107 rfl (lv_at hl 2 rfl) ?_
          refine kg_getN (pc := 108) hexec hb (own := RX0) hWX6 hown hG hP 1 rfl rfl 1 (nle rfl) 25 rfl rfl rfl dX0_standAgainst_108 ?_
          refine lv_iload (pc := 111) hexec hb dX0_standAgainst_111 (lv_at hl 6 rfl) ?_
          refine lv_iload (pc := 113) hexec hb dX0_standAgainst_113 (lv_at hl 0 rfl) ?_
          refine lv_iconst (pc := 115) hexec hb dX0_standAgainst_115 ki_1 ?_
          refine lv_isub (pc := 116) hexec hb dX0_standAgainst_116 ?_
          obtain ⟨r117, hc, hf⟩ := bd1_e hf
          refine kVp (pc := 117) (S := ⟨hexec, hb, hml, hown, hts⟩) hP hD hG hA hS [3, 5, 6] [0, 1, 2, 4] [0, 1, 2, 4, 3, 5, 6] (w2 := (w_X0_standAgainst g a0 a1 a2 a3 a4 a5 a6 u0_1 u0_2 u0_3 u0_4 u0_5 u0_6 u0_7 u0_8 u0_9 u1_2 u1_3 u1_4 u2_2 u2_3 u2_4 u2_5 u3_1 u3_3 x0_reds x2_rows x2_columns x3_count y4_home y5_length y6_letters)) rfl rfl rfl rfl rfl rfl (by decide) (c_X2_letterOf l g a3 a5 a6 _ u3_1 (.ref a4) u3_3 x3_count y5_length y6_letters v5 (r102 - 1) r117 hc) gX0_standAgainst_X2_letterOf rfl hv_X2_letterOf ⟨nle rfl, nle rfl⟩ 2 0 rfl rfl rfl (rest := []) rfl rfl hl.1 (nle rfl) dX0_standAgainst_117 (fun H locs hP hD hS => ?_)
          refine lv_istore (pc := 120) hexec hb dX0_standAgainst_120 hl (nle rfl) rfl (fun ls (hl : lv_has ls 13 [(12, .int r117), (11, .int r102), (10, .int r86), (1, .ref a1), (2, .int p2), (3, .int p3), (4, .int v4), (5, .int v5), (6, .int t32), (7, .int r40), (8, .int r51), (9, .int v9)]) => ?_)
          refine lv_iload (pc := 122) hexec hb dX0_standAgainst_122 (lv_at hl 0 rfl) ?_
          refine lv_iconst (pc := 124) hexec hb dX0_standAgainst_124 ki_m1 ?_
          obtain ⟨j151, ej151, hf⟩ := bvf1 hf
          have hj151 : ∀ (u : Unit) (H : Heap) (locs : List Loc) (ls : Array Slot), j151 u = some q59 → va_P g.1 vwCl (w_X0_standAgainst g a0 a1 a2 a3 a4 a5 a6 u0_1 u0_2 u0_3 u0_4 u0_5 u0_6 u0_7 u0_8 u0_9 u1_2 u1_3 u1_4 u2_2 u2_3 u2_4 u2_5 u3_1 u3_3 x0_reds x2_rows x2_columns x3_count y4_home y5_length y6_letters) H → va_D A (w_X0_standAgainst g a0 a1 a2 a3 a4 a5 a6 u0_1 u0_2 u0_3 u0_4 u0_5 u0_6 u0_7 u0_8 u0_9 u1_2 u1_3 u1_4 u2_2 u2_3 u2_4 u2_5 u3_1 u3_3 x0_reds x2_rows x2_columns x3_count y4_home y5_length y6_letters) → va_S A s.heap H locs → lv_has ls 13 [(1, .ref a1), (2, .int p2), (3, .int p3), (4, .int v4), (5, .int v5), (6, .int t32), (7, .int r40), (8, .int r51), (9, .int v9)] → W p l e (RM 3 68) s m args below meth c H locs 0 0 Q (F0 m 151 ls []) := by
            intro u H locs ls hf hP hD hS hl
            have hf := (ej151 u).symm.trans hf
            obtain ⟨v9_1, ev9_1, hf⟩ := bv_e hf
            refine k_iinc (pc := 151) hexec hb dX0_standAgainst_151 kq_1 hl (k := 8) rfl ev9_1 (nle rfl) rfl (fun ls (hl : lv_has ls 13 [(9, .int v9_1), (1, .ref a1), (2, .int p2), (3, .int p3), (4, .int v4), (5, .int v5), (6, .int t32), (7, .int r40), (8, .int r51)]) => ?_)
            refine lv_goto (pc := 154) hexec hb dX0_standAgainst_154 (tgt := 59) rfl ?_
            exact ih59 _ _ _ _ (sl1 hf hk59) hP hD hS (lv_sub hl [1, 2, 3, 4, 5, 6, 7, 8, 0] rfl)
          refine ki_eq (pc := 125) hexec hb dX0_standAgainst_125 (tgt := 151) rfl hf (fun hc hf => ?_) (fun hc hf => ?_)
          · exact hj151 _ _ _ _ hf hP hD hS (lv_sub hl [3, 4, 5, 6, 7, 8, 9, 10, 11] rfl)
          · refine lv_iload (pc := 128) hexec hb dX0_standAgainst_128 (lv_at hl 8 rfl) ?_
            refine kb_ne (pc := 130) hexec hb dX0_standAgainst_130 (tgt := 149) rfl hf (fun hc hf => ?_) (fun hc hf => ?_)
            · have hf := mk1 hf hk59
              refine lv_iconst (pc := 149) hexec hb dX0_standAgainst_149 ki_1 ?_
              cases hf
              exact ke_z hQ hexec hb hr (.inr rfl) hP hD hS dX0_standAgainst_150 hlocks
            · refine lv_iload (pc := 133) hexec hb dX0_standAgainst_133 (lv_at hl 0 rfl) ?_
              refine lv_aload_n (pc := 135) hexec hb dX0_standAgainst_135 rfl (lv_at hl 3 rfl) ?_
              refine kg_getN (pc := 136) hexec hb (own := RX0) hWX6 hown hG hP 1 rfl rfl 1 (nle rfl) 25 rfl rfl rfl dX0_standAgainst_136 ?_
              refine lv_iload (pc := 139) hexec hb dX0_standAgainst_139 (lv_at hl 6 rfl) ?_
              refine lv_iload (pc := 141) hexec hb dX0_standAgainst_141 (lv_at hl 11 rfl) ?_
              obtain ⟨r143, hc, hf⟩ := bd1_e hf
              refine kVp (pc := 143) (S := ⟨hexec, hb, hml, hown, hts⟩) hP hD hG hA hS [3, 5, 6] [0, 1, 2, 4] [0, 1, 2, 4, 3, 5, 6] (w2 := (w_X0_standAgainst g a0 a1 a2 a3 a4 a5 a6 u0_1 u0_2 u0_3 u0_4 u0_5 u0_6 u0_7 u0_8 u0_9 u1_2 u1_3 u1_4 u2_2 u2_3 u2_4 u2_5 u3_1 u3_3 x0_reds x2_rows x2_columns x3_count y4_home y5_length y6_letters)) rfl rfl rfl rfl rfl rfl (by decide) (c_X2_letterOf l g a3 a5 a6 _ u3_1 (.ref a4) u3_3 x3_count y5_length y6_letters v4 v9 r143 hc) gX0_standAgainst_X2_letterOf rfl hv_X2_letterOf ⟨nle rfl, nle rfl⟩ 2 0 rfl rfl rfl (rest := [.int r117]) rfl rfl hl.1 (nle rfl) dX0_standAgainst_143 (fun H locs hP hD hS => ?_)
              refine ki_eq (pc := 146) hexec hb dX0_standAgainst_146 (tgt := 151) rfl hf (fun hc hf => ?_) (fun hc hf => ?_)
              · exact hj151 _ _ _ _ hf hP hD hS (lv_sub hl [3, 4, 5, 6, 7, 8, 9, 10, 11] rfl)
              · have hf := mk1 hf hk59
                refine lv_iconst (pc := 149) hexec hb dX0_standAgainst_149 ki_1 ?_
                cases hf
                exact ke_z hQ hexec hb hr (.inr rfl) hP hD hS dX0_standAgainst_150 hlocks
    exact hL59 n _ _ _ _ hz hP hD hS (lv_sub hl [4, 5, 6, 7, 8, 3, 2, 1, 0] rfl)
  refine kb_eq (pc := 24) hexec hb dX0_standAgainst_24 (tgt := 31) rfl hf (fun hc hf => ?_) (fun hc hf => ?_)
  · refine lv_iconst (pc := 31) hexec hb dX0_standAgainst_31 ki_0 ?_
    exact hj32 _ _ _ _ hf hP hD hS (lv_sub hl [3, 4, 5, 1, 0] rfl)
  · refine lv_iconst (pc := 27) hexec hb dX0_standAgainst_27 ki_1 ?_
    refine lv_goto (pc := 28) hexec hb dX0_standAgainst_28 (tgt := 32) rfl ?_
    exact hj32 _ _ _ _ hf hP hD hS (lv_sub hl [3, 4, 5, 1, 0] rfl)
abbrev w_X0_foesOf (g : GE) (a0 a1 a2 a3 a4 a5 a6 a7 a8 : Nat) (u0_1 u0_2 u0_3 u0_6 u0_7 u0_8 u0_9 u3_2 u3_3 u3_4 u4_2 u4_3 u4_4 u4_5 u5_1 u5_3 : Value) (x0_reds : Int32) (y1_allowed : Nat → Int32) (y2_foes : Nat → Int32) (x4_rows : Int32) (x4_columns : Int32) (x5_count : Int32) (y6_home : Nat → Int32) (y7_length : Nat → Int32) (y8_letters : Nat → Int32) : va_W := [(a0, .inr (0, [.int x0_reds, u0_1, u0_2, u0_3, .ref a1, .ref a2, u0_6, u0_7, u0_8, u0_9])), (a1, .inl (g.2.1 0, 8, .inl y1_allowed)), (a2, .inl (g.2.1 0, 32, .inl y2_foes)), (a3, .inr (6, [.ref a4, .ref a5, u3_2, u3_3, u3_4])), (a4, .inr (1, [.int x4_rows, .int x4_columns, u4_2, u4_3, u4_4, u4_5])), (a5, .inr (2, [.int x5_count, u5_1, .ref a6, u5_3, .ref a7, .ref a8])), (a6, .inl (g.2.1 0, 8, .inl y6_home)), (a7, .inl (g.2.1 0, 8, .inl y7_length)), (a8, .inl (g.2.1 0, 64, .inl y8_letters))]
set_option maxRecDepth 20000 in
theorem c_X0_foesOf (l : Launch) (g : GE) (a0 a1 a2 a3 a4 a5 a6 a7 a8 : Nat) (sz : Nat) (u0_1 u0_2 u0_3 u0_6 u0_7 u0_8 u0_9 u3_2 u3_3 u3_4 u4_2 u4_3 u4_4 u4_5 u5_1 u5_3 : Value) (x0_reds : Int32) (y1_allowed : Nat → Int32) (y2_foes : Nat → Int32) (x4_rows : Int32) (x4_columns : Int32) (x5_count : Int32) (y6_home : Nat → Int32) (y7_length : Nat → Int32) (y8_letters : Nat → Int32) (p2 : Int32)  (r : Int32) (hf : f_X0_foesOf x0_reds y1_allowed y2_foes x4_rows x4_columns x5_count y6_home y7_length y8_letters p2 = some r) : MI l g yX0_foesOf wsX0_foesOf 4 100 [.ref a0, .ref a3, .int p2] (w_X0_foesOf g a0 a1 a2 a3 a4 a5 a6 a7 a8 u0_1 u0_2 u0_3 u0_6 u0_7 u0_8 u0_9 u3_2 u3_3 u3_4 u4_2 u4_3 u4_4 u4_5 u5_1 u5_3 x0_reds y1_allowed y2_foes x4_rows x4_columns x5_count y6_home y7_length y8_letters) sz (some (.int r)) (w_X0_foesOf g a0 a1 a2 a3 a4 a5 a6 a7 a8 u0_1 u0_2 u0_3 u0_6 u0_7 u0_8 u0_9 u3_2 u3_3 u3_4 u4_2 u4_3 u4_4 u4_5 u5_1 u5_3 x0_reds y1_allowed y2_foes x4_rows x4_columns x5_count y6_home y7_length y8_letters) := by
  refine MI.start (cc := cX0_foesOf) (maxL := 6) (ret := (some .int)) rfl rfl (nle rfl) ?_
  intro p e s m args below meth c A ls Q hQ hexec hb hr hts hown hlocks hml hA hP hD hG hS hl
  unfold f_X0_foesOf at hf
  have hWX0 : ∀ w ∈ wsX00, w.before args s = true := fun w h => hts w (List.mem_cons_of_mem _ (List.mem_append_left _ (List.mem_append_left _ (List.mem_append_left _ (List.mem_append_right _ h)))))
  have hWX1 : ∀ w ∈ wsX10, w.before args s = true := fun w h => hts w (List.mem_cons_of_mem _ (List.mem_append_right _ h))
  have hWX2 : ∀ w ∈ wsX20, w.before args s = true := fun w h => hts w (List.mem_cons_of_mem _ (List.mem_append_left _ (List.mem_append_right _ h)))
  have hWX6 : ∀ w ∈ wsX60, w.before args s = true := fun w h => hts w (List.mem_cons_of_mem _ (List.mem_append_left _ (List.mem_append_left _ (List.mem_append_right _ h))))
  have hS : va_S A s.heap s.heap [] := hS
  refine lv_iconst (pc := 0) hexec hb dX0_foesOf_0 ki_0 ?_
  refine lv_istore_n (pc := 1) hexec hb dX0_foesOf_1 rfl hl (nle rfl) rfl (fun ls (hl : lv_has ls 6 [(3, .int 0), (0, .ref a0), (1, .ref a3), (2, .int p2)]) => ?_)
  refine lv_iconst (pc := 2) hexec hb dX0_foesOf_2 ki_0 ?_
  refine lv_istore (pc := 3) hexec hb dX0_foesOf_3 hl (nle rfl) rfl (fun ls (hl : lv_has ls 6 [(4, .int 0), (3, .int 0), (0, .ref a0), (1, .ref a3), (2, .int p2)]) => ?_)
  obtain ⟨l5, el5, hf⟩ := bvf2 hf
  obtain ⟨v3_1, hz, hf⟩ := bd1_e hf
  have hE5 : ∀ (H : Heap) (locs : List Loc) (ls : Array Slot), va_P g.1 vwCl (w_X0_foesOf g a0 a1 a2 a3 a4 a5 a6 a7 a8 u0_1 u0_2 u0_3 u0_6 u0_7 u0_8 u0_9 u3_2 u3_3 u3_4 u4_2 u4_3 u4_4 u4_5 u5_1 u5_3 x0_reds y1_allowed y2_foes x4_rows x4_columns x5_count y6_home y7_length y8_letters) H → va_D A (w_X0_foesOf g a0 a1 a2 a3 a4 a5 a6 a7 a8 u0_1 u0_2 u0_3 u0_6 u0_7 u0_8 u0_9 u3_2 u3_3 u3_4 u4_2 u4_3 u4_4 u4_5 u5_1 u5_3 x0_reds y1_allowed y2_foes x4_rows x4_columns x5_count y6_home y7_length y8_letters) → va_S A s.heap H locs → lv_has ls 6 [(3, .int v3_1)] → W p l e (RM 4 100) s m args below meth c H locs 0 0 Q (F0 m 70 ls []) := by
    intro H locs ls hP hD hS hl
    refine lv_iload_n (pc := 70) hexec hb dX0_foesOf_70 rfl (lv_at hl 0 rfl) ?_
    cases hf
    exact ke_i hQ hexec hb hr hP hD hS dX0_foesOf_71 hlocks
  obtain ⟨n, hz⟩ := lq2_e hz
  have hL5 : ∀ (n : Nat) (v3 : Int32) (v4 : Int32) (H : Heap) (locs : List Loc) (ls : Array Slot), it2 l5 n v3 v4 = some v3_1 → va_P g.1 vwCl (w_X0_foesOf g a0 a1 a2 a3 a4 a5 a6 a7 a8 u0_1 u0_2 u0_3 u0_6 u0_7 u0_8 u0_9 u3_2 u3_3 u3_4 u4_2 u4_3 u4_4 u4_5 u5_1 u5_3 x0_reds y1_allowed y2_foes x4_rows x4_columns x5_count y6_home y7_length y8_letters) H → va_D A (w_X0_foesOf g a0 a1 a2 a3 a4 a5 a6 a7 a8 u0_1 u0_2 u0_3 u0_6 u0_7 u0_8 u0_9 u3_2 u3_3 u3_4 u4_2 u4_3 u4_4 u4_5 u5_1 u5_3 x0_reds y1_allowed y2_foes x4_rows x4_columns x5_count y6_home y7_length y8_letters) → va_S A s.heap H locs → lv_has ls 6 [(0, .ref a0), (1, .ref a3), (2, .int p2), (3, .int v3), (4, .int v4)] → W p l e (RM 4 100) s m args below meth c H locs 0 0 Q (F0 m 5 ls []) := by
    intro n
    induction n with
    | zero =>
      intro v3 v4 H locs ls hf hP hD hS hl
      exact it2_0 hf
    | succ n5 ih5 =>
      intro v3 v4 H locs ls hf hP hD hS hl
      obtain ⟨q5, hf, hk5⟩ := it2_e hf
      have hf := (el5 v3 v4).symm.trans hf
      refine lv_iload (pc := 5) hexec hb dX0_foesOf_5 (lv_at hl 4 rfl) ?_
      refine lv_aload_n (pc := 7) hexec hb dX0_foesOf_7 rfl (lv_at hl 0 rfl) ?_
      refine kg_get (pc := 8) hexec hb (own := RX0) hWX0 hown hG hP 0 rfl rfl 5 (nle rfl) (hts _ (List.mem_cons_of_mem _ (List.mem_append_left _ (List.mem_append_left _ (List.mem_append_left _ (List.mem_append_left _ (List.mem_append_left _ (List.mem_of_getElem? (i := 0) rfl)))))))) rfl rfl dX0_foesOf_8 ?_
      refine kr_alen (pc := 11) hexec hb hG hP 2 0 rfl rfl (v := 32) rfl dX0_foesOf_11 ?_
      refine ki_ge (pc := 12) hexec hb dX0_foesOf_12 (tgt := 70) rfl hf (fun hc hf => ?_) (fun hc hf => ?_)
      · cases sr2 hf hk5
        exact hE5 _ _ _ hP hD hS (lv_sub hl [3] rfl)
      · refine lv_iload (pc := 15) hexec hb dX0_foesOf_15 (lv_at hl 4 rfl) ?_
        refine lv_iconst (pc := 17) hexec hb dX0_foesOf_17 ki_4 ?_
        refine lv_idiv (pc := 18) hexec hb dX0_foesOf_18 (by decide) ?_
        refine lv_iload_n (pc := 19) hexec hb dX0_foesOf_19 rfl (lv_at hl 2 rfl) ?_
        refine lv_iconst (pc := 20) hexec hb dX0_foesOf_20 ki_4 ?_
        refine lv_idiv (pc := 21) hexec hb dX0_foesOf_21 (by decide) ?_
        obtain ⟨j30, ej30, hf⟩ := bvf1 hf
        have hj30 : ∀ (t30 : Int32) (H : Heap) (locs : List Loc) (ls : Array Slot), j30 t30 = some q5 → va_P g.1 vwCl (w_X0_foesOf g a0 a1 a2 a3 a4 a5 a6 a7 a8 u0_1 u0_2 u0_3 u0_6 u0_7 u0_8 u0_9 u3_2 u3_3 u3_4 u4_2 u4_3 u4_4 u4_5 u5_1 u5_3 x0_reds y1_allowed y2_foes x4_rows x4_columns x5_count y6_home y7_length y8_letters) H → va_D A (w_X0_foesOf g a0 a1 a2 a3 a4 a5 a6 a7 a8 u0_1 u0_2 u0_3 u0_6 u0_7 u0_8 u0_9 u3_2 u3_3 u3_4 u4_2 u4_3 u4_4 u4_5 u5_1 u5_3 x0_reds y1_allowed y2_foes x4_rows x4_columns x5_count y6_home y7_length y8_letters) → va_S A s.heap H locs → lv_has ls 6 [(0, .ref a0), (1, .ref a3), (2, .int p2), (3, .int v3), (4, .int v4)] → W p l e (RM 4 100) s m args below meth c H locs 0 0 Q (F0 m 30 ls [.int t30]) := by
          intro t30 H locs ls hf hP hD hS hl
          have hf := (ej30 t30).symm.trans hf
          refine lv_istore (pc := 30) hexec hb dX0_foesOf_30 hl (nle rfl) rfl (fun ls (hl : lv_has ls 6 [(5, .int t30), (0, .ref a0), (1, .ref a3), (2, .int p2), (3, .int v3), (4, .int v4)]) => ?_)
          refine lv_iload (pc := 32) hexec hb dX0_foesOf_32 (lv_at hl 0 rfl) ?_
          obtain ⟨j64, ej64, hf⟩ := bvf1 hf
          have hj64 : ∀ (v3_2 : Int32) (H : Heap) (locs : List Loc) (ls : Array Slot), j64 v3_2 = some q5 → va_P g.1 vwCl (w_X0_foesOf g a0 a1 a2 a3 a4 a5 a6 a7 a8 u0_1 u0_2 u0_3 u0_6 u0_7 u0_8 u0_9 u3_2 u3_3 u3_4 u4_2 u4_3 u4_4 u4_5 u5_1 u5_3 x0_reds y1_allowed y2_foes x4_rows x4_columns x5_count y6_home y7_length y8_letters) H → va_D A (w_X0_foesOf g a0 a1 a2 a3 a4 a5 a6 a7 a8 u0_1 u0_2 u0_3 u0_6 u0_7 u0_8 u0_9 u3_2 u3_3 u3_4 u4_2 u4_3 u4_4 u4_5 u5_1 u5_3 x0_reds y1_allowed y2_foes x4_rows x4_columns x5_count y6_home y7_length y8_letters) → va_S A s.heap H locs → lv_has ls 6 [(0, .ref a0), (1, .ref a3), (2, .int p2), (3, .int v3_2), (4, .int v4)] → W p l e (RM 4 100) s m args below meth c H locs 0 0 Q (F0 m 64 ls []) := by
            intro v3_2 H locs ls hf hP hD hS hl
            have hf := (ej64 v3_2).symm.trans hf
            obtain ⟨v4_1, ev4_1, hf⟩ := bv_e hf
            refine k_iinc (pc := 64) hexec hb dX0_foesOf_64 kq_1 hl (k := 4) rfl ev4_1 (nle rfl) rfl (fun ls (hl : lv_has ls 6 [(4, .int v4_1), (0, .ref a0), (1, .ref a3), (2, .int p2), (3, .int v3_2)]) => ?_)
            refine lv_goto (pc := 67) hexec hb dX0_foesOf_67 (tgt := 5) rfl ?_
            exact ih5 _ _ _ _ _ (sl2 hf hk5) hP hD hS (lv_sub hl [1, 2, 3, 4, 0] rfl)
          refine kb_ne (pc := 34) hexec hb dX0_foesOf_34 (tgt := 64) rfl hf (fun hc hf => ?_) (fun hc hf => ?_)
          · exact hj64 _ _ _ _ hf hP hD hS (lv_sub hl [1, 2, 3, 4, 5] rfl)
          · refine lv_aload_n (pc := 37) hexec hb dX0_foesOf_37 rfl (lv_at hl 1 rfl) ?_
            refine lv_iload (pc := 38) hexec hb dX0_foesOf_38 (lv_at hl 5 rfl) ?_
            obtain ⟨r40, hc, hf⟩ := bd1_e hf
            refine kVp (pc := 40) (S := ⟨hexec, hb, hml, hown, hts⟩) hP hD hG hA hS [0, 1] [2, 3, 4, 5, 6, 7, 8] [7, 8, 0, 1, 2, 3, 4, 5, 6] (w2 := (w_X0_foesOf g a0 a1 a2 a3 a4 a5 a6 a7 a8 u0_1 u0_2 u0_3 u0_6 u0_7 u0_8 u0_9 u3_2 u3_3 u3_4 u4_2 u4_3 u4_4 u4_5 u5_1 u5_3 x0_reds y1_allowed y2_foes x4_rows x4_columns x5_count y6_home y7_length y8_letters)) rfl rfl rfl rfl rfl rfl (by decide) (c_X0_isAllowed l g a0 a1 _ (.int x0_reds) u0_1 u0_2 u0_3 (.ref a2) u0_6 u0_7 u0_8 u0_9 y1_allowed v4 r40 hc) gX0_foesOf_X0_isAllowed rfl hv_X0_isAllowed ⟨nle rfl, nle rfl⟩ 0 0 rfl rfl rfl (rest := []) rfl rfl hl.1 (nle rfl) dX0_foesOf_40 (fun H locs hP hD hS => ?_)
            refine kb_eq (pc := 43) hexec hb dX0_foesOf_43 (tgt := 64) rfl hf (fun hc hf => ?_) (fun hc hf => ?_)
            · exact hj64 _ _ _ _ hf hP hD hS (lv_sub hl [1, 2, 3, 4, 5] rfl)
            · refine lv_aload_n (pc := 46) hexec hb dX0_foesOf_46 rfl (lv_at hl 1 rfl) ?_
              refine lv_aload_n (pc := 47) hexec hb dX0_foesOf_47 rfl (lv_at hl 2 rfl) ?_
              refine lv_iload_n (pc := 48) hexec hb dX0_foesOf_48 rfl (lv_at hl 3 rfl) ?_
              refine lv_iload (pc := 49) hexec hb dX0_foesOf_49 (lv_at hl 5 rfl) ?_
              obtain ⟨r51, hc, hf⟩ := bd1_e hf
              refine kVp (pc := 51) (S := ⟨hexec, hb, hml, hown, hts⟩) hP hD hG hA hS [0, 3, 4, 5, 6, 7, 8] [1, 2] [2, 0, 1, 3, 4, 5, 6, 7, 8] (w2 := (w_X0_foesOf g a0 a1 a2 a3 a4 a5 a6 a7 a8 u0_1 u0_2 u0_3 u0_6 u0_7 u0_8 u0_9 u3_2 u3_3 u3_4 u4_2 u4_3 u4_4 u4_5 u5_1 u5_3 x0_reds y1_allowed y2_foes x4_rows x4_columns x5_count y6_home y7_length y8_letters)) rfl rfl rfl rfl rfl rfl (by decide) (c_X0_standAgainst l g a0 a3 a4 a5 a6 a7 a8 _ u0_1 u0_2 u0_3 (.ref a1) (.ref a2) u0_6 u0_7 u0_8 u0_9 u3_2 u3_3 u3_4 u4_2 u4_3 u4_4 u4_5 u5_1 u5_3 x0_reds x4_rows x4_columns x5_count y6_home y7_length y8_letters p2 v4 r51 hc) gX0_foesOf_X0_standAgainst rfl hv_X0_standAgainst ⟨nle rfl, nle rfl⟩ 0 0 rfl rfl rfl (rest := []) rfl rfl hl.1 (nle rfl) dX0_foesOf_51 (fun H locs hP hD hS => ?_)
              refine kb_eq (pc := 54) hexec hb dX0_foesOf_54 (tgt := 64) rfl hf (fun hc hf => ?_) (fun hc hf => ?_)
              · exact hj64 _ _ _ _ hf hP hD hS (lv_sub hl [1, 2, 3, 4, 5] rfl)
              · refine lv_iload_n (pc := 57) hexec hb dX0_foesOf_57 rfl (lv_at hl 4 rfl) ?_
                refine lv_iconst (pc := 58) hexec hb dX0_foesOf_58 ki_1 ?_
                refine lv_iload (pc := 59) hexec hb dX0_foesOf_59 (lv_at hl 5 rfl) ?_
                refine lv_ishl (pc := 61) hexec hb dX0_foesOf_61 ?_
                refine lv_ior (pc := 62) hexec hb dX0_foesOf_62 ?_
                obtain ⟨v3_3, ev3_3, hf⟩ := bv_e hf
                refine kn_i ev3_3 ?_
                refine lv_istore_n (pc := 63) hexec hb dX0_foesOf_63 rfl hl (nle rfl) rfl (fun ls (hl : lv_has ls 6 [(3, .int v3_3), (5, .int t30), (0, .ref a0), (1, .ref a3), (2, .int p2), (4, .int v4)]) => ?_)
                exact hj64 _ _ _ _ hf hP hD hS (lv_sub hl [2, 3, 4, 0, 5] rfl)
        refine ki_ne (pc := 22) hexec hb dX0_foesOf_22 (tgt := 29) rfl hf (fun hc hf => ?_) (fun hc hf => ?_)
        · refine lv_iconst (pc := 29) hexec hb dX0_foesOf_29 ki_0 ?_
          exact hj30 _ _ _ _ hf hP hD hS (lv_sub hl [0, 1, 2, 3, 4] rfl)
        · refine lv_iconst (pc := 25) hexec hb dX0_foesOf_25 ki_1 ?_
          refine lv_goto (pc := 26) hexec hb dX0_foesOf_26 (tgt := 30) rfl ?_
          exact hj30 _ _ _ _ hf hP hD hS (lv_sub hl [0, 1, 2, 3, 4] rfl)
  exact hL5 n _ _ _ _ _ hz hP hD hS (lv_sub hl [2, 3, 4, 1, 0] rfl)
abbrev w_X0_weigh (g : GE) (a0 a1 a2 a3 a4 a5 : Nat) (u0_0 u0_4 u0_5 u0_6 u0_7 u3_0 u3_1 u3_3 u3_4 u4_1 u4_3 : Value) (x0_bestReds : Int32) (x0_bestCount : Int32) (x0_bestTurning : Int32) (y1_best : Nat → Int32) (y2_trial : Nat → Int32) (x4_count : Int32) (x4_turn : Int32) (y5_stops : Nat → Int32) : va_W := [(a0, .inr (0, [u0_0, .int x0_bestReds, .int x0_bestCount, .int x0_bestTurning, u0_4, u0_5, u0_6, u0_7, .ref a2, .ref a1])), (a1, .inl (g.2.1 0, 8, .inl y1_best)), (a2, .inl (g.2.1 0, 8, .inl y2_trial)), (a3, .inr (6, [u3_0, u3_1, .ref a4, u3_3, u3_4])), (a4, .inr (4, [.int x4_count, u4_1, .int x4_turn, u4_3, .ref a5])), (a5, .inl (g.2.1 0, 16, .inl y5_stops))]
set_option maxRecDepth 20000 in
theorem c_X0_weigh (l : Launch) (g : GE) (a0 a1 a2 a3 a4 a5 : Nat) (sz : Nat) (u0_0 u0_4 u0_5 u0_6 u0_7 u3_0 u3_1 u3_3 u3_4 u4_1 u4_3 : Value) (x0_bestReds : Int32) (x0_bestCount : Int32) (x0_bestTurning : Int32) (y1_best : Nat → Int32) (y2_trial : Nat → Int32) (x4_count : Int32) (x4_turn : Int32) (y5_stops : Nat → Int32) (p2 : Int32) (p3 : Int32)  (o_x0_bestReds : Int32) (o_x0_bestCount : Int32) (o_x0_bestTurning : Int32) (o_y1_best : Nat → Int32) (hf : f_X0_weigh x0_bestReds x0_bestCount x0_bestTurning y1_best y2_trial x4_count x4_turn y5_stops p2 p3 = some (o_x0_bestReds, o_x0_bestCount, o_x0_bestTurning, o_y1_best)) : MI l g yX0_weigh wsX0_weigh 3 73 [.ref a0, .ref a3, .int p2, .int p3] (w_X0_weigh g a0 a1 a2 a3 a4 a5 u0_0 u0_4 u0_5 u0_6 u0_7 u3_0 u3_1 u3_3 u3_4 u4_1 u4_3 x0_bestReds x0_bestCount x0_bestTurning y1_best y2_trial x4_count x4_turn y5_stops) sz none (w_X0_weigh g a0 a1 a2 a3 a4 a5 u0_0 u0_4 u0_5 u0_6 u0_7 u3_0 u3_1 u3_3 u3_4 u4_1 u4_3 o_x0_bestReds o_x0_bestCount o_x0_bestTurning o_y1_best y2_trial x4_count x4_turn y5_stops) := by
  refine MI.start (cc := cX0_weigh) (maxL := 8) (ret := none) rfl rfl (nle rfl) ?_
  intro p e s m args below meth c A ls Q hQ hexec hb hr hts hown hlocks hml hA hP hD hG hS hl
  unfold f_X0_weigh at hf
  have hWX0 : ∀ w ∈ wsX00, w.before args s = true := fun w h => hts w (List.mem_cons_of_mem _ (List.mem_append_left _ (List.mem_append_left _ (List.mem_append_right _ h))))
  have hWX4 : ∀ w ∈ wsX40, w.before args s = true := fun w h => hts w (List.mem_cons_of_mem _ (List.mem_append_right _ h))
  have hWX6 : ∀ w ∈ wsX60, w.before args s = true := fun w h => hts w (List.mem_cons_of_mem _ (List.mem_append_left _ (List.mem_append_right _ h)))
  have hS : va_S A s.heap s.heap [] := hS
  refine lv_iload_n (pc := 0) hexec hb dX0_weigh_0 rfl (lv_at hl 2 rfl) ?_
  refine lv_aload_n (pc := 1) hexec hb dX0_weigh_1 rfl (lv_at hl 0 rfl) ?_
  refine kg_get (pc := 2) hexec hb (own := RX0) hWX0 hown hG hP 0 rfl rfl 1 (nle rfl) (hts _ (List.mem_cons_of_mem _ (List.mem_append_left _ (List.mem_append_left _ (List.mem_append_left _ (List.mem_append_left _ (List.mem_of_getElem? (i := 0) rfl))))))) rfl rfl dX0_weigh_2 ?_
  obtain ⟨j21, ej21, hf⟩ := bvf1 hf
  have hj21 : ∀ (t21 : Int32) (H : Heap) (locs : List Loc) (ls : Array Slot), j21 t21 = some (o_x0_bestReds, o_x0_bestCount, o_x0_bestTurning, o_y1_best) → va_P g.1 vwCl (w_X0_weigh g a0 a1 a2 a3 a4 a5 u0_0 u0_4 u0_5 u0_6 u0_7 u3_0 u3_1 u3_3 u3_4 u4_1 u4_3 x0_bestReds x0_bestCount x0_bestTurning y1_best y2_trial x4_count x4_turn y5_stops) H → va_D A (w_X0_weigh g a0 a1 a2 a3 a4 a5 u0_0 u0_4 u0_5 u0_6 u0_7 u3_0 u3_1 u3_3 u3_4 u4_1 u4_3 x0_bestReds x0_bestCount x0_bestTurning y1_best y2_trial x4_count x4_turn y5_stops) → va_S A s.heap H locs → lv_has ls 8 [(0, .ref a0), (1, .ref a3), (2, .int p2), (3, .int p3)] → W p l e (RM 3 73) s m args below meth c H locs 0 0 Q (F0 m 21 ls [.int t21]) := by
    intro t21 H locs ls hf hP hD hS hl
    have hf := (ej21 t21).symm.trans hf
    refine lv_istore (pc := 21) hexec hb dX0_weigh_21 hl (nle rfl) rfl (fun ls (hl : lv_has ls 8 [(4, .int t21), (0, .ref a0), (1, .ref a3), (2, .int p2), (3, .int p3)]) => ?_)
    refine lv_iload_n (pc := 23) hexec hb dX0_weigh_23 rfl (lv_at hl 3 rfl) ?_
    refine lv_aload_n (pc := 24) hexec hb dX0_weigh_24 rfl (lv_at hl 1 rfl) ?_
    refine kg_get (pc := 25) hexec hb (own := RX0) hWX0 hown hG hP 0 rfl rfl 1 (nle rfl) (hts _ (List.mem_cons_of_mem _ (List.mem_append_left _ (List.mem_append_left _ (List.mem_append_left _ (List.mem_append_left _ (List.mem_of_getElem? (i := 0) rfl))))))) rfl rfl dX0_weigh_25 ?_
    obtain ⟨j52, ej52, hf⟩ := bvf1 hf
    have hj52 : ∀ (t52 : Int32) (H : Heap) (locs : List Loc) (ls : Array Slot), j52 t52 = some (o_x0_bestReds, o_x0_bestCount, o_x0_bestTurning, o_y1_best) → va_P g.1 vwCl (w_X0_weigh g a0 a1 a2 a3 a4 a5 u0_0 u0_4 u0_5 u0_6 u0_7 u3_0 u3_1 u3_3 u3_4 u4_1 u4_3 x0_bestReds x0_bestCount x0_bestTurning y1_best y2_trial x4_count x4_turn y5_stops) H → va_D A (w_X0_weigh g a0 a1 a2 a3 a4 a5 u0_0 u0_4 u0_5 u0_6 u0_7 u3_0 u3_1 u3_3 u3_4 u4_1 u4_3 x0_bestReds x0_bestCount x0_bestTurning y1_best y2_trial x4_count x4_turn y5_stops) → va_S A s.heap H locs → lv_has ls 8 [(0, .ref a0), (1, .ref a3), (2, .int p2), (3, .int p3), (4, .int t21)] → W p l e (RM 3 73) s m args below meth c H locs 0 0 Q (F0 m 52 ls [.int t52]) := by
      intro t52 H locs ls hf hP hD hS hl
      have hf := (ej52 t52).symm.trans hf
      refine lv_istore (pc := 52) hexec hb dX0_weigh_52 hl (nle rfl) rfl (fun ls (hl : lv_has ls 8 [(5, .int t52), (0, .ref a0), (1, .ref a3), (2, .int p2), (3, .int p3), (4, .int t21)]) => ?_)
      refine lv_iload (pc := 54) hexec hb dX0_weigh_54 (lv_at hl 5 rfl) ?_
      obtain ⟨j65, ej65, hf⟩ := bvf1 hf
      have hj65 : ∀ (u : Unit) (H : Heap) (locs : List Loc) (ls : Array Slot), j65 u = some (o_x0_bestReds, o_x0_bestCount, o_x0_bestTurning, o_y1_best) → va_P g.1 vwCl (w_X0_weigh g a0 a1 a2 a3 a4 a5 u0_0 u0_4 u0_5 u0_6 u0_7 u3_0 u3_1 u3_3 u3_4 u4_1 u4_3 x0_bestReds x0_bestCount x0_bestTurning y1_best y2_trial x4_count x4_turn y5_stops) H → va_D A (w_X0_weigh g a0 a1 a2 a3 a4 a5 u0_0 u0_4 u0_5 u0_6 u0_7 u3_0 u3_1 u3_3 u3_4 u4_1 u4_3 x0_bestReds x0_bestCount x0_bestTurning y1_best y2_trial x4_count x4_turn y5_stops) → va_S A s.heap H locs → lv_has ls 8 [(0, .ref a0), (1, .ref a3), (2, .int p2), (3, .int p3), (5, .int t52)] → W p l e (RM 3 73) s m args below meth c H locs 0 0 Q (F0 m 65 ls []) := by
        intro u H locs ls hf hP hD hS hl
        have hf := (ej65 u).symm.trans hf
        refine lv_aload_n (pc := 65) hexec hb dX0_weigh_65 rfl (lv_at hl 1 rfl) ?_
        refine kg_getN (pc := 66) hexec hb (own := RX0) hWX6 hown hG hP 3 rfl rfl 2 (nle rfl) 28 rfl rfl rfl dX0_weigh_66 ?_
        refine lv_aload_n (pc := 69) hexec hb dX0_weigh_69 rfl (lv_at hl 0 rfl) ?_
        refine kg_get (pc := 70) hexec hb (own := RX0) hWX0 hown hG hP 0 rfl rfl 8 (nle rfl) (hts _ (List.mem_cons_of_mem _ (List.mem_append_left _ (List.mem_append_left _ (List.mem_append_left _ (List.mem_append_left _ (List.mem_of_getElem? (i := 2) rfl))))))) rfl rfl dX0_weigh_70 ?_
        refine lv_aload_n (pc := 73) hexec hb dX0_weigh_73 rfl (lv_at hl 1 rfl) ?_
        refine kg_getN (pc := 74) hexec hb (own := RX0) hWX6 hown hG hP 3 rfl rfl 2 (nle rfl) 28 rfl rfl rfl dX0_weigh_74 ?_
        refine kg_getN (pc := 77) hexec hb (own := RX0) hWX4 hown hG hP 4 rfl rfl 2 (nle rfl) 17 rfl rfl rfl dX0_weigh_77 ?_
        obtain ⟨r80, hc, hf⟩ := bd1_e hf
        refine kVp (pc := 80) (S := ⟨hexec, hb, hml, hown, hts⟩) hP hD hG hA hS [4, 5, 2] [0, 1, 3] [0, 1, 5, 2, 3, 4] (w2 := (w_X0_weigh g a0 a1 a2 a3 a4 a5 u0_0 u0_4 u0_5 u0_6 u0_7 u3_0 u3_1 u3_3 u3_4 u4_1 u4_3 x0_bestReds x0_bestCount x0_bestTurning y1_best y2_trial x4_count x4_turn y5_stops)) rfl rfl rfl rfl rfl rfl (by decide) (c_X4_turningBy l g a4 a5 a2 _ u4_1 (.int x4_turn) u4_3 x4_count y5_stops y2_trial x4_turn r80 hc) gX0_weigh_X4_turningBy rfl hv_X4_turningBy ⟨nle rfl, nle rfl⟩ 4 0 rfl rfl rfl (rest := []) rfl rfl hl.1 (nle rfl) dX0_weigh_80 (fun H locs hP hD hS => ?_)
        refine lv_istore (pc := 83) hexec hb dX0_weigh_83 hl (nle rfl) rfl (fun ls (hl : lv_has ls 8 [(6, .int r80), (0, .ref a0), (1, .ref a3), (2, .int p2), (3, .int p3), (5, .int t52)]) => ?_)
        refine lv_iload (pc := 85) hexec hb dX0_weigh_85 (lv_at hl 5 rfl) ?_
        obtain ⟨j99, ej99, hf⟩ := bvf1 hf
        have hj99 : ∀ (u : Unit) (H : Heap) (locs : List Loc) (ls : Array Slot), j99 u = some (o_x0_bestReds, o_x0_bestCount, o_x0_bestTurning, o_y1_best) → va_P g.1 vwCl (w_X0_weigh g a0 a1 a2 a3 a4 a5 u0_0 u0_4 u0_5 u0_6 u0_7 u3_0 u3_1 u3_3 u3_4 u4_1 u4_3 x0_bestReds x0_bestCount x0_bestTurning y1_best y2_trial x4_count x4_turn y5_stops) H → va_D A (w_X0_weigh g a0 a1 a2 a3 a4 a5 u0_0 u0_4 u0_5 u0_6 u0_7 u3_0 u3_1 u3_3 u3_4 u4_1 u4_3 x0_bestReds x0_bestCount x0_bestTurning y1_best y2_trial x4_count x4_turn y5_stops) → va_S A s.heap H locs → lv_has ls 8 [(0, .ref a0), (2, .int p2), (3, .int p3), (6, .int r80)] → W p l e (RM 3 73) s m args below meth c H locs 0 0 Q (F0 m 99 ls []) := by
          intro u H locs ls hf hP hD hS hl
          have hf := (ej99 u).symm.trans hf
          refine lv_aload_n (pc := 99) hexec hb dX0_weigh_99 rfl (lv_at hl 0 rfl) ?_
          refine lv_iload_n (pc := 100) hexec hb dX0_weigh_100 rfl (lv_at hl 1 rfl) ?_
          refine kp_put (pc := 101) hexec hb (own := RX0) hWX0 tyX0 tyX0_ok nmX0 hown hG hP hD hS 0 rfl rfl 1 (nle rfl) (hts _ (List.mem_cons_of_mem _ (List.mem_append_left _ (List.mem_append_left _ (List.mem_append_left _ (List.mem_append_left _ (List.mem_of_getElem? (i := 0) rfl))))))) rfl rfl rfl rfl (nle rfl) dX0_weigh_101 (fun H locs (hP : va_P g.1 vwCl (w_X0_weigh g a0 a1 a2 a3 a4 a5 u0_0 u0_4 u0_5 u0_6 u0_7 u3_0 u3_1 u3_3 u3_4 u4_1 u4_3 p2 x0_bestCount x0_bestTurning y1_best y2_trial x4_count x4_turn y5_stops) H) (hD : va_D A (w_X0_weigh g a0 a1 a2 a3 a4 a5 u0_0 u0_4 u0_5 u0_6 u0_7 u3_0 u3_1 u3_3 u3_4 u4_1 u4_3 p2 x0_bestCount x0_bestTurning y1_best y2_trial x4_count x4_turn y5_stops)) hS => ?_)
          refine lv_aload_n (pc := 104) hexec hb dX0_weigh_104 rfl (lv_at hl 0 rfl) ?_
          refine lv_iload_n (pc := 105) hexec hb dX0_weigh_105 rfl (lv_at hl 2 rfl) ?_
          refine kp_put (pc := 106) hexec hb (own := RX0) hWX0 tyX0 tyX0_ok nmX0 hown hG hP hD hS 0 rfl rfl 2 (nle rfl) (hts _ (List.mem_cons_of_mem _ (List.mem_append_left _ (List.mem_append_left _ (List.mem_append_left _ (List.mem_append_left _ (List.mem_of_getElem? (i := 1) rfl))))))) rfl rfl rfl rfl (nle rfl) dX0_weigh_106 (fun H locs (hP : va_P g.1 vwCl (w_X0_weigh g a0 a1 a2 a3 a4 a5 u0_0 u0_4 u0_5 u0_6 u0_7 u3_0 u3_1 u3_3 u3_4 u4_1 u4_3 p2 p3 x0_bestTurning y1_best y2_trial x4_count x4_turn y5_stops) H) (hD : va_D A (w_X0_weigh g a0 a1 a2 a3 a4 a5 u0_0 u0_4 u0_5 u0_6 u0_7 u3_0 u3_1 u3_3 u3_4 u4_1 u4_3 p2 p3 x0_bestTurning y1_best y2_trial x4_count x4_turn y5_stops)) hS => ?_)
          refine lv_aload_n (pc := 109) hexec hb dX0_weigh_109 rfl (lv_at hl 0 rfl) ?_
          refine lv_iload (pc := 110) hexec hb dX0_weigh_110 (lv_at hl 3 rfl) ?_
          refine kp_put (pc := 112) hexec hb (own := RX0) hWX0 tyX0 tyX0_ok nmX0 hown hG hP hD hS 0 rfl rfl 3 (nle rfl) (hts _ (List.mem_cons_of_mem _ (List.mem_append_left _ (List.mem_append_left _ (List.mem_append_left _ (List.mem_append_left _ (List.mem_of_getElem? (i := 3) rfl))))))) rfl rfl rfl rfl (nle rfl) dX0_weigh_112 (fun H locs (hP : va_P g.1 vwCl (w_X0_weigh g a0 a1 a2 a3 a4 a5 u0_0 u0_4 u0_5 u0_6 u0_7 u3_0 u3_1 u3_3 u3_4 u4_1 u4_3 p2 p3 r80 y1_best y2_trial x4_count x4_turn y5_stops) H) (hD : va_D A (w_X0_weigh g a0 a1 a2 a3 a4 a5 u0_0 u0_4 u0_5 u0_6 u0_7 u3_0 u3_1 u3_3 u3_4 u4_1 u4_3 p2 p3 r80 y1_best y2_trial x4_count x4_turn y5_stops)) hS => ?_)
          refine lv_iconst (pc := 115) hexec hb dX0_weigh_115 ki_0 ?_
          refine lv_istore (pc := 116) hexec hb dX0_weigh_116 hl (nle rfl) rfl (fun ls (hl : lv_has ls 8 [(7, .int 0), (0, .ref a0), (2, .int p2), (3, .int p3), (6, .int r80)]) => ?_)
          obtain ⟨l118, el118, hf⟩ := bvf2 hf
          obtain ⟨y1_best_2, hz, hf⟩ := bd1_e hf
          have hE118 : ∀ (H : Heap) (locs : List Loc) (ls : Array Slot), va_P g.1 vwCl (w_X0_weigh g a0 a1 a2 a3 a4 a5 u0_0 u0_4 u0_5 u0_6 u0_7 u3_0 u3_1 u3_3 u3_4 u4_1 u4_3 p2 p3 r80 y1_best_2 y2_trial x4_count x4_turn y5_stops) H → va_D A (w_X0_weigh g a0 a1 a2 a3 a4 a5 u0_0 u0_4 u0_5 u0_6 u0_7 u3_0 u3_1 u3_3 u3_4 u4_1 u4_3 p2 p3 r80 y1_best_2 y2_trial x4_count x4_turn y5_stops) → va_S A s.heap H locs → lv_has ls 8 [] → W p l e (RM 3 73) s m args below meth c H locs 0 0 Q (F0 m 145 ls []) := by
            intro H locs ls hP hD hS hl
            cases hf
            exact ke_v hQ hexec hb hr hP hD hS dX0_weigh_145 hlocks
          obtain ⟨n, hz⟩ := lq2_e hz
          have hL118 : ∀ (n : Nat) (v7 : Int32) (y1_best_1 : Nat → Int32) (H : Heap) (locs : List Loc) (ls : Array Slot), it2 l118 n v7 y1_best_1 = some y1_best_2 → va_P g.1 vwCl (w_X0_weigh g a0 a1 a2 a3 a4 a5 u0_0 u0_4 u0_5 u0_6 u0_7 u3_0 u3_1 u3_3 u3_4 u4_1 u4_3 p2 p3 r80 y1_best_1 y2_trial x4_count x4_turn y5_stops) H → va_D A (w_X0_weigh g a0 a1 a2 a3 a4 a5 u0_0 u0_4 u0_5 u0_6 u0_7 u3_0 u3_1 u3_3 u3_4 u4_1 u4_3 p2 p3 r80 y1_best_1 y2_trial x4_count x4_turn y5_stops) → va_S A s.heap H locs → lv_has ls 8 [(0, .ref a0), (7, .int v7)] → W p l e (RM 3 73) s m args below meth c H locs 0 0 Q (F0 m 118 ls []) := by
            intro n
            induction n with
            | zero =>
              intro v7 y1_best_1 H locs ls hf hP hD hS hl
              exact it2_0 hf
            | succ n118 ih118 =>
              intro v7 y1_best_1 H locs ls hf hP hD hS hl
              obtain ⟨q118, hf, hk118⟩ := it2_e hf
              have hf := (el118 v7 y1_best_1).symm.trans hf
              refine lv_iload (pc := 118) hexec hb dX0_weigh_118 (lv_at hl 1 rfl) ?_
              refine lv_bipush (pc := 120) hexec hb dX0_weigh_120 kb_8 ?_
              refine ki_ge (pc := 122) hexec hb dX0_weigh_122 (tgt := 145) rfl hf (fun hc hf => ?_) (fun hc hf => ?_)
              · cases sr2 hf hk118
                exact hE118 _ _ _ hP hD hS (lv_sub hl [] rfl)
              · refine lv_aload_n (pc := 125) hexec hb dX0_weigh_125 rfl (lv_at hl 0 rfl) ?_
                refine kg_get (pc := 126) hexec hb (own := RX0) hWX0 hown hG hP 0 rfl rfl 9 (nle rfl) (hts _ (List.mem_cons_of_mem _ (List.mem_append_left _ (List.mem_append_left _ (List.mem_append_left _ (List.mem_append_left _ (List.mem_of_getElem? (i := 4) rfl))))))) rfl rfl dX0_weigh_126 ?_
                refine lv_iload (pc := 129) hexec hb dX0_weigh_129 (lv_at hl 1 rfl) ?_
                refine lv_aload_n (pc := 131) hexec hb dX0_weigh_131 rfl (lv_at hl 0 rfl) ?_
                refine kg_get (pc := 132) hexec hb (own := RX0) hWX0 hown hG hP 0 rfl rfl 8 (nle rfl) (hts _ (List.mem_cons_of_mem _ (List.mem_append_left _ (List.mem_append_left _ (List.mem_append_left _ (List.mem_append_left _ (List.mem_of_getElem? (i := 2) rfl))))))) rfl rfl dX0_weigh_132 ?_
                refine lv_iload (pc := 135) hexec hb dX0_weigh_135 (lv_at hl 1 rfl) ?_
                refine kr_iald (pc := 137) hexec hb hG hP 2 rfl hf dX0_weigh_137 (fun hf => ?_)
                refine kw_iast (pc := 138) hexec hb hG hP hD hS 1 rfl hf dX0_weigh_138 (fun y1_best_3 H locs hf (hP : va_P g.1 vwCl (w_X0_weigh g a0 a1 a2 a3 a4 a5 u0_0 u0_4 u0_5 u0_6 u0_7 u3_0 u3_1 u3_3 u3_4 u4_1 u4_3 p2 p3 r80 y1_best_3 y2_trial x4_count x4_turn y5_stops) H) (hD : va_D A (w_X0_weigh g a0 a1 a2 a3 a4 a5 u0_0 u0_4 u0_5 u0_6 u0_7 u3_0 u3_1 u3_3 u3_4 u4_1 u4_3 p2 p3 r80 y1_best_3 y2_trial x4_count x4_turn y5_stops)) hS => ?_)
                obtain ⟨v7_1, ev7_1, hf⟩ := bv_e hf
                refine k_iinc (pc := 139) hexec hb dX0_weigh_139 kq_1 hl (k := 1) rfl ev7_1 (nle rfl) rfl (fun ls (hl : lv_has ls 8 [(7, .int v7_1), (0, .ref a0)]) => ?_)
                refine lv_goto (pc := 142) hexec hb dX0_weigh_142 (tgt := 118) rfl ?_
                exact ih118 _ _ _ _ _ (sl2 hf hk118) hP hD hS (lv_sub hl [1, 0] rfl)
          exact hL118 n _ _ _ _ _ hz hP hD hS (lv_sub hl [1, 0] rfl)
        refine kb_ne (pc := 87) hexec hb dX0_weigh_87 (tgt := 99) rfl hf (fun hc hf => ?_) (fun hc hf => ?_)
        · exact hj99 _ _ _ _ hf hP hD hS (lv_sub hl [1, 3, 4, 0] rfl)
        · refine lv_iload (pc := 90) hexec hb dX0_weigh_90 (lv_at hl 0 rfl) ?_
          refine lv_aload_n (pc := 92) hexec hb dX0_weigh_92 rfl (lv_at hl 1 rfl) ?_
          refine kg_get (pc := 93) hexec hb (own := RX0) hWX0 hown hG hP 0 rfl rfl 3 (nle rfl) (hts _ (List.mem_cons_of_mem _ (List.mem_append_left _ (List.mem_append_left _ (List.mem_append_left _ (List.mem_append_left _ (List.mem_of_getElem? (i := 3) rfl))))))) rfl rfl dX0_weigh_93 ?_
          refine ki_ge (pc := 96) hexec hb dX0_weigh_96 (tgt := 145) rfl hf (fun hc hf => ?_) (fun hc hf => ?_)
          · cases hf
            exact ke_v hQ hexec hb hr hP hD hS dX0_weigh_145 hlocks
          · exact hj99 _ _ _ _ hf hP hD hS (lv_sub hl [1, 3, 4, 0] rfl)
      refine kb_ne (pc := 56) hexec hb dX0_weigh_56 (tgt := 65) rfl hf (fun hc hf => ?_) (fun hc hf => ?_)
      · exact hj65 _ _ _ _ hf hP hD hS (lv_sub hl [1, 2, 3, 4, 0] rfl)
      · refine lv_iload (pc := 59) hexec hb dX0_weigh_59 (lv_at hl 0 rfl) ?_
        refine kb_ne (pc := 61) hexec hb dX0_weigh_61 (tgt := 65) rfl hf (fun hc hf => ?_) (fun hc hf => ?_)
        · exact hj65 _ _ _ _ hf hP hD hS (lv_sub hl [1, 2, 3, 4, 0] rfl)
        · cases hf
          exact ke_v hQ hexec hb hr hP hD hS dX0_weigh_64 hlocks
    obtain ⟨j47, ej47, hf⟩ := bvf1 hf
    have hj47 : ∀ (u : Unit) (H : Heap) (locs : List Loc) (ls : Array Slot), j47 u = some (o_x0_bestReds, o_x0_bestCount, o_x0_bestTurning, o_y1_best) → va_P g.1 vwCl (w_X0_weigh g a0 a1 a2 a3 a4 a5 u0_0 u0_4 u0_5 u0_6 u0_7 u3_0 u3_1 u3_3 u3_4 u4_1 u4_3 x0_bestReds x0_bestCount x0_bestTurning y1_best y2_trial x4_count x4_turn y5_stops) H → va_D A (w_X0_weigh g a0 a1 a2 a3 a4 a5 u0_0 u0_4 u0_5 u0_6 u0_7 u3_0 u3_1 u3_3 u3_4 u4_1 u4_3 x0_bestReds x0_bestCount x0_bestTurning y1_best y2_trial x4_count x4_turn y5_stops) → va_S A s.heap H locs → lv_has ls 8 [(0, .ref a0), (1, .ref a3), (2, .int p2), (3, .int p3), (4, .int t21)] → W p l e (RM 3 73) s m args below meth c H locs 0 0 Q (F0 m 47 ls []) := by
      intro u H locs ls hf hP hD hS hl
      have hf := (ej47 u).symm.trans hf
      refine lv_iconst (pc := 47) hexec hb dX0_weigh_47 ki_1 ?_
      refine lv_goto (pc := 48) hexec hb dX0_weigh_48 (tgt := 52) rfl ?_
      exact hj52 _ _ _ _ hf hP hD hS (lv_sub hl [0, 1, 2, 3, 4] rfl)
    refine ki_gt (pc := 28) hexec hb dX0_weigh_28 (tgt := 47) rfl hf (fun hc hf => ?_) (fun hc hf => ?_)
    · exact hj47 _ _ _ _ hf hP hD hS (lv_sub hl [1, 2, 3, 4, 0] rfl)
    · refine lv_iload_n (pc := 31) hexec hb dX0_weigh_31 rfl (lv_at hl 3 rfl) ?_
      refine lv_aload_n (pc := 32) hexec hb dX0_weigh_32 rfl (lv_at hl 1 rfl) ?_
      refine kg_get (pc := 33) hexec hb (own := RX0) hWX0 hown hG hP 0 rfl rfl 1 (nle rfl) (hts _ (List.mem_cons_of_mem _ (List.mem_append_left _ (List.mem_append_left _ (List.mem_append_left _ (List.mem_append_left _ (List.mem_of_getElem? (i := 0) rfl))))))) rfl rfl dX0_weigh_33 ?_
      obtain ⟨j51, ej51, hf⟩ := bvf1 hf
      have hj51 : ∀ (u : Unit) (H : Heap) (locs : List Loc) (ls : Array Slot), j51 u = some (o_x0_bestReds, o_x0_bestCount, o_x0_bestTurning, o_y1_best) → va_P g.1 vwCl (w_X0_weigh g a0 a1 a2 a3 a4 a5 u0_0 u0_4 u0_5 u0_6 u0_7 u3_0 u3_1 u3_3 u3_4 u4_1 u4_3 x0_bestReds x0_bestCount x0_bestTurning y1_best y2_trial x4_count x4_turn y5_stops) H → va_D A (w_X0_weigh g a0 a1 a2 a3 a4 a5 u0_0 u0_4 u0_5 u0_6 u0_7 u3_0 u3_1 u3_3 u3_4 u4_1 u4_3 x0_bestReds x0_bestCount x0_bestTurning y1_best y2_trial x4_count x4_turn y5_stops) → va_S A s.heap H locs → lv_has ls 8 [(0, .ref a0), (1, .ref a3), (2, .int p2), (3, .int p3), (4, .int t21)] → W p l e (RM 3 73) s m args below meth c H locs 0 0 Q (F0 m 51 ls []) := by
        intro u H locs ls hf hP hD hS hl
        have hf := (ej51 u).symm.trans hf
        refine lv_iconst (pc := 51) hexec hb dX0_weigh_51 ki_0 ?_
        exact hj52 _ _ _ _ hf hP hD hS (lv_sub hl [0, 1, 2, 3, 4] rfl)
      refine ki_ne (pc := 36) hexec hb dX0_weigh_36 (tgt := 51) rfl hf (fun hc hf => ?_) (fun hc hf => ?_)
      · exact hj51 _ _ _ _ hf hP hD hS (lv_sub hl [1, 2, 3, 4, 0] rfl)
      · refine lv_iload_n (pc := 39) hexec hb dX0_weigh_39 rfl (lv_at hl 4 rfl) ?_
        refine lv_aload_n (pc := 40) hexec hb dX0_weigh_40 rfl (lv_at hl 1 rfl) ?_
        refine kg_get (pc := 41) hexec hb (own := RX0) hWX0 hown hG hP 0 rfl rfl 2 (nle rfl) (hts _ (List.mem_cons_of_mem _ (List.mem_append_left _ (List.mem_append_left _ (List.mem_append_left _ (List.mem_append_left _ (List.mem_of_getElem? (i := 1) rfl))))))) rfl rfl dX0_weigh_41 ?_
        refine ki_le (pc := 44) hexec hb dX0_weigh_44 (tgt := 51) rfl hf (fun hc hf => ?_) (fun hc hf => ?_)
        · exact hj51 _ _ _ _ hf hP hD hS (lv_sub hl [1, 2, 3, 4, 0] rfl)
        · exact hj47 _ _ _ _ hf hP hD hS (lv_sub hl [1, 2, 3, 4, 0] rfl)
  obtain ⟨j20, ej20, hf⟩ := bvf1 hf
  have hj20 : ∀ (u : Unit) (H : Heap) (locs : List Loc) (ls : Array Slot), j20 u = some (o_x0_bestReds, o_x0_bestCount, o_x0_bestTurning, o_y1_best) → va_P g.1 vwCl (w_X0_weigh g a0 a1 a2 a3 a4 a5 u0_0 u0_4 u0_5 u0_6 u0_7 u3_0 u3_1 u3_3 u3_4 u4_1 u4_3 x0_bestReds x0_bestCount x0_bestTurning y1_best y2_trial x4_count x4_turn y5_stops) H → va_D A (w_X0_weigh g a0 a1 a2 a3 a4 a5 u0_0 u0_4 u0_5 u0_6 u0_7 u3_0 u3_1 u3_3 u3_4 u4_1 u4_3 x0_bestReds x0_bestCount x0_bestTurning y1_best y2_trial x4_count x4_turn y5_stops) → va_S A s.heap H locs → lv_has ls 8 [(0, .ref a0), (1, .ref a3), (2, .int p2), (3, .int p3)] → W p l e (RM 3 73) s m args below meth c H locs 0 0 Q (F0 m 20 ls []) := by
    intro u H locs ls hf hP hD hS hl
    have hf := (ej20 u).symm.trans hf
    refine lv_iconst (pc := 20) hexec hb dX0_weigh_20 ki_0 ?_
    exact hj21 _ _ _ _ hf hP hD hS (lv_sub hl [0, 1, 2, 3] rfl)
  refine ki_ne (pc := 5) hexec hb dX0_weigh_5 (tgt := 20) rfl hf (fun hc hf => ?_) (fun hc hf => ?_)
  · exact hj20 _ _ _ _ hf hP hD hS (lv_sub hl [0, 1, 2, 3] rfl)
  · refine lv_iload_n (pc := 8) hexec hb dX0_weigh_8 rfl (lv_at hl 3 rfl) ?_
    refine lv_aload_n (pc := 9) hexec hb dX0_weigh_9 rfl (lv_at hl 0 rfl) ?_
    refine kg_get (pc := 10) hexec hb (own := RX0) hWX0 hown hG hP 0 rfl rfl 2 (nle rfl) (hts _ (List.mem_cons_of_mem _ (List.mem_append_left _ (List.mem_append_left _ (List.mem_append_left _ (List.mem_append_left _ (List.mem_of_getElem? (i := 1) rfl))))))) rfl rfl dX0_weigh_10 ?_
    refine ki_ne (pc := 13) hexec hb dX0_weigh_13 (tgt := 20) rfl hf (fun hc hf => ?_) (fun hc hf => ?_)
    · exact hj20 _ _ _ _ hf hP hD hS (lv_sub hl [0, 1, 2, 3] rfl)
    · refine lv_iconst (pc := 16) hexec hb dX0_weigh_16 ki_1 ?_
      refine lv_goto (pc := 17) hexec hb dX0_weigh_17 (tgt := 21) rfl ?_
      exact hj21 _ _ _ _ hf hP hD hS (lv_sub hl [0, 1, 2, 3] rfl)
abbrev w_X0_seek (g : GE) (a0 a1 a2 a3 a4 a5 a6 a7 a8 a9 a10 : Nat) (u7_0 u7_3 u7_4 u8_1 u8_2 u8_3 u8_4 u8_5 u9_1 u9_3 : Value) (x0_reds : Int32) (x0_bestReds : Int32) (x0_bestCount : Int32) (x0_bestTurning : Int32) (y1_allowed : Nat → Int32) (y2_best : Nat → Int32) (y3_foes : Nat → Int32) (y4_namesLeft : Nat → Int32) (y5_redsLeft : Nat → Int32) (y6_trial : Nat → Int32) (x8_count : Int32) (x9_count : Int32) (x9_turn : Int32) (y10_stops : Nat → Int32) : va_W := [(a0, .inr (0, [.int x0_reds, .int x0_bestReds, .int x0_bestCount, .int x0_bestTurning, .ref a1, .ref a3, .ref a4, .ref a5, .ref a6, .ref a2])), (a1, .inl (g.2.1 0, 8, .inl y1_allowed)), (a2, .inl (g.2.1 0, 8, .inl y2_best)), (a3, .inl (g.2.1 0, 32, .inl y3_foes)), (a4, .inl (g.2.1 0, 9, .inl y4_namesLeft)), (a5, .inl (g.2.1 0, 9, .inl y5_redsLeft)), (a6, .inl (g.2.1 0, 8, .inl y6_trial)), (a7, .inr (6, [u7_0, .ref a8, .ref a9, u7_3, u7_4])), (a8, .inr (2, [.int x8_count, u8_1, u8_2, u8_3, u8_4, u8_5])), (a9, .inr (4, [.int x9_count, u9_1, .int x9_turn, u9_3, .ref a10])), (a10, .inl (g.2.1 0, 16, .inl y10_stops))]
set_option maxRecDepth 20000 in
theorem c_X0_seek (l : Launch) (g : GE) : ∀ (d : Nat)  (a0 a1 a2 a3 a4 a5 a6 a7 a8 a9 a10 : Nat) (sz : Nat) (u7_0 u7_3 u7_4 u8_1 u8_2 u8_3 u8_4 u8_5 u9_1 u9_3 : Value) (x0_reds : Int32) (x0_bestReds : Int32) (x0_bestCount : Int32) (x0_bestTurning : Int32) (y1_allowed : Nat → Int32) (y2_best : Nat → Int32) (y3_foes : Nat → Int32) (y4_namesLeft : Nat → Int32) (y5_redsLeft : Nat → Int32) (y6_trial : Nat → Int32) (x8_count : Int32) (x9_count : Int32) (x9_turn : Int32) (y10_stops : Nat → Int32) (p2 : Int32) (p3 : Int32) (p4 : Int32) (p5 : Int32)  (o_x0_bestReds : Int32) (o_x0_bestCount : Int32) (o_x0_bestTurning : Int32) (o_y2_best : Nat → Int32) (o_y6_trial : Nat → Int32) (hf : f_X0_seek d x0_reds x0_bestReds x0_bestCount x0_bestTurning y1_allowed y2_best y3_foes y4_namesLeft y5_redsLeft y6_trial x8_count x9_count x9_turn y10_stops p2 p3 p4 p5 = some (o_x0_bestReds, o_x0_bestCount, o_x0_bestTurning, o_y2_best, o_y6_trial)), MI l g yX0_seek wsX0_seek (4 + d) (100 + d * 28) [.ref a0, .ref a7, .int p2, .int p3, .int p4, .int p5] (w_X0_seek g a0 a1 a2 a3 a4 a5 a6 a7 a8 a9 a10 u7_0 u7_3 u7_4 u8_1 u8_2 u8_3 u8_4 u8_5 u9_1 u9_3 x0_reds x0_bestReds x0_bestCount x0_bestTurning y1_allowed y2_best y3_foes y4_namesLeft y5_redsLeft y6_trial x8_count x9_count x9_turn y10_stops) sz none (w_X0_seek g a0 a1 a2 a3 a4 a5 a6 a7 a8 a9 a10 u7_0 u7_3 u7_4 u8_1 u8_2 u8_3 u8_4 u8_5 u9_1 u9_3 x0_reds o_x0_bestReds o_x0_bestCount o_x0_bestTurning y1_allowed o_y2_best y3_foes y4_namesLeft y5_redsLeft o_y6_trial x8_count x9_count x9_turn y10_stops) := by
  intro d
  induction d with
  | zero => intro a0 a1 a2 a3 a4 a5 a6 a7 a8 a9 a10 sz u7_0 u7_3 u7_4 u8_1 u8_2 u8_3 u8_4 u8_5 u9_1 u9_3 x0_reds x0_bestReds x0_bestCount x0_bestTurning y1_allowed y2_best y3_foes y4_namesLeft y5_redsLeft y6_trial x8_count x9_count x9_turn y10_stops p2 p3 p4 p5 o_x0_bestReds o_x0_bestCount o_x0_bestTurning o_y2_best o_y6_trial hf; unfold f_X0_seek at hf; cases hf
  | succ d ih =>
  intro a0 a1 a2 a3 a4 a5 a6 a7 a8 a9 a10 sz u7_0 u7_3 u7_4 u8_1 u8_2 u8_3 u8_4 u8_5 u9_1 u9_3 x0_reds x0_bestReds x0_bestCount x0_bestTurning y1_allowed y2_best y3_foes y4_namesLeft y5_redsLeft y6_trial x8_count x9_count x9_turn y10_stops p2 p3 p4 p5 o_x0_bestReds o_x0_bestCount o_x0_bestTurning o_y2_best o_y6_trial hf
  refine MI.start (cc := cX0_seek) (maxL := 9) (ret := none) rfl rfl (nle rfl) ?_
  intro p e s m args below meth c A ls Q hQ hexec hb hr hts hown hlocks hml hA hP hD hG hS hl
  unfold f_X0_seek at hf
  have hWX0 : ∀ w ∈ wsX00, w.before args s = true := fun w h => hts w (List.mem_cons_of_mem _ (List.mem_append_left _ (List.mem_append_right _ h)))
  have hWX2 : ∀ w ∈ wsX20, w.before args s = true := fun w h => hts w (List.mem_cons_of_mem _ (List.mem_append_left _ (List.mem_append_left _ (List.mem_append_right _ h))))
  have hWX4 : ∀ w ∈ wsX40, w.before args s = true := fun w h => hts w (List.mem_cons_of_mem _ (List.mem_append_right _ h))
  have hWX6 : ∀ w ∈ wsX60, w.before args s = true := fun w h => hts w (List.mem_cons_of_mem _ (List.mem_append_left _ (List.mem_append_left _ (List.mem_append_left _ (List.mem_append_right _ h)))))
  have hS : va_S A s.heap s.heap [] := hS
  refine lv_iload_n (pc := 0) hexec hb dX0_seek_0 rfl (lv_at hl 2 rfl) ?_
  refine lv_bipush (pc := 1) hexec hb dX0_seek_1 kb_8 ?_
  obtain ⟨j17, ej17, hf⟩ := bvf1 hf
  have hj17 : ∀ (u : Unit) (H : Heap) (locs : List Loc) (ls : Array Slot), j17 u = some (o_x0_bestReds, o_x0_bestCount, o_x0_bestTurning, o_y2_best, o_y6_trial) → va_P g.1 vwCl (w_X0_seek g a0 a1 a2 a3 a4 a5 a6 a7 a8 a9 a10 u7_0 u7_3 u7_4 u8_1 u8_2 u8_3 u8_4 u8_5 u9_1 u9_3 x0_reds x0_bestReds x0_bestCount x0_bestTurning y1_allowed y2_best y3_foes y4_namesLeft y5_redsLeft y6_trial x8_count x9_count x9_turn y10_stops) H → va_D A (w_X0_seek g a0 a1 a2 a3 a4 a5 a6 a7 a8 a9 a10 u7_0 u7_3 u7_4 u8_1 u8_2 u8_3 u8_4 u8_5 u9_1 u9_3 x0_reds x0_bestReds x0_bestCount x0_bestTurning y1_allowed y2_best y3_foes y4_namesLeft y5_redsLeft y6_trial x8_count x9_count x9_turn y10_stops) → va_S A s.heap H locs → lv_has ls 9 [(0, .ref a0), (1, .ref a7), (4, .int p4), (5, .int p5)] → W p l e (RM (4 + (d + 1)) (100 + (d + 1) * 28)) s m args below meth c H locs 0 0 Q (F0 m 17 ls []) := by
    intro u H locs ls hf hP hD hS hl
    have hf := (ej17 u).symm.trans hf
    refine lv_aload_n (pc := 17) hexec hb dX0_seek_17 rfl (lv_at hl 0 rfl) ?_
    refine lv_aload_n (pc := 18) hexec hb dX0_seek_18 rfl (lv_at hl 1 rfl) ?_
    refine lv_iload (pc := 19) hexec hb dX0_seek_19 (lv_at hl 2 rfl) ?_
    refine lv_iload (pc := 21) hexec hb dX0_seek_21 (lv_at hl 3 rfl) ?_
    obtain ⟨x0_bestReds_1, x0_bestCount_1, x0_bestTurning_1, y2_best_1, hc, hf⟩ := bd4_e hf
    refine kVp (pc := 23) (S := ⟨hexec, hb, hml, hown, hts⟩) hP hD hG hA hS [0, 2, 6, 7, 9, 10] [1, 3, 4, 5, 8] [5, 0, 6, 1, 2, 3, 7, 8, 4, 9, 10] (w2 := (w_X0_seek g a0 a1 a2 a3 a4 a5 a6 a7 a8 a9 a10 u7_0 u7_3 u7_4 u8_1 u8_2 u8_3 u8_4 u8_5 u9_1 u9_3 x0_reds x0_bestReds_1 x0_bestCount_1 x0_bestTurning_1 y1_allowed y2_best_1 y3_foes y4_namesLeft y5_redsLeft y6_trial x8_count x9_count x9_turn y10_stops)) rfl rfl rfl rfl rfl rfl (by decide) (c_X0_weigh l g a0 a2 a6 a7 a9 a10 _ (.int x0_reds) (.ref a1) (.ref a3) (.ref a4) (.ref a5) u7_0 (.ref a8) u7_3 u7_4 u9_1 u9_3 x0_bestReds x0_bestCount x0_bestTurning y2_best y6_trial x9_count x9_turn y10_stops p4 p5 x0_bestReds_1 x0_bestCount_1 x0_bestTurning_1 y2_best_1 hc) gX0_seek_X0_weigh rfl hv_X0_weigh ⟨by dsimp only [RM]; omega, by dsimp only [RM]; omega⟩ 0 0 rfl rfl rfl (rest := []) rfl rfl hl.1 (nle rfl) dX0_seek_23 (fun H locs hP hD hS => ?_)
    cases hf
    exact ke_v hQ hexec hb hr hP hD hS dX0_seek_26 hlocks
  refine ki_ge (pc := 3) hexec hb dX0_seek_3 (tgt := 17) rfl hf (fun hc hf => ?_) (fun hc hf => ?_)
  · exact hj17 _ _ _ _ hf hP hD hS (lv_sub hl [0, 1, 4, 5] rfl)
  · refine lv_iload_n (pc := 6) hexec hb dX0_seek_6 rfl (lv_at hl 2 rfl) ?_
    refine lv_aload_n (pc := 7) hexec hb dX0_seek_7 rfl (lv_at hl 1 rfl) ?_
    refine kg_getN (pc := 8) hexec hb (own := RX0) hWX6 hown hG hP 7 rfl rfl 1 (nle rfl) 25 rfl rfl rfl dX0_seek_8 ?_
    refine kg_getN (pc := 11) hexec hb (own := RX0) hWX2 hown hG hP 8 rfl rfl 0 (nle rfl) 7 rfl rfl rfl dX0_seek_11 ?_
    refine ki_lt (pc := 14) hexec hb dX0_seek_14 (tgt := 27) rfl hf (fun hc hf => ?_) (fun hc hf => ?_)
    · refine lv_iload (pc := 27) hexec hb dX0_seek_27 (lv_at hl 4 rfl) ?_
      refine lv_aload_n (pc := 29) hexec hb dX0_seek_29 rfl (lv_at hl 0 rfl) ?_
      refine kg_get (pc := 30) hexec hb (own := RX0) hWX0 hown hG hP 0 rfl rfl 7 (nle rfl) (hts _ (List.mem_cons_of_mem _ (List.mem_append_left _ (List.mem_append_left _ (List.mem_append_left _ (List.mem_append_left _ (List.mem_append_left _ (List.mem_of_getElem? (i := 0) rfl)))))))) rfl rfl dX0_seek_30 ?_
      refine lv_iload_n (pc := 33) hexec hb dX0_seek_33 rfl (lv_at hl 2 rfl) ?_
      refine kr_iald (pc := 34) hexec hb hG hP 5 rfl hf dX0_seek_34 (fun hf => ?_)
      refine lv_iadd (pc := 35) hexec hb dX0_seek_35 ?_
      obtain ⟨v6, ev6, hf⟩ := bv_e hf
      refine kn_i ev6 ?_
      refine lv_istore (pc := 36) hexec hb dX0_seek_36 hl (nle rfl) rfl (fun ls (hl : lv_has ls 9 [(6, .int v6), (0, .ref a0), (1, .ref a7), (2, .int p2), (3, .int p3), (4, .int p4), (5, .int p5)]) => ?_)
      refine lv_iload (pc := 38) hexec hb dX0_seek_38 (lv_at hl 0 rfl) ?_
      refine lv_aload_n (pc := 40) hexec hb dX0_seek_40 rfl (lv_at hl 1 rfl) ?_
      refine kg_get (pc := 41) hexec hb (own := RX0) hWX0 hown hG hP 0 rfl rfl 1 (nle rfl) (hts _ (List.mem_cons_of_mem _ (List.mem_append_left _ (List.mem_append_left _ (List.mem_append_left _ (List.mem_append_left _ (List.mem_append_left _ (List.mem_of_getElem? (i := 1) rfl)))))))) rfl rfl dX0_seek_41 ?_
      refine ki_lt (pc := 44) hexec hb dX0_seek_44 (tgt := 72) rfl hf (fun hc hf => ?_) (fun hc hf => ?_)
      · cases hf
        exact ke_v hQ hexec hb hr hP hD hS dX0_seek_72 hlocks
      · refine lv_iload (pc := 47) hexec hb dX0_seek_47 (lv_at hl 0 rfl) ?_
        refine lv_aload_n (pc := 49) hexec hb dX0_seek_49 rfl (lv_at hl 1 rfl) ?_
        refine kg_get (pc := 50) hexec hb (own := RX0) hWX0 hown hG hP 0 rfl rfl 1 (nle rfl) (hts _ (List.mem_cons_of_mem _ (List.mem_append_left _ (List.mem_append_left _ (List.mem_append_left _ (List.mem_append_left _ (List.mem_append_left _ (List.mem_of_getElem? (i := 1) rfl)))))))) rfl rfl dX0_seek_50 ?_
        obtain ⟨j73, ej73, hf⟩ := bvf1 hf
        have hj73 : ∀ (u : Unit) (H : Heap) (locs : List Loc) (ls : Array Slot), j73 u = some (o_x0_bestReds, o_x0_bestCount, o_x0_bestTurning, o_y2_best, o_y6_trial) → va_P g.1 vwCl (w_X0_seek g a0 a1 a2 a3 a4 a5 a6 a7 a8 a9 a10 u7_0 u7_3 u7_4 u8_1 u8_2 u8_3 u8_4 u8_5 u9_1 u9_3 x0_reds x0_bestReds x0_bestCount x0_bestTurning y1_allowed y2_best y3_foes y4_namesLeft y5_redsLeft y6_trial x8_count x9_count x9_turn y10_stops) H → va_D A (w_X0_seek g a0 a1 a2 a3 a4 a5 a6 a7 a8 a9 a10 u7_0 u7_3 u7_4 u8_1 u8_2 u8_3 u8_4 u8_5 u9_1 u9_3 x0_reds x0_bestReds x0_bestCount x0_bestTurning y1_allowed y2_best y3_foes y4_namesLeft y5_redsLeft y6_trial x8_count x9_count x9_turn y10_stops) → va_S A s.heap H locs → lv_has ls 9 [(0, .ref a0), (1, .ref a7), (2, .int p2), (3, .int p3), (4, .int p4), (5, .int p5)] → W p l e (RM (4 + (d + 1)) (100 + (d + 1) * 28)) s m args below meth c H locs 0 0 Q (F0 m 73 ls []) := by
          intro u H locs ls hf hP hD hS hl
          have hf := (ej73 u).symm.trans hf
          refine lv_iconst (pc := 73) hexec hb dX0_seek_73 ki_0 ?_
          refine lv_istore (pc := 74) hexec hb dX0_seek_74 hl (nle rfl) rfl (fun ls (hl : lv_has ls 9 [(7, .int 0), (0, .ref a0), (1, .ref a7), (2, .int p2), (3, .int p3), (4, .int p4), (5, .int p5)]) => ?_)
          obtain ⟨l76, el76, hf⟩ := bvf6 hf
          obtain ⟨x0_bestReds_3, x0_bestCount_3, x0_bestTurning_3, y2_best_3, y6_trial_2, hz, hf⟩ := bd5_e hf
          have hE76 : ∀ (H : Heap) (locs : List Loc) (ls : Array Slot), va_P g.1 vwCl (w_X0_seek g a0 a1 a2 a3 a4 a5 a6 a7 a8 a9 a10 u7_0 u7_3 u7_4 u8_1 u8_2 u8_3 u8_4 u8_5 u9_1 u9_3 x0_reds x0_bestReds_3 x0_bestCount_3 x0_bestTurning_3 y1_allowed y2_best_3 y3_foes y4_namesLeft y5_redsLeft y6_trial_2 x8_count x9_count x9_turn y10_stops) H → va_D A (w_X0_seek g a0 a1 a2 a3 a4 a5 a6 a7 a8 a9 a10 u7_0 u7_3 u7_4 u8_1 u8_2 u8_3 u8_4 u8_5 u9_1 u9_3 x0_reds x0_bestReds_3 x0_bestCount_3 x0_bestTurning_3 y1_allowed y2_best_3 y3_foes y4_namesLeft y5_redsLeft y6_trial_2 x8_count x9_count x9_turn y10_stops) → va_S A s.heap H locs → lv_has ls 9 [(0, .ref a0), (1, .ref a7), (2, .int p2), (3, .int p3), (4, .int p4), (5, .int p5)] → W p l e (RM (4 + (d + 1)) (100 + (d + 1) * 28)) s m args below meth c H locs 0 0 Q (F0 m 154 ls []) := by
            intro H locs ls hP hD hS hl
            refine lv_aload_n (pc := 154) hexec hb dX0_seek_154 rfl (lv_at hl 0 rfl) ?_
            refine kg_get (pc := 155) hexec hb (own := RX0) hWX0 hown hG hP 0 rfl rfl 8 (nle rfl) (hts _ (List.mem_cons_of_mem _ (List.mem_append_left _ (List.mem_append_left _ (List.mem_append_left _ (List.mem_append_left _ (List.mem_append_left _ (List.mem_of_getElem? (i := 5) rfl)))))))) rfl rfl dX0_seek_155 ?_
            refine lv_iload_n (pc := 158) hexec hb dX0_seek_158 rfl (lv_at hl 2 rfl) ?_
            refine lv_iconst (pc := 159) hexec hb dX0_seek_159 ki_m1 ?_
            refine kw_iast (pc := 160) hexec hb hG hP hD hS 6 rfl hf dX0_seek_160 (fun y6_trial_6 H locs hf (hP : va_P g.1 vwCl (w_X0_seek g a0 a1 a2 a3 a4 a5 a6 a7 a8 a9 a10 u7_0 u7_3 u7_4 u8_1 u8_2 u8_3 u8_4 u8_5 u9_1 u9_3 x0_reds x0_bestReds_3 x0_bestCount_3 x0_bestTurning_3 y1_allowed y2_best_3 y3_foes y4_namesLeft y5_redsLeft y6_trial_6 x8_count x9_count x9_turn y10_stops) H) (hD : va_D A (w_X0_seek g a0 a1 a2 a3 a4 a5 a6 a7 a8 a9 a10 u7_0 u7_3 u7_4 u8_1 u8_2 u8_3 u8_4 u8_5 u9_1 u9_3 x0_reds x0_bestReds_3 x0_bestCount_3 x0_bestTurning_3 y1_allowed y2_best_3 y3_foes y4_namesLeft y5_redsLeft y6_trial_6 x8_count x9_count x9_turn y10_stops)) hS => ?_)
            refine lv_aload_n (pc := 161) hexec hb dX0_seek_161 rfl (lv_at hl 0 rfl) ?_
            refine lv_aload_n (pc := 162) hexec hb dX0_seek_162 rfl (lv_at hl 1 rfl) ?_
            refine lv_iload_n (pc := 163) hexec hb dX0_seek_163 rfl (lv_at hl 2 rfl) ?_
            refine lv_iconst (pc := 164) hexec hb dX0_seek_164 ki_1 ?_
            refine lv_iadd (pc := 165) hexec hb dX0_seek_165 ?_
            refine lv_iload_n (pc := 166) hexec hb dX0_seek_166 rfl (lv_at hl 3 rfl) ?_
            refine lv_iload (pc := 167) hexec hb dX0_seek_167 (lv_at hl 4 rfl) ?_
            refine lv_iload (pc := 169) hexec hb dX0_seek_169 (lv_at hl 5 rfl) ?_
            obtain ⟨x0_bestReds_6, x0_bestCount_6, x0_bestTurning_6, y2_best_6, y6_trial_7, hc, hf⟩ := bd5_e hf
            refine kVp (pc := 171) (S := ⟨hexec, hb, hml, hown, hts⟩) hP hD hG hA hS [0, 1, 2, 3, 4, 5, 6, 7, 8, 9, 10] [] [0, 1, 2, 3, 4, 5, 6, 7, 8, 9, 10] (w2 := (w_X0_seek g a0 a1 a2 a3 a4 a5 a6 a7 a8 a9 a10 u7_0 u7_3 u7_4 u8_1 u8_2 u8_3 u8_4 u8_5 u9_1 u9_3 x0_reds x0_bestReds_6 x0_bestCount_6 x0_bestTurning_6 y1_allowed y2_best_6 y3_foes y4_namesLeft y5_redsLeft y6_trial_7 x8_count x9_count x9_turn y10_stops)) rfl rfl rfl rfl rfl rfl (by decide) (ih a0 a1 a2 a3 a4 a5 a6 a7 a8 a9 a10 _ u7_0 u7_3 u7_4 u8_1 u8_2 u8_3 u8_4 u8_5 u9_1 u9_3 x0_reds x0_bestReds_3 x0_bestCount_3 x0_bestTurning_3 y1_allowed y2_best_3 y3_foes y4_namesLeft y5_redsLeft y6_trial_6 x8_count x9_count x9_turn y10_stops (p2 + 1) p3 p4 p5 x0_bestReds_6 x0_bestCount_6 x0_bestTurning_6 y2_best_6 y6_trial_7 hc) gX0_seek_X0_seek rfl hv_X0_seek ⟨by dsimp only [RM]; omega, by dsimp only [RM]; omega⟩ 0 0 rfl rfl rfl (rest := []) rfl rfl hl.1 (nle rfl) dX0_seek_171 (fun H locs hP hD hS => ?_)
            cases hf
            exact ke_v hQ hexec hb hr hP hD hS dX0_seek_174 hlocks
          obtain ⟨n, hz⟩ := lq6_e hz
          have hL76 : ∀ (n : Nat) (v7 : Int32) (x0_bestReds_2 : Int32) (x0_bestCount_2 : Int32) (x0_bestTurning_2 : Int32) (y2_best_2 : Nat → Int32) (y6_trial_1 : Nat → Int32) (H : Heap) (locs : List Loc) (ls : Array Slot), it6 l76 n v7 x0_bestReds_2 x0_bestCount_2 x0_bestTurning_2 y2_best_2 y6_trial_1 = some (x0_bestReds_3, x0_bestCount_3, x0_bestTurning_3, y2_best_3, y6_trial_2) → va_P g.1 vwCl (w_X0_seek g a0 a1 a2 a3 a4 a5 a6 a7 a8 a9 a10 u7_0 u7_3 u7_4 u8_1 u8_2 u8_3 u8_4 u8_5 u9_1 u9_3 x0_reds x0_bestReds_2 x0_bestCount_2 x0_bestTurning_2 y1_allowed y2_best_2 y3_foes y4_namesLeft y5_redsLeft y6_trial_1 x8_count x9_count x9_turn y10_stops) H → va_D A (w_X0_seek g a0 a1 a2 a3 a4 a5 a6 a7 a8 a9 a10 u7_0 u7_3 u7_4 u8_1 u8_2 u8_3 u8_4 u8_5 u9_1 u9_3 x0_reds x0_bestReds_2 x0_bestCount_2 x0_bestTurning_2 y1_allowed y2_best_2 y3_foes y4_namesLeft y5_redsLeft y6_trial_1 x8_count x9_count x9_turn y10_stops) → va_S A s.heap H locs → lv_has ls 9 [(0, .ref a0), (1, .ref a7), (2, .int p2), (3, .int p3), (4, .int p4), (5, .int p5), (7, .int v7)] → W p l e (RM (4 + (d + 1)) (100 + (d + 1) * 28)) s m args below meth c H locs 0 0 Q (F0 m 76 ls []) := by
            intro n
            induction n with
            | zero =>
              intro v7 x0_bestReds_2 x0_bestCount_2 x0_bestTurning_2 y2_best_2 y6_trial_1 H locs ls hf hP hD hS hl
              exact it6_0 hf
            | succ n76 ih76 =>
              intro v7 x0_bestReds_2 x0_bestCount_2 x0_bestTurning_2 y2_best_2 y6_trial_1 H locs ls hf hP hD hS hl
              obtain ⟨q76, hf, hk76⟩ := it6_e hf
              have hf := (el76 v7 x0_bestReds_2 x0_bestCount_2 x0_bestTurning_2 y2_best_2 y6_trial_1).symm.trans hf
              refine lv_iload (pc := 76) hexec hb dX0_seek_76 (lv_at hl 6 rfl) ?_
              refine lv_iconst (pc := 78) hexec hb dX0_seek_78 ki_4 ?_
              refine ki_ge (pc := 79) hexec hb dX0_seek_79 (tgt := 154) rfl hf (fun hc hf => ?_) (fun hc hf => ?_)
              · cases sr6 hf hk76
                exact hE76 _ _ _ hP hD hS (lv_sub hl [0, 1, 2, 3, 4, 5] rfl)
              · refine lv_iload_n (pc := 82) hexec hb dX0_seek_82 rfl (lv_at hl 2 rfl) ?_
                refine lv_iconst (pc := 83) hexec hb dX0_seek_83 ki_4 ?_
                refine lv_imul (pc := 84) hexec hb dX0_seek_84 ?_
                refine lv_iload (pc := 85) hexec hb dX0_seek_85 (lv_at hl 6 rfl) ?_
                refine lv_iadd (pc := 87) hexec hb dX0_seek_87 ?_
                obtain ⟨v8, ev8, hf⟩ := bv_e hf
                refine kn_i ev8 ?_
                refine lv_istore (pc := 88) hexec hb dX0_seek_88 hl (nle rfl) rfl (fun ls (hl : lv_has ls 9 [(8, .int v8), (0, .ref a0), (1, .ref a7), (2, .int p2), (3, .int p3), (4, .int p4), (5, .int p5), (7, .int v7)]) => ?_)
                refine lv_aload_n (pc := 90) hexec hb dX0_seek_90 rfl (lv_at hl 1 rfl) ?_
                refine lv_iload (pc := 91) hexec hb dX0_seek_91 (lv_at hl 0 rfl) ?_
                obtain ⟨r93, hc, hf⟩ := bd1_e hf
                refine kVp (pc := 93) (S := ⟨hexec, hb, hml, hown, hts⟩) hP hD hG hA hS [0, 1] [2, 3, 4, 5, 6, 7, 8, 9, 10] [9, 10, 0, 1, 2, 3, 4, 5, 6, 7, 8] (w2 := (w_X0_seek g a0 a1 a2 a3 a4 a5 a6 a7 a8 a9 a10 u7_0 u7_3 u7_4 u8_1 u8_2 u8_3 u8_4 u8_5 u9_1 u9_3 x0_reds x0_bestReds_2 x0_bestCount_2 x0_bestTurning_2 y1_allowed y2_best_2 y3_foes y4_namesLeft y5_redsLeft y6_trial_1 x8_count x9_count x9_turn y10_stops)) rfl rfl rfl rfl rfl rfl (by decide) (c_X0_isAllowed l g a0 a1 _ (.int x0_reds) (.int x0_bestReds_2) (.int x0_bestCount_2) (.int x0_bestTurning_2) (.ref a3) (.ref a4) (.ref a5) (.ref a6) (.ref a2) y1_allowed v8 r93 hc) gX0_seek_X0_isAllowed rfl hv_X0_isAllowed ⟨by dsimp only [RM]; omega, by dsimp only [RM]; omega⟩ 0 0 rfl rfl rfl (rest := []) rfl rfl hl.1 (nle rfl) dX0_seek_93 (fun H locs hP hD hS => ?_)
                obtain ⟨j148, ej148, hf⟩ := bvf5 hf
                have hj148 : ∀ (x0_bestReds_4 : Int32) (x0_bestCount_4 : Int32) (x0_bestTurning_4 : Int32) (y2_best_4 : Nat → Int32) (y6_trial_3 : Nat → Int32) (H : Heap) (locs : List Loc) (ls : Array Slot), j148 x0_bestReds_4 x0_bestCount_4 x0_bestTurning_4 y2_best_4 y6_trial_3 = some q76 → va_P g.1 vwCl (w_X0_seek g a0 a1 a2 a3 a4 a5 a6 a7 a8 a9 a10 u7_0 u7_3 u7_4 u8_1 u8_2 u8_3 u8_4 u8_5 u9_1 u9_3 x0_reds x0_bestReds_4 x0_bestCount_4 x0_bestTurning_4 y1_allowed y2_best_4 y3_foes y4_namesLeft y5_redsLeft y6_trial_3 x8_count x9_count x9_turn y10_stops) H → va_D A (w_X0_seek g a0 a1 a2 a3 a4 a5 a6 a7 a8 a9 a10 u7_0 u7_3 u7_4 u8_1 u8_2 u8_3 u8_4 u8_5 u9_1 u9_3 x0_reds x0_bestReds_4 x0_bestCount_4 x0_bestTurning_4 y1_allowed y2_best_4 y3_foes y4_namesLeft y5_redsLeft y6_trial_3 x8_count x9_count x9_turn y10_stops) → va_S A s.heap H locs → lv_has ls 9 [(0, .ref a0), (1, .ref a7), (2, .int p2), (3, .int p3), (4, .int p4), (5, .int p5), (7, .int v7)] → W p l e (RM (4 + (d + 1)) (100 + (d + 1) * 28)) s m args below meth c H locs 0 0 Q (F0 m 148 ls []) := by
                  intro x0_bestReds_4 x0_bestCount_4 x0_bestTurning_4 y2_best_4 y6_trial_3 H locs ls hf hP hD hS hl
                  have hf := (ej148 x0_bestReds_4 x0_bestCount_4 x0_bestTurning_4 y2_best_4 y6_trial_3).symm.trans hf
                  obtain ⟨v7_1, ev7_1, hf⟩ := bv_e hf
                  refine k_iinc (pc := 148) hexec hb dX0_seek_148 kq_1 hl (k := 6) rfl ev7_1 (nle rfl) rfl (fun ls (hl : lv_has ls 9 [(7, .int v7_1), (0, .ref a0), (1, .ref a7), (2, .int p2), (3, .int p3), (4, .int p4), (5, .int p5)]) => ?_)
                  refine lv_goto (pc := 151) hexec hb dX0_seek_151 (tgt := 76) rfl ?_
                  exact ih76 _ _ _ _ _ _ _ _ _ (sl6 hf hk76) hP hD hS (lv_sub hl [1, 2, 3, 4, 5, 6, 0] rfl)
                refine kb_eq (pc := 96) hexec hb dX0_seek_96 (tgt := 148) rfl hf (fun hc hf => ?_) (fun hc hf => ?_)
                · exact hj148 _ _ _ _ _ _ _ _ hf hP hD hS (lv_sub hl [1, 2, 3, 4, 5, 6, 7] rfl)
                · refine lv_aload_n (pc := 99) hexec hb dX0_seek_99 rfl (lv_at hl 1 rfl) ?_
                  refine kg_get (pc := 100) hexec hb (own := RX0) hWX0 hown hG hP 0 rfl rfl 5 (nle rfl) (hts _ (List.mem_cons_of_mem _ (List.mem_append_left _ (List.mem_append_left _ (List.mem_append_left _ (List.mem_append_left _ (List.mem_append_left _ (List.mem_of_getElem? (i := 4) rfl)))))))) rfl rfl dX0_seek_100 ?_
                  refine lv_iload (pc := 103) hexec hb dX0_seek_103 (lv_at hl 0 rfl) ?_
                  refine kr_iald (pc := 105) hexec hb hG hP 3 rfl hf dX0_seek_105 (fun hf => ?_)
                  refine lv_iload_n (pc := 106) hexec hb dX0_seek_106 rfl (lv_at hl 4 rfl) ?_
                  refine lv_iand (pc := 107) hexec hb dX0_seek_107 ?_
                  refine kb_ne (pc := 108) hexec hb dX0_seek_108 (tgt := 148) rfl hf (fun hc hf => ?_) (fun hc hf => ?_)
                  · exact hj148 _ _ _ _ _ _ _ _ hf hP hD hS (lv_sub hl [1, 2, 3, 4, 5, 6, 7] rfl)
                  · refine lv_aload_n (pc := 111) hexec hb dX0_seek_111 rfl (lv_at hl 1 rfl) ?_
                    refine kg_get (pc := 112) hexec hb (own := RX0) hWX0 hown hG hP 0 rfl rfl 8 (nle rfl) (hts _ (List.mem_cons_of_mem _ (List.mem_append_left _ (List.mem_append_left _ (List.mem_append_left _ (List.mem_append_left _ (List.mem_append_left _ (List.mem_of_getElem? (i := 5) rfl)))))))) rfl rfl dX0_seek_112 ?_
                    refine lv_iload_n (pc := 115) hexec hb dX0_seek_115 rfl (lv_at hl 3 rfl) ?_
                    refine lv_iload (pc := 116) hexec hb dX0_seek_116 (lv_at hl 7 rfl) ?_
                    refine kw_iast (pc := 118) hexec hb hG hP hD hS 6 rfl hf dX0_seek_118 (fun y6_trial_4 H locs hf (hP : va_P g.1 vwCl (w_X0_seek g a0 a1 a2 a3 a4 a5 a6 a7 a8 a9 a10 u7_0 u7_3 u7_4 u8_1 u8_2 u8_3 u8_4 u8_5 u9_1 u9_3 x0_reds x0_bestReds_2 x0_bestCount_2 x0_bestTurning_2 y1_allowed y2_best_2 y3_foes y4_namesLeft y5_redsLeft y6_trial_4 x8_count x9_count x9_turn y10_stops) H) (hD : va_D A (w_X0_seek g a0 a1 a2 a3 a4 a5 a6 a7 a8 a9 a10 u7_0 u7_3 u7_4 u8_1 u8_2 u8_3 u8_4 u8_5 u9_1 u9_3 x0_reds x0_bestReds_2 x0_bestCount_2 x0_bestTurning_2 y1_allowed y2_best_2 y3_foes y4_namesLeft y5_redsLeft y6_trial_4 x8_count x9_count x9_turn y10_stops)) hS => ?_)
                    refine lv_aload_n (pc := 119) hexec hb dX0_seek_119 rfl (lv_at hl 1 rfl) ?_
                    refine lv_aload_n (pc := 120) hexec hb dX0_seek_120 rfl (lv_at hl 2 rfl) ?_
                    refine lv_iload_n (pc := 121) hexec hb dX0_seek_121 rfl (lv_at hl 3 rfl) ?_
                    refine lv_iconst (pc := 122) hexec hb dX0_seek_122 ki_1 ?_
                    refine lv_iadd (pc := 123) hexec hb dX0_seek_123 ?_
                    refine lv_iload_n (pc := 124) hexec hb dX0_seek_124 rfl (lv_at hl 4 rfl) ?_
                    refine lv_iconst (pc := 125) hexec hb dX0_seek_125 ki_1 ?_
                    refine lv_iload (pc := 126) hexec hb dX0_seek_126 (lv_at hl 0 rfl) ?_
                    refine lv_ishl (pc := 128) hexec hb dX0_seek_128 ?_
                    refine lv_ior (pc := 129) hexec hb dX0_seek_129 ?_
                    refine lv_iload (pc := 130) hexec hb dX0_seek_130 (lv_at hl 5 rfl) ?_
                    refine lv_aload_n (pc := 132) hexec hb dX0_seek_132 rfl (lv_at hl 1 rfl) ?_
                    refine kg_get (pc := 133) hexec hb (own := RX0) hWX0 hown hG hP 0 rfl rfl 0 (nle rfl) (hts _ (List.mem_cons_of_mem _ (List.mem_append_left _ (List.mem_append_left _ (List.mem_append_left _ (List.mem_append_left _ (List.mem_append_left _ (List.mem_of_getElem? (i := 6) rfl)))))))) rfl rfl dX0_seek_133 ?_
                    refine lv_iload_n (pc := 136) hexec hb dX0_seek_136 rfl (lv_at hl 3 rfl) ?_
                    refine lv_ishr (pc := 137) hexec hb dX0_seek_137 ?_
                    refine lv_iconst (pc := 138) hexec hb dX0_seek_138 ki_1 ?_
                    refine lv_iand (pc := 139) hexec hb dX0_seek_139 ?_
                    refine lv_iadd (pc := 140) hexec hb dX0_seek_140 ?_
                    refine lv_iload (pc := 141) hexec hb dX0_seek_141 (lv_at hl 6 rfl) ?_
                    refine lv_iconst (pc := 143) hexec hb dX0_seek_143 ki_1 ?_
                    refine lv_iadd (pc := 144) hexec hb dX0_seek_144 ?_
                    obtain ⟨x0_bestReds_5, x0_bestCount_5, x0_bestTurning_5, y2_best_5, y6_trial_5, hc, hf⟩ := bd5_e hf
                    refine kVp (pc := 145) (S := ⟨hexec, hb, hml, hown, hts⟩) hP hD hG hA hS [0, 1, 2, 3, 4, 5, 6, 7, 8, 9, 10] [] [0, 1, 2, 3, 4, 5, 6, 7, 8, 9, 10] (w2 := (w_X0_seek g a0 a1 a2 a3 a4 a5 a6 a7 a8 a9 a10 u7_0 u7_3 u7_4 u8_1 u8_2 u8_3 u8_4 u8_5 u9_1 u9_3 x0_reds x0_bestReds_5 x0_bestCount_5 x0_bestTurning_5 y1_allowed y2_best_5 y3_foes y4_namesLeft y5_redsLeft y6_trial_5 x8_count x9_count x9_turn y10_stops)) rfl rfl rfl rfl rfl rfl (by decide) (ih a0 a1 a2 a3 a4 a5 a6 a7 a8 a9 a10 _ u7_0 u7_3 u7_4 u8_1 u8_2 u8_3 u8_4 u8_5 u9_1 u9_3 x0_reds x0_bestReds_2 x0_bestCount_2 x0_bestTurning_2 y1_allowed y2_best_2 y3_foes y4_namesLeft y5_redsLeft y6_trial_4 x8_count x9_count x9_turn y10_stops (p2 + 1) (p3 ||| (1 <<< (v8 &&& 31))) (p4 + ((x0_reds >>> (p2 &&& 31)) &&& 1)) (p5 + 1) x0_bestReds_5 x0_bestCount_5 x0_bestTurning_5 y2_best_5 y6_trial_5 hc) gX0_seek_X0_seek rfl hv_X0_seek ⟨by dsimp only [RM]; omega, by dsimp only [RM]; omega⟩ 0 0 rfl rfl rfl (rest := []) rfl rfl hl.1 (nle rfl) dX0_seek_145 (fun H locs hP hD hS => ?_)
                    exact hj148 _ _ _ _ _ _ _ _ hf hP hD hS (lv_sub hl [1, 2, 3, 4, 5, 6, 7] rfl)
          exact hL76 n _ _ _ _ _ _ _ _ _ hz hP hD hS (lv_sub hl [1, 2, 3, 4, 5, 6, 0] rfl)
        refine ki_ne (pc := 53) hexec hb dX0_seek_53 (tgt := 73) rfl hf (fun hc hf => ?_) (fun hc hf => ?_)
        · exact hj73 _ _ _ _ hf hP hD hS (lv_sub hl [1, 2, 3, 4, 5, 6] rfl)
        · refine lv_iload (pc := 56) hexec hb dX0_seek_56 (lv_at hl 6 rfl) ?_
          refine lv_aload_n (pc := 58) hexec hb dX0_seek_58 rfl (lv_at hl 1 rfl) ?_
          refine kg_get (pc := 59) hexec hb (own := RX0) hWX0 hown hG hP 0 rfl rfl 6 (nle rfl) (hts _ (List.mem_cons_of_mem _ (List.mem_append_left _ (List.mem_append_left _ (List.mem_append_left _ (List.mem_append_left _ (List.mem_append_left _ (List.mem_of_getElem? (i := 2) rfl)))))))) rfl rfl dX0_seek_59 ?_
          refine lv_iload_n (pc := 62) hexec hb dX0_seek_62 rfl (lv_at hl 3 rfl) ?_
          refine kr_iald (pc := 63) hexec hb hG hP 4 rfl hf dX0_seek_63 (fun hf => ?_)
          refine lv_iadd (pc := 64) hexec hb dX0_seek_64 ?_
          refine lv_aload_n (pc := 65) hexec hb dX0_seek_65 rfl (lv_at hl 1 rfl) ?_
          refine kg_get (pc := 66) hexec hb (own := RX0) hWX0 hown hG hP 0 rfl rfl 2 (nle rfl) (hts _ (List.mem_cons_of_mem _ (List.mem_append_left _ (List.mem_append_left _ (List.mem_append_left _ (List.mem_append_left _ (List.mem_append_left _ (List.mem_of_getElem? (i := 3) rfl)))))))) rfl rfl dX0_seek_66 ?_
          refine ki_ge (pc := 69) hexec hb dX0_seek_69 (tgt := 73) rfl hf (fun hc hf => ?_) (fun hc hf => ?_)
          · exact hj73 _ _ _ _ hf hP hD hS (lv_sub hl [1, 2, 3, 4, 5, 6] rfl)
          · cases hf
            exact ke_v hQ hexec hb hr hP hD hS dX0_seek_72 hlocks
    · exact hj17 _ _ _ _ hf hP hD hS (lv_sub hl [0, 1, 4, 5] rfl)
abbrev w_X0_findBest (g : GE) (a0 a1 a2 a3 a4 a5 a6 a7 a8 a9 a10 a11 a12 a13 a14 a15 a16 : Nat) (u7_3 u7_4 u8_2 u8_5 u9_1 u9_3 u10_1 u10_3 : Value) (x0_reds : Int32) (x0_bestReds : Int32) (x0_bestCount : Int32) (x0_bestTurning : Int32) (y1_allowed : Nat → Int32) (y2_best : Nat → Int32) (y3_foes : Nat → Int32) (y4_namesLeft : Nat → Int32) (y5_redsLeft : Nat → Int32) (y6_trial : Nat → Int32) (x8_rows : Int32) (x8_columns : Int32) (x9_count : Int32) (x10_count : Int32) (x10_turn : Int32) (y11_land : Nat → Int32) (y12_riverOf : Nat → Int32) (y13_home : Nat → Int32) (y14_length : Nat → Int32) (y15_letters : Nat → Int32) (y16_stops : Nat → Int32) : va_W := [(a0, .inr (0, [.int x0_reds, .int x0_bestReds, .int x0_bestCount, .int x0_bestTurning, .ref a1, .ref a3, .ref a4, .ref a5, .ref a6, .ref a2])), (a1, .inl (g.2.1 0, 8, .inl y1_allowed)), (a2, .inl (g.2.1 0, 8, .inl y2_best)), (a3, .inl (g.2.1 0, 32, .inl y3_foes)), (a4, .inl (g.2.1 0, 9, .inl y4_namesLeft)), (a5, .inl (g.2.1 0, 9, .inl y5_redsLeft)), (a6, .inl (g.2.1 0, 8, .inl y6_trial)), (a7, .inr (6, [.ref a8, .ref a9, .ref a10, u7_3, u7_4])), (a8, .inr (1, [.int x8_rows, .int x8_columns, u8_2, .ref a11, .ref a12, u8_5])), (a9, .inr (2, [.int x9_count, u9_1, .ref a13, u9_3, .ref a14, .ref a15])), (a10, .inr (4, [.int x10_count, u10_1, .int x10_turn, u10_3, .ref a16])), (a11, .inl (g.2.1 1, 144, .inl y11_land)), (a12, .inl (g.2.1 0, 144, .inl y12_riverOf)), (a13, .inl (g.2.1 0, 8, .inl y13_home)), (a14, .inl (g.2.1 0, 8, .inl y14_length)), (a15, .inl (g.2.1 0, 64, .inl y15_letters)), (a16, .inl (g.2.1 0, 16, .inl y16_stops))]
set_option maxRecDepth 20000 in
theorem c_X0_findBest (l : Launch) (g : GE) (a0 a1 a2 a3 a4 a5 a6 a7 a8 a9 a10 a11 a12 a13 a14 a15 a16 : Nat) (sz : Nat) (u7_3 u7_4 u8_2 u8_5 u9_1 u9_3 u10_1 u10_3 : Value) (x0_reds : Int32) (x0_bestReds : Int32) (x0_bestCount : Int32) (x0_bestTurning : Int32) (y1_allowed : Nat → Int32) (y2_best : Nat → Int32) (y3_foes : Nat → Int32) (y4_namesLeft : Nat → Int32) (y5_redsLeft : Nat → Int32) (y6_trial : Nat → Int32) (x8_rows : Int32) (x8_columns : Int32) (x9_count : Int32) (x10_count : Int32) (x10_turn : Int32) (y11_land : Nat → Int32) (y12_riverOf : Nat → Int32) (y13_home : Nat → Int32) (y14_length : Nat → Int32) (y15_letters : Nat → Int32) (y16_stops : Nat → Int32) (p2 : Int32) (p3 : Int32)  (o_x0_reds : Int32) (o_x0_bestReds : Int32) (o_x0_bestCount : Int32) (o_x0_bestTurning : Int32) (o_y1_allowed : Nat → Int32) (o_y2_best : Nat → Int32) (o_y3_foes : Nat → Int32) (o_y4_namesLeft : Nat → Int32) (o_y5_redsLeft : Nat → Int32) (o_y6_trial : Nat → Int32) (hf : f_X0_findBest x0_reds x0_bestReds x0_bestCount x0_bestTurning y1_allowed y2_best y3_foes y4_namesLeft y5_redsLeft y6_trial x8_rows x8_columns x9_count x10_count x10_turn y11_land y12_riverOf y13_home y14_length y15_letters y16_stops p2 p3 = some (o_x0_reds, o_x0_bestReds, o_x0_bestCount, o_x0_bestTurning, o_y1_allowed, o_y2_best, o_y3_foes, o_y4_namesLeft, o_y5_redsLeft, o_y6_trial)) : MI l g yX0_findBest wsX0_findBest 15 408 [.ref a0, .ref a7, .int p2, .int p3] (w_X0_findBest g a0 a1 a2 a3 a4 a5 a6 a7 a8 a9 a10 a11 a12 a13 a14 a15 a16 u7_3 u7_4 u8_2 u8_5 u9_1 u9_3 u10_1 u10_3 x0_reds x0_bestReds x0_bestCount x0_bestTurning y1_allowed y2_best y3_foes y4_namesLeft y5_redsLeft y6_trial x8_rows x8_columns x9_count x10_count x10_turn y11_land y12_riverOf y13_home y14_length y15_letters y16_stops) sz none (w_X0_findBest g a0 a1 a2 a3 a4 a5 a6 a7 a8 a9 a10 a11 a12 a13 a14 a15 a16 u7_3 u7_4 u8_2 u8_5 u9_1 u9_3 u10_1 u10_3 o_x0_reds o_x0_bestReds o_x0_bestCount o_x0_bestTurning o_y1_allowed o_y2_best o_y3_foes o_y4_namesLeft o_y5_redsLeft o_y6_trial x8_rows x8_columns x9_count x10_count x10_turn y11_land y12_riverOf y13_home y14_length y15_letters y16_stops) := by
  refine MI.start (cc := cX0_findBest) (maxL := 5) (ret := none) rfl rfl (nle rfl) ?_
  intro p e s m args below meth c A ls Q hQ hexec hb hr hts hown hlocks hml hA hP hD hG hS hl
  unfold f_X0_findBest at hf
  have hWX0 : ∀ w ∈ wsX00, w.before args s = true := fun w h => hts w (List.mem_cons_of_mem _ (List.mem_append_left _ (List.mem_append_left _ (List.mem_append_left _ (List.mem_append_left _ (List.mem_append_right _ h))))))
  have hWX1 : ∀ w ∈ wsX10, w.before args s = true := fun w h => hts w (List.mem_cons_of_mem _ (List.mem_append_left _ (List.mem_append_right _ h)))
  have hWX2 : ∀ w ∈ wsX20, w.before args s = true := fun w h => hts w (List.mem_cons_of_mem _ (List.mem_append_left _ (List.mem_append_left _ (List.mem_append_right _ h))))
  have hWX4 : ∀ w ∈ wsX40, w.before args s = true := fun w h => hts w (List.mem_cons_of_mem _ (List.mem_append_right _ h))
  have hWX6 : ∀ w ∈ wsX60, w.before args s = true := fun w h => hts w (List.mem_cons_of_mem _ (List.mem_append_left _ (List.mem_append_left _ (List.mem_append_left _ (List.mem_append_right _ h)))))
  have hS : va_S A s.heap s.heap [] := hS
  refine lv_aload_n (pc := 0) hexec hb dX0_findBest_0 rfl (lv_at hl 0 rfl) ?_
  refine lv_iload_n (pc := 1) hexec hb dX0_findBest_1 rfl (lv_at hl 3 rfl) ?_
  refine kp_put (pc := 2) hexec hb (own := RX0) hWX0 tyX0 tyX0_ok nmX0 hown hG hP hD hS 0 rfl rfl 0 (nle rfl) (hts _ (List.mem_cons_of_mem _ (List.mem_append_left _ (List.mem_append_left _ (List.mem_append_left _ (List.mem_append_left _ (List.mem_append_left _ (List.mem_append_left _ (List.mem_of_getElem? (i := 0) rfl))))))))) rfl rfl rfl rfl (nle rfl) dX0_findBest_2 (fun H locs (hP : va_P g.1 vwCl (w_X0_findBest g a0 a1 a2 a3 a4 a5 a6 a7 a8 a9 a10 a11 a12 a13 a14 a15 a16 u7_3 u7_4 u8_2 u8_5 u9_1 u9_3 u10_1 u10_3 p3 x0_bestReds x0_bestCount x0_bestTurning y1_allowed y2_best y3_foes y4_namesLeft y5_redsLeft y6_trial x8_rows x8_columns x9_count x10_count x10_turn y11_land y12_riverOf y13_home y14_length y15_letters y16_stops) H) (hD : va_D A (w_X0_findBest g a0 a1 a2 a3 a4 a5 a6 a7 a8 a9 a10 a11 a12 a13 a14 a15 a16 u7_3 u7_4 u8_2 u8_5 u9_1 u9_3 u10_1 u10_3 p3 x0_bestReds x0_bestCount x0_bestTurning y1_allowed y2_best y3_foes y4_namesLeft y5_redsLeft y6_trial x8_rows x8_columns x9_count x10_count x10_turn y11_land y12_riverOf y13_home y14_length y15_letters y16_stops)) hS => ?_)
  refine lv_aload_n (pc := 5) hexec hb dX0_findBest_5 rfl (lv_at hl 0 rfl) ?_
  refine lv_iconst (pc := 6) hexec hb dX0_findBest_6 ki_m1 ?_
  refine kp_put (pc := 7) hexec hb (own := RX0) hWX0 tyX0 tyX0_ok nmX0 hown hG hP hD hS 0 rfl rfl 1 (nle rfl) (hts _ (List.mem_cons_of_mem _ (List.mem_append_left _ (List.mem_append_left _ (List.mem_append_left _ (List.mem_append_left _ (List.mem_append_left _ (List.mem_append_left _ (List.mem_of_getElem? (i := 1) rfl))))))))) rfl rfl rfl rfl (nle rfl) dX0_findBest_7 (fun H locs (hP : va_P g.1 vwCl (w_X0_findBest g a0 a1 a2 a3 a4 a5 a6 a7 a8 a9 a10 a11 a12 a13 a14 a15 a16 u7_3 u7_4 u8_2 u8_5 u9_1 u9_3 u10_1 u10_3 p3 (-1) x0_bestCount x0_bestTurning y1_allowed y2_best y3_foes y4_namesLeft y5_redsLeft y6_trial x8_rows x8_columns x9_count x10_count x10_turn y11_land y12_riverOf y13_home y14_length y15_letters y16_stops) H) (hD : va_D A (w_X0_findBest g a0 a1 a2 a3 a4 a5 a6 a7 a8 a9 a10 a11 a12 a13 a14 a15 a16 u7_3 u7_4 u8_2 u8_5 u9_1 u9_3 u10_1 u10_3 p3 (-1) x0_bestCount x0_bestTurning y1_allowed y2_best y3_foes y4_namesLeft y5_redsLeft y6_trial x8_rows x8_columns x9_count x10_count x10_turn y11_land y12_riverOf y13_home y14_length y15_letters y16_stops)) hS => ?_)
  refine lv_aload_n (pc := 10) hexec hb dX0_findBest_10 rfl (lv_at hl 0 rfl) ?_
  refine lv_iconst (pc := 11) hexec hb dX0_findBest_11 ki_m1 ?_
  refine kp_put (pc := 12) hexec hb (own := RX0) hWX0 tyX0 tyX0_ok nmX0 hown hG hP hD hS 0 rfl rfl 2 (nle rfl) (hts _ (List.mem_cons_of_mem _ (List.mem_append_left _ (List.mem_append_left _ (List.mem_append_left _ (List.mem_append_left _ (List.mem_append_left _ (List.mem_append_left _ (List.mem_of_getElem? (i := 2) rfl))))))))) rfl rfl rfl rfl (nle rfl) dX0_findBest_12 (fun H locs (hP : va_P g.1 vwCl (w_X0_findBest g a0 a1 a2 a3 a4 a5 a6 a7 a8 a9 a10 a11 a12 a13 a14 a15 a16 u7_3 u7_4 u8_2 u8_5 u9_1 u9_3 u10_1 u10_3 p3 (-1) (-1) x0_bestTurning y1_allowed y2_best y3_foes y4_namesLeft y5_redsLeft y6_trial x8_rows x8_columns x9_count x10_count x10_turn y11_land y12_riverOf y13_home y14_length y15_letters y16_stops) H) (hD : va_D A (w_X0_findBest g a0 a1 a2 a3 a4 a5 a6 a7 a8 a9 a10 a11 a12 a13 a14 a15 a16 u7_3 u7_4 u8_2 u8_5 u9_1 u9_3 u10_1 u10_3 p3 (-1) (-1) x0_bestTurning y1_allowed y2_best y3_foes y4_namesLeft y5_redsLeft y6_trial x8_rows x8_columns x9_count x10_count x10_turn y11_land y12_riverOf y13_home y14_length y15_letters y16_stops)) hS => ?_)
  refine lv_aload_n (pc := 15) hexec hb dX0_findBest_15 rfl (lv_at hl 0 rfl) ?_
  refine lv_iconst (pc := 16) hexec hb dX0_findBest_16 ki_0 ?_
  refine kp_put (pc := 17) hexec hb (own := RX0) hWX0 tyX0 tyX0_ok nmX0 hown hG hP hD hS 0 rfl rfl 3 (nle rfl) (hts _ (List.mem_cons_of_mem _ (List.mem_append_left _ (List.mem_append_left _ (List.mem_append_left _ (List.mem_append_left _ (List.mem_append_left _ (List.mem_append_left _ (List.mem_of_getElem? (i := 3) rfl))))))))) rfl rfl rfl rfl (nle rfl) dX0_findBest_17 (fun H locs (hP : va_P g.1 vwCl (w_X0_findBest g a0 a1 a2 a3 a4 a5 a6 a7 a8 a9 a10 a11 a12 a13 a14 a15 a16 u7_3 u7_4 u8_2 u8_5 u9_1 u9_3 u10_1 u10_3 p3 (-1) (-1) 0 y1_allowed y2_best y3_foes y4_namesLeft y5_redsLeft y6_trial x8_rows x8_columns x9_count x10_count x10_turn y11_land y12_riverOf y13_home y14_length y15_letters y16_stops) H) (hD : va_D A (w_X0_findBest g a0 a1 a2 a3 a4 a5 a6 a7 a8 a9 a10 a11 a12 a13 a14 a15 a16 u7_3 u7_4 u8_2 u8_5 u9_1 u9_3 u10_1 u10_3 p3 (-1) (-1) 0 y1_allowed y2_best y3_foes y4_namesLeft y5_redsLeft y6_trial x8_rows x8_columns x9_count x10_count x10_turn y11_land y12_riverOf y13_home y14_length y15_letters y16_stops)) hS => ?_)
  refine lv_iconst (pc := 20) hexec hb dX0_findBest_20 ki_0 ?_
  refine lv_istore (pc := 21) hexec hb dX0_findBest_21 hl (nle rfl) rfl (fun ls (hl : lv_has ls 5 [(4, .int 0), (0, .ref a0), (1, .ref a7), (2, .int p2), (3, .int p3)]) => ?_)
  obtain ⟨l23, el23, hf⟩ := bvf4 hf
  obtain ⟨y1_allowed_2, y2_best_2, y6_trial_2, hz, hf⟩ := bd3_e hf
  have hE23 : ∀ (H : Heap) (locs : List Loc) (ls : Array Slot), va_P g.1 vwCl (w_X0_findBest g a0 a1 a2 a3 a4 a5 a6 a7 a8 a9 a10 a11 a12 a13 a14 a15 a16 u7_3 u7_4 u8_2 u8_5 u9_1 u9_3 u10_1 u10_3 p3 (-1) (-1) 0 y1_allowed_2 y2_best_2 y3_foes y4_namesLeft y5_redsLeft y6_trial_2 x8_rows x8_columns x9_count x10_count x10_turn y11_land y12_riverOf y13_home y14_length y15_letters y16_stops) H → va_D A (w_X0_findBest g a0 a1 a2 a3 a4 a5 a6 a7 a8 a9 a10 a11 a12 a13 a14 a15 a16 u7_3 u7_4 u8_2 u8_5 u9_1 u9_3 u10_1 u10_3 p3 (-1) (-1) 0 y1_allowed_2 y2_best_2 y3_foes y4_namesLeft y5_redsLeft y6_trial_2 x8_rows x8_columns x9_count x10_count x10_turn y11_land y12_riverOf y13_home y14_length y15_letters y16_stops) → va_S A s.heap H locs → lv_has ls 5 [(0, .ref a0), (1, .ref a7)] → W p l e (RM 15 408) s m args below meth c H locs 0 0 Q (F0 m 77 ls []) := by
    intro H locs ls hP hD hS hl
    refine lv_aload_n (pc := 77) hexec hb dX0_findBest_77 rfl (lv_at hl 0 rfl) ?_
    obtain ⟨y4_namesLeft_1, y5_redsLeft_1, hc, hf⟩ := bd2_e hf
    refine kVp (pc := 78) (S := ⟨hexec, hb, hml, hown, hts⟩) hP hD hG hA hS [0, 1, 4, 5] [2, 3, 6, 7, 8, 9, 10, 11, 12, 13, 14, 15, 16] [13, 14, 0, 1, 15, 16, 2, 3, 4, 5, 6, 7, 8, 9, 10, 11, 12] (w2 := (w_X0_findBest g a0 a1 a2 a3 a4 a5 a6 a7 a8 a9 a10 a11 a12 a13 a14 a15 a16 u7_3 u7_4 u8_2 u8_5 u9_1 u9_3 u10_1 u10_3 p3 (-1) (-1) 0 y1_allowed_2 y2_best_2 y3_foes y4_namesLeft_1 y5_redsLeft_1 y6_trial_2 x8_rows x8_columns x9_count x10_count x10_turn y11_land y12_riverOf y13_home y14_length y15_letters y16_stops)) rfl rfl rfl rfl rfl rfl (by decide) (c_X0_countLeft l g a0 a1 a4 a5 _ (.int (-1)) (.int (-1)) (.int 0) (.ref a3) (.ref a6) (.ref a2) p3 y1_allowed_2 y4_namesLeft y5_redsLeft y4_namesLeft_1 y5_redsLeft_1 hc) gX0_findBest_X0_countLeft rfl hv_X0_countLeft ⟨nle rfl, nle rfl⟩ 0 0 rfl rfl rfl (rest := []) rfl rfl hl.1 (nle rfl) dX0_findBest_78 (fun H locs hP hD hS => ?_)
    refine lv_iconst (pc := 81) hexec hb dX0_findBest_81 ki_0 ?_
    refine lv_istore (pc := 82) hexec hb dX0_findBest_82 hl (nle rfl) rfl (fun ls (hl : lv_has ls 5 [(4, .int 0), (0, .ref a0), (1, .ref a7)]) => ?_)
    obtain ⟨l84, el84, hf⟩ := bvf2 hf
    obtain ⟨y3_foes_2, hz, hf⟩ := bd1_e hf
    have hE84 : ∀ (H : Heap) (locs : List Loc) (ls : Array Slot), va_P g.1 vwCl (w_X0_findBest g a0 a1 a2 a3 a4 a5 a6 a7 a8 a9 a10 a11 a12 a13 a14 a15 a16 u7_3 u7_4 u8_2 u8_5 u9_1 u9_3 u10_1 u10_3 p3 (-1) (-1) 0 y1_allowed_2 y2_best_2 y3_foes_2 y4_namesLeft_1 y5_redsLeft_1 y6_trial_2 x8_rows x8_columns x9_count x10_count x10_turn y11_land y12_riverOf y13_home y14_length y15_letters y16_stops) H → va_D A (w_X0_findBest g a0 a1 a2 a3 a4 a5 a6 a7 a8 a9 a10 a11 a12 a13 a14 a15 a16 u7_3 u7_4 u8_2 u8_5 u9_1 u9_3 u10_1 u10_3 p3 (-1) (-1) 0 y1_allowed_2 y2_best_2 y3_foes_2 y4_namesLeft_1 y5_redsLeft_1 y6_trial_2 x8_rows x8_columns x9_count x10_count x10_turn y11_land y12_riverOf y13_home y14_length y15_letters y16_stops) → va_S A s.heap H locs → lv_has ls 5 [(0, .ref a0), (1, .ref a7)] → W p l e (RM 15 408) s m args below meth c H locs 0 0 Q (F0 m 127 ls []) := by
      intro H locs ls hP hD hS hl
      refine lv_aload_n (pc := 127) hexec hb dX0_findBest_127 rfl (lv_at hl 0 rfl) ?_
      refine lv_aload_n (pc := 128) hexec hb dX0_findBest_128 rfl (lv_at hl 1 rfl) ?_
      refine lv_iconst (pc := 129) hexec hb dX0_findBest_129 ki_0 ?_
      refine lv_iconst (pc := 130) hexec hb dX0_findBest_130 ki_0 ?_
      refine lv_iconst (pc := 131) hexec hb dX0_findBest_131 ki_0 ?_
      refine lv_iconst (pc := 132) hexec hb dX0_findBest_132 ki_0 ?_
      obtain ⟨x0_bestReds_1, x0_bestCount_1, x0_bestTurning_1, y2_best_4, y6_trial_4, hc, hf⟩ := bd5_e hf
      refine kVp (pc := 133) (S := ⟨hexec, hb, hml, hown, hts⟩) hP hD hG hA hS [0, 1, 2, 3, 4, 5, 6, 7, 9, 10, 16] [8, 11, 12, 13, 14, 15] [6, 7, 8, 9, 10, 11, 12, 13, 0, 14, 15, 1, 2, 3, 4, 5, 16] (w2 := (w_X0_findBest g a0 a1 a2 a3 a4 a5 a6 a7 a8 a9 a10 a11 a12 a13 a14 a15 a16 u7_3 u7_4 u8_2 u8_5 u9_1 u9_3 u10_1 u10_3 p3 x0_bestReds_1 x0_bestCount_1 x0_bestTurning_1 y1_allowed_2 y2_best_4 y3_foes_2 y4_namesLeft_1 y5_redsLeft_1 y6_trial_4 x8_rows x8_columns x9_count x10_count x10_turn y11_land y12_riverOf y13_home y14_length y15_letters y16_stops)) rfl rfl rfl rfl rfl rfl (by decide) (c_X0_seek l g 10 a0 a1 a2 a3 a4 a5 a6 a7 a9 a10 a16 _ (.ref a8) u7_3 u7_4 u9_1 (.ref a13) u9_3 (.ref a14) (.ref a15) u10_1 u10_3 p3 (-1) (-1) 0 y1_allowed_2 y2_best_2 y3_foes_2 y4_namesLeft_1 y5_redsLeft_1 y6_trial_2 x9_count x10_count x10_turn y16_stops 0 0 0 0 x0_bestReds_1 x0_bestCount_1 x0_bestTurning_1 y2_best_4 y6_trial_4 hc) gX0_findBest_X0_seek rfl hv_X0_seek ⟨nle rfl, nle rfl⟩ 0 0 rfl rfl rfl (rest := []) rfl rfl hl.1 (nle rfl) dX0_findBest_133 (fun H locs hP hD hS => ?_)
      cases hf
      exact ke_v hQ hexec hb hr hP hD hS dX0_findBest_136 hlocks
    obtain ⟨n, hz⟩ := lq2_e hz
    have hL84 : ∀ (n : Nat) (v4_2 : Int32) (y3_foes_1 : Nat → Int32) (H : Heap) (locs : List Loc) (ls : Array Slot), it2 l84 n v4_2 y3_foes_1 = some y3_foes_2 → va_P g.1 vwCl (w_X0_findBest g a0 a1 a2 a3 a4 a5 a6 a7 a8 a9 a10 a11 a12 a13 a14 a15 a16 u7_3 u7_4 u8_2 u8_5 u9_1 u9_3 u10_1 u10_3 p3 (-1) (-1) 0 y1_allowed_2 y2_best_2 y3_foes_1 y4_namesLeft_1 y5_redsLeft_1 y6_trial_2 x8_rows x8_columns x9_count x10_count x10_turn y11_land y12_riverOf y13_home y14_length y15_letters y16_stops) H → va_D A (w_X0_findBest g a0 a1 a2 a3 a4 a5 a6 a7 a8 a9 a10 a11 a12 a13 a14 a15 a16 u7_3 u7_4 u8_2 u8_5 u9_1 u9_3 u10_1 u10_3 p3 (-1) (-1) 0 y1_allowed_2 y2_best_2 y3_foes_1 y4_namesLeft_1 y5_redsLeft_1 y6_trial_2 x8_rows x8_columns x9_count x10_count x10_turn y11_land y12_riverOf y13_home y14_length y15_letters y16_stops) → va_S A s.heap H locs → lv_has ls 5 [(0, .ref a0), (1, .ref a7), (4, .int v4_2)] → W p l e (RM 15 408) s m args below meth c H locs 0 0 Q (F0 m 84 ls []) := by
      intro n
      induction n with
      | zero =>
        intro v4_2 y3_foes_1 H locs ls hf hP hD hS hl
        exact it2_0 hf
      | succ n84 ih84 =>
        intro v4_2 y3_foes_1 H locs ls hf hP hD hS hl
        obtain ⟨q84, hf, hk84⟩ := it2_e hf
        have hf := (el84 v4_2 y3_foes_1).symm.trans hf
        refine lv_iload (pc := 84) hexec hb dX0_findBest_84 (lv_at hl 2 rfl) ?_
        refine lv_aload_n (pc := 86) hexec hb dX0_findBest_86 rfl (lv_at hl 0 rfl) ?_
        refine kg_get (pc := 87) hexec hb (own := RX0) hWX0 hown hG hP 0 rfl rfl 5 (nle rfl) (hts _ (List.mem_cons_of_mem _ (List.mem_append_left _ (List.mem_append_left _ (List.mem_append_left _ (List.mem_append_left _ (List.mem_append_left _ (List.mem_append_left _ (List.mem_of_getElem? (i := 7) rfl))))))))) rfl rfl dX0_findBest_87 ?_
        refine kr_alen (pc := 90) hexec hb hG hP 3 0 rfl rfl (v := 32) rfl dX0_findBest_90 ?_
        refine ki_ge (pc := 91) hexec hb dX0_findBest_91 (tgt := 127) rfl hf (fun hc hf => ?_) (fun hc hf => ?_)
        · cases sr2 hf hk84
          exact hE84 _ _ _ hP hD hS (lv_sub hl [0, 1] rfl)
        · refine lv_aload_n (pc := 94) hexec hb dX0_findBest_94 rfl (lv_at hl 0 rfl) ?_
          refine kg_get (pc := 95) hexec hb (own := RX0) hWX0 hown hG hP 0 rfl rfl 5 (nle rfl) (hts _ (List.mem_cons_of_mem _ (List.mem_append_left _ (List.mem_append_left _ (List.mem_append_left _ (List.mem_append_left _ (List.mem_append_left _ (List.mem_append_left _ (List.mem_of_getElem? (i := 7) rfl))))))))) rfl rfl dX0_findBest_95 ?_
          refine lv_iload (pc := 98) hexec hb dX0_findBest_98 (lv_at hl 2 rfl) ?_
          refine lv_aload_n (pc := 100) hexec hb dX0_findBest_100 rfl (lv_at hl 0 rfl) ?_
          refine lv_iload (pc := 101) hexec hb dX0_findBest_101 (lv_at hl 2 rfl) ?_
          obtain ⟨r103, hc, hf⟩ := bd1_e hf
          refine kVp (pc := 103) (S := ⟨hexec, hb, hml, hown, hts⟩) hP hD hG hA hS [0, 1] [2, 3, 4, 5, 6, 7, 8, 9, 10, 11, 12, 13, 14, 15, 16] [15, 16, 0, 1, 2, 3, 4, 5, 6, 7, 8, 9, 10, 11, 12, 13, 14] (w2 := (w_X0_findBest g a0 a1 a2 a3 a4 a5 a6 a7 a8 a9 a10 a11 a12 a13 a14 a15 a16 u7_3 u7_4 u8_2 u8_5 u9_1 u9_3 u10_1 u10_3 p3 (-1) (-1) 0 y1_allowed_2 y2_best_2 y3_foes_1 y4_namesLeft_1 y5_redsLeft_1 y6_trial_2 x8_rows x8_columns x9_count x10_count x10_turn y11_land y12_riverOf y13_home y14_length y15_letters y16_stops)) rfl rfl rfl rfl rfl rfl (by decide) (c_X0_isAllowed l g a0 a1 _ (.int p3) (.int (-1)) (.int (-1)) (.int 0) (.ref a3) (.ref a4) (.ref a5) (.ref a6) (.ref a2) y1_allowed_2 v4_2 r103 hc) gX0_findBest_X0_isAllowed rfl hv_X0_isAllowed ⟨nle rfl, nle rfl⟩ 0 0 rfl rfl rfl (rest := [.int v4_2, .ref a3]) rfl rfl hl.1 (nle rfl) dX0_findBest_103 (fun H locs hP hD hS => ?_)
          obtain ⟨j120, ej120, hf⟩ := bvf1 hf
          have hj120 : ∀ (t120 : Int32) (H : Heap) (locs : List Loc) (ls : Array Slot), j120 t120 = some q84 → va_P g.1 vwCl (w_X0_findBest g a0 a1 a2 a3 a4 a5 a6 a7 a8 a9 a10 a11 a12 a13 a14 a15 a16 u7_3 u7_4 u8_2 u8_5 u9_1 u9_3 u10_1 u10_3 p3 (-1) (-1) 0 y1_allowed_2 y2_best_2 y3_foes_1 y4_namesLeft_1 y5_redsLeft_1 y6_trial_2 x8_rows x8_columns x9_count x10_count x10_turn y11_land y12_riverOf y13_home y14_length y15_letters y16_stops) H → va_D A (w_X0_findBest g a0 a1 a2 a3 a4 a5 a6 a7 a8 a9 a10 a11 a12 a13 a14 a15 a16 u7_3 u7_4 u8_2 u8_5 u9_1 u9_3 u10_1 u10_3 p3 (-1) (-1) 0 y1_allowed_2 y2_best_2 y3_foes_1 y4_namesLeft_1 y5_redsLeft_1 y6_trial_2 x8_rows x8_columns x9_count x10_count x10_turn y11_land y12_riverOf y13_home y14_length y15_letters y16_stops) → va_S A s.heap H locs → lv_has ls 5 [(0, .ref a0), (1, .ref a7), (4, .int v4_2)] → W p l e (RM 15 408) s m args below meth c H locs 0 0 Q (F0 m 120 ls [.int t120, .int v4_2, .ref a3]) := by
            intro t120 H locs ls hf hP hD hS hl
            have hf := (ej120 t120).symm.trans hf
            refine kw_iast (pc := 120) hexec hb hG hP hD hS 3 rfl hf dX0_findBest_120 (fun y3_foes_3 H locs hf (hP : va_P g.1 vwCl (w_X0_findBest g a0 a1 a2 a3 a4 a5 a6 a7 a8 a9 a10 a11 a12 a13 a14 a15 a16 u7_3 u7_4 u8_2 u8_5 u9_1 u9_3 u10_1 u10_3 p3 (-1) (-1) 0 y1_allowed_2 y2_best_2 y3_foes_3 y4_namesLeft_1 y5_redsLeft_1 y6_trial_2 x8_rows x8_columns x9_count x10_count x10_turn y11_land y12_riverOf y13_home y14_length y15_letters y16_stops) H) (hD : va_D A (w_X0_findBest g a0 a1 a2 a3 a4 a5 a6 a7 a8 a9 a10 a11 a12 a13 a14 a15 a16 u7_3 u7_4 u8_2 u8_5 u9_1 u9_3 u10_1 u10_3 p3 (-1) (-1) 0 y1_allowed_2 y2_best_2 y3_foes_3 y4_namesLeft_1 y5_redsLeft_1 y6_trial_2 x8_rows x8_columns x9_count x10_count x10_turn y11_land y12_riverOf y13_home y14_length y15_letters y16_stops)) hS => ?_)
            obtain ⟨v4_3, ev4_3, hf⟩ := bv_e hf
            refine k_iinc (pc := 121) hexec hb dX0_findBest_121 kq_1 hl (k := 2) rfl ev4_3 (nle rfl) rfl (fun ls (hl : lv_has ls 5 [(4, .int v4_3), (0, .ref a0), (1, .ref a7)]) => ?_)
            refine lv_goto (pc := 124) hexec hb dX0_findBest_124 (tgt := 84) rfl ?_
            exact ih84 _ _ _ _ _ (sl2 hf hk84) hP hD hS (lv_sub hl [1, 2, 0] rfl)
          refine kb_eq (pc := 106) hexec hb dX0_findBest_106 (tgt := 119) rfl hf (fun hc hf => ?_) (fun hc hf => ?_)
          · refine lv_iconst (pc := 119) hexec hb dX0_findBest_119 ki_0 ?_
            exact hj120 _ _ _ _ hf hP hD hS (lv_sub hl [0, 1, 2] rfl)
          · refine lv_aload_n (pc := 109) hexec hb dX0_findBest_109 rfl (lv_at hl 0 rfl) ?_
            refine lv_aload_n (pc := 110) hexec hb dX0_findBest_110 rfl (lv_at hl 1 rfl) ?_
            refine lv_iload (pc := 111) hexec hb dX0_findBest_111 (lv_at hl 2 rfl) ?_
            obtain ⟨r113, hc, hf⟩ := bd1_e hf
            refine kVp (pc := 113) (S := ⟨hexec, hb, hml, hown, hts⟩) hP hD hG hA hS [0, 1, 3, 7, 8, 9, 13, 14, 15] [2, 4, 5, 6, 10, 11, 12, 16] [8, 9, 0, 10, 1, 2, 3, 11, 12, 13, 4, 5, 6, 14, 15, 16, 7] (w2 := (w_X0_findBest g a0 a1 a2 a3 a4 a5 a6 a7 a8 a9 a10 a11 a12 a13 a14 a15 a16 u7_3 u7_4 u8_2 u8_5 u9_1 u9_3 u10_1 u10_3 p3 (-1) (-1) 0 y1_allowed_2 y2_best_2 y3_foes_1 y4_namesLeft_1 y5_redsLeft_1 y6_trial_2 x8_rows x8_columns x9_count x10_count x10_turn y11_land y12_riverOf y13_home y14_length y15_letters y16_stops)) rfl rfl rfl rfl rfl rfl (by decide) (c_X0_foesOf l g a0 a1 a3 a7 a8 a9 a13 a14 a15 _ (.int (-1)) (.int (-1)) (.int 0) (.ref a4) (.ref a5) (.ref a6) (.ref a2) (.ref a10) u7_3 u7_4 u8_2 (.ref a11) (.ref a12) u8_5 u9_1 u9_3 p3 y1_allowed_2 y3_foes_1 x8_rows x8_columns x9_count y13_home y14_length y15_letters v4_2 r113 hc) gX0_findBest_X0_foesOf rfl hv_X0_foesOf ⟨nle rfl, nle rfl⟩ 0 0 rfl rfl rfl (rest := [.int v4_2, .ref a3]) rfl rfl hl.1 (nle rfl) dX0_findBest_113 (fun H locs hP hD hS => ?_)
            refine lv_goto (pc := 116) hexec hb dX0_findBest_116 (tgt := 120) rfl ?_
            exact hj120 _ _ _ _ hf hP hD hS (lv_sub hl [0, 1, 2] rfl)
    exact hL84 n _ _ _ _ _ hz hP hD hS (lv_sub hl [1, 2, 0] rfl)
  obtain ⟨n, hz⟩ := lq4_e hz
  have hL23 : ∀ (n : Nat) (v4 : Int32) (y1_allowed_1 : Nat → Int32) (y2_best_1 : Nat → Int32) (y6_trial_1 : Nat → Int32) (H : Heap) (locs : List Loc) (ls : Array Slot), it4 l23 n v4 y1_allowed_1 y2_best_1 y6_trial_1 = some (y1_allowed_2, y2_best_2, y6_trial_2) → va_P g.1 vwCl (w_X0_findBest g a0 a1 a2 a3 a4 a5 a6 a7 a8 a9 a10 a11 a12 a13 a14 a15 a16 u7_3 u7_4 u8_2 u8_5 u9_1 u9_3 u10_1 u10_3 p3 (-1) (-1) 0 y1_allowed_1 y2_best_1 y3_foes y4_namesLeft y5_redsLeft y6_trial_1 x8_rows x8_columns x9_count x10_count x10_turn y11_land y12_riverOf y13_home y14_length y15_letters y16_stops) H → va_D A (w_X0_findBest g a0 a1 a2 a3 a4 a5 a6 a7 a8 a9 a10 a11 a12 a13 a14 a15 a16 u7_3 u7_4 u8_2 u8_5 u9_1 u9_3 u10_1 u10_3 p3 (-1) (-1) 0 y1_allowed_1 y2_best_1 y3_foes y4_namesLeft y5_redsLeft y6_trial_1 x8_rows x8_columns x9_count x10_count x10_turn y11_land y12_riverOf y13_home y14_length y15_letters y16_stops) → va_S A s.heap H locs → lv_has ls 5 [(0, .ref a0), (1, .ref a7), (2, .int p2), (4, .int v4)] → W p l e (RM 15 408) s m args below meth c H locs 0 0 Q (F0 m 23 ls []) := by
    intro n
    induction n with
    | zero =>
      intro v4 y1_allowed_1 y2_best_1 y6_trial_1 H locs ls hf hP hD hS hl
      exact it4_0 hf
    | succ n23 ih23 =>
      intro v4 y1_allowed_1 y2_best_1 y6_trial_1 H locs ls hf hP hD hS hl
      obtain ⟨q23, hf, hk23⟩ := it4_e hf
      have hf := (el23 v4 y1_allowed_1 y2_best_1 y6_trial_1).symm.trans hf
      refine lv_iload (pc := 23) hexec hb dX0_findBest_23 (lv_at hl 3 rfl) ?_
      refine lv_bipush (pc := 25) hexec hb dX0_findBest_25 kb_8 ?_
      refine ki_ge (pc := 27) hexec hb dX0_findBest_27 (tgt := 77) rfl hf (fun hc hf => ?_) (fun hc hf => ?_)
      · cases sr4 hf hk23
        exact hE23 _ _ _ hP hD hS (lv_sub hl [0, 1] rfl)
      · refine lv_aload_n (pc := 30) hexec hb dX0_findBest_30 rfl (lv_at hl 0 rfl) ?_
        refine kg_get (pc := 31) hexec hb (own := RX0) hWX0 hown hG hP 0 rfl rfl 8 (nle rfl) (hts _ (List.mem_cons_of_mem _ (List.mem_append_left _ (List.mem_append_left _ (List.mem_append_left _ (List.mem_append_left _ (List.mem_append_left _ (List.mem_append_left _ (List.mem_of_getElem? (i := 4) rfl))))))))) rfl rfl dX0_findBest_31 ?_
        refine lv_iload (pc := 34) hexec hb dX0_findBest_34 (lv_at hl 3 rfl) ?_
        refine lv_iconst (pc := 36) hexec hb dX0_findBest_36 ki_m1 ?_
        refine kw_iast (pc := 37) hexec hb hG hP hD hS 6 rfl hf dX0_findBest_37 (fun y6_trial_3 H locs hf (hP : va_P g.1 vwCl (w_X0_findBest g a0 a1 a2 a3 a4 a5 a6 a7 a8 a9 a10 a11 a12 a13 a14 a15 a16 u7_3 u7_4 u8_2 u8_5 u9_1 u9_3 u10_1 u10_3 p3 (-1) (-1) 0 y1_allowed_1 y2_best_1 y3_foes y4_namesLeft y5_redsLeft y6_trial_3 x8_rows x8_columns x9_count x10_count x10_turn y11_land y12_riverOf y13_home y14_length y15_letters y16_stops) H) (hD : va_D A (w_X0_findBest g a0 a1 a2 a3 a4 a5 a6 a7 a8 a9 a10 a11 a12 a13 a14 a15 a16 u7_3 u7_4 u8_2 u8_5 u9_1 u9_3 u10_1 u10_3 p3 (-1) (-1) 0 y1_allowed_1 y2_best_1 y3_foes y4_namesLeft y5_redsLeft y6_trial_3 x8_rows x8_columns x9_count x10_count x10_turn y11_land y12_riverOf y13_home y14_length y15_letters y16_stops)) hS => ?_)
        refine lv_aload_n (pc := 38) hexec hb dX0_findBest_38 rfl (lv_at hl 0 rfl) ?_
        refine kg_get (pc := 39) hexec hb (own := RX0) hWX0 hown hG hP 0 rfl rfl 9 (nle rfl) (hts _ (List.mem_cons_of_mem _ (List.mem_append_left _ (List.mem_append_left _ (List.mem_append_left _ (List.mem_append_left _ (List.mem_append_left _ (List.mem_append_left _ (List.mem_of_getElem? (i := 5) rfl))))))))) rfl rfl dX0_findBest_39 ?_
        refine lv_iload (pc := 42) hexec hb dX0_findBest_42 (lv_at hl 3 rfl) ?_
        refine lv_iconst (pc := 44) hexec hb dX0_findBest_44 ki_m1 ?_
        refine kw_iast (pc := 45) hexec hb hG hP hD hS 2 rfl hf dX0_findBest_45 (fun y2_best_3 H locs hf (hP : va_P g.1 vwCl (w_X0_findBest g a0 a1 a2 a3 a4 a5 a6 a7 a8 a9 a10 a11 a12 a13 a14 a15 a16 u7_3 u7_4 u8_2 u8_5 u9_1 u9_3 u10_1 u10_3 p3 (-1) (-1) 0 y1_allowed_1 y2_best_3 y3_foes y4_namesLeft y5_redsLeft y6_trial_3 x8_rows x8_columns x9_count x10_count x10_turn y11_land y12_riverOf y13_home y14_length y15_letters y16_stops) H) (hD : va_D A (w_X0_findBest g a0 a1 a2 a3 a4 a5 a6 a7 a8 a9 a10 a11 a12 a13 a14 a15 a16 u7_3 u7_4 u8_2 u8_5 u9_1 u9_3 u10_1 u10_3 p3 (-1) (-1) 0 y1_allowed_1 y2_best_3 y3_foes y4_namesLeft y5_redsLeft y6_trial_3 x8_rows x8_columns x9_count x10_count x10_turn y11_land y12_riverOf y13_home y14_length y15_letters y16_stops)) hS => ?_)
        refine lv_aload_n (pc := 46) hexec hb dX0_findBest_46 rfl (lv_at hl 0 rfl) ?_
        refine kg_get (pc := 47) hexec hb (own := RX0) hWX0 hown hG hP 0 rfl rfl 4 (nle rfl) (hts _ (List.mem_cons_of_mem _ (List.mem_append_left _ (List.mem_append_left _ (List.mem_append_left _ (List.mem_append_left _ (List.mem_append_left _ (List.mem_append_left _ (List.mem_of_getElem? (i := 6) rfl))))))))) rfl rfl dX0_findBest_47 ?_
        refine lv_iload (pc := 50) hexec hb dX0_findBest_50 (lv_at hl 3 rfl) ?_
        refine lv_iload (pc := 52) hexec hb dX0_findBest_52 (lv_at hl 3 rfl) ?_
        refine lv_iload_n (pc := 54) hexec hb dX0_findBest_54 rfl (lv_at hl 2 rfl) ?_
        obtain ⟨j70, ej70, hf⟩ := bvf1 hf
        have hj70 : ∀ (t70 : Int32) (H : Heap) (locs : List Loc) (ls : Array Slot), j70 t70 = some q23 → va_P g.1 vwCl (w_X0_findBest g a0 a1 a2 a3 a4 a5 a6 a7 a8 a9 a10 a11 a12 a13 a14 a15 a16 u7_3 u7_4 u8_2 u8_5 u9_1 u9_3 u10_1 u10_3 p3 (-1) (-1) 0 y1_allowed_1 y2_best_3 y3_foes y4_namesLeft y5_redsLeft y6_trial_3 x8_rows x8_columns x9_count x10_count x10_turn y11_land y12_riverOf y13_home y14_length y15_letters y16_stops) H → va_D A (w_X0_findBest g a0 a1 a2 a3 a4 a5 a6 a7 a8 a9 a10 a11 a12 a13 a14 a15 a16 u7_3 u7_4 u8_2 u8_5 u9_1 u9_3 u10_1 u10_3 p3 (-1) (-1) 0 y1_allowed_1 y2_best_3 y3_foes y4_namesLeft y5_redsLeft y6_trial_3 x8_rows x8_columns x9_count x10_count x10_turn y11_land y12_riverOf y13_home y14_length y15_letters y16_stops) → va_S A s.heap H locs → lv_has ls 5 [(0, .ref a0), (1, .ref a7), (2, .int p2), (4, .int v4)] → W p l e (RM 15 408) s m args below meth c H locs 0 0 Q (F0 m 70 ls [.int t70, .int v4, .ref a1]) := by
          intro t70 H locs ls hf hP hD hS hl
          have hf := (ej70 t70).symm.trans hf
          refine kw_iast (pc := 70) hexec hb hG hP hD hS 1 rfl hf dX0_findBest_70 (fun y1_allowed_3 H locs hf (hP : va_P g.1 vwCl (w_X0_findBest g a0 a1 a2 a3 a4 a5 a6 a7 a8 a9 a10 a11 a12 a13 a14 a15 a16 u7_3 u7_4 u8_2 u8_5 u9_1 u9_3 u10_1 u10_3 p3 (-1) (-1) 0 y1_allowed_3 y2_best_3 y3_foes y4_namesLeft y5_redsLeft y6_trial_3 x8_rows x8_columns x9_count x10_count x10_turn y11_land y12_riverOf y13_home y14_length y15_letters y16_stops) H) (hD : va_D A (w_X0_findBest g a0 a1 a2 a3 a4 a5 a6 a7 a8 a9 a10 a11 a12 a13 a14 a15 a16 u7_3 u7_4 u8_2 u8_5 u9_1 u9_3 u10_1 u10_3 p3 (-1) (-1) 0 y1_allowed_3 y2_best_3 y3_foes y4_namesLeft y5_redsLeft y6_trial_3 x8_rows x8_columns x9_count x10_count x10_turn y11_land y12_riverOf y13_home y14_length y15_letters y16_stops)) hS => ?_)
          obtain ⟨v4_1, ev4_1, hf⟩ := bv_e hf
          refine k_iinc (pc := 71) hexec hb dX0_findBest_71 kq_1 hl (k := 3) rfl ev4_1 (nle rfl) rfl (fun ls (hl : lv_has ls 5 [(4, .int v4_1), (0, .ref a0), (1, .ref a7), (2, .int p2)]) => ?_)
          refine lv_goto (pc := 74) hexec hb dX0_findBest_74 (tgt := 23) rfl ?_
          exact ih23 _ _ _ _ _ _ _ (sl4 hf hk23) hP hD hS (lv_sub hl [1, 2, 3, 0] rfl)
        refine ki_ne (pc := 55) hexec hb dX0_findBest_55 (tgt := 62) rfl hf (fun hc hf => ?_) (fun hc hf => ?_)
        · refine lv_aload_n (pc := 62) hexec hb dX0_findBest_62 rfl (lv_at hl 0 rfl) ?_
          refine lv_aload_n (pc := 63) hexec hb dX0_findBest_63 rfl (lv_at hl 1 rfl) ?_
          refine lv_iload (pc := 64) hexec hb dX0_findBest_64 (lv_at hl 3 rfl) ?_
          refine lv_iload_n (pc := 66) hexec hb dX0_findBest_66 rfl (lv_at hl 2 rfl) ?_
          obtain ⟨r67, hc, hf⟩ := bd1_e hf
          refine kVp (pc := 67) (S := ⟨hexec, hb, hml, hown, hts⟩) hP hD hG hA hS [0, 7, 8, 9, 11, 12, 13, 14] [1, 2, 3, 4, 5, 6, 10, 15, 16] [9, 0, 1, 2, 3, 4, 5, 10, 11, 12, 6, 13, 14, 15, 16, 7, 8] (w2 := (w_X0_findBest g a0 a1 a2 a3 a4 a5 a6 a7 a8 a9 a10 a11 a12 a13 a14 a15 a16 u7_3 u7_4 u8_2 u8_5 u9_1 u9_3 u10_1 u10_3 p3 (-1) (-1) 0 y1_allowed_1 y2_best_3 y3_foes y4_namesLeft y5_redsLeft y6_trial_3 x8_rows x8_columns x9_count x10_count x10_turn y11_land y12_riverOf y13_home y14_length y15_letters y16_stops)) rfl rfl rfl rfl rfl rfl (by decide) (c_X0_groundWays l g a0 a7 a8 a9 a11 a12 a13 a14 _ (.int p3) (.int (-1)) (.int (-1)) (.int 0) (.ref a1) (.ref a3) (.ref a4) (.ref a5) (.ref a6) (.ref a2) (.ref a10) u7_3 u7_4 u8_2 u8_5 u9_1 u9_3 (.ref a15) x8_rows x8_columns x9_count y11_land y12_riverOf y13_home y14_length v4 p2 r67 hc) gX0_findBest_X0_groundWays rfl hv_X0_groundWays ⟨nle rfl, nle rfl⟩ 0 0 rfl rfl rfl (rest := [.int v4, .ref a1]) rfl rfl hl.1 (nle rfl) dX0_findBest_67 (fun H locs hP hD hS => ?_)
          exact hj70 _ _ _ _ hf hP hD hS (lv_sub hl [0, 1, 2, 3] rfl)
        · refine lv_iconst (pc := 58) hexec hb dX0_findBest_58 ki_0 ?_
          refine lv_goto (pc := 59) hexec hb dX0_findBest_59 (tgt := 70) rfl ?_
          exact hj70 _ _ _ _ hf hP hD hS (lv_sub hl [0, 1, 2, 3] rfl)
  exact hL23 n _ _ _ _ _ _ _ hz hP hD hS (lv_sub hl [1, 2, 3, 0] rfl)
abbrev w_X0_bestDirection (g : GE) (a0 a1 : Nat) (u0_0 u0_1 u0_2 u0_3 u0_4 u0_5 u0_6 u0_7 u0_8 : Value) (y1_best : Nat → Int32) : va_W := [(a0, .inr (0, [u0_0, u0_1, u0_2, u0_3, u0_4, u0_5, u0_6, u0_7, u0_8, .ref a1])), (a1, .inl (g.2.1 0, 8, .inl y1_best))]
set_option maxRecDepth 20000 in
theorem c_X0_bestDirection (l : Launch) (g : GE) (a0 a1 : Nat) (sz : Nat) (u0_0 u0_1 u0_2 u0_3 u0_4 u0_5 u0_6 u0_7 u0_8 : Value) (y1_best : Nat → Int32) (p1 : Int32)  (r : Int32) (hf : f_X0_bestDirection y1_best p1 = some r) : MI l g yX0_bestDirection wsX0_bestDirection 1 24 [.ref a0, .int p1] (w_X0_bestDirection g a0 a1 u0_0 u0_1 u0_2 u0_3 u0_4 u0_5 u0_6 u0_7 u0_8 y1_best) sz (some (.int r)) (w_X0_bestDirection g a0 a1 u0_0 u0_1 u0_2 u0_3 u0_4 u0_5 u0_6 u0_7 u0_8 y1_best) := by
  refine MI.start (cc := cX0_bestDirection) (maxL := 2) (ret := (some .int)) rfl rfl (nle rfl) ?_
  intro p e s m args below meth c A ls Q hQ hexec hb hr hts hown hlocks hml hA hP hD hG hS hl
  unfold f_X0_bestDirection at hf
  have hWX0 : ∀ w ∈ wsX00, w.before args s = true := fun w h => hts w (List.mem_cons_of_mem _ (List.mem_append_right _ h))
  have hS : va_S A s.heap s.heap [] := hS
  refine lv_iload_n (pc := 0) hexec hb dX0_bestDirection_0 rfl (lv_at hl 1 rfl) ?_
  obtain ⟨j19, ej19, hf⟩ := bvf1 hf
  have hj19 : ∀ (u : Unit) (H : Heap) (locs : List Loc) (ls : Array Slot), j19 u = some r → va_P g.1 vwCl (w_X0_bestDirection g a0 a1 u0_0 u0_1 u0_2 u0_3 u0_4 u0_5 u0_6 u0_7 u0_8 y1_best) H → va_D A (w_X0_bestDirection g a0 a1 u0_0 u0_1 u0_2 u0_3 u0_4 u0_5 u0_6 u0_7 u0_8 y1_best) → va_S A s.heap H locs → lv_has ls 2 [] → W p l e (RM 1 24) s m args below meth c H locs 0 0 Q (F0 m 19 ls []) := by
    intro u H locs ls hf hP hD hS hl
    have hf := (ej19 u).symm.trans hf
    refine lv_iconst (pc := 19) hexec hb dX0_bestDirection_19 ki_m1 ?_
    cases hf
    exact ke_i hQ hexec hb hr hP hD hS dX0_bestDirection_20 hlocks
  refine kb_lt (pc := 1) hexec hb dX0_bestDirection_1 (tgt := 19) rfl hf (fun hc hf => ?_) (fun hc hf => ?_)
  · exact hj19 _ _ _ _ hf hP hD hS (lv_sub hl [] rfl)
  · refine lv_iload_n (pc := 4) hexec hb dX0_bestDirection_4 rfl (lv_at hl 1 rfl) ?_
    refine lv_bipush (pc := 5) hexec hb dX0_bestDirection_5 kb_8 ?_
    refine ki_ge (pc := 7) hexec hb dX0_bestDirection_7 (tgt := 19) rfl hf (fun hc hf => ?_) (fun hc hf => ?_)
    · exact hj19 _ _ _ _ hf hP hD hS (lv_sub hl [] rfl)
    · refine lv_aload_n (pc := 10) hexec hb dX0_bestDirection_10 rfl (lv_at hl 0 rfl) ?_
      refine kg_get (pc := 11) hexec hb (own := RX0) hWX0 hown hG hP 0 rfl rfl 9 (nle rfl) (hts _ (List.mem_cons_of_mem _ (List.mem_append_left _ (List.mem_of_getElem? (i := 0) rfl)))) rfl rfl dX0_bestDirection_11 ?_
      refine lv_iload_n (pc := 14) hexec hb dX0_bestDirection_14 rfl (lv_at hl 1 rfl) ?_
      refine kr_iald (pc := 15) hexec hb hG hP 1 rfl hf dX0_bestDirection_15 (fun hf => ?_)
      refine lv_goto (pc := 16) hexec hb dX0_bestDirection_16 (tgt := 20) rfl ?_
      cases hf
      exact ke_i hQ hexec hb hr hP hD hS dX0_bestDirection_20 hlocks
