abbrev w_X6_crossedBy (g : GE) (a0 a1 a2 a3 a4 a5 a6 : Nat) (u0_2 u0_4 u1_2 u1_3 u1_4 u1_5 u2_1 u2_5 : Value) (x1_rows : Int32) (x1_columns : Int32) (x2_count : Int32) (y3_namesOn : Nat → Int32) (y4_direction : Nat → Int32) (y5_home : Nat → Int32) (y6_length : Nat → Int32) : va_W := [(a0, .inr (6, [.ref a1, .ref a2, u0_2, .ref a3, u0_4])), (a1, .inr (1, [.int x1_rows, .int x1_columns, u1_2, u1_3, u1_4, u1_5])), (a2, .inr (2, [.int x2_count, u2_1, .ref a5, .ref a4, .ref a6, u2_5])), (a3, .inl (g.2.1 0, 144, .inl y3_namesOn)), (a4, .inl (g.2.1 0, 8, .inl y4_direction)), (a5, .inl (g.2.1 0, 8, .inl y5_home)), (a6, .inl (g.2.1 0, 8, .inl y6_length))]
set_option maxRecDepth 20000 in
theorem c_X6_crossedBy (l : Launch) (g : GE) (a0 a1 a2 a3 a4 a5 a6 : Nat) (sz : Nat) (u0_2 u0_4 u1_2 u1_3 u1_4 u1_5 u2_1 u2_5 : Value) (x1_rows : Int32) (x1_columns : Int32) (x2_count : Int32) (y3_namesOn : Nat → Int32) (y4_direction : Nat → Int32) (y5_home : Nat → Int32) (y6_length : Nat → Int32) (p1 : Int32)  (r : Int32) (hf : f_X6_crossedBy x1_rows x1_columns x2_count y3_namesOn y4_direction y5_home y6_length p1 = some r) : MI l g yX6_crossedBy wsX6_crossedBy 2 50 [.ref a0, .int p1] (w_X6_crossedBy g a0 a1 a2 a3 a4 a5 a6 u0_2 u0_4 u1_2 u1_3 u1_4 u1_5 u2_1 u2_5 x1_rows x1_columns x2_count y3_namesOn y4_direction y5_home y6_length) sz (some (.int r)) (w_X6_crossedBy g a0 a1 a2 a3 a4 a5 a6 u0_2 u0_4 u1_2 u1_3 u1_4 u1_5 u2_1 u2_5 x1_rows x1_columns x2_count y3_namesOn y4_direction y5_home y6_length) := by
  refine MI.start (cc := cX6_crossedBy) (maxL := 6) (ret := (some .int)) rfl rfl (nle rfl) ?_
  intro p e s m args below meth c A ls Q hQ hexec hb hr hts hown hlocks hml hA hP hD hG hS hl
  unfold f_X6_crossedBy at hf
  have hWX1 : ∀ w ∈ wsX10, w.before args s = true := fun w h => hts w (List.mem_cons_of_mem _ (List.mem_append_right _ h))
  have hWX2 : ∀ w ∈ wsX20, w.before args s = true := fun w h => hts w (List.mem_cons_of_mem _ (List.mem_append_left _ (List.mem_append_right _ h)))
  have hWX6 : ∀ w ∈ wsX60, w.before args s = true := fun w h => hts w (List.mem_cons_of_mem _ (List.mem_append_left _ (List.mem_append_left _ (List.mem_append_right _ h))))
  have hS : va_S A s.heap s.heap [] := hS
  refine lv_aload_n (pc := 0) hexec hb dX6_crossedBy_0 rfl (lv_at hl 0 rfl) ?_
  refine kg_get (pc := 1) hexec hb (own := RX6) hWX6 hown hG hP 0 rfl rfl 1 (nle rfl) (hts _ (List.mem_cons_of_mem _ (List.mem_append_left _ (List.mem_append_left _ (List.mem_append_left _ (List.mem_append_left _ (List.mem_of_getElem? (i := 0) rfl))))))) rfl rfl dX6_crossedBy_1 ?_
  refine lv_iload_n (pc := 4) hexec hb dX6_crossedBy_4 rfl (lv_at hl 1 rfl) ?_
  obtain ⟨r5, hc, hf⟩ := bd1_e hf
  refine kVp (pc := 5) (S := ⟨hexec, hb, hml, hown, hts⟩) hP hD hG hA hS [2, 5] [0, 1, 3, 4, 6] [0, 1, 5, 2, 3, 6, 4] (w2 := (w_X6_crossedBy g a0 a1 a2 a3 a4 a5 a6 u0_2 u0_4 u1_2 u1_3 u1_4 u1_5 u2_1 u2_5 x1_rows x1_columns x2_count y3_namesOn y4_direction y5_home y6_length)) rfl rfl rfl rfl rfl rfl (by decide) (c_X2_homeOf l g a2 a5 _ u2_1 (.ref a4) (.ref a6) u2_5 x2_count y5_home p1 r5 hc) gX6_crossedBy_X2_homeOf rfl hv_X2_homeOf ⟨nle rfl, nle rfl⟩ 2 0 rfl rfl rfl (rest := []) rfl rfl hl.1 (nle rfl) dX6_crossedBy_5 (fun H locs hP hD hS => ?_)
  refine lv_istore_n (pc := 8) hexec hb dX6_crossedBy_8 rfl hl (nle rfl) rfl (fun ls (hl : lv_has ls 6 [(2, .int r5), (0, .ref a0), (1, .int p1)]) => ?_)
  refine lv_aload_n (pc := 9) hexec hb dX6_crossedBy_9 rfl (lv_at hl 1 rfl) ?_
  refine kg_get (pc := 10) hexec hb (own := RX6) hWX6 hown hG hP 0 rfl rfl 1 (nle rfl) (hts _ (List.mem_cons_of_mem _ (List.mem_append_left _ (List.mem_append_left _ (List.mem_append_left _ (List.mem_append_left _ (List.mem_of_getElem? (i := 0) rfl))))))) rfl rfl dX6_crossedBy_10 ?_
  refine lv_iload_n (pc := 13) hexec hb dX6_crossedBy_13 rfl (lv_at hl 2 rfl) ?_
  obtain ⟨r14, hc, hf⟩ := bd1_e hf
  refine kVp (pc := 14) (S := ⟨hexec, hb, hml, hown, hts⟩) hP hD hG hA hS [2, 4] [0, 1, 3, 5, 6] [0, 1, 5, 2, 6, 3, 4] (w2 := (w_X6_crossedBy g a0 a1 a2 a3 a4 a5 a6 u0_2 u0_4 u1_2 u1_3 u1_4 u1_5 u2_1 u2_5 x1_rows x1_columns x2_count y3_namesOn y4_direction y5_home y6_length)) rfl rfl rfl rfl rfl rfl (by decide) (c_X2_directionOf l g a2 a4 _ u2_1 (.ref a5) (.ref a6) u2_5 x2_count y4_direction p1 r14 hc) gX6_crossedBy_X2_directionOf rfl hv_X2_directionOf ⟨nle rfl, nle rfl⟩ 2 0 rfl rfl rfl (rest := []) rfl rfl hl.1 (nle rfl) dX6_crossedBy_14 (fun H locs hP hD hS => ?_)
  refine lv_istore_n (pc := 17) hexec hb dX6_crossedBy_17 rfl hl (nle rfl) rfl (fun ls (hl : lv_has ls 6 [(3, .int r14), (2, .int r5), (0, .ref a0), (1, .int p1)]) => ?_)
  refine lv_iconst (pc := 18) hexec hb dX6_crossedBy_18 ki_0 ?_
  refine lv_istore (pc := 19) hexec hb dX6_crossedBy_19 hl (nle rfl) rfl (fun ls (hl : lv_has ls 6 [(4, .int 0), (3, .int r14), (2, .int r5), (0, .ref a0), (1, .int p1)]) => ?_)
  refine lv_iconst (pc := 21) hexec hb dX6_crossedBy_21 ki_0 ?_
  refine lv_istore (pc := 22) hexec hb dX6_crossedBy_22 hl (nle rfl) rfl (fun ls (hl : lv_has ls 6 [(5, .int 0), (4, .int 0), (3, .int r14), (2, .int r5), (0, .ref a0), (1, .int p1)]) => ?_)
  obtain ⟨l24, el24, hf⟩ := bvf2 hf
  obtain ⟨v4_1, hz, hf⟩ := bd1_e hf
  have hE24 : ∀ (H : Heap) (locs : List Loc) (ls : Array Slot), va_P g.1 vwCl (w_X6_crossedBy g a0 a1 a2 a3 a4 a5 a6 u0_2 u0_4 u1_2 u1_3 u1_4 u1_5 u2_1 u2_5 x1_rows x1_columns x2_count y3_namesOn y4_direction y5_home y6_length) H → va_D A (w_X6_crossedBy g a0 a1 a2 a3 a4 a5 a6 u0_2 u0_4 u1_2 u1_3 u1_4 u1_5 u2_1 u2_5 x1_rows x1_columns x2_count y3_namesOn y4_direction y5_home y6_length) → va_S A s.heap H locs → lv_has ls 6 [(1, .int p1), (4, .int v4_1)] → W p l e (RM 2 50) s m args below meth c H locs 0 0 Q (F0 m 70 ls []) := by
    intro H locs ls hP hD hS hl
    refine lv_iload (pc := 70) hexec hb dX6_crossedBy_70 (lv_at hl 1 rfl) ?_
    refine lv_iconst (pc := 72) hexec hb dX6_crossedBy_72 ki_1 ?_
    refine lv_iload_n (pc := 73) hexec hb dX6_crossedBy_73 rfl (lv_at hl 0 rfl) ?_
    refine lv_ishl (pc := 74) hexec hb dX6_crossedBy_74 ?_
    refine lv_iconst (pc := 75) hexec hb dX6_crossedBy_75 ki_m1 ?_
    refine lv_ixor (pc := 76) hexec hb dX6_crossedBy_76 ?_
    refine lv_iand (pc := 77) hexec hb dX6_crossedBy_77 ?_
    cases hf
    exact ke_i hQ hexec hb hr hP hD hS dX6_crossedBy_78 hlocks
  obtain ⟨n, hz⟩ := lq2_e hz
  have hL24 : ∀ (n : Nat) (v4 : Int32) (v5 : Int32) (H : Heap) (locs : List Loc) (ls : Array Slot), it2 l24 n v4 v5 = some v4_1 → va_P g.1 vwCl (w_X6_crossedBy g a0 a1 a2 a3 a4 a5 a6 u0_2 u0_4 u1_2 u1_3 u1_4 u1_5 u2_1 u2_5 x1_rows x1_columns x2_count y3_namesOn y4_direction y5_home y6_length) H → va_D A (w_X6_crossedBy g a0 a1 a2 a3 a4 a5 a6 u0_2 u0_4 u1_2 u1_3 u1_4 u1_5 u2_1 u2_5 x1_rows x1_columns x2_count y3_namesOn y4_direction y5_home y6_length) → va_S A s.heap H locs → lv_has ls 6 [(0, .ref a0), (1, .int p1), (2, .int r5), (3, .int r14), (4, .int v4), (5, .int v5)] → W p l e (RM 2 50) s m args below meth c H locs 0 0 Q (F0 m 24 ls []) := by
    intro n
    induction n with
    | zero =>
      intro v4 v5 H locs ls hf hP hD hS hl
      exact it2_0 hf
    | succ n24 ih24 =>
      intro v4 v5 H locs ls hf hP hD hS hl
      obtain ⟨q24, hf, hk24⟩ := it2_e hf
      have hf := (el24 v4 v5).symm.trans hf
      refine lv_iload (pc := 24) hexec hb dX6_crossedBy_24 (lv_at hl 5 rfl) ?_
      refine lv_aload_n (pc := 26) hexec hb dX6_crossedBy_26 rfl (lv_at hl 0 rfl) ?_
      refine kg_get (pc := 27) hexec hb (own := RX6) hWX6 hown hG hP 0 rfl rfl 1 (nle rfl) (hts _ (List.mem_cons_of_mem _ (List.mem_append_left _ (List.mem_append_left _ (List.mem_append_left _ (List.mem_append_left _ (List.mem_of_getElem? (i := 0) rfl))))))) rfl rfl dX6_crossedBy_27 ?_
      refine lv_iload_n (pc := 30) hexec hb dX6_crossedBy_30 rfl (lv_at hl 1 rfl) ?_
      obtain ⟨r31, hc, hf⟩ := bd1_e hf
      refine kVp (pc := 31) (S := ⟨hexec, hb, hml, hown, hts⟩) hP hD hG hA hS [2, 6] [0, 1, 3, 4, 5] [0, 1, 5, 2, 3, 4, 6] (w2 := (w_X6_crossedBy g a0 a1 a2 a3 a4 a5 a6 u0_2 u0_4 u1_2 u1_3 u1_4 u1_5 u2_1 u2_5 x1_rows x1_columns x2_count y3_namesOn y4_direction y5_home y6_length)) rfl rfl rfl rfl rfl rfl (by decide) (c_X2_lengthOf l g a2 a6 _ u2_1 (.ref a5) (.ref a4) u2_5 x2_count y6_length p1 r31 hc) gX6_crossedBy_X2_lengthOf rfl hv_X2_lengthOf ⟨nle rfl, nle rfl⟩ 2 0 rfl rfl rfl (rest := [.int v5]) rfl rfl hl.1 (nle rfl) dX6_crossedBy_31 (fun H locs hP hD hS => ?_)
      refine ki_ge (pc := 34) hexec hb dX6_crossedBy_34 (tgt := 70) rfl hf (fun hc hf => ?_) (fun hc hf => ?_)
      · cases sr2 hf hk24
        exact hE24 _ _ _ hP hD hS (lv_sub hl [1, 4] rfl)
      · refine lv_iload_n (pc := 37) hexec hb dX6_crossedBy_37 rfl (lv_at hl 3 rfl) ?_
        refine lv_iconst (pc := 38) hexec hb dX6_crossedBy_38 ki_m1 ?_
        refine ki_eq (pc := 39) hexec hb dX6_crossedBy_39 (tgt := 70) rfl hf (fun hc hf => ?_) (fun hc hf => ?_)
        · cases sr2 hf hk24
          exact hE24 _ _ _ hP hD hS (lv_sub hl [1, 4] rfl)
        · refine lv_iload (pc := 42) hexec hb dX6_crossedBy_42 (lv_at hl 4 rfl) ?_
          refine lv_aload_n (pc := 44) hexec hb dX6_crossedBy_44 rfl (lv_at hl 0 rfl) ?_
          refine lv_aload_n (pc := 45) hexec hb dX6_crossedBy_45 rfl (lv_at hl 0 rfl) ?_
          refine kg_get (pc := 46) hexec hb (own := RX6) hWX6 hown hG hP 0 rfl rfl 0 (nle rfl) (hts _ (List.mem_cons_of_mem _ (List.mem_append_left _ (List.mem_append_left _ (List.mem_append_left _ (List.mem_append_left _ (List.mem_of_getElem? (i := 1) rfl))))))) rfl rfl dX6_crossedBy_46 ?_
          refine lv_iload_n (pc := 49) hexec hb dX6_crossedBy_49 rfl (lv_at hl 2 rfl) ?_
          refine lv_iload_n (pc := 50) hexec hb dX6_crossedBy_50 rfl (lv_at hl 3 rfl) ?_
          refine lv_iload (pc := 51) hexec hb dX6_crossedBy_51 (lv_at hl 5 rfl) ?_
          refine lv_iconst (pc := 53) hexec hb dX6_crossedBy_53 ki_1 ?_
          refine lv_iadd (pc := 54) hexec hb dX6_crossedBy_54 ?_
          obtain ⟨r55, hc, hf⟩ := bd1_e hf
          refine kVp (pc := 55) (S := ⟨hexec, hb, hml, hown, hts⟩) hP hD hG hA hS [1] [0, 2, 3, 4, 5, 6] [0, 6, 1, 2, 3, 4, 5] (w2 := (w_X6_crossedBy g a0 a1 a2 a3 a4 a5 a6 u0_2 u0_4 u1_2 u1_3 u1_4 u1_5 u2_1 u2_5 x1_rows x1_columns x2_count y3_namesOn y4_direction y5_home y6_length)) rfl rfl rfl rfl rfl rfl (by decide) (c_X1_ahead l g a1 _ u1_2 u1_3 u1_4 u1_5 x1_rows x1_columns r5 r14 (v5 + 1) r55 hc) gX6_crossedBy_X1_ahead rfl hv_X1_ahead ⟨nle rfl, nle rfl⟩ 1 0 rfl rfl rfl (rest := [.ref a0, .int v4]) rfl rfl hl.1 (nle rfl) dX6_crossedBy_55 (fun H locs hP hD hS => ?_)
          obtain ⟨r58, hc, hf⟩ := bd1_e hf
          refine kVp (pc := 58) (S := ⟨hexec, hb, hml, hown, hts⟩) hP hD hG hA hS [0, 3] [1, 2, 4, 5, 6] [5, 0, 1, 6, 2, 3, 4] (w2 := (w_X6_crossedBy g a0 a1 a2 a3 a4 a5 a6 u0_2 u0_4 u1_2 u1_3 u1_4 u1_5 u2_1 u2_5 x1_rows x1_columns x2_count y3_namesOn y4_direction y5_home y6_length)) rfl rfl rfl rfl rfl rfl (by decide) (c_X6_namesIn l g a0 a3 _ (.ref a1) (.ref a2) u0_2 u0_4 y3_namesOn r55 r58 hc) gX6_crossedBy_X6_namesIn rfl hv_X6_namesIn ⟨nle rfl, nle rfl⟩ 6 0 rfl rfl rfl (rest := [.int v4]) rfl rfl hl.1 (nle rfl) dX6_crossedBy_58 (fun H locs hP hD hS => ?_)
          refine lv_ior (pc := 61) hexec hb dX6_crossedBy_61 ?_
          obtain ⟨v4_2, ev4_2, hf⟩ := bv_e hf
          refine kn_i ev4_2 ?_
          refine lv_istore (pc := 62) hexec hb dX6_crossedBy_62 hl (nle rfl) rfl (fun ls (hl : lv_has ls 6 [(4, .int v4_2), (0, .ref a0), (1, .int p1), (2, .int r5), (3, .int r14), (5, .int v5)]) => ?_)
          obtain ⟨v5_1, ev5_1, hf⟩ := bv_e hf
          refine k_iinc (pc := 64) hexec hb dX6_crossedBy_64 kq_1 hl (k := 5) rfl ev5_1 (nle rfl) rfl (fun ls (hl : lv_has ls 6 [(5, .int v5_1), (4, .int v4_2), (0, .ref a0), (1, .int p1), (2, .int r5), (3, .int r14)]) => ?_)
          refine lv_goto (pc := 67) hexec hb dX6_crossedBy_67 (tgt := 24) rfl ?_
          exact ih24 _ _ _ _ _ (sl2 hf hk24) hP hD hS (lv_sub hl [2, 3, 4, 5, 1, 0] rfl)
  exact hL24 n _ _ _ _ _ hz hP hD hS (lv_sub hl [4, 5, 3, 2, 1, 0] rfl)
abbrev w_X6_turningNow (g : GE) (a0 a1 a2 a3 a4 : Nat) (u0_0 u0_3 u0_4 u1_0 u1_1 u1_2 u1_4 u1_5 u2_1 u2_2 u2_3 : Value) (x2_count : Int32) (y3_direction : Nat → Int32) (y4_stops : Nat → Int32) : va_W := [(a0, .inr (6, [u0_0, .ref a1, .ref a2, u0_3, u0_4])), (a1, .inr (2, [u1_0, u1_1, u1_2, .ref a3, u1_4, u1_5])), (a2, .inr (4, [.int x2_count, u2_1, u2_2, u2_3, .ref a4])), (a3, .inl (g.2.1 0, 8, .inl y3_direction)), (a4, .inl (g.2.1 0, 16, .inl y4_stops))]
set_option maxRecDepth 20000 in
theorem c_X6_turningNow (l : Launch) (g : GE) (a0 a1 a2 a3 a4 : Nat) (sz : Nat) (u0_0 u0_3 u0_4 u1_0 u1_1 u1_2 u1_4 u1_5 u2_1 u2_2 u2_3 : Value) (x2_count : Int32) (y3_direction : Nat → Int32) (y4_stops : Nat → Int32) (p1 : Int32)  (r : Int32) (hf : f_X6_turningNow x2_count y3_direction y4_stops p1 = some r) : MI l g yX6_turningNow wsX6_turningNow 3 73 [.ref a0, .int p1] (w_X6_turningNow g a0 a1 a2 a3 a4 u0_0 u0_3 u0_4 u1_0 u1_1 u1_2 u1_4 u1_5 u2_1 u2_2 u2_3 x2_count y3_direction y4_stops) sz (some (.int r)) (w_X6_turningNow g a0 a1 a2 a3 a4 u0_0 u0_3 u0_4 u1_0 u1_1 u1_2 u1_4 u1_5 u2_1 u2_2 u2_3 x2_count y3_direction y4_stops) := by
  refine MI.start (cc := cX6_turningNow) (maxL := 2) (ret := (some .int)) rfl rfl (nle rfl) ?_
  intro p e s m args below meth c A ls Q hQ hexec hb hr hts hown hlocks hml hA hP hD hG hS hl
  unfold f_X6_turningNow at hf
  have hWX2 : ∀ w ∈ wsX20, w.before args s = true := fun w h => hts w (List.mem_cons_of_mem _ (List.mem_append_left _ (List.mem_append_right _ h)))
  have hWX4 : ∀ w ∈ wsX40, w.before args s = true := fun w h => hts w (List.mem_cons_of_mem _ (List.mem_append_right _ h))
  have hWX6 : ∀ w ∈ wsX60, w.before args s = true := fun w h => hts w (List.mem_cons_of_mem _ (List.mem_append_left _ (List.mem_append_left _ (List.mem_append_right _ h))))
  have hS : va_S A s.heap s.heap [] := hS
  refine lv_aload_n (pc := 0) hexec hb dX6_turningNow_0 rfl (lv_at hl 0 rfl) ?_
  refine kg_get (pc := 1) hexec hb (own := RX6) hWX6 hown hG hP 0 rfl rfl 2 (nle rfl) (hts _ (List.mem_cons_of_mem _ (List.mem_append_left _ (List.mem_append_left _ (List.mem_append_left _ (List.mem_append_left _ (List.mem_of_getElem? (i := 0) rfl))))))) rfl rfl dX6_turningNow_1 ?_
  refine lv_aload_n (pc := 4) hexec hb dX6_turningNow_4 rfl (lv_at hl 0 rfl) ?_
  refine kg_get (pc := 5) hexec hb (own := RX6) hWX6 hown hG hP 0 rfl rfl 1 (nle rfl) (hts _ (List.mem_cons_of_mem _ (List.mem_append_left _ (List.mem_append_left _ (List.mem_append_left _ (List.mem_append_left _ (List.mem_of_getElem? (i := 1) rfl))))))) rfl rfl dX6_turningNow_5 ?_
  refine kg_getN (pc := 8) hexec hb (own := RX6) hWX2 hown hG hP 1 rfl rfl 3 (nle rfl) 13 rfl rfl rfl dX6_turningNow_8 ?_
  refine lv_iload_n (pc := 11) hexec hb dX6_turningNow_11 rfl (lv_at hl 1 rfl) ?_
  obtain ⟨r12, hc, hf⟩ := bd1_e hf
  refine kVp (pc := 12) (S := ⟨hexec, hb, hml, hown, hts⟩) hP hD hG hA hS [2, 4, 3] [0, 1] [0, 1, 2, 4, 3] (w2 := (w_X6_turningNow g a0 a1 a2 a3 a4 u0_0 u0_3 u0_4 u1_0 u1_1 u1_2 u1_4 u1_5 u2_1 u2_2 u2_3 x2_count y3_direction y4_stops)) rfl rfl rfl rfl rfl rfl (by decide) (c_X4_turningBy l g a2 a4 a3 _ u2_1 u2_2 u2_3 x2_count y4_stops y3_direction p1 r12 hc) gX6_turningNow_X4_turningBy rfl hv_X4_turningBy ⟨nle rfl, nle rfl⟩ 4 0 rfl rfl rfl (rest := []) rfl rfl hl.1 (nle rfl) dX6_turningNow_12 (fun H locs hP hD hS => ?_)
  cases hf
  exact ke_i hQ hexec hb hr hP hD hS dX6_turningNow_15 hlocks
abbrev w_X6_shutsHarbour (g : GE) (a0 a1 a2 a3 a4 : Nat) (u0_2 u0_3 u0_4 u1_2 u1_4 u1_5 u2_1 u2_3 u2_4 u2_5 : Value) (x1_rows : Int32) (x1_columns : Int32) (x2_count : Int32) (y3_land : Nat → Int32) (y4_home : Nat → Int32) : va_W := [(a0, .inr (6, [.ref a1, .ref a2, u0_2, u0_3, u0_4])), (a1, .inr (1, [.int x1_rows, .int x1_columns, u1_2, .ref a3, u1_4, u1_5])), (a2, .inr (2, [.int x2_count, u2_1, .ref a4, u2_3, u2_4, u2_5])), (a3, .inl (g.2.1 1, 144, .inl y3_land)), (a4, .inl (g.2.1 0, 8, .inl y4_home))]
set_option maxRecDepth 20000 in
theorem c_X6_shutsHarbour (l : Launch) (g : GE) (a0 a1 a2 a3 a4 : Nat) (sz : Nat) (u0_2 u0_3 u0_4 u1_2 u1_4 u1_5 u2_1 u2_3 u2_4 u2_5 : Value) (x1_rows : Int32) (x1_columns : Int32) (x2_count : Int32) (y3_land : Nat → Int32) (y4_home : Nat → Int32) (p1 : Int32)  (r : Int32) (hf : f_X6_shutsHarbour x1_rows x1_columns x2_count y3_land y4_home p1 = some r) : MI l g yX6_shutsHarbour wsX6_shutsHarbour 3 74 [.ref a0, .int p1] (w_X6_shutsHarbour g a0 a1 a2 a3 a4 u0_2 u0_3 u0_4 u1_2 u1_4 u1_5 u2_1 u2_3 u2_4 u2_5 x1_rows x1_columns x2_count y3_land y4_home) sz (some (.int r)) (w_X6_shutsHarbour g a0 a1 a2 a3 a4 u0_2 u0_3 u0_4 u1_2 u1_4 u1_5 u2_1 u2_3 u2_4 u2_5 x1_rows x1_columns x2_count y3_land y4_home) := by
  refine MI.start (cc := cX6_shutsHarbour) (maxL := 3) (ret := (some .boolean)) rfl rfl (nle rfl) ?_
  intro p e s m args below meth c A ls Q hQ hexec hb hr hts hown hlocks hml hA hP hD hG hS hl
  unfold f_X6_shutsHarbour at hf
  have hWX1 : ∀ w ∈ wsX10, w.before args s = true := fun w h => hts w (List.mem_cons_of_mem _ (List.mem_append_right _ h))
  have hWX2 : ∀ w ∈ wsX20, w.before args s = true := fun w h => hts w (List.mem_cons_of_mem _ (List.mem_append_left _ (List.mem_append_right _ h)))
  have hWX6 : ∀ w ∈ wsX60, w.before args s = true := fun w h => hts w (List.mem_cons_of_mem _ (List.mem_append_left _ (List.mem_append_left _ (List.mem_append_right _ h))))
  have hS : va_S A s.heap s.heap [] := hS
  refine lv_iconst (pc := 0) hexec hb dX6_shutsHarbour_0 ki_0 ?_
  refine lv_istore_n (pc := 1) hexec hb dX6_shutsHarbour_1 rfl hl (nle rfl) rfl (fun ls (hl : lv_has ls 3 [(2, .int 0), (0, .ref a0), (1, .int p1)]) => ?_)
  obtain ⟨l2, el2, hf⟩ := bvf1 hf
  obtain ⟨n, hz⟩ := lq1_e hf
  have hL2 : ∀ (n : Nat) (v2 : Int32) (H : Heap) (locs : List Loc) (ls : Array Slot), it1 l2 n v2 = some r → va_P g.1 vwCl (w_X6_shutsHarbour g a0 a1 a2 a3 a4 u0_2 u0_3 u0_4 u1_2 u1_4 u1_5 u2_1 u2_3 u2_4 u2_5 x1_rows x1_columns x2_count y3_land y4_home) H → va_D A (w_X6_shutsHarbour g a0 a1 a2 a3 a4 u0_2 u0_3 u0_4 u1_2 u1_4 u1_5 u2_1 u2_3 u2_4 u2_5 x1_rows x1_columns x2_count y3_land y4_home) → va_S A s.heap H locs → lv_has ls 3 [(0, .ref a0), (1, .int p1), (2, .int v2)] → W p l e (RM 3 74) s m args below meth c H locs 0 0 Q (F0 m 2 ls []) := by
    intro n
    induction n with
    | zero =>
      intro v2 H locs ls hf hP hD hS hl
      exact it1_0 hf
    | succ n2 ih2 =>
      intro v2 H locs ls hf hP hD hS hl
      obtain ⟨q2, hf, hk2⟩ := it1_e hf
      have hf := (el2 v2).symm.trans hf
      refine lv_iload_n (pc := 2) hexec hb dX6_shutsHarbour_2 rfl (lv_at hl 2 rfl) ?_
      refine lv_aload_n (pc := 3) hexec hb dX6_shutsHarbour_3 rfl (lv_at hl 0 rfl) ?_
      refine kg_get (pc := 4) hexec hb (own := RX6) hWX6 hown hG hP 0 rfl rfl 1 (nle rfl) (hts _ (List.mem_cons_of_mem _ (List.mem_append_left _ (List.mem_append_left _ (List.mem_append_left _ (List.mem_append_left _ (List.mem_of_getElem? (i := 0) rfl))))))) rfl rfl dX6_shutsHarbour_4 ?_
      refine kg_getN (pc := 7) hexec hb (own := RX6) hWX2 hown hG hP 2 rfl rfl 0 (nle rfl) 8 rfl rfl rfl dX6_shutsHarbour_7 ?_
      refine ki_ge (pc := 10) hexec hb dX6_shutsHarbour_10 (tgt := 40) rfl hf (fun hc hf => ?_) (fun hc hf => ?_)
      · have hf := mk1 hf hk2
        refine lv_iconst (pc := 40) hexec hb dX6_shutsHarbour_40 ki_0 ?_
        cases hf
        exact ke_z hQ hexec hb hr (.inl rfl) hP hD hS dX6_shutsHarbour_41 hlocks
      · refine lv_aload_n (pc := 13) hexec hb dX6_shutsHarbour_13 rfl (lv_at hl 0 rfl) ?_
        refine kg_get (pc := 14) hexec hb (own := RX6) hWX6 hown hG hP 0 rfl rfl 0 (nle rfl) (hts _ (List.mem_cons_of_mem _ (List.mem_append_left _ (List.mem_append_left _ (List.mem_append_left _ (List.mem_append_left _ (List.mem_of_getElem? (i := 1) rfl))))))) rfl rfl dX6_shutsHarbour_14 ?_
        refine lv_aload_n (pc := 17) hexec hb dX6_shutsHarbour_17 rfl (lv_at hl 0 rfl) ?_
        refine kg_get (pc := 18) hexec hb (own := RX6) hWX6 hown hG hP 0 rfl rfl 1 (nle rfl) (hts _ (List.mem_cons_of_mem _ (List.mem_append_left _ (List.mem_append_left _ (List.mem_append_left _ (List.mem_append_left _ (List.mem_of_getElem? (i := 0) rfl))))))) rfl rfl dX6_shutsHarbour_18 ?_
        refine lv_iload_n (pc := 21) hexec hb dX6_shutsHarbour_21 rfl (lv_at hl 2 rfl) ?_
        obtain ⟨r22, hc, hf⟩ := bd1_e hf
        refine kVp (pc := 22) (S := ⟨hexec, hb, hml, hown, hts⟩) hP hD hG hA hS [2, 4] [0, 1, 3] [0, 1, 3, 2, 4] (w2 := (w_X6_shutsHarbour g a0 a1 a2 a3 a4 u0_2 u0_3 u0_4 u1_2 u1_4 u1_5 u2_1 u2_3 u2_4 u2_5 x1_rows x1_columns x2_count y3_land y4_home)) rfl rfl rfl rfl rfl rfl (by decide) (c_X2_homeOf l g a2 a4 _ u2_1 u2_3 u2_4 u2_5 x2_count y4_home v2 r22 hc) gX6_shutsHarbour_X2_homeOf rfl hv_X2_homeOf ⟨nle rfl, nle rfl⟩ 2 0 rfl rfl rfl (rest := [.ref a1]) rfl rfl hl.1 (nle rfl) dX6_shutsHarbour_22 (fun H locs hP hD hS => ?_)
        refine lv_iload_n (pc := 25) hexec hb dX6_shutsHarbour_25 rfl (lv_at hl 1 rfl) ?_
        obtain ⟨r26, hc, hf⟩ := bd1_e hf
        refine kVp (pc := 26) (S := ⟨hexec, hb, hml, hown, hts⟩) hP hD hG hA hS [1, 3] [0, 2, 4] [0, 3, 1, 4, 2] (w2 := (w_X6_shutsHarbour g a0 a1 a2 a3 a4 u0_2 u0_3 u0_4 u1_2 u1_4 u1_5 u2_1 u2_3 u2_4 u2_5 x1_rows x1_columns x2_count y3_land y4_home)) rfl rfl rfl rfl rfl rfl (by decide) (c_X1_hasSeaBeside l g a1 a3 _ u1_2 u1_4 u1_5 x1_rows x1_columns y3_land r22 p1 r26 hc) gX6_shutsHarbour_X1_hasSeaBeside rfl hv_X1_hasSeaBeside ⟨nle rfl, nle rfl⟩ 1 0 rfl rfl rfl (rest := []) rfl rfl hl.1 (nle rfl) dX6_shutsHarbour_26 (fun H locs hP hD hS => ?_)
        refine kb_ne (pc := 29) hexec hb dX6_shutsHarbour_29 (tgt := 34) rfl hf (fun hc hf => ?_) (fun hc hf => ?_)
        · obtain ⟨v2_1, ev2_1, hf⟩ := bv_e hf
          refine k_iinc (pc := 34) hexec hb dX6_shutsHarbour_34 kq_1 hl (k := 2) rfl ev2_1 (nle rfl) rfl (fun ls (hl : lv_has ls 3 [(2, .int v2_1), (0, .ref a0), (1, .int p1)]) => ?_)
          refine lv_goto (pc := 37) hexec hb dX6_shutsHarbour_37 (tgt := 2) rfl ?_
          exact ih2 _ _ _ _ (sl1 hf hk2) hP hD hS (lv_sub hl [1, 2, 0] rfl)
        · have hf := mk1 hf hk2
          refine lv_iconst (pc := 32) hexec hb dX6_shutsHarbour_32 ki_1 ?_
          cases hf
          exact ke_z hQ hexec hb hr (.inr rfl) hP hD hS dX6_shutsHarbour_33 hlocks
  exact hL2 n _ _ _ _ hz hP hD hS (lv_sub hl [1, 2, 0] rfl)
abbrev w_X6_namesWithBackTo (g : GE) (a0 a1 a2 a3 a4 : Nat) (u0_2 u0_3 u0_4 u1_2 u1_3 u1_4 u1_5 u2_1 u2_4 u2_5 : Value) (x1_rows : Int32) (x1_columns : Int32) (x2_count : Int32) (y3_direction : Nat → Int32) (y4_home : Nat → Int32) : va_W := [(a0, .inr (6, [.ref a1, .ref a2, u0_2, u0_3, u0_4])), (a1, .inr (1, [.int x1_rows, .int x1_columns, u1_2, u1_3, u1_4, u1_5])), (a2, .inr (2, [.int x2_count, u2_1, .ref a4, .ref a3, u2_4, u2_5])), (a3, .inl (g.2.1 0, 8, .inl y3_direction)), (a4, .inl (g.2.1 0, 8, .inl y4_home))]
set_option maxRecDepth 20000 in
theorem c_X6_namesWithBackTo (l : Launch) (g : GE) (a0 a1 a2 a3 a4 : Nat) (sz : Nat) (u0_2 u0_3 u0_4 u1_2 u1_3 u1_4 u1_5 u2_1 u2_4 u2_5 : Value) (x1_rows : Int32) (x1_columns : Int32) (x2_count : Int32) (y3_direction : Nat → Int32) (y4_home : Nat → Int32) (p1 : Int32)  (r : Int32) (hf : f_X6_namesWithBackTo x1_rows x1_columns x2_count y3_direction y4_home p1 = some r) : MI l g yX6_namesWithBackTo wsX6_namesWithBackTo 2 50 [.ref a0, .int p1] (w_X6_namesWithBackTo g a0 a1 a2 a3 a4 u0_2 u0_3 u0_4 u1_2 u1_3 u1_4 u1_5 u2_1 u2_4 u2_5 x1_rows x1_columns x2_count y3_direction y4_home) sz (some (.int r)) (w_X6_namesWithBackTo g a0 a1 a2 a3 a4 u0_2 u0_3 u0_4 u1_2 u1_3 u1_4 u1_5 u2_1 u2_4 u2_5 x1_rows x1_columns x2_count y3_direction y4_home) := by
  refine MI.start (cc := cX6_namesWithBackTo) (maxL := 6) (ret := (some .int)) rfl rfl (nle rfl) ?_
  intro p e s m args below meth c A ls Q hQ hexec hb hr hts hown hlocks hml hA hP hD hG hS hl
  unfold f_X6_namesWithBackTo at hf
  have hWX1 : ∀ w ∈ wsX10, w.before args s = true := fun w h => hts w (List.mem_cons_of_mem _ (List.mem_append_right _ h))
  have hWX2 : ∀ w ∈ wsX20, w.before args s = true := fun w h => hts w (List.mem_cons_of_mem _ (List.mem_append_left _ (List.mem_append_right _ h)))
  have hWX6 : ∀ w ∈ wsX60, w.before args s = true := fun w h => hts w (List.mem_cons_of_mem _ (List.mem_append_left _ (List.mem_append_left _ (List.mem_append_right _ h))))
  have hS : va_S A s.heap s.heap [] := hS
  refine lv_iconst (pc := 0) hexec hb dX6_namesWithBackTo_0 ki_0 ?_
  refine lv_istore_n (pc := 1) hexec hb dX6_namesWithBackTo_1 rfl hl (nle rfl) rfl (fun ls (hl : lv_has ls 6 [(2, .int 0), (0, .ref a0), (1, .int p1)]) => ?_)
  refine lv_iconst (pc := 2) hexec hb dX6_namesWithBackTo_2 ki_0 ?_
  refine lv_istore_n (pc := 3) hexec hb dX6_namesWithBackTo_3 rfl hl (nle rfl) rfl (fun ls (hl : lv_has ls 6 [(3, .int 0), (2, .int 0), (0, .ref a0), (1, .int p1)]) => ?_)
  obtain ⟨l4, el4, hf⟩ := bvf2 hf
  obtain ⟨v2_1, hz, hf⟩ := bd1_e hf
  have hE4 : ∀ (H : Heap) (locs : List Loc) (ls : Array Slot), va_P g.1 vwCl (w_X6_namesWithBackTo g a0 a1 a2 a3 a4 u0_2 u0_3 u0_4 u1_2 u1_3 u1_4 u1_5 u2_1 u2_4 u2_5 x1_rows x1_columns x2_count y3_direction y4_home) H → va_D A (w_X6_namesWithBackTo g a0 a1 a2 a3 a4 u0_2 u0_3 u0_4 u1_2 u1_3 u1_4 u1_5 u2_1 u2_4 u2_5 x1_rows x1_columns x2_count y3_direction y4_home) → va_S A s.heap H locs → lv_has ls 6 [(2, .int v2_1)] → W p l e (RM 2 50) s m args below meth c H locs 0 0 Q (F0 m 73 ls []) := by
    intro H locs ls hP hD hS hl
    refine lv_iload_n (pc := 73) hexec hb dX6_namesWithBackTo_73 rfl (lv_at hl 0 rfl) ?_
    cases hf
    exact ke_i hQ hexec hb hr hP hD hS dX6_namesWithBackTo_74 hlocks
  obtain ⟨n, hz⟩ := lq2_e hz
  have hL4 : ∀ (n : Nat) (v2 : Int32) (v3 : Int32) (H : Heap) (locs : List Loc) (ls : Array Slot), it2 l4 n v2 v3 = some v2_1 → va_P g.1 vwCl (w_X6_namesWithBackTo g a0 a1 a2 a3 a4 u0_2 u0_3 u0_4 u1_2 u1_3 u1_4 u1_5 u2_1 u2_4 u2_5 x1_rows x1_columns x2_count y3_direction y4_home) H → va_D A (w_X6_namesWithBackTo g a0 a1 a2 a3 a4 u0_2 u0_3 u0_4 u1_2 u1_3 u1_4 u1_5 u2_1 u2_4 u2_5 x1_rows x1_columns x2_count y3_direction y4_home) → va_S A s.heap H locs → lv_has ls 6 [(0, .ref a0), (1, .int p1), (2, .int v2), (3, .int v3)] → W p l e (RM 2 50) s m args below meth c H locs 0 0 Q (F0 m 4 ls []) := by
    intro n
    induction n with
    | zero =>
      intro v2 v3 H locs ls hf hP hD hS hl
      exact it2_0 hf
    | succ n4 ih4 =>
      intro v2 v3 H locs ls hf hP hD hS hl
      obtain ⟨q4, hf, hk4⟩ := it2_e hf
      have hf := (el4 v2 v3).symm.trans hf
      refine lv_iload_n (pc := 4) hexec hb dX6_namesWithBackTo_4 rfl (lv_at hl 3 rfl) ?_
      refine lv_aload_n (pc := 5) hexec hb dX6_namesWithBackTo_5 rfl (lv_at hl 0 rfl) ?_
      refine kg_get (pc := 6) hexec hb (own := RX6) hWX6 hown hG hP 0 rfl rfl 1 (nle rfl) (hts _ (List.mem_cons_of_mem _ (List.mem_append_left _ (List.mem_append_left _ (List.mem_append_left _ (List.mem_of_getElem? (i := 0) rfl)))))) rfl rfl dX6_namesWithBackTo_6 ?_
      refine kg_getN (pc := 9) hexec hb (own := RX6) hWX2 hown hG hP 2 rfl rfl 0 (nle rfl) 8 rfl rfl rfl dX6_namesWithBackTo_9 ?_
      refine ki_ge (pc := 12) hexec hb dX6_namesWithBackTo_12 (tgt := 73) rfl hf (fun hc hf => ?_) (fun hc hf => ?_)
      · cases sr2 hf hk4
        exact hE4 _ _ _ hP hD hS (lv_sub hl [2] rfl)
      · refine lv_aload_n (pc := 15) hexec hb dX6_namesWithBackTo_15 rfl (lv_at hl 0 rfl) ?_
        refine kg_get (pc := 16) hexec hb (own := RX6) hWX6 hown hG hP 0 rfl rfl 1 (nle rfl) (hts _ (List.mem_cons_of_mem _ (List.mem_append_left _ (List.mem_append_left _ (List.mem_append_left _ (List.mem_of_getElem? (i := 0) rfl)))))) rfl rfl dX6_namesWithBackTo_16 ?_
        refine lv_iload_n (pc := 19) hexec hb dX6_namesWithBackTo_19 rfl (lv_at hl 3 rfl) ?_
        obtain ⟨r20, hc, hf⟩ := bd1_e hf
        refine kVp (pc := 20) (S := ⟨hexec, hb, hml, hown, hts⟩) hP hD hG hA hS [2, 3] [0, 1, 4] [0, 1, 3, 4, 2] (w2 := (w_X6_namesWithBackTo g a0 a1 a2 a3 a4 u0_2 u0_3 u0_4 u1_2 u1_3 u1_4 u1_5 u2_1 u2_4 u2_5 x1_rows x1_columns x2_count y3_direction y4_home)) rfl rfl rfl rfl rfl rfl (by decide) (c_X2_directionOf l g a2 a3 _ u2_1 (.ref a4) u2_4 u2_5 x2_count y3_direction v3 r20 hc) gX6_namesWithBackTo_X2_directionOf rfl hv_X2_directionOf ⟨nle rfl, nle rfl⟩ 2 0 rfl rfl rfl (rest := []) rfl rfl hl.1 (nle rfl) dX6_namesWithBackTo_20 (fun H locs hP hD hS => ?_)
        refine lv_istore (pc := 23) hexec hb dX6_namesWithBackTo_23 hl (nle rfl) rfl (fun ls (hl : lv_has ls 6 [(4, .int r20), (0, .ref a0), (1, .int p1), (2, .int v2), (3, .int v3)]) => ?_)
        refine lv_iload (pc := 25) hexec hb dX6_namesWithBackTo_25 (lv_at hl 0 rfl) ?_
        refine lv_iconst (pc := 27) hexec hb dX6_namesWithBackTo_27 ki_2 ?_
        refine lv_iadd (pc := 28) hexec hb dX6_namesWithBackTo_28 ?_
        refine lv_iconst (pc := 29) hexec hb dX6_namesWithBackTo_29 ki_4 ?_
        refine lv_irem (pc := 30) hexec hb dX6_namesWithBackTo_30 (by decide) ?_
        obtain ⟨v5, ev5, hf⟩ := bv_e hf
        refine kn_i ev5 ?_
        refine lv_istore (pc := 31) hexec hb dX6_namesWithBackTo_31 hl (nle rfl) rfl (fun ls (hl : lv_has ls 6 [(5, .int v5), (4, .int r20), (0, .ref a0), (1, .int p1), (2, .int v2), (3, .int v3)]) => ?_)
        refine lv_iload (pc := 33) hexec hb dX6_namesWithBackTo_33 (lv_at hl 1 rfl) ?_
        refine lv_iconst (pc := 35) hexec hb dX6_namesWithBackTo_35 ki_m1 ?_
        obtain ⟨j67, ej67, hf⟩ := bvf1 hf
        have hj67 : ∀ (v2_2 : Int32) (H : Heap) (locs : List Loc) (ls : Array Slot), j67 v2_2 = some q4 → va_P g.1 vwCl (w_X6_namesWithBackTo g a0 a1 a2 a3 a4 u0_2 u0_3 u0_4 u1_2 u1_3 u1_4 u1_5 u2_1 u2_4 u2_5 x1_rows x1_columns x2_count y3_direction y4_home) H → va_D A (w_X6_namesWithBackTo g a0 a1 a2 a3 a4 u0_2 u0_3 u0_4 u1_2 u1_3 u1_4 u1_5 u2_1 u2_4 u2_5 x1_rows x1_columns x2_count y3_direction y4_home) → va_S A s.heap H locs → lv_has ls 6 [(0, .ref a0), (1, .int p1), (2, .int v2_2), (3, .int v3)] → W p l e (RM 2 50) s m args below meth c H locs 0 0 Q (F0 m 67 ls []) := by
          intro v2_2 H locs ls hf hP hD hS hl
          have hf := (ej67 v2_2).symm.trans hf
          obtain ⟨v3_1, ev3_1, hf⟩ := bv_e hf
          refine k_iinc (pc := 67) hexec hb dX6_namesWithBackTo_67 kq_1 hl (k := 3) rfl ev3_1 (nle rfl) rfl (fun ls (hl : lv_has ls 6 [(3, .int v3_1), (0, .ref a0), (1, .int p1), (2, .int v2_2)]) => ?_)
          refine lv_goto (pc := 70) hexec hb dX6_namesWithBackTo_70 (tgt := 4) rfl ?_
          exact ih4 _ _ _ _ _ (sl2 hf hk4) hP hD hS (lv_sub hl [1, 2, 3, 0] rfl)
        refine ki_eq (pc := 36) hexec hb dX6_namesWithBackTo_36 (tgt := 67) rfl hf (fun hc hf => ?_) (fun hc hf => ?_)
        · exact hj67 _ _ _ _ hf hP hD hS (lv_sub hl [2, 3, 4, 5] rfl)
        · refine lv_aload_n (pc := 39) hexec hb dX6_namesWithBackTo_39 rfl (lv_at hl 2 rfl) ?_
          refine kg_get (pc := 40) hexec hb (own := RX6) hWX6 hown hG hP 0 rfl rfl 0 (nle rfl) (hts _ (List.mem_cons_of_mem _ (List.mem_append_left _ (List.mem_append_left _ (List.mem_append_left _ (List.mem_of_getElem? (i := 1) rfl)))))) rfl rfl dX6_namesWithBackTo_40 ?_
          refine lv_aload_n (pc := 43) hexec hb dX6_namesWithBackTo_43 rfl (lv_at hl 2 rfl) ?_
          refine kg_get (pc := 44) hexec hb (own := RX6) hWX6 hown hG hP 0 rfl rfl 1 (nle rfl) (hts _ (List.mem_cons_of_mem _ (List.mem_append_left _ (List.mem_append_left _ (List.mem_append_left _ (List.mem_of_getElem? (i := 0) rfl)))))) rfl rfl dX6_namesWithBackTo_44 ?_
          refine lv_iload_n (pc := 47) hexec hb dX6_namesWithBackTo_47 rfl (lv_at hl 5 rfl) ?_
          obtain ⟨r48, hc, hf⟩ := bd1_e hf
          refine kVp (pc := 48) (S := ⟨hexec, hb, hml, hown, hts⟩) hP hD hG hA hS [2, 4] [0, 1, 3] [0, 1, 3, 2, 4] (w2 := (w_X6_namesWithBackTo g a0 a1 a2 a3 a4 u0_2 u0_3 u0_4 u1_2 u1_3 u1_4 u1_5 u2_1 u2_4 u2_5 x1_rows x1_columns x2_count y3_direction y4_home)) rfl rfl rfl rfl rfl rfl (by decide) (c_X2_homeOf l g a2 a4 _ u2_1 (.ref a3) u2_4 u2_5 x2_count y4_home v3 r48 hc) gX6_namesWithBackTo_X2_homeOf rfl hv_X2_homeOf ⟨nle rfl, nle rfl⟩ 2 0 rfl rfl rfl (rest := [.ref a1]) rfl rfl hl.1 (nle rfl) dX6_namesWithBackTo_48 (fun H locs hP hD hS => ?_)
          refine lv_iload (pc := 51) hexec hb dX6_namesWithBackTo_51 (lv_at hl 0 rfl) ?_
          refine lv_iconst (pc := 53) hexec hb dX6_namesWithBackTo_53 ki_1 ?_
          obtain ⟨r54, hc, hf⟩ := bd1_e hf
          refine kVp (pc := 54) (S := ⟨hexec, hb, hml, hown, hts⟩) hP hD hG hA hS [1] [0, 2, 3, 4] [0, 4, 1, 2, 3] (w2 := (w_X6_namesWithBackTo g a0 a1 a2 a3 a4 u0_2 u0_3 u0_4 u1_2 u1_3 u1_4 u1_5 u2_1 u2_4 u2_5 x1_rows x1_columns x2_count y3_direction y4_home)) rfl rfl rfl rfl rfl rfl (by decide) (c_X1_ahead l g a1 _ u1_2 u1_3 u1_4 u1_5 x1_rows x1_columns r48 v5 1 r54 hc) gX6_namesWithBackTo_X1_ahead rfl hv_X1_ahead ⟨nle rfl, nle rfl⟩ 1 0 rfl rfl rfl (rest := []) rfl rfl hl.1 (nle rfl) dX6_namesWithBackTo_54 (fun H locs hP hD hS => ?_)
          refine lv_iload_n (pc := 57) hexec hb dX6_namesWithBackTo_57 rfl (lv_at hl 3 rfl) ?_
          refine ki_ne (pc := 58) hexec hb dX6_namesWithBackTo_58 (tgt := 67) rfl hf (fun hc hf => ?_) (fun hc hf => ?_)
          · exact hj67 _ _ _ _ hf hP hD hS (lv_sub hl [2, 3, 4, 5] rfl)
          · refine lv_iload_n (pc := 61) hexec hb dX6_namesWithBackTo_61 rfl (lv_at hl 4 rfl) ?_
            refine lv_iconst (pc := 62) hexec hb dX6_namesWithBackTo_62 ki_1 ?_
            refine lv_iload_n (pc := 63) hexec hb dX6_namesWithBackTo_63 rfl (lv_at hl 5 rfl) ?_
            refine lv_ishl (pc := 64) hexec hb dX6_namesWithBackTo_64 ?_
            refine lv_ior (pc := 65) hexec hb dX6_namesWithBackTo_65 ?_
            obtain ⟨v2_3, ev2_3, hf⟩ := bv_e hf
            refine kn_i ev2_3 ?_
            refine lv_istore_n (pc := 66) hexec hb dX6_namesWithBackTo_66 rfl hl (nle rfl) rfl (fun ls (hl : lv_has ls 6 [(2, .int v2_3), (5, .int v5), (4, .int r20), (0, .ref a0), (1, .int p1), (3, .int v3)]) => ?_)
            exact hj67 _ _ _ _ hf hP hD hS (lv_sub hl [3, 4, 0, 5] rfl)
  exact hL4 n _ _ _ _ _ hz hP hD hS (lv_sub hl [2, 3, 1, 0] rfl)
