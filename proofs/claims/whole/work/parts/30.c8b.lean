abbrev w_X8_ways (g : GE) (a0 a1 a2 a3 a4 a5 a6 a7 a8 a9 a10 : Nat) (u0_1 u0_2 u0_3 u0_4 u0_5 u0_6 u0_7 u0_8 u0_9 u1_2 u2_2 u2_5 u3_3 : Value) (x2_rows : Int32) (x2_columns : Int32) (x3_count : Int32) (x3_reds : Int32) (y4_letterOn : Nat → Int32) (y5_namesOn : Nat → Int32) (y6_land : Nat → Int32) (y7_riverOf : Nat → Int32) (y8_home : Nat → Int32) (y9_length : Nat → Int32) (y10_letters : Nat → Int32) : va_W := [(a0, .inr (8, [.ref a1, u0_1, u0_2, u0_3, u0_4, u0_5, u0_6, u0_7, u0_8, u0_9])), (a1, .inr (6, [.ref a2, .ref a3, u1_2, .ref a5, .ref a4])), (a2, .inr (1, [.int x2_rows, .int x2_columns, u2_2, .ref a6, .ref a7, u2_5])), (a3, .inr (2, [.int x3_count, .int x3_reds, .ref a8, u3_3, .ref a9, .ref a10])), (a4, .inl (g.2.1 0, 144, .inl y4_letterOn)), (a5, .inl (g.2.1 0, 144, .inl y5_namesOn)), (a6, .inl (g.2.1 1, 144, .inl y6_land)), (a7, .inl (g.2.1 0, 144, .inl y7_riverOf)), (a8, .inl (g.2.1 0, 8, .inl y8_home)), (a9, .inl (g.2.1 0, 8, .inl y9_length)), (a10, .inl (g.2.1 0, 64, .inl y10_letters))]
set_option maxRecDepth 20000 in
theorem c_X8_ways (l : Launch) (g : GE) (a0 a1 a2 a3 a4 a5 a6 a7 a8 a9 a10 : Nat) (sz : Nat) (u0_1 u0_2 u0_3 u0_4 u0_5 u0_6 u0_7 u0_8 u0_9 u1_2 u2_2 u2_5 u3_3 : Value) (x2_rows : Int32) (x2_columns : Int32) (x3_count : Int32) (x3_reds : Int32) (y4_letterOn : Nat → Int32) (y5_namesOn : Nat → Int32) (y6_land : Nat → Int32) (y7_riverOf : Nat → Int32) (y8_home : Nat → Int32) (y9_length : Nat → Int32) (y10_letters : Nat → Int32) (p1 : Int32)  (r : Int32) (hf : f_X8_ways x2_rows x2_columns x3_count x3_reds y4_letterOn y5_namesOn y6_land y7_riverOf y8_home y9_length y10_letters p1 = some r) : MI l g yX8_ways wsX8_ways 5 119 [.ref a0, .int p1] (w_X8_ways g a0 a1 a2 a3 a4 a5 a6 a7 a8 a9 a10 u0_1 u0_2 u0_3 u0_4 u0_5 u0_6 u0_7 u0_8 u0_9 u1_2 u2_2 u2_5 u3_3 x2_rows x2_columns x3_count x3_reds y4_letterOn y5_namesOn y6_land y7_riverOf y8_home y9_length y10_letters) sz (some (.int r)) (w_X8_ways g a0 a1 a2 a3 a4 a5 a6 a7 a8 a9 a10 u0_1 u0_2 u0_3 u0_4 u0_5 u0_6 u0_7 u0_8 u0_9 u1_2 u2_2 u2_5 u3_3 x2_rows x2_columns x3_count x3_reds y4_letterOn y5_namesOn y6_land y7_riverOf y8_home y9_length y10_letters) := by
  refine MI.start (cc := cX8_ways) (maxL := 4) (ret := (some .int)) rfl rfl (nle rfl) ?_
  intro p e s m args below meth c A ls Q hQ hexec hb hr hts hown hlocks hml hA hP hD hG hS hl
  unfold f_X8_ways at hf
  have hWX1 : ∀ w ∈ wsX10, w.before args s = true := fun w h => hts w (List.mem_cons_of_mem _ (List.mem_append_left _ (List.mem_append_right _ h)))
  have hWX2 : ∀ w ∈ wsX20, w.before args s = true := fun w h => hts w (List.mem_cons_of_mem _ (List.mem_append_left _ (List.mem_append_left _ (List.mem_append_right _ h))))
  have hWX6 : ∀ w ∈ wsX60, w.before args s = true := fun w h => hts w (List.mem_cons_of_mem _ (List.mem_append_left _ (List.mem_append_left _ (List.mem_append_left _ (List.mem_append_right _ h)))))
  have hWX8 : ∀ w ∈ wsX80, w.before args s = true := fun w h => hts w (List.mem_cons_of_mem _ (List.mem_append_left _ (List.mem_append_left _ (List.mem_append_left _ (List.mem_append_left _ (List.mem_append_right _ h))))))
  have hS : va_S A s.heap s.heap [] := hS
  refine lv_aload_n (pc := 0) hexec hb dX8_ways_0 rfl (lv_at hl 0 rfl) ?_
  refine lv_iload_n (pc := 1) hexec hb dX8_ways_1 rfl (lv_at hl 1 rfl) ?_
  obtain ⟨_, hc, hf⟩ := bd1_e hf
  refine kVp (pc := 2) (S := ⟨hexec, hb, hml, hown, hts⟩) hP hD hG hA hS [0, 1, 3] [2, 4, 5, 6, 7, 8, 9, 10] [8, 9, 0, 10, 1, 2, 3, 4, 5, 6, 7] (w2 := (w_X8_ways g a0 a1 a2 a3 a4 a5 a6 a7 a8 a9 a10 u0_1 u0_2 u0_3 u0_4 u0_5 u0_6 u0_7 u0_8 u0_9 u1_2 u2_2 u2_5 u3_3 x2_rows x2_columns x3_count x3_reds y4_letterOn y5_namesOn y6_land y7_riverOf y8_home y9_length y10_letters)) rfl rfl rfl rfl rfl rfl (by decide) (c_X8_needHarbour l g a0 a1 a3 _ u0_1 u0_2 u0_3 u0_4 u0_5 u0_6 u0_7 u0_8 u0_9 (.ref a2) u1_2 (.ref a5) (.ref a4) (.int x3_reds) (.ref a8) u3_3 (.ref a9) (.ref a10) x3_count p1 hc) gX8_ways_X8_needHarbour rfl hv_X8_needHarbour ⟨nle rfl, nle rfl⟩ 8 0 rfl rfl rfl (rest := []) rfl rfl hl.1 (nle rfl) dX8_ways_2 (fun H locs hP hD hS => ?_)
  refine lv_iconst (pc := 5) hexec hb dX8_ways_5 ki_0 ?_
  refine lv_istore_n (pc := 6) hexec hb dX8_ways_6 rfl hl (nle rfl) rfl (fun ls (hl : lv_has ls 4 [(2, .int 0), (0, .ref a0), (1, .int p1)]) => ?_)
  refine lv_iconst (pc := 7) hexec hb dX8_ways_7 ki_0 ?_
  refine lv_istore_n (pc := 8) hexec hb dX8_ways_8 rfl hl (nle rfl) rfl (fun ls (hl : lv_has ls 4 [(3, .int 0), (2, .int 0), (0, .ref a0), (1, .int p1)]) => ?_)
  obtain ⟨l9, el9, hf⟩ := bvf2 hf
  obtain ⟨v2_1, hz, hf⟩ := bd1_e hf
  have hE9 : ∀ (H : Heap) (locs : List Loc) (ls : Array Slot), va_P g.1 vwCl (w_X8_ways g a0 a1 a2 a3 a4 a5 a6 a7 a8 a9 a10 u0_1 u0_2 u0_3 u0_4 u0_5 u0_6 u0_7 u0_8 u0_9 u1_2 u2_2 u2_5 u3_3 x2_rows x2_columns x3_count x3_reds y4_letterOn y5_namesOn y6_land y7_riverOf y8_home y9_length y10_letters) H → va_D A (w_X8_ways g a0 a1 a2 a3 a4 a5 a6 a7 a8 a9 a10 u0_1 u0_2 u0_3 u0_4 u0_5 u0_6 u0_7 u0_8 u0_9 u1_2 u2_2 u2_5 u3_3 x2_rows x2_columns x3_count x3_reds y4_letterOn y5_namesOn y6_land y7_riverOf y8_home y9_length y10_letters) → va_S A s.heap H locs → lv_has ls 4 [(2, .int v2_1)] → W p l e (RM 5 119) s m args below meth c H locs 0 0 Q (F0 m 38 ls []) := by
    intro H locs ls hP hD hS hl
    refine lv_iload_n (pc := 38) hexec hb dX8_ways_38 rfl (lv_at hl 0 rfl) ?_
    cases hf
    exact ke_i hQ hexec hb hr hP hD hS dX8_ways_39 hlocks
  obtain ⟨n, hz⟩ := lq2_e hz
  have hL9 : ∀ (n : Nat) (v2 : Int32) (v3 : Int32) (H : Heap) (locs : List Loc) (ls : Array Slot), it2 l9 n v2 v3 = some v2_1 → va_P g.1 vwCl (w_X8_ways g a0 a1 a2 a3 a4 a5 a6 a7 a8 a9 a10 u0_1 u0_2 u0_3 u0_4 u0_5 u0_6 u0_7 u0_8 u0_9 u1_2 u2_2 u2_5 u3_3 x2_rows x2_columns x3_count x3_reds y4_letterOn y5_namesOn y6_land y7_riverOf y8_home y9_length y10_letters) H → va_D A (w_X8_ways g a0 a1 a2 a3 a4 a5 a6 a7 a8 a9 a10 u0_1 u0_2 u0_3 u0_4 u0_5 u0_6 u0_7 u0_8 u0_9 u1_2 u2_2 u2_5 u3_3 x2_rows x2_columns x3_count x3_reds y4_letterOn y5_namesOn y6_land y7_riverOf y8_home y9_length y10_letters) → va_S A s.heap H locs → lv_has ls 4 [(0, .ref a0), (1, .int p1), (2, .int v2), (3, .int v3)] → W p l e (RM 5 119) s m args below meth c H locs 0 0 Q (F0 m 9 ls []) := by
    intro n
    induction n with
    | zero =>
      intro v2 v3 H locs ls hf hP hD hS hl
      exact it2_0 hf
    | succ n9 ih9 =>
      intro v2 v3 H locs ls hf hP hD hS hl
      obtain ⟨q9, hf, hk9⟩ := it2_e hf
      have hf := (el9 v2 v3).symm.trans hf
      refine lv_iload_n (pc := 9) hexec hb dX8_ways_9 rfl (lv_at hl 3 rfl) ?_
      refine lv_iconst (pc := 10) hexec hb dX8_ways_10 ki_4 ?_
      refine ki_ge (pc := 11) hexec hb dX8_ways_11 (tgt := 38) rfl hf (fun hc hf => ?_) (fun hc hf => ?_)
      · cases sr2 hf hk9
        exact hE9 _ _ _ hP hD hS (lv_sub hl [2] rfl)
      · refine lv_aload_n (pc := 14) hexec hb dX8_ways_14 rfl (lv_at hl 0 rfl) ?_
        refine kg_get (pc := 15) hexec hb (own := RX8) hWX8 hown hG hP 0 rfl rfl 0 (nle rfl) (hts _ (List.mem_cons_of_mem _ (List.mem_append_left _ (List.mem_append_left _ (List.mem_append_left _ (List.mem_append_left _ (List.mem_append_left _ (List.mem_append_left _ (List.mem_of_getElem? (i := 0) rfl))))))))) rfl rfl dX8_ways_15 ?_
        refine lv_iload_n (pc := 18) hexec hb dX8_ways_18 rfl (lv_at hl 1 rfl) ?_
        refine lv_iload_n (pc := 19) hexec hb dX8_ways_19 rfl (lv_at hl 3 rfl) ?_
        obtain ⟨r20, hc, hf⟩ := bd1_e hf
        refine kVp (pc := 20) (S := ⟨hexec, hb, hml, hown, hts⟩) hP hD hG hA hS [1, 2, 3, 4, 5, 6, 7, 8, 9, 10] [0] [0, 1, 2, 3, 4, 5, 6, 7, 8, 9, 10] (w2 := (w_X8_ways g a0 a1 a2 a3 a4 a5 a6 a7 a8 a9 a10 u0_1 u0_2 u0_3 u0_4 u0_5 u0_6 u0_7 u0_8 u0_9 u1_2 u2_2 u2_5 u3_3 x2_rows x2_columns x3_count x3_reds y4_letterOn y5_namesOn y6_land y7_riverOf y8_home y9_length y10_letters)) rfl rfl rfl rfl rfl rfl (by decide) (c_X6_reasonAgainst l g a1 a2 a3 a4 a5 a6 a7 a8 a9 a10 _ u1_2 u2_2 u2_5 u3_3 x2_rows x2_columns x3_count x3_reds y4_letterOn y5_namesOn y6_land y7_riverOf y8_home y9_length y10_letters p1 v3 r20 hc) gX8_ways_X6_reasonAgainst rfl hv_X6_reasonAgainst ⟨nle rfl, nle rfl⟩ 6 0 rfl rfl rfl (rest := []) rfl rfl hl.1 (nle rfl) dX8_ways_20 (fun H locs hP hD hS => ?_)
        obtain ⟨j32, ej32, hf⟩ := bvf1 hf
        have hj32 : ∀ (v2_2 : Int32) (H : Heap) (locs : List Loc) (ls : Array Slot), j32 v2_2 = some q9 → va_P g.1 vwCl (w_X8_ways g a0 a1 a2 a3 a4 a5 a6 a7 a8 a9 a10 u0_1 u0_2 u0_3 u0_4 u0_5 u0_6 u0_7 u0_8 u0_9 u1_2 u2_2 u2_5 u3_3 x2_rows x2_columns x3_count x3_reds y4_letterOn y5_namesOn y6_land y7_riverOf y8_home y9_length y10_letters) H → va_D A (w_X8_ways g a0 a1 a2 a3 a4 a5 a6 a7 a8 a9 a10 u0_1 u0_2 u0_3 u0_4 u0_5 u0_6 u0_7 u0_8 u0_9 u1_2 u2_2 u2_5 u3_3 x2_rows x2_columns x3_count x3_reds y4_letterOn y5_namesOn y6_land y7_riverOf y8_home y9_length y10_letters) → va_S A s.heap H locs → lv_has ls 4 [(0, .ref a0), (1, .int p1), (2, .int v2_2), (3, .int v3)] → W p l e (RM 5 119) s m args below meth c H locs 0 0 Q (F0 m 32 ls []) := by
          intro v2_2 H locs ls hf hP hD hS hl
          have hf := (ej32 v2_2).symm.trans hf
          obtain ⟨v3_1, ev3_1, hf⟩ := bv_e hf
          refine k_iinc (pc := 32) hexec hb dX8_ways_32 kq_1 hl (k := 3) rfl ev3_1 (nle rfl) rfl (fun ls (hl : lv_has ls 4 [(3, .int v3_1), (0, .ref a0), (1, .int p1), (2, .int v2_2)]) => ?_)
          refine lv_goto (pc := 35) hexec hb dX8_ways_35 (tgt := 9) rfl ?_
          exact ih9 _ _ _ _ _ (sl2 hf hk9) hP hD hS (lv_sub hl [1, 2, 3, 0] rfl)
        refine kb_ne (pc := 23) hexec hb dX8_ways_23 (tgt := 32) rfl hf (fun hc hf => ?_) (fun hc hf => ?_)
        · exact hj32 _ _ _ _ hf hP hD hS (lv_sub hl [0, 1, 2, 3] rfl)
        · refine lv_iload_n (pc := 26) hexec hb dX8_ways_26 rfl (lv_at hl 2 rfl) ?_
          refine lv_iconst (pc := 27) hexec hb dX8_ways_27 ki_1 ?_
          refine lv_iload_n (pc := 28) hexec hb dX8_ways_28 rfl (lv_at hl 3 rfl) ?_
          refine lv_ishl (pc := 29) hexec hb dX8_ways_29 ?_
          refine lv_ior (pc := 30) hexec hb dX8_ways_30 ?_
          obtain ⟨v2_3, ev2_3, hf⟩ := bv_e hf
          refine kn_i ev2_3 ?_
          refine lv_istore_n (pc := 31) hexec hb dX8_ways_31 rfl hl (nle rfl) rfl (fun ls (hl : lv_has ls 4 [(2, .int v2_3), (0, .ref a0), (1, .int p1), (3, .int v3)]) => ?_)
          exact hj32 _ _ _ _ hf hP hD hS (lv_sub hl [1, 2, 0, 3] rfl)
  exact hL9 n _ _ _ _ _ hz hP hD hS (lv_sub hl [2, 3, 1, 0] rfl)
abbrev w_X8_room (g : GE) (a0 a1 a2 a3 a4 a5 a6 : Nat) (u0_1 u0_2 u0_3 u0_4 u0_5 u0_6 u0_7 u0_8 u0_9 u1_2 u1_3 u1_4 u2_2 u2_5 u3_1 u3_3 u3_4 u3_5 : Value) (x2_rows : Int32) (x2_columns : Int32) (x3_count : Int32) (y4_land : Nat → Int32) (y5_riverOf : Nat → Int32) (y6_home : Nat → Int32) : va_W := [(a0, .inr (8, [.ref a1, u0_1, u0_2, u0_3, u0_4, u0_5, u0_6, u0_7, u0_8, u0_9])), (a1, .inr (6, [.ref a2, .ref a3, u1_2, u1_3, u1_4])), (a2, .inr (1, [.int x2_rows, .int x2_columns, u2_2, .ref a4, .ref a5, u2_5])), (a3, .inr (2, [.int x3_count, u3_1, .ref a6, u3_3, u3_4, u3_5])), (a4, .inl (g.2.1 1, 144, .inl y4_land)), (a5, .inl (g.2.1 0, 144, .inl y5_riverOf)), (a6, .inl (g.2.1 0, 8, .inl y6_home))]
set_option maxRecDepth 20000 in
theorem c_X8_room (l : Launch) (g : GE) (a0 a1 a2 a3 a4 a5 a6 : Nat) (sz : Nat) (u0_1 u0_2 u0_3 u0_4 u0_5 u0_6 u0_7 u0_8 u0_9 u1_2 u1_3 u1_4 u2_2 u2_5 u3_1 u3_3 u3_4 u3_5 : Value) (x2_rows : Int32) (x2_columns : Int32) (x3_count : Int32) (y4_land : Nat → Int32) (y5_riverOf : Nat → Int32) (y6_home : Nat → Int32) (p1 : Int32) (p2 : Int32)  (r : Int32) (hf : f_X8_room x2_rows x2_columns x3_count y4_land y5_riverOf y6_home p1 p2 = some r) : MI l g yX8_room wsX8_room 3 67 [.ref a0, .int p1, .int p2] (w_X8_room g a0 a1 a2 a3 a4 a5 a6 u0_1 u0_2 u0_3 u0_4 u0_5 u0_6 u0_7 u0_8 u0_9 u1_2 u1_3 u1_4 u2_2 u2_5 u3_1 u3_3 u3_4 u3_5 x2_rows x2_columns x3_count y4_land y5_riverOf y6_home) sz (some (.int r)) (w_X8_room g a0 a1 a2 a3 a4 a5 a6 u0_1 u0_2 u0_3 u0_4 u0_5 u0_6 u0_7 u0_8 u0_9 u1_2 u1_3 u1_4 u2_2 u2_5 u3_1 u3_3 u3_4 u3_5 x2_rows x2_columns x3_count y4_land y5_riverOf y6_home) := by
  refine MI.start (cc := cX8_room) (maxL := 5) (ret := (some .int)) rfl rfl (nle rfl) ?_
  intro p e s m args below meth c A ls Q hQ hexec hb hr hts hown hlocks hml hA hP hD hG hS hl
  unfold f_X8_room at hf
  have hWX1 : ∀ w ∈ wsX10, w.before args s = true := fun w h => hts w (List.mem_cons_of_mem _ (List.mem_append_left _ (List.mem_append_left _ (List.mem_append_right _ h))))
  have hWX2 : ∀ w ∈ wsX20, w.before args s = true := fun w h => hts w (List.mem_cons_of_mem _ (List.mem_append_left _ (List.mem_append_left _ (List.mem_append_left _ (List.mem_append_right _ h)))))
  have hWX6 : ∀ w ∈ wsX60, w.before args s = true := fun w h => hts w (List.mem_cons_of_mem _ (List.mem_append_left _ (List.mem_append_left _ (List.mem_append_left _ (List.mem_append_left _ (List.mem_append_right _ h))))))
  have hWX8 : ∀ w ∈ wsX80, w.before args s = true := fun w h => hts w (List.mem_cons_of_mem _ (List.mem_append_left _ (List.mem_append_left _ (List.mem_append_left _ (List.mem_append_left _ (List.mem_append_left _ (List.mem_append_right _ h)))))))
  have hS : va_S A s.heap s.heap [] := hS
  refine lv_aload_n (pc := 0) hexec hb dX8_room_0 rfl (lv_at hl 0 rfl) ?_
  refine lv_iload_n (pc := 1) hexec hb dX8_room_1 rfl (lv_at hl 1 rfl) ?_
  obtain ⟨_, hc, hf⟩ := bd1_e hf
  refine kVp (pc := 2) (S := ⟨hexec, hb, hml, hown, hts⟩) hP hD hG hA hS [0, 1, 3] [2, 4, 5, 6] [4, 5, 0, 6, 1, 2, 3] (w2 := (w_X8_room g a0 a1 a2 a3 a4 a5 a6 u0_1 u0_2 u0_3 u0_4 u0_5 u0_6 u0_7 u0_8 u0_9 u1_2 u1_3 u1_4 u2_2 u2_5 u3_1 u3_3 u3_4 u3_5 x2_rows x2_columns x3_count y4_land y5_riverOf y6_home)) rfl rfl rfl rfl rfl rfl (by decide) (c_X8_needHarbour l g a0 a1 a3 _ u0_1 u0_2 u0_3 u0_4 u0_5 u0_6 u0_7 u0_8 u0_9 (.ref a2) u1_2 u1_3 u1_4 u3_1 (.ref a6) u3_3 u3_4 u3_5 x3_count p1 hc) gX8_room_X8_needHarbour rfl hv_X8_needHarbour ⟨nle rfl, nle rfl⟩ 8 0 rfl rfl rfl (rest := []) rfl rfl hl.1 (nle rfl) dX8_room_2 (fun H locs hP hD hS => ?_)
  refine lv_iload_n (pc := 5) hexec hb dX8_room_5 rfl (lv_at hl 2 rfl) ?_
  obtain ⟨_, hc, hf⟩ := bd1_e hf
  refine kSp (pc := 6) (S := ⟨hexec, hb, hml, hown, hts⟩) hP hD hG hA hS [] [0, 1, 2, 3, 4, 5, 6] [0, 1, 2, 3, 4, 5, 6] (w2 := (w_X8_room g a0 a1 a2 a3 a4 a5 a6 u0_1 u0_2 u0_3 u0_4 u0_5 u0_6 u0_7 u0_8 u0_9 u1_2 u1_3 u1_4 u2_2 u2_5 u3_1 u3_3 u3_4 u3_5 x2_rows x2_columns x3_count y4_land y5_riverOf y6_home)) rfl rfl rfl rfl rfl rfl (by decide) (c_X8_needDirection l g _ p2 hc) gX8_room_X8_needDirection rfl hs_X8_needDirection ⟨nle rfl, nle rfl⟩ (rest := []) rfl rfl hl.1 (nle rfl) dX8_room_6 (fun H locs hP hD hS => ?_)
  refine lv_aload_n (pc := 9) hexec hb dX8_room_9 rfl (lv_at hl 0 rfl) ?_
  refine kg_get (pc := 10) hexec hb (own := RX8) hWX8 hown hG hP 0 rfl rfl 0 (nle rfl) (hts _ (List.mem_cons_of_mem _ (List.mem_append_left _ (List.mem_append_left _ (List.mem_append_left _ (List.mem_append_left _ (List.mem_append_left _ (List.mem_append_left _ (List.mem_append_left _ (List.mem_of_getElem? (i := 0) rfl)))))))))) rfl rfl dX8_room_10 ?_
  refine kg_getN (pc := 13) hexec hb (own := RX8) hWX6 hown hG hP 1 rfl rfl 1 (nle rfl) 24 rfl rfl rfl dX8_room_13 ?_
  refine lv_iload_n (pc := 16) hexec hb dX8_room_16 rfl (lv_at hl 1 rfl) ?_
  obtain ⟨r17, hc, hf⟩ := bd1_e hf
  refine kVp (pc := 17) (S := ⟨hexec, hb, hml, hown, hts⟩) hP hD hG hA hS [3, 6] [0, 1, 2, 4, 5] [0, 1, 2, 5, 3, 4, 6] (w2 := (w_X8_room g a0 a1 a2 a3 a4 a5 a6 u0_1 u0_2 u0_3 u0_4 u0_5 u0_6 u0_7 u0_8 u0_9 u1_2 u1_3 u1_4 u2_2 u2_5 u3_1 u3_3 u3_4 u3_5 x2_rows x2_columns x3_count y4_land y5_riverOf y6_home)) rfl rfl rfl rfl rfl rfl (by decide) (c_X2_homeOf l g a3 a6 _ u3_1 u3_3 u3_4 u3_5 x3_count y6_home p1 r17 hc) gX8_room_X2_homeOf rfl hv_X2_homeOf ⟨nle rfl, nle rfl⟩ 2 0 rfl rfl rfl (rest := []) rfl rfl hl.1 (nle rfl) dX8_room_17 (fun H locs hP hD hS => ?_)
  refine lv_istore_n (pc := 20) hexec hb dX8_room_20 rfl hl (nle rfl) rfl (fun ls (hl : lv_has ls 5 [(3, .int r17), (0, .ref a0), (1, .int p1), (2, .int p2)]) => ?_)
  refine lv_iconst (pc := 21) hexec hb dX8_room_21 ki_1 ?_
  refine lv_istore (pc := 22) hexec hb dX8_room_22 hl (nle rfl) rfl (fun ls (hl : lv_has ls 5 [(4, .int 1), (3, .int r17), (0, .ref a0), (1, .int p1), (2, .int p2)]) => ?_)
  obtain ⟨l24, el24, hf⟩ := bvf1 hf
  obtain ⟨n, hz⟩ := lq1_e hf
  have hL24 : ∀ (n : Nat) (v4 : Int32) (H : Heap) (locs : List Loc) (ls : Array Slot), it1 l24 n v4 = some r → va_P g.1 vwCl (w_X8_room g a0 a1 a2 a3 a4 a5 a6 u0_1 u0_2 u0_3 u0_4 u0_5 u0_6 u0_7 u0_8 u0_9 u1_2 u1_3 u1_4 u2_2 u2_5 u3_1 u3_3 u3_4 u3_5 x2_rows x2_columns x3_count y4_land y5_riverOf y6_home) H → va_D A (w_X8_room g a0 a1 a2 a3 a4 a5 a6 u0_1 u0_2 u0_3 u0_4 u0_5 u0_6 u0_7 u0_8 u0_9 u1_2 u1_3 u1_4 u2_2 u2_5 u3_1 u3_3 u3_4 u3_5 x2_rows x2_columns x3_count y4_land y5_riverOf y6_home) → va_S A s.heap H locs → lv_has ls 5 [(0, .ref a0), (2, .int p2), (3, .int r17), (4, .int v4)] → W p l e (RM 3 67) s m args below meth c H locs 0 0 Q (F0 m 24 ls []) := by
    intro n
    induction n with
    | zero =>
      intro v4 H locs ls hf hP hD hS hl
      exact it1_0 hf
    | succ n24 ih24 =>
      intro v4 H locs ls hf hP hD hS hl
      obtain ⟨q24, hf, hk24⟩ := it1_e hf
      have hf := (el24 v4).symm.trans hf
      refine lv_iload (pc := 24) hexec hb dX8_room_24 (lv_at hl 3 rfl) ?_
      refine lv_bipush (pc := 26) hexec hb dX8_room_26 kb_12 ?_
      refine ki_ge (pc := 28) hexec hb dX8_room_28 (tgt := 66) rfl hf (fun hc hf => ?_) (fun hc hf => ?_)
      · have hf := mk1 hf hk24
        refine lv_bipush (pc := 66) hexec hb dX8_room_66 kb_11 ?_
        cases hf
        exact ke_i hQ hexec hb hr hP hD hS dX8_room_68 hlocks
      · refine lv_aload_n (pc := 31) hexec hb dX8_room_31 rfl (lv_at hl 0 rfl) ?_
        refine kg_get (pc := 32) hexec hb (own := RX8) hWX8 hown hG hP 0 rfl rfl 0 (nle rfl) (hts _ (List.mem_cons_of_mem _ (List.mem_append_left _ (List.mem_append_left _ (List.mem_append_left _ (List.mem_append_left _ (List.mem_append_left _ (List.mem_append_left _ (List.mem_append_left _ (List.mem_of_getElem? (i := 0) rfl)))))))))) rfl rfl dX8_room_32 ?_
        refine lv_aload_n (pc := 35) hexec hb dX8_room_35 rfl (lv_at hl 0 rfl) ?_
        refine kg_get (pc := 36) hexec hb (own := RX8) hWX8 hown hG hP 0 rfl rfl 0 (nle rfl) (hts _ (List.mem_cons_of_mem _ (List.mem_append_left _ (List.mem_append_left _ (List.mem_append_left _ (List.mem_append_left _ (List.mem_append_left _ (List.mem_append_left _ (List.mem_append_left _ (List.mem_of_getElem? (i := 0) rfl)))))))))) rfl rfl dX8_room_36 ?_
        refine kg_getN (pc := 39) hexec hb (own := RX8) hWX6 hown hG hP 1 rfl rfl 0 (nle rfl) 21 rfl rfl rfl dX8_room_39 ?_
        refine lv_iload_n (pc := 42) hexec hb dX8_room_42 rfl (lv_at hl 2 rfl) ?_
        refine lv_iload_n (pc := 43) hexec hb dX8_room_43 rfl (lv_at hl 1 rfl) ?_
        refine lv_iload (pc := 44) hexec hb dX8_room_44 (lv_at hl 3 rfl) ?_
        obtain ⟨r46, hc, hf⟩ := bd1_e hf
        refine kVp (pc := 46) (S := ⟨hexec, hb, hml, hown, hts⟩) hP hD hG hA hS [2] [0, 1, 3, 4, 5, 6] [0, 1, 6, 2, 3, 4, 5] (w2 := (w_X8_room g a0 a1 a2 a3 a4 a5 a6 u0_1 u0_2 u0_3 u0_4 u0_5 u0_6 u0_7 u0_8 u0_9 u1_2 u1_3 u1_4 u2_2 u2_5 u3_1 u3_3 u3_4 u3_5 x2_rows x2_columns x3_count y4_land y5_riverOf y6_home)) rfl rfl rfl rfl rfl rfl (by decide) (c_X1_ahead l g a2 _ u2_2 (.ref a4) (.ref a5) u2_5 x2_rows x2_columns r17 p2 v4 r46 hc) gX8_room_X1_ahead rfl hv_X1_ahead ⟨nle rfl, nle rfl⟩ 1 0 rfl rfl rfl (rest := [.ref a1]) rfl rfl hl.1 (nle rfl) dX8_room_46 (fun H locs hP hD hS => ?_)
        obtain ⟨r49, hc, hf⟩ := bd1_e hf
        refine kVp (pc := 49) (S := ⟨hexec, hb, hml, hown, hts⟩) hP hD hG hA hS [1, 2, 3, 4, 5, 6] [0] [0, 1, 2, 3, 4, 5, 6] (w2 := (w_X8_room g a0 a1 a2 a3 a4 a5 a6 u0_1 u0_2 u0_3 u0_4 u0_5 u0_6 u0_7 u0_8 u0_9 u1_2 u1_3 u1_4 u2_2 u2_5 u3_1 u3_3 u3_4 u3_5 x2_rows x2_columns x3_count y4_land y5_riverOf y6_home)) rfl rfl rfl rfl rfl rfl (by decide) (c_X6_isOpen l g a1 a2 a3 a4 a5 a6 _ u1_2 u1_3 u1_4 (.int x2_rows) (.int x2_columns) u2_2 u2_5 u3_1 u3_3 u3_4 u3_5 x3_count y4_land y5_riverOf y6_home r46 r49 hc) gX8_room_X6_isOpen rfl hv_X6_isOpen ⟨nle rfl, nle rfl⟩ 6 0 rfl rfl rfl (rest := []) rfl rfl hl.1 (nle rfl) dX8_room_49 (fun H locs hP hD hS => ?_)
        refine kb_ne (pc := 52) hexec hb dX8_room_52 (tgt := 60) rfl hf (fun hc hf => ?_) (fun hc hf => ?_)
        · obtain ⟨v4_1, ev4_1, hf⟩ := bv_e hf
          refine k_iinc (pc := 60) hexec hb dX8_room_60 kq_1 hl (k := 3) rfl ev4_1 (nle rfl) rfl (fun ls (hl : lv_has ls 5 [(4, .int v4_1), (0, .ref a0), (2, .int p2), (3, .int r17)]) => ?_)
          refine lv_goto (pc := 63) hexec hb dX8_room_63 (tgt := 24) rfl ?_
          exact ih24 _ _ _ _ (sl1 hf hk24) hP hD hS (lv_sub hl [1, 2, 3, 0] rfl)
        · have hf := mk1 hf hk24
          refine lv_iload (pc := 55) hexec hb dX8_room_55 (lv_at hl 3 rfl) ?_
          refine lv_iconst (pc := 57) hexec hb dX8_room_57 ki_1 ?_
          refine lv_isub (pc := 58) hexec hb dX8_room_58 ?_
          cases hf
          exact ke_i hQ hexec hb hr hP hD hS dX8_room_59 hlocks
  exact hL24 n _ _ _ _ hz hP hD hS (lv_sub hl [2, 4, 1, 0] rfl)
abbrev w_X8_crossings (g : GE) (a0 a1 a2 a3 a4 a5 a6 a7 : Nat) (u0_1 u0_2 u0_3 u0_4 u0_5 u0_6 u0_7 u0_8 u0_9 u1_2 u1_4 u2_2 u2_3 u2_4 u2_5 u3_1 u3_5 : Value) (x2_rows : Int32) (x2_columns : Int32) (x3_count : Int32) (y4_namesOn : Nat → Int32) (y5_direction : Nat → Int32) (y6_home : Nat → Int32) (y7_length : Nat → Int32) : va_W := [(a0, .inr (8, [.ref a1, u0_1, u0_2, u0_3, u0_4, u0_5, u0_6, u0_7, u0_8, u0_9])), (a1, .inr (6, [.ref a2, .ref a3, u1_2, .ref a4, u1_4])), (a2, .inr (1, [.int x2_rows, .int x2_columns, u2_2, u2_3, u2_4, u2_5])), (a3, .inr (2, [.int x3_count, u3_1, .ref a6, .ref a5, .ref a7, u3_5])), (a4, .inl (g.2.1 0, 144, .inl y4_namesOn)), (a5, .inl (g.2.1 0, 8, .inl y5_direction)), (a6, .inl (g.2.1 0, 8, .inl y6_home)), (a7, .inl (g.2.1 0, 8, .inl y7_length))]
set_option maxRecDepth 20000 in
theorem c_X8_crossings (l : Launch) (g : GE) (a0 a1 a2 a3 a4 a5 a6 a7 : Nat) (sz : Nat) (u0_1 u0_2 u0_3 u0_4 u0_5 u0_6 u0_7 u0_8 u0_9 u1_2 u1_4 u2_2 u2_3 u2_4 u2_5 u3_1 u3_5 : Value) (x2_rows : Int32) (x2_columns : Int32) (x3_count : Int32) (y4_namesOn : Nat → Int32) (y5_direction : Nat → Int32) (y6_home : Nat → Int32) (y7_length : Nat → Int32)   (r : Int32) (hf : f_X8_crossings x2_rows x2_columns x3_count y4_namesOn y5_direction y6_home y7_length = some r) : MI l g yX8_crossings wsX8_crossings 3 75 [.ref a0] (w_X8_crossings g a0 a1 a2 a3 a4 a5 a6 a7 u0_1 u0_2 u0_3 u0_4 u0_5 u0_6 u0_7 u0_8 u0_9 u1_2 u1_4 u2_2 u2_3 u2_4 u2_5 u3_1 u3_5 x2_rows x2_columns x3_count y4_namesOn y5_direction y6_home y7_length) sz (some (.int r)) (w_X8_crossings g a0 a1 a2 a3 a4 a5 a6 a7 u0_1 u0_2 u0_3 u0_4 u0_5 u0_6 u0_7 u0_8 u0_9 u1_2 u1_4 u2_2 u2_3 u2_4 u2_5 u3_1 u3_5 x2_rows x2_columns x3_count y4_namesOn y5_direction y6_home y7_length) := by
  refine MI.start (cc := cX8_crossings) (maxL := 3) (ret := (some .int)) rfl rfl (nle rfl) ?_
  intro p e s m args below meth c A ls Q hQ hexec hb hr hts hown hlocks hml hA hP hD hG hS hl
  unfold f_X8_crossings at hf
  have hWX1 : ∀ w ∈ wsX10, w.before args s = true := fun w h => hts w (List.mem_cons_of_mem _ (List.mem_append_right _ h))
  have hWX2 : ∀ w ∈ wsX20, w.before args s = true := fun w h => hts w (List.mem_cons_of_mem _ (List.mem_append_left _ (List.mem_append_right _ h)))
  have hWX6 : ∀ w ∈ wsX60, w.before args s = true := fun w h => hts w (List.mem_cons_of_mem _ (List.mem_append_left _ (List.mem_append_left _ (List.mem_append_right _ h))))
  have hWX8 : ∀ w ∈ wsX80, w.before args s = true := fun w h => hts w (List.mem_cons_of_mem _ (List.mem_append_left _ (List.mem_append_left _ (List.mem_append_left _ (List.mem_append_right _ h)))))
  have hS : va_S A s.heap s.heap [] := hS
  refine lv_iconst (pc := 0) hexec hb dX8_crossings_0 ki_0 ?_
  refine lv_istore_n (pc := 1) hexec hb dX8_crossings_1 rfl hl (nle rfl) rfl (fun ls (hl : lv_has ls 3 [(1, .int 0), (0, .ref a0)]) => ?_)
  refine lv_iconst (pc := 2) hexec hb dX8_crossings_2 ki_0 ?_
  refine lv_istore_n (pc := 3) hexec hb dX8_crossings_3 rfl hl (nle rfl) rfl (fun ls (hl : lv_has ls 3 [(2, .int 0), (1, .int 0), (0, .ref a0)]) => ?_)
  obtain ⟨l4, el4, hf⟩ := bvf2 hf
  obtain ⟨v1_1, hz, hf⟩ := bd1_e hf
  have hE4 : ∀ (H : Heap) (locs : List Loc) (ls : Array Slot), va_P g.1 vwCl (w_X8_crossings g a0 a1 a2 a3 a4 a5 a6 a7 u0_1 u0_2 u0_3 u0_4 u0_5 u0_6 u0_7 u0_8 u0_9 u1_2 u1_4 u2_2 u2_3 u2_4 u2_5 u3_1 u3_5 x2_rows x2_columns x3_count y4_namesOn y5_direction y6_home y7_length) H → va_D A (w_X8_crossings g a0 a1 a2 a3 a4 a5 a6 a7 u0_1 u0_2 u0_3 u0_4 u0_5 u0_6 u0_7 u0_8 u0_9 u1_2 u1_4 u2_2 u2_3 u2_4 u2_5 u3_1 u3_5 x2_rows x2_columns x3_count y4_namesOn y5_direction y6_home y7_length) → va_S A s.heap H locs → lv_has ls 3 [(1, .int v1_1)] → W p l e (RM 3 75) s m args below meth c H locs 0 0 Q (F0 m 38 ls []) := by
    intro H locs ls hP hD hS hl
    refine lv_iload_n (pc := 38) hexec hb dX8_crossings_38 rfl (lv_at hl 0 rfl) ?_
    refine lv_iconst (pc := 39) hexec hb dX8_crossings_39 ki_2 ?_
    refine lv_idiv (pc := 40) hexec hb dX8_crossings_40 (by decide) ?_
    cases hf
    exact ke_i hQ hexec hb hr hP hD hS dX8_crossings_41 hlocks
  obtain ⟨n, hz⟩ := lq2_e hz
  have hL4 : ∀ (n : Nat) (v1 : Int32) (v2 : Int32) (H : Heap) (locs : List Loc) (ls : Array Slot), it2 l4 n v1 v2 = some v1_1 → va_P g.1 vwCl (w_X8_crossings g a0 a1 a2 a3 a4 a5 a6 a7 u0_1 u0_2 u0_3 u0_4 u0_5 u0_6 u0_7 u0_8 u0_9 u1_2 u1_4 u2_2 u2_3 u2_4 u2_5 u3_1 u3_5 x2_rows x2_columns x3_count y4_namesOn y5_direction y6_home y7_length) H → va_D A (w_X8_crossings g a0 a1 a2 a3 a4 a5 a6 a7 u0_1 u0_2 u0_3 u0_4 u0_5 u0_6 u0_7 u0_8 u0_9 u1_2 u1_4 u2_2 u2_3 u2_4 u2_5 u3_1 u3_5 x2_rows x2_columns x3_count y4_namesOn y5_direction y6_home y7_length) → va_S A s.heap H locs → lv_has ls 3 [(0, .ref a0), (1, .int v1), (2, .int v2)] → W p l e (RM 3 75) s m args below meth c H locs 0 0 Q (F0 m 4 ls []) := by
    intro n
    induction n with
    | zero =>
      intro v1 v2 H locs ls hf hP hD hS hl
      exact it2_0 hf
    | succ n4 ih4 =>
      intro v1 v2 H locs ls hf hP hD hS hl
      obtain ⟨q4, hf, hk4⟩ := it2_e hf
      have hf := (el4 v1 v2).symm.trans hf
      refine lv_iload_n (pc := 4) hexec hb dX8_crossings_4 rfl (lv_at hl 2 rfl) ?_
      refine lv_aload_n (pc := 5) hexec hb dX8_crossings_5 rfl (lv_at hl 0 rfl) ?_
      refine kg_get (pc := 6) hexec hb (own := RX8) hWX8 hown hG hP 0 rfl rfl 0 (nle rfl) (hts _ (List.mem_cons_of_mem _ (List.mem_append_left _ (List.mem_append_left _ (List.mem_append_left _ (List.mem_append_left _ (List.mem_append_left _ (List.mem_of_getElem? (i := 0) rfl)))))))) rfl rfl dX8_crossings_6 ?_
      refine kg_getN (pc := 9) hexec hb (own := RX8) hWX6 hown hG hP 1 rfl rfl 1 (nle rfl) 24 rfl rfl rfl dX8_crossings_9 ?_
      refine kg_getN (pc := 12) hexec hb (own := RX8) hWX2 hown hG hP 3 rfl rfl 0 (nle rfl) 6 rfl rfl rfl dX8_crossings_12 ?_
      refine ki_ge (pc := 15) hexec hb dX8_crossings_15 (tgt := 38) rfl hf (fun hc hf => ?_) (fun hc hf => ?_)
      · cases sr2 hf hk4
        exact hE4 _ _ _ hP hD hS (lv_sub hl [1] rfl)
      · refine lv_iload_n (pc := 18) hexec hb dX8_crossings_18 rfl (lv_at hl 1 rfl) ?_
        refine lv_aload_n (pc := 19) hexec hb dX8_crossings_19 rfl (lv_at hl 0 rfl) ?_
        refine kg_get (pc := 20) hexec hb (own := RX8) hWX8 hown hG hP 0 rfl rfl 0 (nle rfl) (hts _ (List.mem_cons_of_mem _ (List.mem_append_left _ (List.mem_append_left _ (List.mem_append_left _ (List.mem_append_left _ (List.mem_append_left _ (List.mem_of_getElem? (i := 0) rfl)))))))) rfl rfl dX8_crossings_20 ?_
        refine lv_iload_n (pc := 23) hexec hb dX8_crossings_23 rfl (lv_at hl 2 rfl) ?_
        obtain ⟨r24, hc, hf⟩ := bd1_e hf
        refine kVp (pc := 24) (S := ⟨hexec, hb, hml, hown, hts⟩) hP hD hG hA hS [1, 2, 3, 4, 5, 6, 7] [0] [0, 1, 2, 3, 4, 5, 6, 7] (w2 := (w_X8_crossings g a0 a1 a2 a3 a4 a5 a6 a7 u0_1 u0_2 u0_3 u0_4 u0_5 u0_6 u0_7 u0_8 u0_9 u1_2 u1_4 u2_2 u2_3 u2_4 u2_5 u3_1 u3_5 x2_rows x2_columns x3_count y4_namesOn y5_direction y6_home y7_length)) rfl rfl rfl rfl rfl rfl (by decide) (c_X6_crossedBy l g a1 a2 a3 a4 a5 a6 a7 _ u1_2 u1_4 u2_2 u2_3 u2_4 u2_5 u3_1 u3_5 x2_rows x2_columns x3_count y4_namesOn y5_direction y6_home y7_length v2 r24 hc) gX8_crossings_X6_crossedBy rfl hv_X6_crossedBy ⟨nle rfl, nle rfl⟩ 6 0 rfl rfl rfl (rest := [.int v1]) rfl rfl hl.1 (nle rfl) dX8_crossings_24 (fun H locs hP hD hS => ?_)
        obtain ⟨r27, hc, hf⟩ := bd1_e hf
        refine kSp (pc := 27) (S := ⟨hexec, hb, hml, hown, hts⟩) hP hD hG hA hS [] [0, 1, 2, 3, 4, 5, 6, 7] [0, 1, 2, 3, 4, 5, 6, 7] (w2 := (w_X8_crossings g a0 a1 a2 a3 a4 a5 a6 a7 u0_1 u0_2 u0_3 u0_4 u0_5 u0_6 u0_7 u0_8 u0_9 u1_2 u1_4 u2_2 u2_3 u2_4 u2_5 u3_1 u3_5 x2_rows x2_columns x3_count y4_namesOn y5_direction y6_home y7_length)) rfl rfl rfl rfl rfl rfl (by decide) (c_J6_bitCount_0f7a4 l g _ r24 r27 hc) gX8_crossings_J6_bitCount_0f7a4 rfl hs_J6_bitCount_0f7a4 ⟨nle rfl, nle rfl⟩ (rest := [.int v1]) rfl rfl hl.1 (nle rfl) dX8_crossings_27 (fun H locs hP hD hS => ?_)
        refine lv_iadd (pc := 30) hexec hb dX8_crossings_30 ?_
        obtain ⟨v1_2, ev1_2, hf⟩ := bv_e hf
        refine kn_i ev1_2 ?_
        refine lv_istore_n (pc := 31) hexec hb dX8_crossings_31 rfl hl (nle rfl) rfl (fun ls (hl : lv_has ls 3 [(1, .int v1_2), (0, .ref a0), (2, .int v2)]) => ?_)
        obtain ⟨v2_1, ev2_1, hf⟩ := bv_e hf
        refine k_iinc (pc := 32) hexec hb dX8_crossings_32 kq_1 hl (k := 2) rfl ev2_1 (nle rfl) rfl (fun ls (hl : lv_has ls 3 [(2, .int v2_1), (1, .int v1_2), (0, .ref a0)]) => ?_)
        refine lv_goto (pc := 35) hexec hb dX8_crossings_35 (tgt := 4) rfl ?_
        exact ih4 _ _ _ _ _ (sl2 hf hk4) hP hD hS (lv_sub hl [2, 1, 0] rfl)
  exact hL4 n _ _ _ _ _ hz hP hD hS (lv_sub hl [2, 1, 0] rfl)
abbrev w_X8_crossed (g : GE) (a0 a1 a2 a3 a4 a5 a6 a7 : Nat) (u0_1 u0_2 u0_3 u0_4 u0_5 u0_6 u0_7 u0_8 u0_9 u1_2 u1_4 u2_2 u2_3 u2_4 u2_5 u3_1 u3_5 : Value) (x2_rows : Int32) (x2_columns : Int32) (x3_count : Int32) (y4_namesOn : Nat → Int32) (y5_direction : Nat → Int32) (y6_home : Nat → Int32) (y7_length : Nat → Int32) : va_W := [(a0, .inr (8, [.ref a1, u0_1, u0_2, u0_3, u0_4, u0_5, u0_6, u0_7, u0_8, u0_9])), (a1, .inr (6, [.ref a2, .ref a3, u1_2, .ref a4, u1_4])), (a2, .inr (1, [.int x2_rows, .int x2_columns, u2_2, u2_3, u2_4, u2_5])), (a3, .inr (2, [.int x3_count, u3_1, .ref a6, .ref a5, .ref a7, u3_5])), (a4, .inl (g.2.1 0, 144, .inl y4_namesOn)), (a5, .inl (g.2.1 0, 8, .inl y5_direction)), (a6, .inl (g.2.1 0, 8, .inl y6_home)), (a7, .inl (g.2.1 0, 8, .inl y7_length))]
set_option maxRecDepth 20000 in
theorem c_X8_crossed (l : Launch) (g : GE) (a0 a1 a2 a3 a4 a5 a6 a7 : Nat) (sz : Nat) (u0_1 u0_2 u0_3 u0_4 u0_5 u0_6 u0_7 u0_8 u0_9 u1_2 u1_4 u2_2 u2_3 u2_4 u2_5 u3_1 u3_5 : Value) (x2_rows : Int32) (x2_columns : Int32) (x3_count : Int32) (y4_namesOn : Nat → Int32) (y5_direction : Nat → Int32) (y6_home : Nat → Int32) (y7_length : Nat → Int32) (p1 : Int32)  (r : Int32) (hf : f_X8_crossed x2_rows x2_columns x3_count y4_namesOn y5_direction y6_home y7_length p1 = some r) : MI l g yX8_crossed wsX8_crossed 3 75 [.ref a0, .int p1] (w_X8_crossed g a0 a1 a2 a3 a4 a5 a6 a7 u0_1 u0_2 u0_3 u0_4 u0_5 u0_6 u0_7 u0_8 u0_9 u1_2 u1_4 u2_2 u2_3 u2_4 u2_5 u3_1 u3_5 x2_rows x2_columns x3_count y4_namesOn y5_direction y6_home y7_length) sz (some (.int r)) (w_X8_crossed g a0 a1 a2 a3 a4 a5 a6 a7 u0_1 u0_2 u0_3 u0_4 u0_5 u0_6 u0_7 u0_8 u0_9 u1_2 u1_4 u2_2 u2_3 u2_4 u2_5 u3_1 u3_5 x2_rows x2_columns x3_count y4_namesOn y5_direction y6_home y7_length) := by
  refine MI.start (cc := cX8_crossed) (maxL := 2) (ret := (some .int)) rfl rfl (nle rfl) ?_
  intro p e s m args below meth c A ls Q hQ hexec hb hr hts hown hlocks hml hA hP hD hG hS hl
  unfold f_X8_crossed at hf
  have hWX1 : ∀ w ∈ wsX10, w.before args s = true := fun w h => hts w (List.mem_cons_of_mem _ (List.mem_append_left _ (List.mem_append_right _ h)))
  have hWX2 : ∀ w ∈ wsX20, w.before args s = true := fun w h => hts w (List.mem_cons_of_mem _ (List.mem_append_left _ (List.mem_append_left _ (List.mem_append_right _ h))))
  have hWX6 : ∀ w ∈ wsX60, w.before args s = true := fun w h => hts w (List.mem_cons_of_mem _ (List.mem_append_left _ (List.mem_append_left _ (List.mem_append_left _ (List.mem_append_right _ h)))))
  have hWX8 : ∀ w ∈ wsX80, w.before args s = true := fun w h => hts w (List.mem_cons_of_mem _ (List.mem_append_left _ (List.mem_append_left _ (List.mem_append_left _ (List.mem_append_left _ (List.mem_append_right _ h))))))
  have hS : va_S A s.heap s.heap [] := hS
  refine lv_aload_n (pc := 0) hexec hb dX8_crossed_0 rfl (lv_at hl 0 rfl) ?_
  refine lv_iload_n (pc := 1) hexec hb dX8_crossed_1 rfl (lv_at hl 1 rfl) ?_
  obtain ⟨_, hc, hf⟩ := bd1_e hf
  refine kVp (pc := 2) (S := ⟨hexec, hb, hml, hown, hts⟩) hP hD hG hA hS [0, 1, 3] [2, 4, 5, 6, 7] [5, 6, 0, 7, 1, 2, 3, 4] (w2 := (w_X8_crossed g a0 a1 a2 a3 a4 a5 a6 a7 u0_1 u0_2 u0_3 u0_4 u0_5 u0_6 u0_7 u0_8 u0_9 u1_2 u1_4 u2_2 u2_3 u2_4 u2_5 u3_1 u3_5 x2_rows x2_columns x3_count y4_namesOn y5_direction y6_home y7_length)) rfl rfl rfl rfl rfl rfl (by decide) (c_X8_needHarbour l g a0 a1 a3 _ u0_1 u0_2 u0_3 u0_4 u0_5 u0_6 u0_7 u0_8 u0_9 (.ref a2) u1_2 (.ref a4) u1_4 u3_1 (.ref a6) (.ref a5) (.ref a7) u3_5 x3_count p1 hc) gX8_crossed_X8_needHarbour rfl hv_X8_needHarbour ⟨nle rfl, nle rfl⟩ 8 0 rfl rfl rfl (rest := []) rfl rfl hl.1 (nle rfl) dX8_crossed_2 (fun H locs hP hD hS => ?_)
  refine lv_aload_n (pc := 5) hexec hb dX8_crossed_5 rfl (lv_at hl 0 rfl) ?_
  refine kg_get (pc := 6) hexec hb (own := RX8) hWX8 hown hG hP 0 rfl rfl 0 (nle rfl) (hts _ (List.mem_cons_of_mem _ (List.mem_append_left _ (List.mem_append_left _ (List.mem_append_left _ (List.mem_append_left _ (List.mem_append_left _ (List.mem_append_left _ (List.mem_of_getElem? (i := 0) rfl))))))))) rfl rfl dX8_crossed_6 ?_
  refine lv_iload_n (pc := 9) hexec hb dX8_crossed_9 rfl (lv_at hl 1 rfl) ?_
  obtain ⟨r10, hc, hf⟩ := bd1_e hf
  refine kVp (pc := 10) (S := ⟨hexec, hb, hml, hown, hts⟩) hP hD hG hA hS [1, 2, 3, 4, 5, 6, 7] [0] [0, 1, 2, 3, 4, 5, 6, 7] (w2 := (w_X8_crossed g a0 a1 a2 a3 a4 a5 a6 a7 u0_1 u0_2 u0_3 u0_4 u0_5 u0_6 u0_7 u0_8 u0_9 u1_2 u1_4 u2_2 u2_3 u2_4 u2_5 u3_1 u3_5 x2_rows x2_columns x3_count y4_namesOn y5_direction y6_home y7_length)) rfl rfl rfl rfl rfl rfl (by decide) (c_X6_crossedBy l g a1 a2 a3 a4 a5 a6 a7 _ u1_2 u1_4 u2_2 u2_3 u2_4 u2_5 u3_1 u3_5 x2_rows x2_columns x3_count y4_namesOn y5_direction y6_home y7_length p1 r10 hc) gX8_crossed_X6_crossedBy rfl hv_X6_crossedBy ⟨nle rfl, nle rfl⟩ 6 0 rfl rfl rfl (rest := []) rfl rfl hl.1 (nle rfl) dX8_crossed_10 (fun H locs hP hD hS => ?_)
  cases hf
  exact ke_i hQ hexec hb hr hP hD hS dX8_crossed_13 hlocks
abbrev w_X8_free (g : GE) (a0 a1 a2 a3 a4 a5 a6 a7 : Nat) (u0_1 u0_2 u0_3 u0_4 u0_5 u0_6 u0_7 u0_8 u0_9 u1_2 u1_4 u2_2 u2_5 u3_1 u3_3 u3_4 u3_5 : Value) (x2_rows : Int32) (x2_columns : Int32) (x3_count : Int32) (y4_namesOn : Nat → Int32) (y5_land : Nat → Int32) (y6_riverOf : Nat → Int32) (y7_home : Nat → Int32) : va_W := [(a0, .inr (8, [.ref a1, u0_1, u0_2, u0_3, u0_4, u0_5, u0_6, u0_7, u0_8, u0_9])), (a1, .inr (6, [.ref a2, .ref a3, u1_2, .ref a4, u1_4])), (a2, .inr (1, [.int x2_rows, .int x2_columns, u2_2, .ref a5, .ref a6, u2_5])), (a3, .inr (2, [.int x3_count, u3_1, .ref a7, u3_3, u3_4, u3_5])), (a4, .inl (g.2.1 0, 144, .inl y4_namesOn)), (a5, .inl (g.2.1 1, 144, .inl y5_land)), (a6, .inl (g.2.1 0, 144, .inl y6_riverOf)), (a7, .inl (g.2.1 0, 8, .inl y7_home))]
set_option maxRecDepth 20000 in
theorem c_X8_free (l : Launch) (g : GE) (a0 a1 a2 a3 a4 a5 a6 a7 : Nat) (sz : Nat) (u0_1 u0_2 u0_3 u0_4 u0_5 u0_6 u0_7 u0_8 u0_9 u1_2 u1_4 u2_2 u2_5 u3_1 u3_3 u3_4 u3_5 : Value) (x2_rows : Int32) (x2_columns : Int32) (x3_count : Int32) (y4_namesOn : Nat → Int32) (y5_land : Nat → Int32) (y6_riverOf : Nat → Int32) (y7_home : Nat → Int32)   (r : Int32) (hf : f_X8_free x2_rows x2_columns x3_count y4_namesOn y5_land y6_riverOf y7_home = some r) : MI l g yX8_free wsX8_free 3 67 [.ref a0] (w_X8_free g a0 a1 a2 a3 a4 a5 a6 a7 u0_1 u0_2 u0_3 u0_4 u0_5 u0_6 u0_7 u0_8 u0_9 u1_2 u1_4 u2_2 u2_5 u3_1 u3_3 u3_4 u3_5 x2_rows x2_columns x3_count y4_namesOn y5_land y6_riverOf y7_home) sz (some (.int r)) (w_X8_free g a0 a1 a2 a3 a4 a5 a6 a7 u0_1 u0_2 u0_3 u0_4 u0_5 u0_6 u0_7 u0_8 u0_9 u1_2 u1_4 u2_2 u2_5 u3_1 u3_3 u3_4 u3_5 x2_rows x2_columns x3_count y4_namesOn y5_land y6_riverOf y7_home) := by
  refine MI.start (cc := cX8_free) (maxL := 4) (ret := (some .int)) rfl rfl (nle rfl) ?_
  intro p e s m args below meth c A ls Q hQ hexec hb hr hts hown hlocks hml hA hP hD hG hS hl
  unfold f_X8_free at hf
  have hWX1 : ∀ w ∈ wsX10, w.before args s = true := fun w h => hts w (List.mem_cons_of_mem _ (List.mem_append_left _ (List.mem_append_right _ h)))
  have hWX2 : ∀ w ∈ wsX20, w.before args s = true := fun w h => hts w (List.mem_cons_of_mem _ (List.mem_append_right _ h))
  have hWX6 : ∀ w ∈ wsX60, w.before args s = true := fun w h => hts w (List.mem_cons_of_mem _ (List.mem_append_left _ (List.mem_append_left _ (List.mem_append_right _ h))))
  have hWX8 : ∀ w ∈ wsX80, w.before args s = true := fun w h => hts w (List.mem_cons_of_mem _ (List.mem_append_left _ (List.mem_append_left _ (List.mem_append_left _ (List.mem_append_right _ h)))))
  have hS : va_S A s.heap s.heap [] := hS
  refine lv_aload_n (pc := 0) hexec hb dX8_free_0 rfl (lv_at hl 0 rfl) ?_
  refine kg_get (pc := 1) hexec hb (own := RX8) hWX8 hown hG hP 0 rfl rfl 0 (nle rfl) (hts _ (List.mem_cons_of_mem _ (List.mem_append_left _ (List.mem_append_left _ (List.mem_append_left _ (List.mem_append_left _ (List.mem_append_left _ (List.mem_of_getElem? (i := 0) rfl)))))))) rfl rfl dX8_free_1 ?_
  refine kg_getN (pc := 4) hexec hb (own := RX8) hWX6 hown hG hP 1 rfl rfl 0 (nle rfl) 21 rfl rfl rfl dX8_free_4 ?_
  obtain ⟨r7, hc, hf⟩ := bd1_e hf
  refine kVp (pc := 7) (S := ⟨hexec, hb, hml, hown, hts⟩) hP hD hG hA hS [2] [0, 1, 3, 4, 5, 6, 7] [0, 1, 7, 2, 3, 4, 5, 6] (w2 := (w_X8_free g a0 a1 a2 a3 a4 a5 a6 a7 u0_1 u0_2 u0_3 u0_4 u0_5 u0_6 u0_7 u0_8 u0_9 u1_2 u1_4 u2_2 u2_5 u3_1 u3_3 u3_4 u3_5 x2_rows x2_columns x3_count y4_namesOn y5_land y6_riverOf y7_home)) rfl rfl rfl rfl rfl rfl (by decide) (c_X1_cells l g a2 _ u2_2 (.ref a5) (.ref a6) u2_5 x2_rows x2_columns r7 hc) gX8_free_X1_cells rfl hv_X1_cells ⟨nle rfl, nle rfl⟩ 1 0 rfl rfl rfl (rest := []) rfl rfl hl.1 (nle rfl) dX8_free_7 (fun H locs hP hD hS => ?_)
  refine lv_istore_n (pc := 10) hexec hb dX8_free_10 rfl hl (nle rfl) rfl (fun ls (hl : lv_has ls 4 [(1, .int r7), (0, .ref a0)]) => ?_)
  refine lv_iconst (pc := 11) hexec hb dX8_free_11 ki_0 ?_
  refine lv_istore_n (pc := 12) hexec hb dX8_free_12 rfl hl (nle rfl) rfl (fun ls (hl : lv_has ls 4 [(2, .int 0), (1, .int r7), (0, .ref a0)]) => ?_)
  refine lv_iconst (pc := 13) hexec hb dX8_free_13 ki_0 ?_
  refine lv_istore_n (pc := 14) hexec hb dX8_free_14 rfl hl (nle rfl) rfl (fun ls (hl : lv_has ls 4 [(3, .int 0), (2, .int 0), (1, .int r7), (0, .ref a0)]) => ?_)
  obtain ⟨l15, el15, hf⟩ := bvf2 hf
  obtain ⟨v2_1, hz, hf⟩ := bd1_e hf
  have hE15 : ∀ (H : Heap) (locs : List Loc) (ls : Array Slot), va_P g.1 vwCl (w_X8_free g a0 a1 a2 a3 a4 a5 a6 a7 u0_1 u0_2 u0_3 u0_4 u0_5 u0_6 u0_7 u0_8 u0_9 u1_2 u1_4 u2_2 u2_5 u3_1 u3_3 u3_4 u3_5 x2_rows x2_columns x3_count y4_namesOn y5_land y6_riverOf y7_home) H → va_D A (w_X8_free g a0 a1 a2 a3 a4 a5 a6 a7 u0_1 u0_2 u0_3 u0_4 u0_5 u0_6 u0_7 u0_8 u0_9 u1_2 u1_4 u2_2 u2_5 u3_1 u3_3 u3_4 u3_5 x2_rows x2_columns x3_count y4_namesOn y5_land y6_riverOf y7_home) → va_S A s.heap H locs → lv_has ls 4 [(2, .int v2_1)] → W p l e (RM 3 67) s m args below meth c H locs 0 0 Q (F0 m 51 ls []) := by
    intro H locs ls hP hD hS hl
    refine lv_iload_n (pc := 51) hexec hb dX8_free_51 rfl (lv_at hl 0 rfl) ?_
    cases hf
    exact ke_i hQ hexec hb hr hP hD hS dX8_free_52 hlocks
  obtain ⟨n, hz⟩ := lq2_e hz
  have hL15 : ∀ (n : Nat) (v2 : Int32) (v3 : Int32) (H : Heap) (locs : List Loc) (ls : Array Slot), it2 l15 n v2 v3 = some v2_1 → va_P g.1 vwCl (w_X8_free g a0 a1 a2 a3 a4 a5 a6 a7 u0_1 u0_2 u0_3 u0_4 u0_5 u0_6 u0_7 u0_8 u0_9 u1_2 u1_4 u2_2 u2_5 u3_1 u3_3 u3_4 u3_5 x2_rows x2_columns x3_count y4_namesOn y5_land y6_riverOf y7_home) H → va_D A (w_X8_free g a0 a1 a2 a3 a4 a5 a6 a7 u0_1 u0_2 u0_3 u0_4 u0_5 u0_6 u0_7 u0_8 u0_9 u1_2 u1_4 u2_2 u2_5 u3_1 u3_3 u3_4 u3_5 x2_rows x2_columns x3_count y4_namesOn y5_land y6_riverOf y7_home) → va_S A s.heap H locs → lv_has ls 4 [(0, .ref a0), (1, .int r7), (2, .int v2), (3, .int v3)] → W p l e (RM 3 67) s m args below meth c H locs 0 0 Q (F0 m 15 ls []) := by
    intro n
    induction n with
    | zero =>
      intro v2 v3 H locs ls hf hP hD hS hl
      exact it2_0 hf
    | succ n15 ih15 =>
      intro v2 v3 H locs ls hf hP hD hS hl
      obtain ⟨q15, hf, hk15⟩ := it2_e hf
      have hf := (el15 v2 v3).symm.trans hf
      refine lv_iload_n (pc := 15) hexec hb dX8_free_15 rfl (lv_at hl 3 rfl) ?_
      refine lv_iload_n (pc := 16) hexec hb dX8_free_16 rfl (lv_at hl 1 rfl) ?_
      refine ki_ge (pc := 17) hexec hb dX8_free_17 (tgt := 51) rfl hf (fun hc hf => ?_) (fun hc hf => ?_)
      · cases sr2 hf hk15
        exact hE15 _ _ _ hP hD hS (lv_sub hl [2] rfl)
      · refine lv_aload_n (pc := 20) hexec hb dX8_free_20 rfl (lv_at hl 0 rfl) ?_
        refine kg_get (pc := 21) hexec hb (own := RX8) hWX8 hown hG hP 0 rfl rfl 0 (nle rfl) (hts _ (List.mem_cons_of_mem _ (List.mem_append_left _ (List.mem_append_left _ (List.mem_append_left _ (List.mem_append_left _ (List.mem_append_left _ (List.mem_of_getElem? (i := 0) rfl)))))))) rfl rfl dX8_free_21 ?_
        refine lv_iload_n (pc := 24) hexec hb dX8_free_24 rfl (lv_at hl 3 rfl) ?_
        obtain ⟨r25, hc, hf⟩ := bd1_e hf
        refine kVp (pc := 25) (S := ⟨hexec, hb, hml, hown, hts⟩) hP hD hG hA hS [1, 2, 3, 5, 6, 7] [0, 4] [0, 2, 3, 4, 1, 5, 6, 7] (w2 := (w_X8_free g a0 a1 a2 a3 a4 a5 a6 a7 u0_1 u0_2 u0_3 u0_4 u0_5 u0_6 u0_7 u0_8 u0_9 u1_2 u1_4 u2_2 u2_5 u3_1 u3_3 u3_4 u3_5 x2_rows x2_columns x3_count y4_namesOn y5_land y6_riverOf y7_home)) rfl rfl rfl rfl rfl rfl (by decide) (c_X6_isOpen l g a1 a2 a3 a5 a6 a7 _ u1_2 (.ref a4) u1_4 (.int x2_rows) (.int x2_columns) u2_2 u2_5 u3_1 u3_3 u3_4 u3_5 x3_count y5_land y6_riverOf y7_home v3 r25 hc) gX8_free_X6_isOpen rfl hv_X6_isOpen ⟨nle rfl, nle rfl⟩ 6 0 rfl rfl rfl (rest := []) rfl rfl hl.1 (nle rfl) dX8_free_25 (fun H locs hP hD hS => ?_)
        obtain ⟨j45, ej45, hf⟩ := bvf1 hf
        have hj45 : ∀ (v2_2 : Int32) (H : Heap) (locs : List Loc) (ls : Array Slot), j45 v2_2 = some q15 → va_P g.1 vwCl (w_X8_free g a0 a1 a2 a3 a4 a5 a6 a7 u0_1 u0_2 u0_3 u0_4 u0_5 u0_6 u0_7 u0_8 u0_9 u1_2 u1_4 u2_2 u2_5 u3_1 u3_3 u3_4 u3_5 x2_rows x2_columns x3_count y4_namesOn y5_land y6_riverOf y7_home) H → va_D A (w_X8_free g a0 a1 a2 a3 a4 a5 a6 a7 u0_1 u0_2 u0_3 u0_4 u0_5 u0_6 u0_7 u0_8 u0_9 u1_2 u1_4 u2_2 u2_5 u3_1 u3_3 u3_4 u3_5 x2_rows x2_columns x3_count y4_namesOn y5_land y6_riverOf y7_home) → va_S A s.heap H locs → lv_has ls 4 [(0, .ref a0), (1, .int r7), (2, .int v2_2), (3, .int v3)] → W p l e (RM 3 67) s m args below meth c H locs 0 0 Q (F0 m 45 ls []) := by
          intro v2_2 H locs ls hf hP hD hS hl
          have hf := (ej45 v2_2).symm.trans hf
          obtain ⟨v3_1, ev3_1, hf⟩ := bv_e hf
          refine k_iinc (pc := 45) hexec hb dX8_free_45 kq_1 hl (k := 3) rfl ev3_1 (nle rfl) rfl (fun ls (hl : lv_has ls 4 [(3, .int v3_1), (0, .ref a0), (1, .int r7), (2, .int v2_2)]) => ?_)
          refine lv_goto (pc := 48) hexec hb dX8_free_48 (tgt := 15) rfl ?_
          exact ih15 _ _ _ _ _ (sl2 hf hk15) hP hD hS (lv_sub hl [1, 2, 3, 0] rfl)
        refine kb_eq (pc := 28) hexec hb dX8_free_28 (tgt := 45) rfl hf (fun hc hf => ?_) (fun hc hf => ?_)
        · exact hj45 _ _ _ _ hf hP hD hS (lv_sub hl [0, 1, 2, 3] rfl)
        · refine lv_aload_n (pc := 31) hexec hb dX8_free_31 rfl (lv_at hl 0 rfl) ?_
          refine kg_get (pc := 32) hexec hb (own := RX8) hWX8 hown hG hP 0 rfl rfl 0 (nle rfl) (hts _ (List.mem_cons_of_mem _ (List.mem_append_left _ (List.mem_append_left _ (List.mem_append_left _ (List.mem_append_left _ (List.mem_append_left _ (List.mem_of_getElem? (i := 0) rfl)))))))) rfl rfl dX8_free_32 ?_
          refine lv_iload_n (pc := 35) hexec hb dX8_free_35 rfl (lv_at hl 3 rfl) ?_
          obtain ⟨r36, hc, hf⟩ := bd1_e hf
          refine kVp (pc := 36) (S := ⟨hexec, hb, hml, hown, hts⟩) hP hD hG hA hS [1, 4] [0, 2, 3, 5, 6, 7] [0, 6, 1, 2, 7, 3, 4, 5] (w2 := (w_X8_free g a0 a1 a2 a3 a4 a5 a6 a7 u0_1 u0_2 u0_3 u0_4 u0_5 u0_6 u0_7 u0_8 u0_9 u1_2 u1_4 u2_2 u2_5 u3_1 u3_3 u3_4 u3_5 x2_rows x2_columns x3_count y4_namesOn y5_land y6_riverOf y7_home)) rfl rfl rfl rfl rfl rfl (by decide) (c_X6_namesIn l g a1 a4 _ (.ref a2) (.ref a3) u1_2 u1_4 y4_namesOn v3 r36 hc) gX8_free_X6_namesIn rfl hv_X6_namesIn ⟨nle rfl, nle rfl⟩ 6 0 rfl rfl rfl (rest := []) rfl rfl hl.1 (nle rfl) dX8_free_36 (fun H locs hP hD hS => ?_)
          refine kb_ne (pc := 39) hexec hb dX8_free_39 (tgt := 45) rfl hf (fun hc hf => ?_) (fun hc hf => ?_)
          · exact hj45 _ _ _ _ hf hP hD hS (lv_sub hl [0, 1, 2, 3] rfl)
          · obtain ⟨v2_3, ev2_3, hf⟩ := bv_e hf
            refine k_iinc (pc := 42) hexec hb dX8_free_42 kq_1 hl (k := 2) rfl ev2_3 (nle rfl) rfl (fun ls (hl : lv_has ls 4 [(2, .int v2_3), (0, .ref a0), (1, .int r7), (3, .int v3)]) => ?_)
            exact hj45 _ _ _ _ hf hP hD hS (lv_sub hl [1, 2, 0, 3] rfl)
  exact hL15 n _ _ _ _ _ hz hP hD hS (lv_sub hl [3, 2, 1, 0] rfl)
abbrev w_X8_needTurn (g : GE) : va_W := []
set_option maxRecDepth 20000 in
theorem c_X8_needTurn (l : Launch) (g : GE) (sz : Nat)  (p0 : Int32)  (hf : f_X8_needTurn p0 = some ()) : MI l g yX8_needTurn wsX8_needTurn 1 24 [.int p0] (w_X8_needTurn g ) sz none (w_X8_needTurn g ) := by
  refine MI.start (cc := cX8_needTurn) (maxL := 1) (ret := none) rfl rfl (nle rfl) ?_
  intro p e s m args below meth c A ls Q hQ hexec hb hr hts hown hlocks hml hA hP hD hG hS hl
  unfold f_X8_needTurn at hf
  have hS : va_S A s.heap s.heap [] := hS
  refine lv_iload_n (pc := 0) hexec hb dX8_needTurn_0 rfl (lv_at hl 0 rfl) ?_
  obtain ⟨j9, ej9, hf⟩ := bvf1 hf
  have hj9 : ∀ (u : Unit) (H : Heap) (locs : List Loc) (ls : Array Slot), j9 u = some () → va_P g.1 vwCl (w_X8_needTurn g ) H → va_D A (w_X8_needTurn g ) → va_S A s.heap H locs → lv_has ls 1 [] → W p l e (RM 1 24) s m args below meth c H locs 0 0 Q (F0 m 9 ls []) := by
    intro u H locs ls hf hP hD hS hl
    have hf := (ej9 u).symm.trans hf
    cases hf
  refine kb_lt (pc := 1) hexec hb dX8_needTurn_1 (tgt := 9) rfl hf (fun hc hf => ?_) (fun hc hf => ?_)
  · exact hj9 _ _ _ _ hf hP hD hS (lv_sub hl [] rfl)
  · refine lv_iload_n (pc := 4) hexec hb dX8_needTurn_4 rfl (lv_at hl 0 rfl) ?_
    refine lv_iconst (pc := 5) hexec hb dX8_needTurn_5 ki_4 ?_
    refine ki_lt (pc := 6) hexec hb dX8_needTurn_6 (tgt := 20) rfl hf (fun hc hf => ?_) (fun hc hf => ?_)
    · cases hf
      exact ke_v hQ hexec hb hr hP hD hS dX8_needTurn_20 hlocks
    · exact hj9 _ _ _ _ hf hP hD hS (lv_sub hl [] rfl)
abbrev w_X8_upright (g : GE) (a0 a1 a2 a3 : Nat) (u0_1 u0_2 u0_3 u0_4 u0_5 u0_6 u0_7 u0_8 u0_9 u1_0 u1_2 u1_3 u1_4 u2_1 u2_2 u2_4 u2_5 : Value) (x2_count : Int32) (y3_direction : Nat → Int32) : va_W := [(a0, .inr (8, [.ref a1, u0_1, u0_2, u0_3, u0_4, u0_5, u0_6, u0_7, u0_8, u0_9])), (a1, .inr (6, [u1_0, .ref a2, u1_2, u1_3, u1_4])), (a2, .inr (2, [.int x2_count, u2_1, u2_2, .ref a3, u2_4, u2_5])), (a3, .inl (g.2.1 0, 8, .inl y3_direction))]
set_option maxRecDepth 20000 in
theorem c_X8_upright (l : Launch) (g : GE) (a0 a1 a2 a3 : Nat) (sz : Nat) (u0_1 u0_2 u0_3 u0_4 u0_5 u0_6 u0_7 u0_8 u0_9 u1_0 u1_2 u1_3 u1_4 u2_1 u2_2 u2_4 u2_5 : Value) (x2_count : Int32) (y3_direction : Nat → Int32) (p1 : Int32)  (r : Int32) (hf : f_X8_upright x2_count y3_direction p1 = some r) : MI l g yX8_upright wsX8_upright 2 45 [.ref a0, .int p1] (w_X8_upright g a0 a1 a2 a3 u0_1 u0_2 u0_3 u0_4 u0_5 u0_6 u0_7 u0_8 u0_9 u1_0 u1_2 u1_3 u1_4 u2_1 u2_2 u2_4 u2_5 x2_count y3_direction) sz (some (.int r)) (w_X8_upright g a0 a1 a2 a3 u0_1 u0_2 u0_3 u0_4 u0_5 u0_6 u0_7 u0_8 u0_9 u1_0 u1_2 u1_3 u1_4 u2_1 u2_2 u2_4 u2_5 x2_count y3_direction) := by
  refine MI.start (cc := cX8_upright) (maxL := 5) (ret := (some .int)) rfl rfl (nle rfl) ?_
  intro p e s m args below meth c A ls Q hQ hexec hb hr hts hown hlocks hml hA hP hD hG hS hl
  unfold f_X8_upright at hf
  have hWX2 : ∀ w ∈ wsX20, w.before args s = true := fun w h => hts w (List.mem_cons_of_mem _ (List.mem_append_left _ (List.mem_append_right _ h)))
  have hWX6 : ∀ w ∈ wsX60, w.before args s = true := fun w h => hts w (List.mem_cons_of_mem _ (List.mem_append_left _ (List.mem_append_left _ (List.mem_append_right _ h))))
  have hWX8 : ∀ w ∈ wsX80, w.before args s = true := fun w h => hts w (List.mem_cons_of_mem _ (List.mem_append_left _ (List.mem_append_left _ (List.mem_append_left _ (List.mem_append_right _ h)))))
  have hS : va_S A s.heap s.heap [] := hS
  refine lv_iload_n (pc := 0) hexec hb dX8_upright_0 rfl (lv_at hl 1 rfl) ?_
  obtain ⟨_, hc, hf⟩ := bd1_e hf
  refine kSp (pc := 1) (S := ⟨hexec, hb, hml, hown, hts⟩) hP hD hG hA hS [] [0, 1, 2, 3] [0, 1, 2, 3] (w2 := (w_X8_upright g a0 a1 a2 a3 u0_1 u0_2 u0_3 u0_4 u0_5 u0_6 u0_7 u0_8 u0_9 u1_0 u1_2 u1_3 u1_4 u2_1 u2_2 u2_4 u2_5 x2_count y3_direction)) rfl rfl rfl rfl rfl rfl (by decide) (c_X8_needTurn l g _ p1 hc) gX8_upright_X8_needTurn rfl hs_X8_needTurn ⟨nle rfl, nle rfl⟩ (rest := []) rfl rfl hl.1 (nle rfl) dX8_upright_1 (fun H locs hP hD hS => ?_)
  refine lv_iconst (pc := 4) hexec hb dX8_upright_4 ki_0 ?_
  refine lv_istore_n (pc := 5) hexec hb dX8_upright_5 rfl hl (nle rfl) rfl (fun ls (hl : lv_has ls 5 [(2, .int 0), (0, .ref a0), (1, .int p1)]) => ?_)
  refine lv_iconst (pc := 6) hexec hb dX8_upright_6 ki_0 ?_
  refine lv_istore_n (pc := 7) hexec hb dX8_upright_7 rfl hl (nle rfl) rfl (fun ls (hl : lv_has ls 5 [(3, .int 0), (2, .int 0), (0, .ref a0), (1, .int p1)]) => ?_)
  obtain ⟨l8, el8, hf⟩ := bvf2 hf
  obtain ⟨v2_1, hz, hf⟩ := bd1_e hf
  have hE8 : ∀ (H : Heap) (locs : List Loc) (ls : Array Slot), va_P g.1 vwCl (w_X8_upright g a0 a1 a2 a3 u0_1 u0_2 u0_3 u0_4 u0_5 u0_6 u0_7 u0_8 u0_9 u1_0 u1_2 u1_3 u1_4 u2_1 u2_2 u2_4 u2_5 x2_count y3_direction) H → va_D A (w_X8_upright g a0 a1 a2 a3 u0_1 u0_2 u0_3 u0_4 u0_5 u0_6 u0_7 u0_8 u0_9 u1_0 u1_2 u1_3 u1_4 u2_1 u2_2 u2_4 u2_5 x2_count y3_direction) → va_S A s.heap H locs → lv_has ls 5 [(2, .int v2_1)] → W p l e (RM 2 45) s m args below meth c H locs 0 0 Q (F0 m 62 ls []) := by
    intro H locs ls hP hD hS hl
    refine lv_iload_n (pc := 62) hexec hb dX8_upright_62 rfl (lv_at hl 0 rfl) ?_
    cases hf
    exact ke_i hQ hexec hb hr hP hD hS dX8_upright_63 hlocks
  obtain ⟨n, hz⟩ := lq2_e hz
  have hL8 : ∀ (n : Nat) (v2 : Int32) (v3 : Int32) (H : Heap) (locs : List Loc) (ls : Array Slot), it2 l8 n v2 v3 = some v2_1 → va_P g.1 vwCl (w_X8_upright g a0 a1 a2 a3 u0_1 u0_2 u0_3 u0_4 u0_5 u0_6 u0_7 u0_8 u0_9 u1_0 u1_2 u1_3 u1_4 u2_1 u2_2 u2_4 u2_5 x2_count y3_direction) H → va_D A (w_X8_upright g a0 a1 a2 a3 u0_1 u0_2 u0_3 u0_4 u0_5 u0_6 u0_7 u0_8 u0_9 u1_0 u1_2 u1_3 u1_4 u2_1 u2_2 u2_4 u2_5 x2_count y3_direction) → va_S A s.heap H locs → lv_has ls 5 [(0, .ref a0), (1, .int p1), (2, .int v2), (3, .int v3)] → W p l e (RM 2 45) s m args below meth c H locs 0 0 Q (F0 m 8 ls []) := by
    intro n
    induction n with
    | zero =>
      intro v2 v3 H locs ls hf hP hD hS hl
      exact it2_0 hf
    | succ n8 ih8 =>
      intro v2 v3 H locs ls hf hP hD hS hl
      obtain ⟨q8, hf, hk8⟩ := it2_e hf
      have hf := (el8 v2 v3).symm.trans hf
      refine lv_iload_n (pc := 8) hexec hb dX8_upright_8 rfl (lv_at hl 3 rfl) ?_
      refine lv_aload_n (pc := 9) hexec hb dX8_upright_9 rfl (lv_at hl 0 rfl) ?_
      refine kg_get (pc := 10) hexec hb (own := RX8) hWX8 hown hG hP 0 rfl rfl 0 (nle rfl) (hts _ (List.mem_cons_of_mem _ (List.mem_append_left _ (List.mem_append_left _ (List.mem_append_left _ (List.mem_append_left _ (List.mem_of_getElem? (i := 0) rfl))))))) rfl rfl dX8_upright_10 ?_
      refine kg_getN (pc := 13) hexec hb (own := RX8) hWX6 hown hG hP 1 rfl rfl 1 (nle rfl) 24 rfl rfl rfl dX8_upright_13 ?_
      refine kg_getN (pc := 16) hexec hb (own := RX8) hWX2 hown hG hP 2 rfl rfl 0 (nle rfl) 6 rfl rfl rfl dX8_upright_16 ?_
      refine ki_ge (pc := 19) hexec hb dX8_upright_19 (tgt := 62) rfl hf (fun hc hf => ?_) (fun hc hf => ?_)
      · cases sr2 hf hk8
        exact hE8 _ _ _ hP hD hS (lv_sub hl [2] rfl)
      · refine lv_aload_n (pc := 22) hexec hb dX8_upright_22 rfl (lv_at hl 0 rfl) ?_
        refine kg_get (pc := 23) hexec hb (own := RX8) hWX8 hown hG hP 0 rfl rfl 0 (nle rfl) (hts _ (List.mem_cons_of_mem _ (List.mem_append_left _ (List.mem_append_left _ (List.mem_append_left _ (List.mem_append_left _ (List.mem_of_getElem? (i := 0) rfl))))))) rfl rfl dX8_upright_23 ?_
        refine kg_getN (pc := 26) hexec hb (own := RX8) hWX6 hown hG hP 1 rfl rfl 1 (nle rfl) 24 rfl rfl rfl dX8_upright_26 ?_
        refine lv_iload_n (pc := 29) hexec hb dX8_upright_29 rfl (lv_at hl 3 rfl) ?_
        obtain ⟨r30, hc, hf⟩ := bd1_e hf
        refine kVp (pc := 30) (S := ⟨hexec, hb, hml, hown, hts⟩) hP hD hG hA hS [2, 3] [0, 1] [0, 1, 2, 3] (w2 := (w_X8_upright g a0 a1 a2 a3 u0_1 u0_2 u0_3 u0_4 u0_5 u0_6 u0_7 u0_8 u0_9 u1_0 u1_2 u1_3 u1_4 u2_1 u2_2 u2_4 u2_5 x2_count y3_direction)) rfl rfl rfl rfl rfl rfl (by decide) (c_X2_directionOf l g a2 a3 _ u2_1 u2_2 u2_4 u2_5 x2_count y3_direction v3 r30 hc) gX8_upright_X2_directionOf rfl hv_X2_directionOf ⟨nle rfl, nle rfl⟩ 2 0 rfl rfl rfl (rest := []) rfl rfl hl.1 (nle rfl) dX8_upright_30 (fun H locs hP hD hS => ?_)
        refine lv_istore (pc := 33) hexec hb dX8_upright_33 hl (nle rfl) rfl (fun ls (hl : lv_has ls 5 [(4, .int r30), (0, .ref a0), (1, .int p1), (2, .int v2), (3, .int v3)]) => ?_)
        refine lv_iload (pc := 35) hexec hb dX8_upright_35 (lv_at hl 0 rfl) ?_
        refine lv_iconst (pc := 37) hexec hb dX8_upright_37 ki_m1 ?_
        obtain ⟨j56, ej56, hf⟩ := bvf1 hf
        have hj56 : ∀ (v2_2 : Int32) (H : Heap) (locs : List Loc) (ls : Array Slot), j56 v2_2 = some q8 → va_P g.1 vwCl (w_X8_upright g a0 a1 a2 a3 u0_1 u0_2 u0_3 u0_4 u0_5 u0_6 u0_7 u0_8 u0_9 u1_0 u1_2 u1_3 u1_4 u2_1 u2_2 u2_4 u2_5 x2_count y3_direction) H → va_D A (w_X8_upright g a0 a1 a2 a3 u0_1 u0_2 u0_3 u0_4 u0_5 u0_6 u0_7 u0_8 u0_9 u1_0 u1_2 u1_3 u1_4 u2_1 u2_2 u2_4 u2_5 x2_count y3_direction) → va_S A s.heap H locs → lv_has ls 5 [(0, .ref a0), (1, .int p1), (2, .int v2_2), (3, .int v3)] → W p l e (RM 2 45) s m args below meth c H locs 0 0 Q (F0 m 56 ls []) := by
          intro v2_2 H locs ls hf hP hD hS hl
          have hf := (ej56 v2_2).symm.trans hf
          obtain ⟨v3_1, ev3_1, hf⟩ := bv_e hf
          refine k_iinc (pc := 56) hexec hb dX8_upright_56 kq_1 hl (k := 3) rfl ev3_1 (nle rfl) rfl (fun ls (hl : lv_has ls 5 [(3, .int v3_1), (0, .ref a0), (1, .int p1), (2, .int v2_2)]) => ?_)
          refine lv_goto (pc := 59) hexec hb dX8_upright_59 (tgt := 8) rfl ?_
          exact ih8 _ _ _ _ _ (sl2 hf hk8) hP hD hS (lv_sub hl [1, 2, 3, 0] rfl)
        refine ki_eq (pc := 38) hexec hb dX8_upright_38 (tgt := 56) rfl hf (fun hc hf => ?_) (fun hc hf => ?_)
        · exact hj56 _ _ _ _ hf hP hD hS (lv_sub hl [1, 2, 3, 4] rfl)
        · refine lv_iload (pc := 41) hexec hb dX8_upright_41 (lv_at hl 0 rfl) ?_
          obtain ⟨r43, hc, hf⟩ := bd1_e hf
          refine kSp (pc := 43) (S := ⟨hexec, hb, hml, hown, hts⟩) hP hD hG hA hS [] [0, 1, 2, 3] [0, 1, 2, 3] (w2 := (w_X8_upright g a0 a1 a2 a3 u0_1 u0_2 u0_3 u0_4 u0_5 u0_6 u0_7 u0_8 u0_9 u1_0 u1_2 u1_3 u1_4 u2_1 u2_2 u2_4 u2_5 x2_count y3_direction)) rfl rfl rfl rfl rfl rfl (by decide) (c_X8_uprightTurn l g _ r30 r43 hc) gX8_upright_X8_uprightTurn rfl hs_X8_uprightTurn ⟨nle rfl, nle rfl⟩ (rest := []) rfl rfl hl.1 (nle rfl) dX8_upright_43 (fun H locs hP hD hS => ?_)
          refine lv_iload_n (pc := 46) hexec hb dX8_upright_46 rfl (lv_at hl 2 rfl) ?_
          refine ki_ne (pc := 47) hexec hb dX8_upright_47 (tgt := 56) rfl hf (fun hc hf => ?_) (fun hc hf => ?_)
          · exact hj56 _ _ _ _ hf hP hD hS (lv_sub hl [1, 2, 3, 4] rfl)
          · refine lv_iload_n (pc := 50) hexec hb dX8_upright_50 rfl (lv_at hl 3 rfl) ?_
            refine lv_iconst (pc := 51) hexec hb dX8_upright_51 ki_1 ?_
            refine lv_iload_n (pc := 52) hexec hb dX8_upright_52 rfl (lv_at hl 4 rfl) ?_
            refine lv_ishl (pc := 53) hexec hb dX8_upright_53 ?_
            refine lv_ior (pc := 54) hexec hb dX8_upright_54 ?_
            obtain ⟨v2_3, ev2_3, hf⟩ := bv_e hf
            refine kn_i ev2_3 ?_
            refine lv_istore_n (pc := 55) hexec hb dX8_upright_55 rfl hl (nle rfl) rfl (fun ls (hl : lv_has ls 5 [(2, .int v2_3), (4, .int r30), (0, .ref a0), (1, .int p1), (3, .int v3)]) => ?_)
            exact hj56 _ _ _ _ hf hP hD hS (lv_sub hl [2, 3, 0, 4] rfl)
  exact hL8 n _ _ _ _ _ hz hP hD hS (lv_sub hl [2, 3, 1, 0] rfl)
abbrev w_X8_turning (g : GE) (a0 a1 a2 a3 a4 a5 : Nat) (u0_1 u0_2 u0_3 u0_4 u0_5 u0_6 u0_7 u0_8 u0_9 u1_0 u1_3 u1_4 u2_0 u2_1 u2_2 u2_4 u2_5 u3_1 u3_3 : Value) (x3_count : Int32) (x3_turn : Int32) (y4_direction : Nat → Int32) (y5_stops : Nat → Int32) : va_W := [(a0, .inr (8, [.ref a1, u0_1, u0_2, u0_3, u0_4, u0_5, u0_6, u0_7, u0_8, u0_9])), (a1, .inr (6, [u1_0, .ref a2, .ref a3, u1_3, u1_4])), (a2, .inr (2, [u2_0, u2_1, u2_2, .ref a4, u2_4, u2_5])), (a3, .inr (4, [.int x3_count, u3_1, .int x3_turn, u3_3, .ref a5])), (a4, .inl (g.2.1 0, 8, .inl y4_direction)), (a5, .inl (g.2.1 0, 16, .inl y5_stops))]
set_option maxRecDepth 20000 in
theorem c_X8_turning (l : Launch) (g : GE) (a0 a1 a2 a3 a4 a5 : Nat) (sz : Nat) (u0_1 u0_2 u0_3 u0_4 u0_5 u0_6 u0_7 u0_8 u0_9 u1_0 u1_3 u1_4 u2_0 u2_1 u2_2 u2_4 u2_5 u3_1 u3_3 : Value) (x3_count : Int32) (x3_turn : Int32) (y4_direction : Nat → Int32) (y5_stops : Nat → Int32)   (r : Int32) (hf : f_X8_turning x3_count x3_turn y4_direction y5_stops = some r) : MI l g yX8_turning wsX8_turning 4 94 [.ref a0] (w_X8_turning g a0 a1 a2 a3 a4 a5 u0_1 u0_2 u0_3 u0_4 u0_5 u0_6 u0_7 u0_8 u0_9 u1_0 u1_3 u1_4 u2_0 u2_1 u2_2 u2_4 u2_5 u3_1 u3_3 x3_count x3_turn y4_direction y5_stops) sz (some (.int r)) (w_X8_turning g a0 a1 a2 a3 a4 a5 u0_1 u0_2 u0_3 u0_4 u0_5 u0_6 u0_7 u0_8 u0_9 u1_0 u1_3 u1_4 u2_0 u2_1 u2_2 u2_4 u2_5 u3_1 u3_3 x3_count x3_turn y4_direction y5_stops) := by
  refine MI.start (cc := cX8_turning) (maxL := 1) (ret := (some .int)) rfl rfl (nle rfl) ?_
  intro p e s m args below meth c A ls Q hQ hexec hb hr hts hown hlocks hml hA hP hD hG hS hl
  unfold f_X8_turning at hf
  have hWX2 : ∀ w ∈ wsX20, w.before args s = true := fun w h => hts w (List.mem_cons_of_mem _ (List.mem_append_right _ h))
  have hWX4 : ∀ w ∈ wsX40, w.before args s = true := fun w h => hts w (List.mem_cons_of_mem _ (List.mem_append_left _ (List.mem_append_right _ h)))
  have hWX6 : ∀ w ∈ wsX60, w.before args s = true := fun w h => hts w (List.mem_cons_of_mem _ (List.mem_append_left _ (List.mem_append_left _ (List.mem_append_right _ h))))
  have hWX8 : ∀ w ∈ wsX80, w.before args s = true := fun w h => hts w (List.mem_cons_of_mem _ (List.mem_append_left _ (List.mem_append_left _ (List.mem_append_left _ (List.mem_append_right _ h)))))
  have hS : va_S A s.heap s.heap [] := hS
  refine lv_aload_n (pc := 0) hexec hb dX8_turning_0 rfl (lv_at hl 0 rfl) ?_
  refine kg_get (pc := 1) hexec hb (own := RX8) hWX8 hown hG hP 0 rfl rfl 0 (nle rfl) (hts _ (List.mem_cons_of_mem _ (List.mem_append_left _ (List.mem_append_left _ (List.mem_append_left _ (List.mem_append_left _ (List.mem_append_left _ (List.mem_of_getElem? (i := 0) rfl)))))))) rfl rfl dX8_turning_1 ?_
  refine lv_aload_n (pc := 4) hexec hb dX8_turning_4 rfl (lv_at hl 0 rfl) ?_
  refine kg_get (pc := 5) hexec hb (own := RX8) hWX8 hown hG hP 0 rfl rfl 0 (nle rfl) (hts _ (List.mem_cons_of_mem _ (List.mem_append_left _ (List.mem_append_left _ (List.mem_append_left _ (List.mem_append_left _ (List.mem_append_left _ (List.mem_of_getElem? (i := 0) rfl)))))))) rfl rfl dX8_turning_5 ?_
  refine kg_getN (pc := 8) hexec hb (own := RX8) hWX6 hown hG hP 1 rfl rfl 2 (nle rfl) 27 rfl rfl rfl dX8_turning_8 ?_
  refine kg_getN (pc := 11) hexec hb (own := RX8) hWX4 hown hG hP 3 rfl rfl 2 (nle rfl) 16 rfl rfl rfl dX8_turning_11 ?_
  obtain ⟨r14, hc, hf⟩ := bd1_e hf
  refine kVp (pc := 14) (S := ⟨hexec, hb, hml, hown, hts⟩) hP hD hG hA hS [1, 2, 3, 4, 5] [0] [0, 1, 2, 3, 4, 5] (w2 := (w_X8_turning g a0 a1 a2 a3 a4 a5 u0_1 u0_2 u0_3 u0_4 u0_5 u0_6 u0_7 u0_8 u0_9 u1_0 u1_3 u1_4 u2_0 u2_1 u2_2 u2_4 u2_5 u3_1 u3_3 x3_count x3_turn y4_direction y5_stops)) rfl rfl rfl rfl rfl rfl (by decide) (c_X6_turningNow l g a1 a2 a3 a4 a5 _ u1_0 u1_3 u1_4 u2_0 u2_1 u2_2 u2_4 u2_5 u3_1 (.int x3_turn) u3_3 x3_count y4_direction y5_stops x3_turn r14 hc) gX8_turning_X6_turningNow rfl hv_X6_turningNow ⟨nle rfl, nle rfl⟩ 6 0 rfl rfl rfl (rest := []) rfl rfl hl.1 (nle rfl) dX8_turning_14 (fun H locs hP hD hS => ?_)
  cases hf
  exact ke_i hQ hexec hb hr hP hD hS dX8_turning_17 hlocks
abbrev w_X8_turningFrom (g : GE) (a0 a1 a2 a3 a4 a5 : Nat) (u0_1 u0_2 u0_3 u0_4 u0_5 u0_6 u0_7 u0_8 u0_9 u1_0 u1_3 u1_4 u2_0 u2_1 u2_2 u2_4 u2_5 u3_1 u3_2 u3_3 : Value) (x3_count : Int32) (y4_direction : Nat → Int32) (y5_stops : Nat → Int32) : va_W := [(a0, .inr (8, [.ref a1, u0_1, u0_2, u0_3, u0_4, u0_5, u0_6, u0_7, u0_8, u0_9])), (a1, .inr (6, [u1_0, .ref a2, .ref a3, u1_3, u1_4])), (a2, .inr (2, [u2_0, u2_1, u2_2, .ref a4, u2_4, u2_5])), (a3, .inr (4, [.int x3_count, u3_1, u3_2, u3_3, .ref a5])), (a4, .inl (g.2.1 0, 8, .inl y4_direction)), (a5, .inl (g.2.1 0, 16, .inl y5_stops))]
set_option maxRecDepth 20000 in
theorem c_X8_turningFrom (l : Launch) (g : GE) (a0 a1 a2 a3 a4 a5 : Nat) (sz : Nat) (u0_1 u0_2 u0_3 u0_4 u0_5 u0_6 u0_7 u0_8 u0_9 u1_0 u1_3 u1_4 u2_0 u2_1 u2_2 u2_4 u2_5 u3_1 u3_2 u3_3 : Value) (x3_count : Int32) (y4_direction : Nat → Int32) (y5_stops : Nat → Int32) (p1 : Int32)  (r : Int32) (hf : f_X8_turningFrom x3_count y4_direction y5_stops p1 = some r) : MI l g yX8_turningFrom wsX8_turningFrom 4 94 [.ref a0, .int p1] (w_X8_turningFrom g a0 a1 a2 a3 a4 a5 u0_1 u0_2 u0_3 u0_4 u0_5 u0_6 u0_7 u0_8 u0_9 u1_0 u1_3 u1_4 u2_0 u2_1 u2_2 u2_4 u2_5 u3_1 u3_2 u3_3 x3_count y4_direction y5_stops) sz (some (.int r)) (w_X8_turningFrom g a0 a1 a2 a3 a4 a5 u0_1 u0_2 u0_3 u0_4 u0_5 u0_6 u0_7 u0_8 u0_9 u1_0 u1_3 u1_4 u2_0 u2_1 u2_2 u2_4 u2_5 u3_1 u3_2 u3_3 x3_count y4_direction y5_stops) := by
  refine MI.start (cc := cX8_turningFrom) (maxL := 2) (ret := (some .int)) rfl rfl (nle rfl) ?_
  intro p e s m args below meth c A ls Q hQ hexec hb hr hts hown hlocks hml hA hP hD hG hS hl
  unfold f_X8_turningFrom at hf
  have hWX2 : ∀ w ∈ wsX20, w.before args s = true := fun w h => hts w (List.mem_cons_of_mem _ (List.mem_append_left _ (List.mem_append_left _ (List.mem_append_right _ h))))
  have hWX4 : ∀ w ∈ wsX40, w.before args s = true := fun w h => hts w (List.mem_cons_of_mem _ (List.mem_append_left _ (List.mem_append_right _ h)))
  have hWX6 : ∀ w ∈ wsX60, w.before args s = true := fun w h => hts w (List.mem_cons_of_mem _ (List.mem_append_left _ (List.mem_append_left _ (List.mem_append_left _ (List.mem_append_right _ h)))))
  have hWX8 : ∀ w ∈ wsX80, w.before args s = true := fun w h => hts w (List.mem_cons_of_mem _ (List.mem_append_left _ (List.mem_append_left _ (List.mem_append_left _ (List.mem_append_left _ (List.mem_append_right _ h))))))
  have hS : va_S A s.heap s.heap [] := hS
  refine lv_iload_n (pc := 0) hexec hb dX8_turningFrom_0 rfl (lv_at hl 1 rfl) ?_
  obtain ⟨_, hc, hf⟩ := bd1_e hf
  refine kSp (pc := 1) (S := ⟨hexec, hb, hml, hown, hts⟩) hP hD hG hA hS [] [0, 1, 2, 3, 4, 5] [0, 1, 2, 3, 4, 5] (w2 := (w_X8_turningFrom g a0 a1 a2 a3 a4 a5 u0_1 u0_2 u0_3 u0_4 u0_5 u0_6 u0_7 u0_8 u0_9 u1_0 u1_3 u1_4 u2_0 u2_1 u2_2 u2_4 u2_5 u3_1 u3_2 u3_3 x3_count y4_direction y5_stops)) rfl rfl rfl rfl rfl rfl (by decide) (c_X8_needTurn l g _ p1 hc) gX8_turningFrom_X8_needTurn rfl hs_X8_needTurn ⟨nle rfl, nle rfl⟩ (rest := []) rfl rfl hl.1 (nle rfl) dX8_turningFrom_1 (fun H locs hP hD hS => ?_)
  refine lv_aload_n (pc := 4) hexec hb dX8_turningFrom_4 rfl (lv_at hl 0 rfl) ?_
  refine kg_get (pc := 5) hexec hb (own := RX8) hWX8 hown hG hP 0 rfl rfl 0 (nle rfl) (hts _ (List.mem_cons_of_mem _ (List.mem_append_left _ (List.mem_append_left _ (List.mem_append_left _ (List.mem_append_left _ (List.mem_append_left _ (List.mem_append_left _ (List.mem_of_getElem? (i := 0) rfl))))))))) rfl rfl dX8_turningFrom_5 ?_
  refine lv_iload_n (pc := 8) hexec hb dX8_turningFrom_8 rfl (lv_at hl 1 rfl) ?_
  obtain ⟨r9, hc, hf⟩ := bd1_e hf
  refine kVp (pc := 9) (S := ⟨hexec, hb, hml, hown, hts⟩) hP hD hG hA hS [1, 2, 3, 4, 5] [0] [0, 1, 2, 3, 4, 5] (w2 := (w_X8_turningFrom g a0 a1 a2 a3 a4 a5 u0_1 u0_2 u0_3 u0_4 u0_5 u0_6 u0_7 u0_8 u0_9 u1_0 u1_3 u1_4 u2_0 u2_1 u2_2 u2_4 u2_5 u3_1 u3_2 u3_3 x3_count y4_direction y5_stops)) rfl rfl rfl rfl rfl rfl (by decide) (c_X6_turningNow l g a1 a2 a3 a4 a5 _ u1_0 u1_3 u1_4 u2_0 u2_1 u2_2 u2_4 u2_5 u3_1 u3_2 u3_3 x3_count y4_direction y5_stops p1 r9 hc) gX8_turningFrom_X6_turningNow rfl hv_X6_turningNow ⟨nle rfl, nle rfl⟩ 6 0 rfl rfl rfl (rest := []) rfl rfl hl.1 (nle rfl) dX8_turningFrom_9 (fun H locs hP hD hS => ?_)
  cases hf
  exact ke_i hQ hexec hb hr hP hD hS dX8_turningFrom_12 hlocks
abbrev w_X8_bestTurn (g : GE) (a0 a1 a2 a3 a4 a5 : Nat) (u0_1 u0_2 u0_3 u0_4 u0_5 u0_6 u0_7 u0_8 u0_9 u1_0 u1_3 u1_4 u2_0 u2_1 u2_2 u2_4 u2_5 u3_1 u3_2 u3_3 : Value) (x3_count : Int32) (y4_direction : Nat → Int32) (y5_stops : Nat → Int32) : va_W := [(a0, .inr (8, [.ref a1, u0_1, u0_2, u0_3, u0_4, u0_5, u0_6, u0_7, u0_8, u0_9])), (a1, .inr (6, [u1_0, .ref a2, .ref a3, u1_3, u1_4])), (a2, .inr (2, [u2_0, u2_1, u2_2, .ref a4, u2_4, u2_5])), (a3, .inr (4, [.int x3_count, u3_1, u3_2, u3_3, .ref a5])), (a4, .inl (g.2.1 0, 8, .inl y4_direction)), (a5, .inl (g.2.1 0, 16, .inl y5_stops))]
set_option maxRecDepth 20000 in
theorem c_X8_bestTurn (l : Launch) (g : GE) (a0 a1 a2 a3 a4 a5 : Nat) (sz : Nat) (u0_1 u0_2 u0_3 u0_4 u0_5 u0_6 u0_7 u0_8 u0_9 u1_0 u1_3 u1_4 u2_0 u2_1 u2_2 u2_4 u2_5 u3_1 u3_2 u3_3 : Value) (x3_count : Int32) (y4_direction : Nat → Int32) (y5_stops : Nat → Int32)   (r : Int32) (hf : f_X8_bestTurn x3_count y4_direction y5_stops = some r) : MI l g yX8_bestTurn wsX8_bestTurn 4 94 [.ref a0] (w_X8_bestTurn g a0 a1 a2 a3 a4 a5 u0_1 u0_2 u0_3 u0_4 u0_5 u0_6 u0_7 u0_8 u0_9 u1_0 u1_3 u1_4 u2_0 u2_1 u2_2 u2_4 u2_5 u3_1 u3_2 u3_3 x3_count y4_direction y5_stops) sz (some (.int r)) (w_X8_bestTurn g a0 a1 a2 a3 a4 a5 u0_1 u0_2 u0_3 u0_4 u0_5 u0_6 u0_7 u0_8 u0_9 u1_0 u1_3 u1_4 u2_0 u2_1 u2_2 u2_4 u2_5 u3_1 u3_2 u3_3 x3_count y4_direction y5_stops) := by
  refine MI.start (cc := cX8_bestTurn) (maxL := 5) (ret := (some .int)) rfl rfl (nle rfl) ?_
  intro p e s m args below meth c A ls Q hQ hexec hb hr hts hown hlocks hml hA hP hD hG hS hl
  unfold f_X8_bestTurn at hf
  have hWX2 : ∀ w ∈ wsX20, w.before args s = true := fun w h => hts w (List.mem_cons_of_mem _ (List.mem_append_left _ (List.mem_append_right _ h)))
  have hWX4 : ∀ w ∈ wsX40, w.before args s = true := fun w h => hts w (List.mem_cons_of_mem _ (List.mem_append_right _ h))
  have hWX6 : ∀ w ∈ wsX60, w.before args s = true := fun w h => hts w (List.mem_cons_of_mem _ (List.mem_append_left _ (List.mem_append_left _ (List.mem_append_right _ h))))
  have hWX8 : ∀ w ∈ wsX80, w.before args s = true := fun w h => hts w (List.mem_cons_of_mem _ (List.mem_append_left _ (List.mem_append_left _ (List.mem_append_left _ (List.mem_append_right _ h)))))
  have hS : va_S A s.heap s.heap [] := hS
  refine lv_iconst (pc := 0) hexec hb dX8_bestTurn_0 ki_0 ?_
  refine lv_istore_n (pc := 1) hexec hb dX8_bestTurn_1 rfl hl (nle rfl) rfl (fun ls (hl : lv_has ls 5 [(1, .int 0), (0, .ref a0)]) => ?_)
  refine lv_aload_n (pc := 2) hexec hb dX8_bestTurn_2 rfl (lv_at hl 1 rfl) ?_
  refine kg_get (pc := 3) hexec hb (own := RX8) hWX8 hown hG hP 0 rfl rfl 0 (nle rfl) (hts _ (List.mem_cons_of_mem _ (List.mem_append_left _ (List.mem_append_left _ (List.mem_append_left _ (List.mem_append_left _ (List.mem_append_left _ (List.mem_of_getElem? (i := 0) rfl)))))))) rfl rfl dX8_bestTurn_3 ?_
  refine lv_iconst (pc := 6) hexec hb dX8_bestTurn_6 ki_0 ?_
  obtain ⟨r7, hc, hf⟩ := bd1_e hf
  refine kVp (pc := 7) (S := ⟨hexec, hb, hml, hown, hts⟩) hP hD hG hA hS [1, 2, 3, 4, 5] [0] [0, 1, 2, 3, 4, 5] (w2 := (w_X8_bestTurn g a0 a1 a2 a3 a4 a5 u0_1 u0_2 u0_3 u0_4 u0_5 u0_6 u0_7 u0_8 u0_9 u1_0 u1_3 u1_4 u2_0 u2_1 u2_2 u2_4 u2_5 u3_1 u3_2 u3_3 x3_count y4_direction y5_stops)) rfl rfl rfl rfl rfl rfl (by decide) (c_X6_turningNow l g a1 a2 a3 a4 a5 _ u1_0 u1_3 u1_4 u2_0 u2_1 u2_2 u2_4 u2_5 u3_1 u3_2 u3_3 x3_count y4_direction y5_stops 0 r7 hc) gX8_bestTurn_X6_turningNow rfl hv_X6_turningNow ⟨nle rfl, nle rfl⟩ 6 0 rfl rfl rfl (rest := []) rfl rfl hl.1 (nle rfl) dX8_bestTurn_7 (fun H locs hP hD hS => ?_)
  refine lv_istore_n (pc := 10) hexec hb dX8_bestTurn_10 rfl hl (nle rfl) rfl (fun ls (hl : lv_has ls 5 [(2, .int r7), (1, .int 0), (0, .ref a0)]) => ?_)
  refine lv_iconst (pc := 11) hexec hb dX8_bestTurn_11 ki_1 ?_
  refine lv_istore_n (pc := 12) hexec hb dX8_bestTurn_12 rfl hl (nle rfl) rfl (fun ls (hl : lv_has ls 5 [(3, .int 1), (2, .int r7), (1, .int 0), (0, .ref a0)]) => ?_)
  obtain ⟨l13, el13, hf⟩ := bvf3 hf
  obtain ⟨v1_1, hz, hf⟩ := bd1_e hf
  have hE13 : ∀ (H : Heap) (locs : List Loc) (ls : Array Slot), va_P g.1 vwCl (w_X8_bestTurn g a0 a1 a2 a3 a4 a5 u0_1 u0_2 u0_3 u0_4 u0_5 u0_6 u0_7 u0_8 u0_9 u1_0 u1_3 u1_4 u2_0 u2_1 u2_2 u2_4 u2_5 u3_1 u3_2 u3_3 x3_count y4_direction y5_stops) H → va_D A (w_X8_bestTurn g a0 a1 a2 a3 a4 a5 u0_1 u0_2 u0_3 u0_4 u0_5 u0_6 u0_7 u0_8 u0_9 u1_0 u1_3 u1_4 u2_0 u2_1 u2_2 u2_4 u2_5 u3_1 u3_2 u3_3 x3_count y4_direction y5_stops) → va_S A s.heap H locs → lv_has ls 5 [(1, .int v1_1)] → W p l e (RM 4 94) s m args below meth c H locs 0 0 Q (F0 m 45 ls []) := by
    intro H locs ls hP hD hS hl
    refine lv_iload_n (pc := 45) hexec hb dX8_bestTurn_45 rfl (lv_at hl 0 rfl) ?_
    cases hf
    exact ke_i hQ hexec hb hr hP hD hS dX8_bestTurn_46 hlocks
  obtain ⟨n, hz⟩ := lq3_e hz
  have hL13 : ∀ (n : Nat) (v1 : Int32) (v2 : Int32) (v3 : Int32) (H : Heap) (locs : List Loc) (ls : Array Slot), it3 l13 n v1 v2 v3 = some v1_1 → va_P g.1 vwCl (w_X8_bestTurn g a0 a1 a2 a3 a4 a5 u0_1 u0_2 u0_3 u0_4 u0_5 u0_6 u0_7 u0_8 u0_9 u1_0 u1_3 u1_4 u2_0 u2_1 u2_2 u2_4 u2_5 u3_1 u3_2 u3_3 x3_count y4_direction y5_stops) H → va_D A (w_X8_bestTurn g a0 a1 a2 a3 a4 a5 u0_1 u0_2 u0_3 u0_4 u0_5 u0_6 u0_7 u0_8 u0_9 u1_0 u1_3 u1_4 u2_0 u2_1 u2_2 u2_4 u2_5 u3_1 u3_2 u3_3 x3_count y4_direction y5_stops) → va_S A s.heap H locs → lv_has ls 5 [(0, .ref a0), (1, .int v1), (2, .int v2), (3, .int v3)] → W p l e (RM 4 94) s m args below meth c H locs 0 0 Q (F0 m 13 ls []) := by
    intro n
    induction n with
    | zero =>
      intro v1 v2 v3 H locs ls hf hP hD hS hl
      exact it3_0 hf
    | succ n13 ih13 =>
      intro v1 v2 v3 H locs ls hf hP hD hS hl
      obtain ⟨q13, hf, hk13⟩ := it3_e hf
      have hf := (el13 v1 v2 v3).symm.trans hf
      refine lv_iload_n (pc := 13) hexec hb dX8_bestTurn_13 rfl (lv_at hl 3 rfl) ?_
      refine lv_iconst (pc := 14) hexec hb dX8_bestTurn_14 ki_4 ?_
      refine ki_ge (pc := 15) hexec hb dX8_bestTurn_15 (tgt := 45) rfl hf (fun hc hf => ?_) (fun hc hf => ?_)
      · cases sr3 hf hk13
        exact hE13 _ _ _ hP hD hS (lv_sub hl [1] rfl)
      · refine lv_aload_n (pc := 18) hexec hb dX8_bestTurn_18 rfl (lv_at hl 0 rfl) ?_
        refine kg_get (pc := 19) hexec hb (own := RX8) hWX8 hown hG hP 0 rfl rfl 0 (nle rfl) (hts _ (List.mem_cons_of_mem _ (List.mem_append_left _ (List.mem_append_left _ (List.mem_append_left _ (List.mem_append_left _ (List.mem_append_left _ (List.mem_of_getElem? (i := 0) rfl)))))))) rfl rfl dX8_bestTurn_19 ?_
        refine lv_iload_n (pc := 22) hexec hb dX8_bestTurn_22 rfl (lv_at hl 3 rfl) ?_
        obtain ⟨r23, hc, hf⟩ := bd1_e hf
        refine kVp (pc := 23) (S := ⟨hexec, hb, hml, hown, hts⟩) hP hD hG hA hS [1, 2, 3, 4, 5] [0] [0, 1, 2, 3, 4, 5] (w2 := (w_X8_bestTurn g a0 a1 a2 a3 a4 a5 u0_1 u0_2 u0_3 u0_4 u0_5 u0_6 u0_7 u0_8 u0_9 u1_0 u1_3 u1_4 u2_0 u2_1 u2_2 u2_4 u2_5 u3_1 u3_2 u3_3 x3_count y4_direction y5_stops)) rfl rfl rfl rfl rfl rfl (by decide) (c_X6_turningNow l g a1 a2 a3 a4 a5 _ u1_0 u1_3 u1_4 u2_0 u2_1 u2_2 u2_4 u2_5 u3_1 u3_2 u3_3 x3_count y4_direction y5_stops v3 r23 hc) gX8_bestTurn_X6_turningNow rfl hv_X6_turningNow ⟨nle rfl, nle rfl⟩ 6 0 rfl rfl rfl (rest := []) rfl rfl hl.1 (nle rfl) dX8_bestTurn_23 (fun H locs hP hD hS => ?_)
        refine lv_istore (pc := 26) hexec hb dX8_bestTurn_26 hl (nle rfl) rfl (fun ls (hl : lv_has ls 5 [(4, .int r23), (0, .ref a0), (1, .int v1), (2, .int v2), (3, .int v3)]) => ?_)
        refine lv_iload (pc := 28) hexec hb dX8_bestTurn_28 (lv_at hl 0 rfl) ?_
        refine lv_iload_n (pc := 30) hexec hb dX8_bestTurn_30 rfl (lv_at hl 3 rfl) ?_
        obtain ⟨j39, ej39, hf⟩ := bvf2 hf
        have hj39 : ∀ (v1_2 : Int32) (v2_1 : Int32) (H : Heap) (locs : List Loc) (ls : Array Slot), j39 v1_2 v2_1 = some q13 → va_P g.1 vwCl (w_X8_bestTurn g a0 a1 a2 a3 a4 a5 u0_1 u0_2 u0_3 u0_4 u0_5 u0_6 u0_7 u0_8 u0_9 u1_0 u1_3 u1_4 u2_0 u2_1 u2_2 u2_4 u2_5 u3_1 u3_2 u3_3 x3_count y4_direction y5_stops) H → va_D A (w_X8_bestTurn g a0 a1 a2 a3 a4 a5 u0_1 u0_2 u0_3 u0_4 u0_5 u0_6 u0_7 u0_8 u0_9 u1_0 u1_3 u1_4 u2_0 u2_1 u2_2 u2_4 u2_5 u3_1 u3_2 u3_3 x3_count y4_direction y5_stops) → va_S A s.heap H locs → lv_has ls 5 [(0, .ref a0), (1, .int v1_2), (2, .int v2_1), (3, .int v3)] → W p l e (RM 4 94) s m args below meth c H locs 0 0 Q (F0 m 39 ls []) := by
          intro v1_2 v2_1 H locs ls hf hP hD hS hl
          have hf := (ej39 v1_2 v2_1).symm.trans hf
          obtain ⟨v3_1, ev3_1, hf⟩ := bv_e hf
          refine k_iinc (pc := 39) hexec hb dX8_bestTurn_39 kq_1 hl (k := 3) rfl ev3_1 (nle rfl) rfl (fun ls (hl : lv_has ls 5 [(3, .int v3_1), (0, .ref a0), (1, .int v1_2), (2, .int v2_1)]) => ?_)
          refine lv_goto (pc := 42) hexec hb dX8_bestTurn_42 (tgt := 13) rfl ?_
          exact ih13 _ _ _ _ _ _ (sl3 hf hk13) hP hD hS (lv_sub hl [1, 2, 3, 0] rfl)
        refine ki_ge (pc := 31) hexec hb dX8_bestTurn_31 (tgt := 39) rfl hf (fun hc hf => ?_) (fun hc hf => ?_)
        · exact hj39 _ _ _ _ _ hf hP hD hS (lv_sub hl [1, 2, 3, 4] rfl)
        · refine lv_iload_n (pc := 34) hexec hb dX8_bestTurn_34 rfl (lv_at hl 4 rfl) ?_
          refine lv_istore_n (pc := 35) hexec hb dX8_bestTurn_35 rfl hl (nle rfl) rfl (fun ls (hl : lv_has ls 5 [(1, .int v3), (4, .int r23), (0, .ref a0), (2, .int v2), (3, .int v3)]) => ?_)
          refine lv_iload (pc := 36) hexec hb dX8_bestTurn_36 (lv_at hl 1 rfl) ?_
          refine lv_istore_n (pc := 38) hexec hb dX8_bestTurn_38 rfl hl (nle rfl) rfl (fun ls (hl : lv_has ls 5 [(2, .int r23), (1, .int v3), (4, .int r23), (0, .ref a0), (3, .int v3)]) => ?_)
          exact hj39 _ _ _ _ _ hf hP hD hS (lv_sub hl [3, 1, 0, 4] rfl)
  exact hL13 n _ _ _ _ _ _ hz hP hD hS (lv_sub hl [3, 2, 1, 0] rfl)
abbrev w_X8_hardest (g : GE) (a0 a1 a2 a3 a4 a5 : Nat) (u0_1 u0_2 u0_3 u0_4 u0_5 u0_6 u0_7 u0_8 u0_9 u1_0 u1_3 u1_4 u2_1 u2_2 u2_4 u2_5 u3_1 u3_3 : Value) (x2_count : Int32) (x3_count : Int32) (x3_turn : Int32) (y4_direction : Nat → Int32) (y5_stops : Nat → Int32) : va_W := [(a0, .inr (8, [.ref a1, u0_1, u0_2, u0_3, u0_4, u0_5, u0_6, u0_7, u0_8, u0_9])), (a1, .inr (6, [u1_0, .ref a2, .ref a3, u1_3, u1_4])), (a2, .inr (2, [.int x2_count, u2_1, u2_2, .ref a4, u2_4, u2_5])), (a3, .inr (4, [.int x3_count, u3_1, .int x3_turn, u3_3, .ref a5])), (a4, .inl (g.2.1 0, 8, .inl y4_direction)), (a5, .inl (g.2.1 0, 16, .inl y5_stops))]
set_option maxRecDepth 20000 in
theorem c_X8_hardest (l : Launch) (g : GE) (a0 a1 a2 a3 a4 a5 : Nat) (sz : Nat) (u0_1 u0_2 u0_3 u0_4 u0_5 u0_6 u0_7 u0_8 u0_9 u1_0 u1_3 u1_4 u2_1 u2_2 u2_4 u2_5 u3_1 u3_3 : Value) (x2_count : Int32) (x3_count : Int32) (x3_turn : Int32) (y4_direction : Nat → Int32) (y5_stops : Nat → Int32)   (r : Int32) (hf : f_X8_hardest x2_count x3_count x3_turn y4_direction y5_stops = some r) : MI l g yX8_hardest wsX8_hardest 2 46 [.ref a0] (w_X8_hardest g a0 a1 a2 a3 a4 a5 u0_1 u0_2 u0_3 u0_4 u0_5 u0_6 u0_7 u0_8 u0_9 u1_0 u1_3 u1_4 u2_1 u2_2 u2_4 u2_5 u3_1 u3_3 x2_count x3_count x3_turn y4_direction y5_stops) sz (some (.int r)) (w_X8_hardest g a0 a1 a2 a3 a4 a5 u0_1 u0_2 u0_3 u0_4 u0_5 u0_6 u0_7 u0_8 u0_9 u1_0 u1_3 u1_4 u2_1 u2_2 u2_4 u2_5 u3_1 u3_3 x2_count x3_count x3_turn y4_direction y5_stops) := by
  refine MI.start (cc := cX8_hardest) (maxL := 7) (ret := (some .int)) rfl rfl (nle rfl) ?_
  intro p e s m args below meth c A ls Q hQ hexec hb hr hts hown hlocks hml hA hP hD hG hS hl
  unfold f_X8_hardest at hf
  have hWX2 : ∀ w ∈ wsX20, w.before args s = true := fun w h => hts w (List.mem_cons_of_mem _ (List.mem_append_right _ h))
  have hWX4 : ∀ w ∈ wsX40, w.before args s = true := fun w h => hts w (List.mem_cons_of_mem _ (List.mem_append_left _ (List.mem_append_right _ h)))
  have hWX6 : ∀ w ∈ wsX60, w.before args s = true := fun w h => hts w (List.mem_cons_of_mem _ (List.mem_append_left _ (List.mem_append_left _ (List.mem_append_right _ h))))
  have hWX8 : ∀ w ∈ wsX80, w.before args s = true := fun w h => hts w (List.mem_cons_of_mem _ (List.mem_append_left _ (List.mem_append_left _ (List.mem_append_left _ (List.mem_append_right _ h)))))
  have hS : va_S A s.heap s.heap [] := hS
  refine lv_iconst (pc := 0) hexec hb dX8_hardest_0 ki_m1 ?_
  refine lv_istore_n (pc := 1) hexec hb dX8_hardest_1 rfl hl (nle rfl) rfl (fun ls (hl : lv_has ls 7 [(1, .int (-1)), (0, .ref a0)]) => ?_)
  refine lv_iconst (pc := 2) hexec hb dX8_hardest_2 ki_0 ?_
  refine lv_istore_n (pc := 3) hexec hb dX8_hardest_3 rfl hl (nle rfl) rfl (fun ls (hl : lv_has ls 7 [(2, .int 0), (1, .int (-1)), (0, .ref a0)]) => ?_)
  refine lv_aload_n (pc := 4) hexec hb dX8_hardest_4 rfl (lv_at hl 2 rfl) ?_
  refine kg_get (pc := 5) hexec hb (own := RX8) hWX8 hown hG hP 0 rfl rfl 0 (nle rfl) (hts _ (List.mem_cons_of_mem _ (List.mem_append_left _ (List.mem_append_left _ (List.mem_append_left _ (List.mem_append_left _ (List.mem_append_left _ (List.mem_of_getElem? (i := 0) rfl)))))))) rfl rfl dX8_hardest_5 ?_
  refine kg_getN (pc := 8) hexec hb (own := RX8) hWX6 hown hG hP 1 rfl rfl 2 (nle rfl) 27 rfl rfl rfl dX8_hardest_8 ?_
  refine kg_getN (pc := 11) hexec hb (own := RX8) hWX4 hown hG hP 3 rfl rfl 2 (nle rfl) 16 rfl rfl rfl dX8_hardest_11 ?_
  refine lv_istore_n (pc := 14) hexec hb dX8_hardest_14 rfl hl (nle rfl) rfl (fun ls (hl : lv_has ls 7 [(3, .int x3_turn), (2, .int 0), (1, .int (-1)), (0, .ref a0)]) => ?_)
  refine lv_iconst (pc := 15) hexec hb dX8_hardest_15 ki_0 ?_
  refine lv_istore (pc := 16) hexec hb dX8_hardest_16 hl (nle rfl) rfl (fun ls (hl : lv_has ls 7 [(4, .int 0), (3, .int x3_turn), (2, .int 0), (1, .int (-1)), (0, .ref a0)]) => ?_)
  obtain ⟨l18, el18, hf⟩ := bvf4 hf
  obtain ⟨v1_1, hz, hf⟩ := bd1_e hf
  have hE18 : ∀ (H : Heap) (locs : List Loc) (ls : Array Slot), va_P g.1 vwCl (w_X8_hardest g a0 a1 a2 a3 a4 a5 u0_1 u0_2 u0_3 u0_4 u0_5 u0_6 u0_7 u0_8 u0_9 u1_0 u1_3 u1_4 u2_1 u2_2 u2_4 u2_5 u3_1 u3_3 x2_count x3_count x3_turn y4_direction y5_stops) H → va_D A (w_X8_hardest g a0 a1 a2 a3 a4 a5 u0_1 u0_2 u0_3 u0_4 u0_5 u0_6 u0_7 u0_8 u0_9 u1_0 u1_3 u1_4 u2_1 u2_2 u2_4 u2_5 u3_1 u3_3 x2_count x3_count x3_turn y4_direction y5_stops) → va_S A s.heap H locs → lv_has ls 7 [(1, .int v1_1)] → W p l e (RM 2 46) s m args below meth c H locs 0 0 Q (F0 m 98 ls []) := by
    intro H locs ls hP hD hS hl
    refine lv_iload_n (pc := 98) hexec hb dX8_hardest_98 rfl (lv_at hl 0 rfl) ?_
    cases hf
    exact ke_i hQ hexec hb hr hP hD hS dX8_hardest_99 hlocks
  obtain ⟨n, hz⟩ := lq4_e hz
  have hL18 : ∀ (n : Nat) (v1 : Int32) (v2 : Int32) (v3 : Int32) (v4 : Int32) (H : Heap) (locs : List Loc) (ls : Array Slot), it4 l18 n v1 v2 v3 v4 = some v1_1 → va_P g.1 vwCl (w_X8_hardest g a0 a1 a2 a3 a4 a5 u0_1 u0_2 u0_3 u0_4 u0_5 u0_6 u0_7 u0_8 u0_9 u1_0 u1_3 u1_4 u2_1 u2_2 u2_4 u2_5 u3_1 u3_3 x2_count x3_count x3_turn y4_direction y5_stops) H → va_D A (w_X8_hardest g a0 a1 a2 a3 a4 a5 u0_1 u0_2 u0_3 u0_4 u0_5 u0_6 u0_7 u0_8 u0_9 u1_0 u1_3 u1_4 u2_1 u2_2 u2_4 u2_5 u3_1 u3_3 x2_count x3_count x3_turn y4_direction y5_stops) → va_S A s.heap H locs → lv_has ls 7 [(0, .ref a0), (1, .int v1), (2, .int v2), (3, .int v3), (4, .int v4)] → W p l e (RM 2 46) s m args below meth c H locs 0 0 Q (F0 m 18 ls []) := by
    intro n
    induction n with
    | zero =>
      intro v1 v2 v3 v4 H locs ls hf hP hD hS hl
      exact it4_0 hf
    | succ n18 ih18 =>
      intro v1 v2 v3 v4 H locs ls hf hP hD hS hl
      obtain ⟨q18, hf, hk18⟩ := it4_e hf
      have hf := (el18 v1 v2 v3 v4).symm.trans hf
      refine lv_iload (pc := 18) hexec hb dX8_hardest_18 (lv_at hl 4 rfl) ?_
      refine lv_aload_n (pc := 20) hexec hb dX8_hardest_20 rfl (lv_at hl 0 rfl) ?_
      refine kg_get (pc := 21) hexec hb (own := RX8) hWX8 hown hG hP 0 rfl rfl 0 (nle rfl) (hts _ (List.mem_cons_of_mem _ (List.mem_append_left _ (List.mem_append_left _ (List.mem_append_left _ (List.mem_append_left _ (List.mem_append_left _ (List.mem_of_getElem? (i := 0) rfl)))))))) rfl rfl dX8_hardest_21 ?_
      refine kg_getN (pc := 24) hexec hb (own := RX8) hWX6 hown hG hP 1 rfl rfl 2 (nle rfl) 27 rfl rfl rfl dX8_hardest_24 ?_
      refine kg_getN (pc := 27) hexec hb (own := RX8) hWX4 hown hG hP 3 rfl rfl 0 (nle rfl) 14 rfl rfl rfl dX8_hardest_27 ?_
      refine ki_ge (pc := 30) hexec hb dX8_hardest_30 (tgt := 98) rfl hf (fun hc hf => ?_) (fun hc hf => ?_)
      · cases sr4 hf hk18
        exact hE18 _ _ _ hP hD hS (lv_sub hl [1] rfl)
      · refine lv_aload_n (pc := 33) hexec hb dX8_hardest_33 rfl (lv_at hl 0 rfl) ?_
        refine kg_get (pc := 34) hexec hb (own := RX8) hWX8 hown hG hP 0 rfl rfl 0 (nle rfl) (hts _ (List.mem_cons_of_mem _ (List.mem_append_left _ (List.mem_append_left _ (List.mem_append_left _ (List.mem_append_left _ (List.mem_append_left _ (List.mem_of_getElem? (i := 0) rfl)))))))) rfl rfl dX8_hardest_34 ?_
        refine kg_getN (pc := 37) hexec hb (own := RX8) hWX6 hown hG hP 1 rfl rfl 1 (nle rfl) 24 rfl rfl rfl dX8_hardest_37 ?_
        refine lv_aload_n (pc := 40) hexec hb dX8_hardest_40 rfl (lv_at hl 0 rfl) ?_
        refine kg_get (pc := 41) hexec hb (own := RX8) hWX8 hown hG hP 0 rfl rfl 0 (nle rfl) (hts _ (List.mem_cons_of_mem _ (List.mem_append_left _ (List.mem_append_left _ (List.mem_append_left _ (List.mem_append_left _ (List.mem_append_left _ (List.mem_of_getElem? (i := 0) rfl)))))))) rfl rfl dX8_hardest_41 ?_
        refine kg_getN (pc := 44) hexec hb (own := RX8) hWX6 hown hG hP 1 rfl rfl 2 (nle rfl) 27 rfl rfl rfl dX8_hardest_44 ?_
        refine lv_iload (pc := 47) hexec hb dX8_hardest_47 (lv_at hl 4 rfl) ?_
        obtain ⟨r49, hc, hf⟩ := bd1_e hf
        refine kVp (pc := 49) (S := ⟨hexec, hb, hml, hown, hts⟩) hP hD hG hA hS [3, 5] [0, 1, 2, 4] [0, 1, 2, 4, 3, 5] (w2 := (w_X8_hardest g a0 a1 a2 a3 a4 a5 u0_1 u0_2 u0_3 u0_4 u0_5 u0_6 u0_7 u0_8 u0_9 u1_0 u1_3 u1_4 u2_1 u2_2 u2_4 u2_5 u3_1 u3_3 x2_count x3_count x3_turn y4_direction y5_stops)) rfl rfl rfl rfl rfl rfl (by decide) (c_X4_stopAt l g a3 a5 _ u3_1 (.int x3_turn) u3_3 x3_count y5_stops v4 r49 hc) gX8_hardest_X4_stopAt rfl hv_X4_stopAt ⟨nle rfl, nle rfl⟩ 4 0 rfl rfl rfl (rest := [.ref a2]) rfl rfl hl.1 (nle rfl) dX8_hardest_49 (fun H locs hP hD hS => ?_)
        obtain ⟨r52, hc, hf⟩ := bd1_e hf
        refine kVp (pc := 52) (S := ⟨hexec, hb, hml, hown, hts⟩) hP hD hG hA hS [2, 4] [0, 1, 3, 5] [0, 1, 4, 2, 5, 3] (w2 := (w_X8_hardest g a0 a1 a2 a3 a4 a5 u0_1 u0_2 u0_3 u0_4 u0_5 u0_6 u0_7 u0_8 u0_9 u1_0 u1_3 u1_4 u2_1 u2_2 u2_4 u2_5 u3_1 u3_3 x2_count x3_count x3_turn y4_direction y5_stops)) rfl rfl rfl rfl rfl rfl (by decide) (c_X2_directionOf l g a2 a4 _ u2_1 u2_2 u2_4 u2_5 x2_count y4_direction r49 r52 hc) gX8_hardest_X2_directionOf rfl hv_X2_directionOf ⟨nle rfl, nle rfl⟩ 2 0 rfl rfl rfl (rest := []) rfl rfl hl.1 (nle rfl) dX8_hardest_52 (fun H locs hP hD hS => ?_)
        refine lv_istore (pc := 55) hexec hb dX8_hardest_55 hl (nle rfl) rfl (fun ls (hl : lv_has ls 7 [(5, .int r52), (0, .ref a0), (1, .int v1), (2, .int v2), (3, .int v3), (4, .int v4)]) => ?_)
        refine lv_iload (pc := 57) hexec hb dX8_hardest_57 (lv_at hl 0 rfl) ?_
        refine lv_iconst (pc := 59) hexec hb dX8_hardest_59 ki_m1 ?_
        obtain ⟨j92, ej92, hf⟩ := bvf3 hf
        have hj92 : ∀ (v1_2 : Int32) (v2_1 : Int32) (v3_1 : Int32) (H : Heap) (locs : List Loc) (ls : Array Slot), j92 v1_2 v2_1 v3_1 = some q18 → va_P g.1 vwCl (w_X8_hardest g a0 a1 a2 a3 a4 a5 u0_1 u0_2 u0_3 u0_4 u0_5 u0_6 u0_7 u0_8 u0_9 u1_0 u1_3 u1_4 u2_1 u2_2 u2_4 u2_5 u3_1 u3_3 x2_count x3_count x3_turn y4_direction y5_stops) H → va_D A (w_X8_hardest g a0 a1 a2 a3 a4 a5 u0_1 u0_2 u0_3 u0_4 u0_5 u0_6 u0_7 u0_8 u0_9 u1_0 u1_3 u1_4 u2_1 u2_2 u2_4 u2_5 u3_1 u3_3 x2_count x3_count x3_turn y4_direction y5_stops) → va_S A s.heap H locs → lv_has ls 7 [(0, .ref a0), (1, .int v1_2), (2, .int v2_1), (3, .int v3_1), (4, .int v4)] → W p l e (RM 2 46) s m args below meth c H locs 0 0 Q (F0 m 92 ls []) := by
          intro v1_2 v2_1 v3_1 H locs ls hf hP hD hS hl
          have hf := (ej92 v1_2 v2_1 v3_1).symm.trans hf
          obtain ⟨v4_1, ev4_1, hf⟩ := bv_e hf
          refine k_iinc (pc := 92) hexec hb dX8_hardest_92 kq_1 hl (k := 4) rfl ev4_1 (nle rfl) rfl (fun ls (hl : lv_has ls 7 [(4, .int v4_1), (0, .ref a0), (1, .int v1_2), (2, .int v2_1), (3, .int v3_1)]) => ?_)
          refine lv_goto (pc := 95) hexec hb dX8_hardest_95 (tgt := 18) rfl ?_
          exact ih18 _ _ _ _ _ _ _ (sl4 hf hk18) hP hD hS (lv_sub hl [1, 2, 3, 4, 0] rfl)
        refine ki_eq (pc := 60) hexec hb dX8_hardest_60 (tgt := 92) rfl hf (fun hc hf => ?_) (fun hc hf => ?_)
        · exact hj92 _ _ _ _ _ _ hf hP hD hS (lv_sub hl [1, 2, 3, 4, 5] rfl)
        · refine lv_iload_n (pc := 63) hexec hb dX8_hardest_63 rfl (lv_at hl 4 rfl) ?_
          refine lv_iload (pc := 64) hexec hb dX8_hardest_64 (lv_at hl 0 rfl) ?_
          obtain ⟨r66, hc, hf⟩ := bd1_e hf
          refine kSp (pc := 66) (S := ⟨hexec, hb, hml, hown, hts⟩) hP hD hG hA hS [] [0, 1, 2, 3, 4, 5] [0, 1, 2, 3, 4, 5] (w2 := (w_X8_hardest g a0 a1 a2 a3 a4 a5 u0_1 u0_2 u0_3 u0_4 u0_5 u0_6 u0_7 u0_8 u0_9 u1_0 u1_3 u1_4 u2_1 u2_2 u2_4 u2_5 u3_1 u3_3 x2_count x3_count x3_turn y4_direction y5_stops)) rfl rfl rfl rfl rfl rfl (by decide) (c_X8_uprightTurn l g _ r52 r66 hc) gX8_hardest_X8_uprightTurn rfl hs_X8_uprightTurn ⟨nle rfl, nle rfl⟩ (rest := [.int v3]) rfl rfl hl.1 (nle rfl) dX8_hardest_66 (fun H locs hP hD hS => ?_)
          obtain ⟨r69, hc, hf⟩ := bd1_e hf
          refine kSp (pc := 69) (S := ⟨hexec, hb, hml, hown, hts⟩) hP hD hG hA hS [] [0, 1, 2, 3, 4, 5] [0, 1, 2, 3, 4, 5] (w2 := (w_X8_hardest g a0 a1 a2 a3 a4 a5 u0_1 u0_2 u0_3 u0_4 u0_5 u0_6 u0_7 u0_8 u0_9 u1_0 u1_3 u1_4 u2_1 u2_2 u2_4 u2_5 u3_1 u3_3 x2_count x3_count x3_turn y4_direction y5_stops)) rfl rfl rfl rfl rfl rfl (by decide) (c_X8_quartersBetween l g _ v3 r66 r69 hc) gX8_hardest_X8_quartersBetween rfl hs_X8_quartersBetween ⟨nle rfl, nle rfl⟩ (rest := []) rfl rfl hl.1 (nle rfl) dX8_hardest_69 (fun H locs hP hD hS => ?_)
          refine lv_istore (pc := 72) hexec hb dX8_hardest_72 hl (nle rfl) rfl (fun ls (hl : lv_has ls 7 [(6, .int r69), (5, .int r52), (0, .ref a0), (1, .int v1), (2, .int v2), (3, .int v3), (4, .int v4)]) => ?_)
          refine lv_iload (pc := 74) hexec hb dX8_hardest_74 (lv_at hl 1 rfl) ?_
          obtain ⟨r76, hc, hf⟩ := bd1_e hf
          refine kSp (pc := 76) (S := ⟨hexec, hb, hml, hown, hts⟩) hP hD hG hA hS [] [0, 1, 2, 3, 4, 5] [0, 1, 2, 3, 4, 5] (w2 := (w_X8_hardest g a0 a1 a2 a3 a4 a5 u0_1 u0_2 u0_3 u0_4 u0_5 u0_6 u0_7 u0_8 u0_9 u1_0 u1_3 u1_4 u2_1 u2_2 u2_4 u2_5 u3_1 u3_3 x2_count x3_count x3_turn y4_direction y5_stops)) rfl rfl rfl rfl rfl rfl (by decide) (c_X8_uprightTurn l g _ r52 r76 hc) gX8_hardest_X8_uprightTurn rfl hs_X8_uprightTurn ⟨nle rfl, nle rfl⟩ (rest := []) rfl rfl hl.1 (nle rfl) dX8_hardest_76 (fun H locs hP hD hS => ?_)
          refine lv_istore_n (pc := 79) hexec hb dX8_hardest_79 rfl hl (nle rfl) rfl (fun ls (hl : lv_has ls 7 [(3, .int r76), (6, .int r69), (5, .int r52), (0, .ref a0), (1, .int v1), (2, .int v2), (4, .int v4)]) => ?_)
          refine lv_iload (pc := 80) hexec hb dX8_hardest_80 (lv_at hl 1 rfl) ?_
          refine lv_iload_n (pc := 82) hexec hb dX8_hardest_82 rfl (lv_at hl 5 rfl) ?_
          refine ki_le (pc := 83) hexec hb dX8_hardest_83 (tgt := 92) rfl hf (fun hc hf => ?_) (fun hc hf => ?_)
          · exact hj92 _ _ _ _ _ _ hf hP hD hS (lv_sub hl [3, 4, 5, 0, 6] rfl)
          · refine lv_iload (pc := 86) hexec hb dX8_hardest_86 (lv_at hl 6 rfl) ?_
            refine lv_istore_n (pc := 88) hexec hb dX8_hardest_88 rfl hl (nle rfl) rfl (fun ls (hl : lv_has ls 7 [(1, .int v4), (3, .int r76), (6, .int r69), (5, .int r52), (0, .ref a0), (2, .int v2), (4, .int v4)]) => ?_)
            refine lv_iload (pc := 89) hexec hb dX8_hardest_89 (lv_at hl 2 rfl) ?_
            refine lv_istore_n (pc := 91) hexec hb dX8_hardest_91 rfl hl (nle rfl) rfl (fun ls (hl : lv_has ls 7 [(2, .int r69), (1, .int v4), (3, .int r76), (6, .int r69), (5, .int r52), (0, .ref a0), (4, .int v4)]) => ?_)
            exact hj92 _ _ _ _ _ _ hf hP hD hS (lv_sub hl [5, 1, 0, 2, 6] rfl)
  exact hL18 n _ _ _ _ _ _ _ hz hP hD hS (lv_sub hl [4, 3, 2, 1, 0] rfl)
abbrev w_X8_least (g : GE) (a0 a1 a2 a3 a4 a5 a6 a7 a8 a9 a10 a11 a12 a13 a14 a15 a16 a17 : Nat) (u0_1 u0_2 u0_4 u0_5 u0_6 u0_7 u0_8 u0_9 u2_3 u2_4 u9_2 u9_5 u10_3 u11_1 u11_3 : Value) (x1_reds : Int32) (x1_bestReds : Int32) (x1_bestCount : Int32) (x1_bestTurning : Int32) (y3_allowed : Nat → Int32) (y4_best : Nat → Int32) (y5_foes : Nat → Int32) (y6_namesLeft : Nat → Int32) (y7_redsLeft : Nat → Int32) (y8_trial : Nat → Int32) (x9_rows : Int32) (x9_columns : Int32) (x10_count : Int32) (x10_reds : Int32) (x11_count : Int32) (x11_turn : Int32) (y12_land : Nat → Int32) (y13_riverOf : Nat → Int32) (y14_home : Nat → Int32) (y15_length : Nat → Int32) (y16_letters : Nat → Int32) (y17_stops : Nat → Int32) : va_W := [(a0, .inr (8, [.ref a2, u0_1, u0_2, .ref a1, u0_4, u0_5, u0_6, u0_7, u0_8, u0_9])), (a1, .inr (0, [.int x1_reds, .int x1_bestReds, .int x1_bestCount, .int x1_bestTurning, .ref a3, .ref a5, .ref a6, .ref a7, .ref a8, .ref a4])), (a2, .inr (6, [.ref a9, .ref a10, .ref a11, u2_3, u2_4])), (a3, .inl (g.2.1 0, 8, .inl y3_allowed)), (a4, .inl (g.2.1 0, 8, .inl y4_best)), (a5, .inl (g.2.1 0, 32, .inl y5_foes)), (a6, .inl (g.2.1 0, 9, .inl y6_namesLeft)), (a7, .inl (g.2.1 0, 9, .inl y7_redsLeft)), (a8, .inl (g.2.1 0, 8, .inl y8_trial)), (a9, .inr (1, [.int x9_rows, .int x9_columns, u9_2, .ref a12, .ref a13, u9_5])), (a10, .inr (2, [.int x10_count, .int x10_reds, .ref a14, u10_3, .ref a15, .ref a16])), (a11, .inr (4, [.int x11_count, u11_1, .int x11_turn, u11_3, .ref a17])), (a12, .inl (g.2.1 1, 144, .inl y12_land)), (a13, .inl (g.2.1 0, 144, .inl y13_riverOf)), (a14, .inl (g.2.1 0, 8, .inl y14_home)), (a15, .inl (g.2.1 0, 8, .inl y15_length)), (a16, .inl (g.2.1 0, 64, .inl y16_letters)), (a17, .inl (g.2.1 0, 16, .inl y17_stops))]
set_option maxRecDepth 20000 in
theorem c_X8_least (l : Launch) (g : GE) (a0 a1 a2 a3 a4 a5 a6 a7 a8 a9 a10 a11 a12 a13 a14 a15 a16 a17 : Nat) (sz : Nat) (u0_1 u0_2 u0_4 u0_5 u0_6 u0_7 u0_8 u0_9 u2_3 u2_4 u9_2 u9_5 u10_3 u11_1 u11_3 : Value) (x1_reds : Int32) (x1_bestReds : Int32) (x1_bestCount : Int32) (x1_bestTurning : Int32) (y3_allowed : Nat → Int32) (y4_best : Nat → Int32) (y5_foes : Nat → Int32) (y6_namesLeft : Nat → Int32) (y7_redsLeft : Nat → Int32) (y8_trial : Nat → Int32) (x9_rows : Int32) (x9_columns : Int32) (x10_count : Int32) (x10_reds : Int32) (x11_count : Int32) (x11_turn : Int32) (y12_land : Nat → Int32) (y13_riverOf : Nat → Int32) (y14_home : Nat → Int32) (y15_length : Nat → Int32) (y16_letters : Nat → Int32) (y17_stops : Nat → Int32)   (r : Int32) (o_x1_reds : Int32) (o_x1_bestReds : Int32) (o_x1_bestCount : Int32) (o_x1_bestTurning : Int32) (o_y3_allowed : Nat → Int32) (o_y4_best : Nat → Int32) (o_y5_foes : Nat → Int32) (o_y6_namesLeft : Nat → Int32) (o_y7_redsLeft : Nat → Int32) (o_y8_trial : Nat → Int32) (hf : f_X8_least x1_reds x1_bestReds x1_bestCount x1_bestTurning y3_allowed y4_best y5_foes y6_namesLeft y7_redsLeft y8_trial x9_rows x9_columns x10_count x10_reds x11_count x11_turn y12_land y13_riverOf y14_home y15_length y16_letters y17_stops = some (r, o_x1_reds, o_x1_bestReds, o_x1_bestCount, o_x1_bestTurning, o_y3_allowed, o_y4_best, o_y5_foes, o_y6_namesLeft, o_y7_redsLeft, o_y8_trial)) : MI l g yX8_least wsX8_least 16 432 [.ref a0] (w_X8_least g a0 a1 a2 a3 a4 a5 a6 a7 a8 a9 a10 a11 a12 a13 a14 a15 a16 a17 u0_1 u0_2 u0_4 u0_5 u0_6 u0_7 u0_8 u0_9 u2_3 u2_4 u9_2 u9_5 u10_3 u11_1 u11_3 x1_reds x1_bestReds x1_bestCount x1_bestTurning y3_allowed y4_best y5_foes y6_namesLeft y7_redsLeft y8_trial x9_rows x9_columns x10_count x10_reds x11_count x11_turn y12_land y13_riverOf y14_home y15_length y16_letters y17_stops) sz (some (.int r)) (w_X8_least g a0 a1 a2 a3 a4 a5 a6 a7 a8 a9 a10 a11 a12 a13 a14 a15 a16 a17 u0_1 u0_2 u0_4 u0_5 u0_6 u0_7 u0_8 u0_9 u2_3 u2_4 u9_2 u9_5 u10_3 u11_1 u11_3 o_x1_reds o_x1_bestReds o_x1_bestCount o_x1_bestTurning o_y3_allowed o_y4_best o_y5_foes o_y6_namesLeft o_y7_redsLeft o_y8_trial x9_rows x9_columns x10_count x10_reds x11_count x11_turn y12_land y13_riverOf y14_home y15_length y16_letters y17_stops) := by
  refine MI.start (cc := cX8_least) (maxL := 1) (ret := (some .int)) rfl rfl (nle rfl) ?_
  intro p e s m args below meth c A ls Q hQ hexec hb hr hts hown hlocks hml hA hP hD hG hS hl
  unfold f_X8_least at hf
  have hWX0 : ∀ w ∈ wsX00, w.before args s = true := fun w h => hts w (List.mem_cons_of_mem _ (List.mem_append_left _ (List.mem_append_left _ (List.mem_append_right _ h))))
  have hWX1 : ∀ w ∈ wsX10, w.before args s = true := fun w h => hts w (List.mem_cons_of_mem _ (List.mem_append_left _ (List.mem_append_right _ h)))
  have hWX2 : ∀ w ∈ wsX20, w.before args s = true := fun w h => hts w (List.mem_cons_of_mem _ (List.mem_append_left _ (List.mem_append_left _ (List.mem_append_left _ (List.mem_append_right _ h)))))
  have hWX4 : ∀ w ∈ wsX40, w.before args s = true := fun w h => hts w (List.mem_cons_of_mem _ (List.mem_append_right _ h))
  have hWX6 : ∀ w ∈ wsX60, w.before args s = true := fun w h => hts w (List.mem_cons_of_mem _ (List.mem_append_left _ (List.mem_append_left _ (List.mem_append_left _ (List.mem_append_left _ (List.mem_append_right _ h))))))
  have hWX8 : ∀ w ∈ wsX80, w.before args s = true := fun w h => hts w (List.mem_cons_of_mem _ (List.mem_append_left _ (List.mem_append_left _ (List.mem_append_left _ (List.mem_append_left _ (List.mem_append_left _ (List.mem_append_right _ h)))))))
  have hS : va_S A s.heap s.heap [] := hS
  refine lv_aload_n (pc := 0) hexec hb dX8_least_0 rfl (lv_at hl 0 rfl) ?_
  refine kg_get (pc := 1) hexec hb (own := RX8) hWX8 hown hG hP 0 rfl rfl 3 (nle rfl) (hts _ (List.mem_cons_of_mem _ (List.mem_append_left _ (List.mem_append_left _ (List.mem_append_left _ (List.mem_append_left _ (List.mem_append_left _ (List.mem_append_left _ (List.mem_append_left _ (List.mem_of_getElem? (i := 0) rfl)))))))))) rfl rfl dX8_least_1 ?_
  refine lv_aload_n (pc := 4) hexec hb dX8_least_4 rfl (lv_at hl 0 rfl) ?_
  refine kg_get (pc := 5) hexec hb (own := RX8) hWX8 hown hG hP 0 rfl rfl 0 (nle rfl) (hts _ (List.mem_cons_of_mem _ (List.mem_append_left _ (List.mem_append_left _ (List.mem_append_left _ (List.mem_append_left _ (List.mem_append_left _ (List.mem_append_left _ (List.mem_append_left _ (List.mem_of_getElem? (i := 1) rfl)))))))))) rfl rfl dX8_least_5 ?_
  refine lv_iconst (pc := 8) hexec hb dX8_least_8 ki_m1 ?_
  refine lv_aload_n (pc := 9) hexec hb dX8_least_9 rfl (lv_at hl 0 rfl) ?_
  refine kg_get (pc := 10) hexec hb (own := RX8) hWX8 hown hG hP 0 rfl rfl 0 (nle rfl) (hts _ (List.mem_cons_of_mem _ (List.mem_append_left _ (List.mem_append_left _ (List.mem_append_left _ (List.mem_append_left _ (List.mem_append_left _ (List.mem_append_left _ (List.mem_append_left _ (List.mem_of_getElem? (i := 1) rfl)))))))))) rfl rfl dX8_least_10 ?_
  refine kg_getN (pc := 13) hexec hb (own := RX8) hWX6 hown hG hP 2 rfl rfl 1 (nle rfl) 24 rfl rfl rfl dX8_least_13 ?_
  refine kg_getN (pc := 16) hexec hb (own := RX8) hWX2 hown hG hP 10 rfl rfl 1 (nle rfl) 10 rfl rfl rfl dX8_least_16 ?_
  obtain ⟨x1_reds_1, x1_bestReds_1, x1_bestCount_1, x1_bestTurning_1, y3_allowed_1, y4_best_1, y5_foes_1, y6_namesLeft_1, y7_redsLeft_1, y8_trial_1, hc, hf⟩ := bd10_e hf
  refine kVp (pc := 19) (S := ⟨hexec, hb, hml, hown, hts⟩) hP hD hG hA hS [1, 3, 4, 5, 6, 7, 8, 2, 9, 10, 11, 12, 13, 14, 15, 16, 17] [0] [0, 1, 8, 2, 3, 4, 5, 6, 7, 9, 10, 11, 12, 13, 14, 15, 16, 17] (w2 := (w_X8_least g a0 a1 a2 a3 a4 a5 a6 a7 a8 a9 a10 a11 a12 a13 a14 a15 a16 a17 u0_1 u0_2 u0_4 u0_5 u0_6 u0_7 u0_8 u0_9 u2_3 u2_4 u9_2 u9_5 u10_3 u11_1 u11_3 x1_reds_1 x1_bestReds_1 x1_bestCount_1 x1_bestTurning_1 y3_allowed_1 y4_best_1 y5_foes_1 y6_namesLeft_1 y7_redsLeft_1 y8_trial_1 x9_rows x9_columns x10_count x10_reds x11_count x11_turn y12_land y13_riverOf y14_home y15_length y16_letters y17_stops)) rfl rfl rfl rfl rfl rfl (by decide) (c_X0_findBest l g a1 a3 a4 a5 a6 a7 a8 a2 a9 a10 a11 a12 a13 a14 a15 a16 a17 _ u2_3 u2_4 u9_2 u9_5 (.int x10_reds) u10_3 u11_1 u11_3 x1_reds x1_bestReds x1_bestCount x1_bestTurning y3_allowed y4_best y5_foes y6_namesLeft y7_redsLeft y8_trial x9_rows x9_columns x10_count x11_count x11_turn y12_land y13_riverOf y14_home y15_length y16_letters y17_stops (-1) x10_reds x1_reds_1 x1_bestReds_1 x1_bestCount_1 x1_bestTurning_1 y3_allowed_1 y4_best_1 y5_foes_1 y6_namesLeft_1 y7_redsLeft_1 y8_trial_1 hc) gX8_least_X0_findBest rfl hv_X0_findBest ⟨nle rfl, nle rfl⟩ 0 0 rfl rfl rfl (rest := []) rfl rfl hl.1 (nle rfl) dX8_least_19 (fun H locs hP hD hS => ?_)
  refine lv_aload_n (pc := 22) hexec hb dX8_least_22 rfl (lv_at hl 0 rfl) ?_
  refine kg_get (pc := 23) hexec hb (own := RX8) hWX8 hown hG hP 0 rfl rfl 3 (nle rfl) (hts _ (List.mem_cons_of_mem _ (List.mem_append_left _ (List.mem_append_left _ (List.mem_append_left _ (List.mem_append_left _ (List.mem_append_left _ (List.mem_append_left _ (List.mem_append_left _ (List.mem_of_getElem? (i := 0) rfl)))))))))) rfl rfl dX8_least_23 ?_
  refine kg_getN (pc := 26) hexec hb (own := RX8) hWX0 hown hG hP 1 rfl rfl 3 (nle rfl) 36 rfl rfl rfl dX8_least_26 ?_
  cases hf
  exact ke_i hQ hexec hb hr hP hD hS dX8_least_29 hlocks
abbrev w_X8_placedThen (g : GE) (a0 a1 a2 a3 a4 a5 a6 a7 a8 a9 a10 a11 a12 a13 a14 a15 a16 a17 : Nat) (u0_1 u0_2 u0_4 u0_5 u0_6 u0_7 u0_8 u0_9 u2_3 u2_4 u9_2 u9_5 u10_3 u11_1 u11_3 : Value) (x1_reds : Int32) (x1_bestReds : Int32) (x1_bestCount : Int32) (x1_bestTurning : Int32) (y3_allowed : Nat → Int32) (y4_best : Nat → Int32) (y5_foes : Nat → Int32) (y6_namesLeft : Nat → Int32) (y7_redsLeft : Nat → Int32) (y8_trial : Nat → Int32) (x9_rows : Int32) (x9_columns : Int32) (x10_count : Int32) (x10_reds : Int32) (x11_count : Int32) (x11_turn : Int32) (y12_land : Nat → Int32) (y13_riverOf : Nat → Int32) (y14_home : Nat → Int32) (y15_length : Nat → Int32) (y16_letters : Nat → Int32) (y17_stops : Nat → Int32) : va_W := [(a0, .inr (8, [.ref a2, u0_1, u0_2, .ref a1, u0_4, u0_5, u0_6, u0_7, u0_8, u0_9])), (a1, .inr (0, [.int x1_reds, .int x1_bestReds, .int x1_bestCount, .int x1_bestTurning, .ref a3, .ref a5, .ref a6, .ref a7, .ref a8, .ref a4])), (a2, .inr (6, [.ref a9, .ref a10, .ref a11, u2_3, u2_4])), (a3, .inl (g.2.1 0, 8, .inl y3_allowed)), (a4, .inl (g.2.1 0, 8, .inl y4_best)), (a5, .inl (g.2.1 0, 32, .inl y5_foes)), (a6, .inl (g.2.1 0, 9, .inl y6_namesLeft)), (a7, .inl (g.2.1 0, 9, .inl y7_redsLeft)), (a8, .inl (g.2.1 0, 8, .inl y8_trial)), (a9, .inr (1, [.int x9_rows, .int x9_columns, u9_2, .ref a12, .ref a13, u9_5])), (a10, .inr (2, [.int x10_count, .int x10_reds, .ref a14, u10_3, .ref a15, .ref a16])), (a11, .inr (4, [.int x11_count, u11_1, .int x11_turn, u11_3, .ref a17])), (a12, .inl (g.2.1 1, 144, .inl y12_land)), (a13, .inl (g.2.1 0, 144, .inl y13_riverOf)), (a14, .inl (g.2.1 0, 8, .inl y14_home)), (a15, .inl (g.2.1 0, 8, .inl y15_length)), (a16, .inl (g.2.1 0, 64, .inl y16_letters)), (a17, .inl (g.2.1 0, 16, .inl y17_stops))]
set_option maxRecDepth 20000 in
theorem c_X8_placedThen (l : Launch) (g : GE) (a0 a1 a2 a3 a4 a5 a6 a7 a8 a9 a10 a11 a12 a13 a14 a15 a16 a17 : Nat) (sz : Nat) (u0_1 u0_2 u0_4 u0_5 u0_6 u0_7 u0_8 u0_9 u2_3 u2_4 u9_2 u9_5 u10_3 u11_1 u11_3 : Value) (x1_reds : Int32) (x1_bestReds : Int32) (x1_bestCount : Int32) (x1_bestTurning : Int32) (y3_allowed : Nat → Int32) (y4_best : Nat → Int32) (y5_foes : Nat → Int32) (y6_namesLeft : Nat → Int32) (y7_redsLeft : Nat → Int32) (y8_trial : Nat → Int32) (x9_rows : Int32) (x9_columns : Int32) (x10_count : Int32) (x10_reds : Int32) (x11_count : Int32) (x11_turn : Int32) (y12_land : Nat → Int32) (y13_riverOf : Nat → Int32) (y14_home : Nat → Int32) (y15_length : Nat → Int32) (y16_letters : Nat → Int32) (y17_stops : Nat → Int32)   (r : Int32) (o_x1_reds : Int32) (o_x1_bestReds : Int32) (o_x1_bestCount : Int32) (o_x1_bestTurning : Int32) (o_y3_allowed : Nat → Int32) (o_y4_best : Nat → Int32) (o_y5_foes : Nat → Int32) (o_y6_namesLeft : Nat → Int32) (o_y7_redsLeft : Nat → Int32) (o_y8_trial : Nat → Int32) (hf : f_X8_placedThen x1_reds x1_bestReds x1_bestCount x1_bestTurning y3_allowed y4_best y5_foes y6_namesLeft y7_redsLeft y8_trial x9_rows x9_columns x10_count x10_reds x11_count x11_turn y12_land y13_riverOf y14_home y15_length y16_letters y17_stops = some (r, o_x1_reds, o_x1_bestReds, o_x1_bestCount, o_x1_bestTurning, o_y3_allowed, o_y4_best, o_y5_foes, o_y6_namesLeft, o_y7_redsLeft, o_y8_trial)) : MI l g yX8_placedThen wsX8_placedThen 16 432 [.ref a0] (w_X8_placedThen g a0 a1 a2 a3 a4 a5 a6 a7 a8 a9 a10 a11 a12 a13 a14 a15 a16 a17 u0_1 u0_2 u0_4 u0_5 u0_6 u0_7 u0_8 u0_9 u2_3 u2_4 u9_2 u9_5 u10_3 u11_1 u11_3 x1_reds x1_bestReds x1_bestCount x1_bestTurning y3_allowed y4_best y5_foes y6_namesLeft y7_redsLeft y8_trial x9_rows x9_columns x10_count x10_reds x11_count x11_turn y12_land y13_riverOf y14_home y15_length y16_letters y17_stops) sz (some (.int r)) (w_X8_placedThen g a0 a1 a2 a3 a4 a5 a6 a7 a8 a9 a10 a11 a12 a13 a14 a15 a16 a17 u0_1 u0_2 u0_4 u0_5 u0_6 u0_7 u0_8 u0_9 u2_3 u2_4 u9_2 u9_5 u10_3 u11_1 u11_3 o_x1_reds o_x1_bestReds o_x1_bestCount o_x1_bestTurning o_y3_allowed o_y4_best o_y5_foes o_y6_namesLeft o_y7_redsLeft o_y8_trial x9_rows x9_columns x10_count x10_reds x11_count x11_turn y12_land y13_riverOf y14_home y15_length y16_letters y17_stops) := by
  refine MI.start (cc := cX8_placedThen) (maxL := 1) (ret := (some .int)) rfl rfl (nle rfl) ?_
  intro p e s m args below meth c A ls Q hQ hexec hb hr hts hown hlocks hml hA hP hD hG hS hl
  unfold f_X8_placedThen at hf
  have hWX0 : ∀ w ∈ wsX00, w.before args s = true := fun w h => hts w (List.mem_cons_of_mem _ (List.mem_append_left _ (List.mem_append_left _ (List.mem_append_right _ h))))
  have hWX1 : ∀ w ∈ wsX10, w.before args s = true := fun w h => hts w (List.mem_cons_of_mem _ (List.mem_append_left _ (List.mem_append_right _ h)))
  have hWX2 : ∀ w ∈ wsX20, w.before args s = true := fun w h => hts w (List.mem_cons_of_mem _ (List.mem_append_left _ (List.mem_append_left _ (List.mem_append_left _ (List.mem_append_right _ h)))))
  have hWX4 : ∀ w ∈ wsX40, w.before args s = true := fun w h => hts w (List.mem_cons_of_mem _ (List.mem_append_right _ h))
  have hWX6 : ∀ w ∈ wsX60, w.before args s = true := fun w h => hts w (List.mem_cons_of_mem _ (List.mem_append_left _ (List.mem_append_left _ (List.mem_append_left _ (List.mem_append_left _ (List.mem_append_right _ h))))))
  have hWX8 : ∀ w ∈ wsX80, w.before args s = true := fun w h => hts w (List.mem_cons_of_mem _ (List.mem_append_left _ (List.mem_append_left _ (List.mem_append_left _ (List.mem_append_left _ (List.mem_append_left _ (List.mem_append_right _ h)))))))
  have hS : va_S A s.heap s.heap [] := hS
  refine lv_aload_n (pc := 0) hexec hb dX8_placedThen_0 rfl (lv_at hl 0 rfl) ?_
  refine kg_get (pc := 1) hexec hb (own := RX8) hWX8 hown hG hP 0 rfl rfl 3 (nle rfl) (hts _ (List.mem_cons_of_mem _ (List.mem_append_left _ (List.mem_append_left _ (List.mem_append_left _ (List.mem_append_left _ (List.mem_append_left _ (List.mem_append_left _ (List.mem_append_left _ (List.mem_of_getElem? (i := 0) rfl)))))))))) rfl rfl dX8_placedThen_1 ?_
  refine lv_aload_n (pc := 4) hexec hb dX8_placedThen_4 rfl (lv_at hl 0 rfl) ?_
  refine kg_get (pc := 5) hexec hb (own := RX8) hWX8 hown hG hP 0 rfl rfl 0 (nle rfl) (hts _ (List.mem_cons_of_mem _ (List.mem_append_left _ (List.mem_append_left _ (List.mem_append_left _ (List.mem_append_left _ (List.mem_append_left _ (List.mem_append_left _ (List.mem_append_left _ (List.mem_of_getElem? (i := 1) rfl)))))))))) rfl rfl dX8_placedThen_5 ?_
  refine lv_iconst (pc := 8) hexec hb dX8_placedThen_8 ki_m1 ?_
  refine lv_aload_n (pc := 9) hexec hb dX8_placedThen_9 rfl (lv_at hl 0 rfl) ?_
  refine kg_get (pc := 10) hexec hb (own := RX8) hWX8 hown hG hP 0 rfl rfl 0 (nle rfl) (hts _ (List.mem_cons_of_mem _ (List.mem_append_left _ (List.mem_append_left _ (List.mem_append_left _ (List.mem_append_left _ (List.mem_append_left _ (List.mem_append_left _ (List.mem_append_left _ (List.mem_of_getElem? (i := 1) rfl)))))))))) rfl rfl dX8_placedThen_10 ?_
  refine kg_getN (pc := 13) hexec hb (own := RX8) hWX6 hown hG hP 2 rfl rfl 1 (nle rfl) 24 rfl rfl rfl dX8_placedThen_13 ?_
  refine kg_getN (pc := 16) hexec hb (own := RX8) hWX2 hown hG hP 10 rfl rfl 1 (nle rfl) 10 rfl rfl rfl dX8_placedThen_16 ?_
  obtain ⟨x1_reds_1, x1_bestReds_1, x1_bestCount_1, x1_bestTurning_1, y3_allowed_1, y4_best_1, y5_foes_1, y6_namesLeft_1, y7_redsLeft_1, y8_trial_1, hc, hf⟩ := bd10_e hf
  refine kVp (pc := 19) (S := ⟨hexec, hb, hml, hown, hts⟩) hP hD hG hA hS [1, 3, 4, 5, 6, 7, 8, 2, 9, 10, 11, 12, 13, 14, 15, 16, 17] [0] [0, 1, 8, 2, 3, 4, 5, 6, 7, 9, 10, 11, 12, 13, 14, 15, 16, 17] (w2 := (w_X8_placedThen g a0 a1 a2 a3 a4 a5 a6 a7 a8 a9 a10 a11 a12 a13 a14 a15 a16 a17 u0_1 u0_2 u0_4 u0_5 u0_6 u0_7 u0_8 u0_9 u2_3 u2_4 u9_2 u9_5 u10_3 u11_1 u11_3 x1_reds_1 x1_bestReds_1 x1_bestCount_1 x1_bestTurning_1 y3_allowed_1 y4_best_1 y5_foes_1 y6_namesLeft_1 y7_redsLeft_1 y8_trial_1 x9_rows x9_columns x10_count x10_reds x11_count x11_turn y12_land y13_riverOf y14_home y15_length y16_letters y17_stops)) rfl rfl rfl rfl rfl rfl (by decide) (c_X0_findBest l g a1 a3 a4 a5 a6 a7 a8 a2 a9 a10 a11 a12 a13 a14 a15 a16 a17 _ u2_3 u2_4 u9_2 u9_5 (.int x10_reds) u10_3 u11_1 u11_3 x1_reds x1_bestReds x1_bestCount x1_bestTurning y3_allowed y4_best y5_foes y6_namesLeft y7_redsLeft y8_trial x9_rows x9_columns x10_count x11_count x11_turn y12_land y13_riverOf y14_home y15_length y16_letters y17_stops (-1) x10_reds x1_reds_1 x1_bestReds_1 x1_bestCount_1 x1_bestTurning_1 y3_allowed_1 y4_best_1 y5_foes_1 y6_namesLeft_1 y7_redsLeft_1 y8_trial_1 hc) gX8_placedThen_X0_findBest rfl hv_X0_findBest ⟨nle rfl, nle rfl⟩ 0 0 rfl rfl rfl (rest := []) rfl rfl hl.1 (nle rfl) dX8_placedThen_19 (fun H locs hP hD hS => ?_)
  refine lv_aload_n (pc := 22) hexec hb dX8_placedThen_22 rfl (lv_at hl 0 rfl) ?_
  refine kg_get (pc := 23) hexec hb (own := RX8) hWX8 hown hG hP 0 rfl rfl 3 (nle rfl) (hts _ (List.mem_cons_of_mem _ (List.mem_append_left _ (List.mem_append_left _ (List.mem_append_left _ (List.mem_append_left _ (List.mem_append_left _ (List.mem_append_left _ (List.mem_append_left _ (List.mem_of_getElem? (i := 0) rfl)))))))))) rfl rfl dX8_placedThen_23 ?_
  refine kg_getN (pc := 26) hexec hb (own := RX8) hWX0 hown hG hP 1 rfl rfl 2 (nle rfl) 35 rfl rfl rfl dX8_placedThen_26 ?_
  cases hf
  exact ke_i hQ hexec hb hr hP hD hS dX8_placedThen_29 hlocks
abbrev w_X8_arranged (g : GE) (a0 a1 a2 a3 a4 a5 a6 a7 a8 a9 a10 a11 a12 a13 a14 a15 a16 a17 : Nat) (u0_1 u0_2 u0_4 u0_5 u0_6 u0_7 u0_8 u0_9 u2_3 u2_4 u9_2 u9_5 u10_3 u11_1 u11_3 : Value) (x1_reds : Int32) (x1_bestReds : Int32) (x1_bestCount : Int32) (x1_bestTurning : Int32) (y3_allowed : Nat → Int32) (y4_best : Nat → Int32) (y5_foes : Nat → Int32) (y6_namesLeft : Nat → Int32) (y7_redsLeft : Nat → Int32) (y8_trial : Nat → Int32) (x9_rows : Int32) (x9_columns : Int32) (x10_count : Int32) (x10_reds : Int32) (x11_count : Int32) (x11_turn : Int32) (y12_land : Nat → Int32) (y13_riverOf : Nat → Int32) (y14_home : Nat → Int32) (y15_length : Nat → Int32) (y16_letters : Nat → Int32) (y17_stops : Nat → Int32) : va_W := [(a0, .inr (8, [.ref a2, u0_1, u0_2, .ref a1, u0_4, u0_5, u0_6, u0_7, u0_8, u0_9])), (a1, .inr (0, [.int x1_reds, .int x1_bestReds, .int x1_bestCount, .int x1_bestTurning, .ref a3, .ref a5, .ref a6, .ref a7, .ref a8, .ref a4])), (a2, .inr (6, [.ref a9, .ref a10, .ref a11, u2_3, u2_4])), (a3, .inl (g.2.1 0, 8, .inl y3_allowed)), (a4, .inl (g.2.1 0, 8, .inl y4_best)), (a5, .inl (g.2.1 0, 32, .inl y5_foes)), (a6, .inl (g.2.1 0, 9, .inl y6_namesLeft)), (a7, .inl (g.2.1 0, 9, .inl y7_redsLeft)), (a8, .inl (g.2.1 0, 8, .inl y8_trial)), (a9, .inr (1, [.int x9_rows, .int x9_columns, u9_2, .ref a12, .ref a13, u9_5])), (a10, .inr (2, [.int x10_count, .int x10_reds, .ref a14, u10_3, .ref a15, .ref a16])), (a11, .inr (4, [.int x11_count, u11_1, .int x11_turn, u11_3, .ref a17])), (a12, .inl (g.2.1 1, 144, .inl y12_land)), (a13, .inl (g.2.1 0, 144, .inl y13_riverOf)), (a14, .inl (g.2.1 0, 8, .inl y14_home)), (a15, .inl (g.2.1 0, 8, .inl y15_length)), (a16, .inl (g.2.1 0, 64, .inl y16_letters)), (a17, .inl (g.2.1 0, 16, .inl y17_stops))]
set_option maxRecDepth 20000 in
theorem c_X8_arranged (l : Launch) (g : GE) (a0 a1 a2 a3 a4 a5 a6 a7 a8 a9 a10 a11 a12 a13 a14 a15 a16 a17 : Nat) (sz : Nat) (u0_1 u0_2 u0_4 u0_5 u0_6 u0_7 u0_8 u0_9 u2_3 u2_4 u9_2 u9_5 u10_3 u11_1 u11_3 : Value) (x1_reds : Int32) (x1_bestReds : Int32) (x1_bestCount : Int32) (x1_bestTurning : Int32) (y3_allowed : Nat → Int32) (y4_best : Nat → Int32) (y5_foes : Nat → Int32) (y6_namesLeft : Nat → Int32) (y7_redsLeft : Nat → Int32) (y8_trial : Nat → Int32) (x9_rows : Int32) (x9_columns : Int32) (x10_count : Int32) (x10_reds : Int32) (x11_count : Int32) (x11_turn : Int32) (y12_land : Nat → Int32) (y13_riverOf : Nat → Int32) (y14_home : Nat → Int32) (y15_length : Nat → Int32) (y16_letters : Nat → Int32) (y17_stops : Nat → Int32) (p1 : Int32)  (r : Int32) (o_x1_reds : Int32) (o_x1_bestReds : Int32) (o_x1_bestCount : Int32) (o_x1_bestTurning : Int32) (o_y3_allowed : Nat → Int32) (o_y4_best : Nat → Int32) (o_y5_foes : Nat → Int32) (o_y6_namesLeft : Nat → Int32) (o_y7_redsLeft : Nat → Int32) (o_y8_trial : Nat → Int32) (hf : f_X8_arranged x1_reds x1_bestReds x1_bestCount x1_bestTurning y3_allowed y4_best y5_foes y6_namesLeft y7_redsLeft y8_trial x9_rows x9_columns x10_count x10_reds x11_count x11_turn y12_land y13_riverOf y14_home y15_length y16_letters y17_stops p1 = some (r, o_x1_reds, o_x1_bestReds, o_x1_bestCount, o_x1_bestTurning, o_y3_allowed, o_y4_best, o_y5_foes, o_y6_namesLeft, o_y7_redsLeft, o_y8_trial)) : MI l g yX8_arranged wsX8_arranged 16 432 [.ref a0, .int p1] (w_X8_arranged g a0 a1 a2 a3 a4 a5 a6 a7 a8 a9 a10 a11 a12 a13 a14 a15 a16 a17 u0_1 u0_2 u0_4 u0_5 u0_6 u0_7 u0_8 u0_9 u2_3 u2_4 u9_2 u9_5 u10_3 u11_1 u11_3 x1_reds x1_bestReds x1_bestCount x1_bestTurning y3_allowed y4_best y5_foes y6_namesLeft y7_redsLeft y8_trial x9_rows x9_columns x10_count x10_reds x11_count x11_turn y12_land y13_riverOf y14_home y15_length y16_letters y17_stops) sz (some (.int r)) (w_X8_arranged g a0 a1 a2 a3 a4 a5 a6 a7 a8 a9 a10 a11 a12 a13 a14 a15 a16 a17 u0_1 u0_2 u0_4 u0_5 u0_6 u0_7 u0_8 u0_9 u2_3 u2_4 u9_2 u9_5 u10_3 u11_1 u11_3 o_x1_reds o_x1_bestReds o_x1_bestCount o_x1_bestTurning o_y3_allowed o_y4_best o_y5_foes o_y6_namesLeft o_y7_redsLeft o_y8_trial x9_rows x9_columns x10_count x10_reds x11_count x11_turn y12_land y13_riverOf y14_home y15_length y16_letters y17_stops) := by
  refine MI.start (cc := cX8_arranged) (maxL := 2) (ret := (some .int)) rfl rfl (nle rfl) ?_
  intro p e s m args below meth c A ls Q hQ hexec hb hr hts hown hlocks hml hA hP hD hG hS hl
  unfold f_X8_arranged at hf
  have hWX0 : ∀ w ∈ wsX00, w.before args s = true := fun w h => hts w (List.mem_cons_of_mem _ (List.mem_append_left _ (List.mem_append_left _ (List.mem_append_left _ (List.mem_append_right _ h)))))
  have hWX1 : ∀ w ∈ wsX10, w.before args s = true := fun w h => hts w (List.mem_cons_of_mem _ (List.mem_append_left _ (List.mem_append_left _ (List.mem_append_right _ h))))
  have hWX2 : ∀ w ∈ wsX20, w.before args s = true := fun w h => hts w (List.mem_cons_of_mem _ (List.mem_append_left _ (List.mem_append_left _ (List.mem_append_left _ (List.mem_append_left _ (List.mem_append_right _ h))))))
  have hWX4 : ∀ w ∈ wsX40, w.before args s = true := fun w h => hts w (List.mem_cons_of_mem _ (List.mem_append_left _ (List.mem_append_right _ h)))
  have hWX6 : ∀ w ∈ wsX60, w.before args s = true := fun w h => hts w (List.mem_cons_of_mem _ (List.mem_append_left _ (List.mem_append_left _ (List.mem_append_left _ (List.mem_append_left _ (List.mem_append_left _ (List.mem_append_right _ h)))))))
  have hWX8 : ∀ w ∈ wsX80, w.before args s = true := fun w h => hts w (List.mem_cons_of_mem _ (List.mem_append_left _ (List.mem_append_left _ (List.mem_append_left _ (List.mem_append_left _ (List.mem_append_left _ (List.mem_append_left _ (List.mem_append_right _ h))))))))
  have hS : va_S A s.heap s.heap [] := hS
  refine lv_aload_n (pc := 0) hexec hb dX8_arranged_0 rfl (lv_at hl 0 rfl) ?_
  refine lv_iload_n (pc := 1) hexec hb dX8_arranged_1 rfl (lv_at hl 1 rfl) ?_
  obtain ⟨_, hc, hf⟩ := bd1_e hf
  refine kVp (pc := 2) (S := ⟨hexec, hb, hml, hown, hts⟩) hP hD hG hA hS [0, 2, 10] [1, 3, 4, 5, 6, 7, 8, 9, 11, 12, 13, 14, 15, 16, 17] [15, 0, 16, 1, 2, 3, 4, 5, 6, 7, 17, 8, 9, 10, 11, 12, 13, 14] (w2 := (w_X8_arranged g a0 a1 a2 a3 a4 a5 a6 a7 a8 a9 a10 a11 a12 a13 a14 a15 a16 a17 u0_1 u0_2 u0_4 u0_5 u0_6 u0_7 u0_8 u0_9 u2_3 u2_4 u9_2 u9_5 u10_3 u11_1 u11_3 x1_reds x1_bestReds x1_bestCount x1_bestTurning y3_allowed y4_best y5_foes y6_namesLeft y7_redsLeft y8_trial x9_rows x9_columns x10_count x10_reds x11_count x11_turn y12_land y13_riverOf y14_home y15_length y16_letters y17_stops)) rfl rfl rfl rfl rfl rfl (by decide) (c_X8_needHarbour l g a0 a2 a10 _ u0_1 u0_2 (.ref a1) u0_4 u0_5 u0_6 u0_7 u0_8 u0_9 (.ref a9) (.ref a11) u2_3 u2_4 (.int x10_reds) (.ref a14) u10_3 (.ref a15) (.ref a16) x10_count p1 hc) gX8_arranged_X8_needHarbour rfl hv_X8_needHarbour ⟨nle rfl, nle rfl⟩ 8 0 rfl rfl rfl (rest := []) rfl rfl hl.1 (nle rfl) dX8_arranged_2 (fun H locs hP hD hS => ?_)
  refine lv_aload_n (pc := 5) hexec hb dX8_arranged_5 rfl (lv_at hl 0 rfl) ?_
  refine kg_get (pc := 6) hexec hb (own := RX8) hWX8 hown hG hP 0 rfl rfl 3 (nle rfl) (hts _ (List.mem_cons_of_mem _ (List.mem_append_left _ (List.mem_append_left _ (List.mem_append_left _ (List.mem_append_left _ (List.mem_append_left _ (List.mem_append_left _ (List.mem_append_left _ (List.mem_append_left _ (List.mem_of_getElem? (i := 0) rfl))))))))))) rfl rfl dX8_arranged_6 ?_
  refine lv_aload_n (pc := 9) hexec hb dX8_arranged_9 rfl (lv_at hl 0 rfl) ?_
  refine kg_get (pc := 10) hexec hb (own := RX8) hWX8 hown hG hP 0 rfl rfl 0 (nle rfl) (hts _ (List.mem_cons_of_mem _ (List.mem_append_left _ (List.mem_append_left _ (List.mem_append_left _ (List.mem_append_left _ (List.mem_append_left _ (List.mem_append_left _ (List.mem_append_left _ (List.mem_append_left _ (List.mem_of_getElem? (i := 1) rfl))))))))))) rfl rfl dX8_arranged_10 ?_
  refine lv_iconst (pc := 13) hexec hb dX8_arranged_13 ki_m1 ?_
  refine lv_aload_n (pc := 14) hexec hb dX8_arranged_14 rfl (lv_at hl 0 rfl) ?_
  refine kg_get (pc := 15) hexec hb (own := RX8) hWX8 hown hG hP 0 rfl rfl 0 (nle rfl) (hts _ (List.mem_cons_of_mem _ (List.mem_append_left _ (List.mem_append_left _ (List.mem_append_left _ (List.mem_append_left _ (List.mem_append_left _ (List.mem_append_left _ (List.mem_append_left _ (List.mem_append_left _ (List.mem_of_getElem? (i := 1) rfl))))))))))) rfl rfl dX8_arranged_15 ?_
  refine kg_getN (pc := 18) hexec hb (own := RX8) hWX6 hown hG hP 2 rfl rfl 1 (nle rfl) 24 rfl rfl rfl dX8_arranged_18 ?_
  refine kg_getN (pc := 21) hexec hb (own := RX8) hWX2 hown hG hP 10 rfl rfl 1 (nle rfl) 10 rfl rfl rfl dX8_arranged_21 ?_
  obtain ⟨x1_reds_1, x1_bestReds_1, x1_bestCount_1, x1_bestTurning_1, y3_allowed_1, y4_best_1, y5_foes_1, y6_namesLeft_1, y7_redsLeft_1, y8_trial_1, hc, hf⟩ := bd10_e hf
  refine kVp (pc := 24) (S := ⟨hexec, hb, hml, hown, hts⟩) hP hD hG hA hS [1, 3, 4, 5, 6, 7, 8, 2, 9, 10, 11, 12, 13, 14, 15, 16, 17] [0] [0, 1, 8, 2, 3, 4, 5, 6, 7, 9, 10, 11, 12, 13, 14, 15, 16, 17] (w2 := (w_X8_arranged g a0 a1 a2 a3 a4 a5 a6 a7 a8 a9 a10 a11 a12 a13 a14 a15 a16 a17 u0_1 u0_2 u0_4 u0_5 u0_6 u0_7 u0_8 u0_9 u2_3 u2_4 u9_2 u9_5 u10_3 u11_1 u11_3 x1_reds_1 x1_bestReds_1 x1_bestCount_1 x1_bestTurning_1 y3_allowed_1 y4_best_1 y5_foes_1 y6_namesLeft_1 y7_redsLeft_1 y8_trial_1 x9_rows x9_columns x10_count x10_reds x11_count x11_turn y12_land y13_riverOf y14_home y15_length y16_letters y17_stops)) rfl rfl rfl rfl rfl rfl (by decide) (c_X0_findBest l g a1 a3 a4 a5 a6 a7 a8 a2 a9 a10 a11 a12 a13 a14 a15 a16 a17 _ u2_3 u2_4 u9_2 u9_5 (.int x10_reds) u10_3 u11_1 u11_3 x1_reds x1_bestReds x1_bestCount x1_bestTurning y3_allowed y4_best y5_foes y6_namesLeft y7_redsLeft y8_trial x9_rows x9_columns x10_count x11_count x11_turn y12_land y13_riverOf y14_home y15_length y16_letters y17_stops (-1) x10_reds x1_reds_1 x1_bestReds_1 x1_bestCount_1 x1_bestTurning_1 y3_allowed_1 y4_best_1 y5_foes_1 y6_namesLeft_1 y7_redsLeft_1 y8_trial_1 hc) gX8_arranged_X0_findBest rfl hv_X0_findBest ⟨nle rfl, nle rfl⟩ 0 0 rfl rfl rfl (rest := []) rfl rfl hl.1 (nle rfl) dX8_arranged_24 (fun H locs hP hD hS => ?_)
  refine lv_aload_n (pc := 27) hexec hb dX8_arranged_27 rfl (lv_at hl 0 rfl) ?_
  refine kg_get (pc := 28) hexec hb (own := RX8) hWX8 hown hG hP 0 rfl rfl 3 (nle rfl) (hts _ (List.mem_cons_of_mem _ (List.mem_append_left _ (List.mem_append_left _ (List.mem_append_left _ (List.mem_append_left _ (List.mem_append_left _ (List.mem_append_left _ (List.mem_append_left _ (List.mem_append_left _ (List.mem_of_getElem? (i := 0) rfl))))))))))) rfl rfl dX8_arranged_28 ?_
  refine lv_iload_n (pc := 31) hexec hb dX8_arranged_31 rfl (lv_at hl 1 rfl) ?_
  obtain ⟨r32, hc, hf⟩ := bd1_e hf
  refine kVp (pc := 32) (S := ⟨hexec, hb, hml, hown, hts⟩) hP hD hG hA hS [1, 4] [0, 2, 3, 5, 6, 7, 8, 9, 10, 11, 12, 13, 14, 15, 16, 17] [0, 16, 1, 2, 17, 3, 4, 5, 6, 7, 8, 9, 10, 11, 12, 13, 14, 15] (w2 := (w_X8_arranged g a0 a1 a2 a3 a4 a5 a6 a7 a8 a9 a10 a11 a12 a13 a14 a15 a16 a17 u0_1 u0_2 u0_4 u0_5 u0_6 u0_7 u0_8 u0_9 u2_3 u2_4 u9_2 u9_5 u10_3 u11_1 u11_3 x1_reds_1 x1_bestReds_1 x1_bestCount_1 x1_bestTurning_1 y3_allowed_1 y4_best_1 y5_foes_1 y6_namesLeft_1 y7_redsLeft_1 y8_trial_1 x9_rows x9_columns x10_count x10_reds x11_count x11_turn y12_land y13_riverOf y14_home y15_length y16_letters y17_stops)) rfl rfl rfl rfl rfl rfl (by decide) (c_X0_bestDirection l g a1 a4 _ (.int x1_reds_1) (.int x1_bestReds_1) (.int x1_bestCount_1) (.int x1_bestTurning_1) (.ref a3) (.ref a5) (.ref a6) (.ref a7) (.ref a8) y4_best_1 p1 r32 hc) gX8_arranged_X0_bestDirection rfl hv_X0_bestDirection ⟨nle rfl, nle rfl⟩ 0 0 rfl rfl rfl (rest := []) rfl rfl hl.1 (nle rfl) dX8_arranged_32 (fun H locs hP hD hS => ?_)
  cases hf
  exact ke_i hQ hexec hb hr hP hD hS dX8_arranged_35 hlocks
abbrev w_X8_leastIf (g : GE) (a0 a1 a2 a3 a4 a5 a6 a7 a8 a9 a10 a11 a12 a13 a14 a15 a16 a17 : Nat) (u0_1 u0_2 u0_4 u0_5 u0_6 u0_7 u0_8 u0_9 u2_3 u2_4 u9_2 u9_5 u10_3 u11_1 u11_3 : Value) (x1_reds : Int32) (x1_bestReds : Int32) (x1_bestCount : Int32) (x1_bestTurning : Int32) (y3_allowed : Nat → Int32) (y4_best : Nat → Int32) (y5_foes : Nat → Int32) (y6_namesLeft : Nat → Int32) (y7_redsLeft : Nat → Int32) (y8_trial : Nat → Int32) (x9_rows : Int32) (x9_columns : Int32) (x10_count : Int32) (x10_reds : Int32) (x11_count : Int32) (x11_turn : Int32) (y12_land : Nat → Int32) (y13_riverOf : Nat → Int32) (y14_home : Nat → Int32) (y15_length : Nat → Int32) (y16_letters : Nat → Int32) (y17_stops : Nat → Int32) : va_W := [(a0, .inr (8, [.ref a2, u0_1, u0_2, .ref a1, u0_4, u0_5, u0_6, u0_7, u0_8, u0_9])), (a1, .inr (0, [.int x1_reds, .int x1_bestReds, .int x1_bestCount, .int x1_bestTurning, .ref a3, .ref a5, .ref a6, .ref a7, .ref a8, .ref a4])), (a2, .inr (6, [.ref a9, .ref a10, .ref a11, u2_3, u2_4])), (a3, .inl (g.2.1 0, 8, .inl y3_allowed)), (a4, .inl (g.2.1 0, 8, .inl y4_best)), (a5, .inl (g.2.1 0, 32, .inl y5_foes)), (a6, .inl (g.2.1 0, 9, .inl y6_namesLeft)), (a7, .inl (g.2.1 0, 9, .inl y7_redsLeft)), (a8, .inl (g.2.1 0, 8, .inl y8_trial)), (a9, .inr (1, [.int x9_rows, .int x9_columns, u9_2, .ref a12, .ref a13, u9_5])), (a10, .inr (2, [.int x10_count, .int x10_reds, .ref a14, u10_3, .ref a15, .ref a16])), (a11, .inr (4, [.int x11_count, u11_1, .int x11_turn, u11_3, .ref a17])), (a12, .inl (g.2.1 1, 144, .inl y12_land)), (a13, .inl (g.2.1 0, 144, .inl y13_riverOf)), (a14, .inl (g.2.1 0, 8, .inl y14_home)), (a15, .inl (g.2.1 0, 8, .inl y15_length)), (a16, .inl (g.2.1 0, 64, .inl y16_letters)), (a17, .inl (g.2.1 0, 16, .inl y17_stops))]
set_option maxRecDepth 20000 in
theorem c_X8_leastIf (l : Launch) (g : GE) (a0 a1 a2 a3 a4 a5 a6 a7 a8 a9 a10 a11 a12 a13 a14 a15 a16 a17 : Nat) (sz : Nat) (u0_1 u0_2 u0_4 u0_5 u0_6 u0_7 u0_8 u0_9 u2_3 u2_4 u9_2 u9_5 u10_3 u11_1 u11_3 : Value) (x1_reds : Int32) (x1_bestReds : Int32) (x1_bestCount : Int32) (x1_bestTurning : Int32) (y3_allowed : Nat → Int32) (y4_best : Nat → Int32) (y5_foes : Nat → Int32) (y6_namesLeft : Nat → Int32) (y7_redsLeft : Nat → Int32) (y8_trial : Nat → Int32) (x9_rows : Int32) (x9_columns : Int32) (x10_count : Int32) (x10_reds : Int32) (x11_count : Int32) (x11_turn : Int32) (y12_land : Nat → Int32) (y13_riverOf : Nat → Int32) (y14_home : Nat → Int32) (y15_length : Nat → Int32) (y16_letters : Nat → Int32) (y17_stops : Nat → Int32) (p1 : Int32) (p2 : Int32)  (r : Int32) (o_x1_reds : Int32) (o_x1_bestReds : Int32) (o_x1_bestCount : Int32) (o_x1_bestTurning : Int32) (o_y3_allowed : Nat → Int32) (o_y4_best : Nat → Int32) (o_y5_foes : Nat → Int32) (o_y6_namesLeft : Nat → Int32) (o_y7_redsLeft : Nat → Int32) (o_y8_trial : Nat → Int32) (hf : f_X8_leastIf x1_reds x1_bestReds x1_bestCount x1_bestTurning y3_allowed y4_best y5_foes y6_namesLeft y7_redsLeft y8_trial x9_rows x9_columns x10_count x10_reds x11_count x11_turn y12_land y13_riverOf y14_home y15_length y16_letters y17_stops p1 p2 = some (r, o_x1_reds, o_x1_bestReds, o_x1_bestCount, o_x1_bestTurning, o_y3_allowed, o_y4_best, o_y5_foes, o_y6_namesLeft, o_y7_redsLeft, o_y8_trial)) : MI l g yX8_leastIf wsX8_leastIf 16 432 [.ref a0, .int p1, .int p2] (w_X8_leastIf g a0 a1 a2 a3 a4 a5 a6 a7 a8 a9 a10 a11 a12 a13 a14 a15 a16 a17 u0_1 u0_2 u0_4 u0_5 u0_6 u0_7 u0_8 u0_9 u2_3 u2_4 u9_2 u9_5 u10_3 u11_1 u11_3 x1_reds x1_bestReds x1_bestCount x1_bestTurning y3_allowed y4_best y5_foes y6_namesLeft y7_redsLeft y8_trial x9_rows x9_columns x10_count x10_reds x11_count x11_turn y12_land y13_riverOf y14_home y15_length y16_letters y17_stops) sz (some (.int r)) (w_X8_leastIf g a0 a1 a2 a3 a4 a5 a6 a7 a8 a9 a10 a11 a12 a13 a14 a15 a16 a17 u0_1 u0_2 u0_4 u0_5 u0_6 u0_7 u0_8 u0_9 u2_3 u2_4 u9_2 u9_5 u10_3 u11_1 u11_3 o_x1_reds o_x1_bestReds o_x1_bestCount o_x1_bestTurning o_y3_allowed o_y4_best o_y5_foes o_y6_namesLeft o_y7_redsLeft o_y8_trial x9_rows x9_columns x10_count x10_reds x11_count x11_turn y12_land y13_riverOf y14_home y15_length y16_letters y17_stops) := by
  refine MI.start (cc := cX8_leastIf) (maxL := 3) (ret := (some .int)) rfl rfl (nle rfl) ?_
  intro p e s m args below meth c A ls Q hQ hexec hb hr hts hown hlocks hml hA hP hD hG hS hl
  unfold f_X8_leastIf at hf
  have hWX0 : ∀ w ∈ wsX00, w.before args s = true := fun w h => hts w (List.mem_cons_of_mem _ (List.mem_append_left _ (List.mem_append_left _ (List.mem_append_left _ (List.mem_append_left _ (List.mem_append_right _ h))))))
  have hWX1 : ∀ w ∈ wsX10, w.before args s = true := fun w h => hts w (List.mem_cons_of_mem _ (List.mem_append_left _ (List.mem_append_left _ (List.mem_append_right _ h))))
  have hWX2 : ∀ w ∈ wsX20, w.before args s = true := fun w h => hts w (List.mem_cons_of_mem _ (List.mem_append_left _ (List.mem_append_left _ (List.mem_append_left _ (List.mem_append_right _ h)))))
  have hWX4 : ∀ w ∈ wsX40, w.before args s = true := fun w h => hts w (List.mem_cons_of_mem _ (List.mem_append_left _ (List.mem_append_right _ h)))
  have hWX6 : ∀ w ∈ wsX60, w.before args s = true := fun w h => hts w (List.mem_cons_of_mem _ (List.mem_append_left _ (List.mem_append_left _ (List.mem_append_left _ (List.mem_append_left _ (List.mem_append_left _ (List.mem_append_right _ h)))))))
  have hWX8 : ∀ w ∈ wsX80, w.before args s = true := fun w h => hts w (List.mem_cons_of_mem _ (List.mem_append_left _ (List.mem_append_left _ (List.mem_append_left _ (List.mem_append_left _ (List.mem_append_left _ (List.mem_append_left _ (List.mem_append_right _ h))))))))
  have hS : va_S A s.heap s.heap [] := hS
  refine lv_aload_n (pc := 0) hexec hb dX8_leastIf_0 rfl (lv_at hl 0 rfl) ?_
  refine lv_iload_n (pc := 1) hexec hb dX8_leastIf_1 rfl (lv_at hl 1 rfl) ?_
  obtain ⟨_, hc, hf⟩ := bd1_e hf
  refine kVp (pc := 2) (S := ⟨hexec, hb, hml, hown, hts⟩) hP hD hG hA hS [0, 2, 10] [1, 3, 4, 5, 6, 7, 8, 9, 11, 12, 13, 14, 15, 16, 17] [15, 0, 16, 1, 2, 3, 4, 5, 6, 7, 17, 8, 9, 10, 11, 12, 13, 14] (w2 := (w_X8_leastIf g a0 a1 a2 a3 a4 a5 a6 a7 a8 a9 a10 a11 a12 a13 a14 a15 a16 a17 u0_1 u0_2 u0_4 u0_5 u0_6 u0_7 u0_8 u0_9 u2_3 u2_4 u9_2 u9_5 u10_3 u11_1 u11_3 x1_reds x1_bestReds x1_bestCount x1_bestTurning y3_allowed y4_best y5_foes y6_namesLeft y7_redsLeft y8_trial x9_rows x9_columns x10_count x10_reds x11_count x11_turn y12_land y13_riverOf y14_home y15_length y16_letters y17_stops)) rfl rfl rfl rfl rfl rfl (by decide) (c_X8_needHarbour l g a0 a2 a10 _ u0_1 u0_2 (.ref a1) u0_4 u0_5 u0_6 u0_7 u0_8 u0_9 (.ref a9) (.ref a11) u2_3 u2_4 (.int x10_reds) (.ref a14) u10_3 (.ref a15) (.ref a16) x10_count p1 hc) gX8_leastIf_X8_needHarbour rfl hv_X8_needHarbour ⟨nle rfl, nle rfl⟩ 8 0 rfl rfl rfl (rest := []) rfl rfl hl.1 (nle rfl) dX8_leastIf_2 (fun H locs hP hD hS => ?_)
  refine lv_aload_n (pc := 5) hexec hb dX8_leastIf_5 rfl (lv_at hl 0 rfl) ?_
  refine kg_get (pc := 6) hexec hb (own := RX8) hWX8 hown hG hP 0 rfl rfl 3 (nle rfl) (hts _ (List.mem_cons_of_mem _ (List.mem_append_left _ (List.mem_append_left _ (List.mem_append_left _ (List.mem_append_left _ (List.mem_append_left _ (List.mem_append_left _ (List.mem_append_left _ (List.mem_append_left _ (List.mem_of_getElem? (i := 0) rfl))))))))))) rfl rfl dX8_leastIf_6 ?_
  refine lv_aload_n (pc := 9) hexec hb dX8_leastIf_9 rfl (lv_at hl 0 rfl) ?_
  refine kg_get (pc := 10) hexec hb (own := RX8) hWX8 hown hG hP 0 rfl rfl 0 (nle rfl) (hts _ (List.mem_cons_of_mem _ (List.mem_append_left _ (List.mem_append_left _ (List.mem_append_left _ (List.mem_append_left _ (List.mem_append_left _ (List.mem_append_left _ (List.mem_append_left _ (List.mem_append_left _ (List.mem_of_getElem? (i := 1) rfl))))))))))) rfl rfl dX8_leastIf_10 ?_
  refine lv_iconst (pc := 13) hexec hb dX8_leastIf_13 ki_m1 ?_
  refine lv_aload_n (pc := 14) hexec hb dX8_leastIf_14 rfl (lv_at hl 0 rfl) ?_
  refine kg_get (pc := 15) hexec hb (own := RX8) hWX8 hown hG hP 0 rfl rfl 0 (nle rfl) (hts _ (List.mem_cons_of_mem _ (List.mem_append_left _ (List.mem_append_left _ (List.mem_append_left _ (List.mem_append_left _ (List.mem_append_left _ (List.mem_append_left _ (List.mem_append_left _ (List.mem_append_left _ (List.mem_of_getElem? (i := 1) rfl))))))))))) rfl rfl dX8_leastIf_15 ?_
  refine kg_getN (pc := 18) hexec hb (own := RX8) hWX6 hown hG hP 2 rfl rfl 1 (nle rfl) 24 rfl rfl rfl dX8_leastIf_18 ?_
  refine lv_iload_n (pc := 21) hexec hb dX8_leastIf_21 rfl (lv_at hl 1 rfl) ?_
  refine lv_iload_n (pc := 22) hexec hb dX8_leastIf_22 rfl (lv_at hl 2 rfl) ?_
  obtain ⟨r23, hc, hf⟩ := bd1_e hf
  refine kVp (pc := 23) (S := ⟨hexec, hb, hml, hown, hts⟩) hP hD hG hA hS [10] [0, 1, 2, 3, 4, 5, 6, 7, 8, 9, 11, 12, 13, 14, 15, 16, 17] [0, 1, 2, 3, 4, 5, 6, 7, 8, 9, 17, 10, 11, 12, 13, 14, 15, 16] (w2 := (w_X8_leastIf g a0 a1 a2 a3 a4 a5 a6 a7 a8 a9 a10 a11 a12 a13 a14 a15 a16 a17 u0_1 u0_2 u0_4 u0_5 u0_6 u0_7 u0_8 u0_9 u2_3 u2_4 u9_2 u9_5 u10_3 u11_1 u11_3 x1_reds x1_bestReds x1_bestCount x1_bestTurning y3_allowed y4_best y5_foes y6_namesLeft y7_redsLeft y8_trial x9_rows x9_columns x10_count x10_reds x11_count x11_turn y12_land y13_riverOf y14_home y15_length y16_letters y17_stops)) rfl rfl rfl rfl rfl rfl (by decide) (c_X2_redsIf l g a10 _ (.int x10_count) (.ref a14) u10_3 (.ref a15) (.ref a16) x10_reds p1 p2 r23 hc) gX8_leastIf_X2_redsIf rfl hv_X2_redsIf ⟨nle rfl, nle rfl⟩ 2 0 rfl rfl rfl (rest := [.int (-1), .ref a2, .ref a1]) rfl rfl hl.1 (nle rfl) dX8_leastIf_23 (fun H locs hP hD hS => ?_)
  obtain ⟨x1_reds_1, x1_bestReds_1, x1_bestCount_1, x1_bestTurning_1, y3_allowed_1, y4_best_1, y5_foes_1, y6_namesLeft_1, y7_redsLeft_1, y8_trial_1, hc, hf⟩ := bd10_e hf
  refine kVp (pc := 26) (S := ⟨hexec, hb, hml, hown, hts⟩) hP hD hG hA hS [1, 3, 4, 5, 6, 7, 8, 2, 9, 10, 11, 12, 13, 14, 15, 16, 17] [0] [0, 1, 8, 2, 3, 4, 5, 6, 7, 9, 10, 11, 12, 13, 14, 15, 16, 17] (w2 := (w_X8_leastIf g a0 a1 a2 a3 a4 a5 a6 a7 a8 a9 a10 a11 a12 a13 a14 a15 a16 a17 u0_1 u0_2 u0_4 u0_5 u0_6 u0_7 u0_8 u0_9 u2_3 u2_4 u9_2 u9_5 u10_3 u11_1 u11_3 x1_reds_1 x1_bestReds_1 x1_bestCount_1 x1_bestTurning_1 y3_allowed_1 y4_best_1 y5_foes_1 y6_namesLeft_1 y7_redsLeft_1 y8_trial_1 x9_rows x9_columns x10_count x10_reds x11_count x11_turn y12_land y13_riverOf y14_home y15_length y16_letters y17_stops)) rfl rfl rfl rfl rfl rfl (by decide) (c_X0_findBest l g a1 a3 a4 a5 a6 a7 a8 a2 a9 a10 a11 a12 a13 a14 a15 a16 a17 _ u2_3 u2_4 u9_2 u9_5 (.int x10_reds) u10_3 u11_1 u11_3 x1_reds x1_bestReds x1_bestCount x1_bestTurning y3_allowed y4_best y5_foes y6_namesLeft y7_redsLeft y8_trial x9_rows x9_columns x10_count x11_count x11_turn y12_land y13_riverOf y14_home y15_length y16_letters y17_stops (-1) r23 x1_reds_1 x1_bestReds_1 x1_bestCount_1 x1_bestTurning_1 y3_allowed_1 y4_best_1 y5_foes_1 y6_namesLeft_1 y7_redsLeft_1 y8_trial_1 hc) gX8_leastIf_X0_findBest rfl hv_X0_findBest ⟨nle rfl, nle rfl⟩ 0 0 rfl rfl rfl (rest := []) rfl rfl hl.1 (nle rfl) dX8_leastIf_26 (fun H locs hP hD hS => ?_)
  refine lv_aload_n (pc := 29) hexec hb dX8_leastIf_29 rfl (lv_at hl 0 rfl) ?_
  refine kg_get (pc := 30) hexec hb (own := RX8) hWX8 hown hG hP 0 rfl rfl 3 (nle rfl) (hts _ (List.mem_cons_of_mem _ (List.mem_append_left _ (List.mem_append_left _ (List.mem_append_left _ (List.mem_append_left _ (List.mem_append_left _ (List.mem_append_left _ (List.mem_append_left _ (List.mem_append_left _ (List.mem_of_getElem? (i := 0) rfl))))))))))) rfl rfl dX8_leastIf_30 ?_
  refine kg_getN (pc := 33) hexec hb (own := RX8) hWX0 hown hG hP 1 rfl rfl 3 (nle rfl) 36 rfl rfl rfl dX8_leastIf_33 ?_
  cases hf
  exact ke_i hQ hexec hb hr hP hD hS dX8_leastIf_36 hlocks
abbrev w_X8_placedIf (g : GE) (a0 a1 a2 a3 a4 a5 a6 a7 a8 a9 a10 a11 a12 a13 a14 a15 a16 a17 : Nat) (u0_1 u0_2 u0_4 u0_5 u0_6 u0_7 u0_8 u0_9 u2_3 u2_4 u9_2 u9_5 u10_3 u11_1 u11_3 : Value) (x1_reds : Int32) (x1_bestReds : Int32) (x1_bestCount : Int32) (x1_bestTurning : Int32) (y3_allowed : Nat → Int32) (y4_best : Nat → Int32) (y5_foes : Nat → Int32) (y6_namesLeft : Nat → Int32) (y7_redsLeft : Nat → Int32) (y8_trial : Nat → Int32) (x9_rows : Int32) (x9_columns : Int32) (x10_count : Int32) (x10_reds : Int32) (x11_count : Int32) (x11_turn : Int32) (y12_land : Nat → Int32) (y13_riverOf : Nat → Int32) (y14_home : Nat → Int32) (y15_length : Nat → Int32) (y16_letters : Nat → Int32) (y17_stops : Nat → Int32) : va_W := [(a0, .inr (8, [.ref a2, u0_1, u0_2, .ref a1, u0_4, u0_5, u0_6, u0_7, u0_8, u0_9])), (a1, .inr (0, [.int x1_reds, .int x1_bestReds, .int x1_bestCount, .int x1_bestTurning, .ref a3, .ref a5, .ref a6, .ref a7, .ref a8, .ref a4])), (a2, .inr (6, [.ref a9, .ref a10, .ref a11, u2_3, u2_4])), (a3, .inl (g.2.1 0, 8, .inl y3_allowed)), (a4, .inl (g.2.1 0, 8, .inl y4_best)), (a5, .inl (g.2.1 0, 32, .inl y5_foes)), (a6, .inl (g.2.1 0, 9, .inl y6_namesLeft)), (a7, .inl (g.2.1 0, 9, .inl y7_redsLeft)), (a8, .inl (g.2.1 0, 8, .inl y8_trial)), (a9, .inr (1, [.int x9_rows, .int x9_columns, u9_2, .ref a12, .ref a13, u9_5])), (a10, .inr (2, [.int x10_count, .int x10_reds, .ref a14, u10_3, .ref a15, .ref a16])), (a11, .inr (4, [.int x11_count, u11_1, .int x11_turn, u11_3, .ref a17])), (a12, .inl (g.2.1 1, 144, .inl y12_land)), (a13, .inl (g.2.1 0, 144, .inl y13_riverOf)), (a14, .inl (g.2.1 0, 8, .inl y14_home)), (a15, .inl (g.2.1 0, 8, .inl y15_length)), (a16, .inl (g.2.1 0, 64, .inl y16_letters)), (a17, .inl (g.2.1 0, 16, .inl y17_stops))]
set_option maxRecDepth 20000 in
theorem c_X8_placedIf (l : Launch) (g : GE) (a0 a1 a2 a3 a4 a5 a6 a7 a8 a9 a10 a11 a12 a13 a14 a15 a16 a17 : Nat) (sz : Nat) (u0_1 u0_2 u0_4 u0_5 u0_6 u0_7 u0_8 u0_9 u2_3 u2_4 u9_2 u9_5 u10_3 u11_1 u11_3 : Value) (x1_reds : Int32) (x1_bestReds : Int32) (x1_bestCount : Int32) (x1_bestTurning : Int32) (y3_allowed : Nat → Int32) (y4_best : Nat → Int32) (y5_foes : Nat → Int32) (y6_namesLeft : Nat → Int32) (y7_redsLeft : Nat → Int32) (y8_trial : Nat → Int32) (x9_rows : Int32) (x9_columns : Int32) (x10_count : Int32) (x10_reds : Int32) (x11_count : Int32) (x11_turn : Int32) (y12_land : Nat → Int32) (y13_riverOf : Nat → Int32) (y14_home : Nat → Int32) (y15_length : Nat → Int32) (y16_letters : Nat → Int32) (y17_stops : Nat → Int32) (p1 : Int32) (p2 : Int32)  (r : Int32) (o_x1_reds : Int32) (o_x1_bestReds : Int32) (o_x1_bestCount : Int32) (o_x1_bestTurning : Int32) (o_y3_allowed : Nat → Int32) (o_y4_best : Nat → Int32) (o_y5_foes : Nat → Int32) (o_y6_namesLeft : Nat → Int32) (o_y7_redsLeft : Nat → Int32) (o_y8_trial : Nat → Int32) (hf : f_X8_placedIf x1_reds x1_bestReds x1_bestCount x1_bestTurning y3_allowed y4_best y5_foes y6_namesLeft y7_redsLeft y8_trial x9_rows x9_columns x10_count x10_reds x11_count x11_turn y12_land y13_riverOf y14_home y15_length y16_letters y17_stops p1 p2 = some (r, o_x1_reds, o_x1_bestReds, o_x1_bestCount, o_x1_bestTurning, o_y3_allowed, o_y4_best, o_y5_foes, o_y6_namesLeft, o_y7_redsLeft, o_y8_trial)) : MI l g yX8_placedIf wsX8_placedIf 16 432 [.ref a0, .int p1, .int p2] (w_X8_placedIf g a0 a1 a2 a3 a4 a5 a6 a7 a8 a9 a10 a11 a12 a13 a14 a15 a16 a17 u0_1 u0_2 u0_4 u0_5 u0_6 u0_7 u0_8 u0_9 u2_3 u2_4 u9_2 u9_5 u10_3 u11_1 u11_3 x1_reds x1_bestReds x1_bestCount x1_bestTurning y3_allowed y4_best y5_foes y6_namesLeft y7_redsLeft y8_trial x9_rows x9_columns x10_count x10_reds x11_count x11_turn y12_land y13_riverOf y14_home y15_length y16_letters y17_stops) sz (some (.int r)) (w_X8_placedIf g a0 a1 a2 a3 a4 a5 a6 a7 a8 a9 a10 a11 a12 a13 a14 a15 a16 a17 u0_1 u0_2 u0_4 u0_5 u0_6 u0_7 u0_8 u0_9 u2_3 u2_4 u9_2 u9_5 u10_3 u11_1 u11_3 o_x1_reds o_x1_bestReds o_x1_bestCount o_x1_bestTurning o_y3_allowed o_y4_best o_y5_foes o_y6_namesLeft o_y7_redsLeft o_y8_trial x9_rows x9_columns x10_count x10_reds x11_count x11_turn y12_land y13_riverOf y14_home y15_length y16_letters y17_stops) := by
  refine MI.start (cc := cX8_placedIf) (maxL := 3) (ret := (some .int)) rfl rfl (nle rfl) ?_
  intro p e s m args below meth c A ls Q hQ hexec hb hr hts hown hlocks hml hA hP hD hG hS hl
  unfold f_X8_placedIf at hf
  have hWX0 : ∀ w ∈ wsX00, w.before args s = true := fun w h => hts w (List.mem_cons_of_mem _ (List.mem_append_left _ (List.mem_append_left _ (List.mem_append_left _ (List.mem_append_left _ (List.mem_append_right _ h))))))
  have hWX1 : ∀ w ∈ wsX10, w.before args s = true := fun w h => hts w (List.mem_cons_of_mem _ (List.mem_append_left _ (List.mem_append_left _ (List.mem_append_right _ h))))
  have hWX2 : ∀ w ∈ wsX20, w.before args s = true := fun w h => hts w (List.mem_cons_of_mem _ (List.mem_append_left _ (List.mem_append_left _ (List.mem_append_left _ (List.mem_append_right _ h)))))
  have hWX4 : ∀ w ∈ wsX40, w.before args s = true := fun w h => hts w (List.mem_cons_of_mem _ (List.mem_append_left _ (List.mem_append_right _ h)))
  have hWX6 : ∀ w ∈ wsX60, w.before args s = true := fun w h => hts w (List.mem_cons_of_mem _ (List.mem_append_left _ (List.mem_append_left _ (List.mem_append_left _ (List.mem_append_left _ (List.mem_append_left _ (List.mem_append_right _ h)))))))
  have hWX8 : ∀ w ∈ wsX80, w.before args s = true := fun w h => hts w (List.mem_cons_of_mem _ (List.mem_append_left _ (List.mem_append_left _ (List.mem_append_left _ (List.mem_append_left _ (List.mem_append_left _ (List.mem_append_left _ (List.mem_append_right _ h))))))))
  have hS : va_S A s.heap s.heap [] := hS
  refine lv_aload_n (pc := 0) hexec hb dX8_placedIf_0 rfl (lv_at hl 0 rfl) ?_
  refine lv_iload_n (pc := 1) hexec hb dX8_placedIf_1 rfl (lv_at hl 1 rfl) ?_
  obtain ⟨_, hc, hf⟩ := bd1_e hf
  refine kVp (pc := 2) (S := ⟨hexec, hb, hml, hown, hts⟩) hP hD hG hA hS [0, 2, 10] [1, 3, 4, 5, 6, 7, 8, 9, 11, 12, 13, 14, 15, 16, 17] [15, 0, 16, 1, 2, 3, 4, 5, 6, 7, 17, 8, 9, 10, 11, 12, 13, 14] (w2 := (w_X8_placedIf g a0 a1 a2 a3 a4 a5 a6 a7 a8 a9 a10 a11 a12 a13 a14 a15 a16 a17 u0_1 u0_2 u0_4 u0_5 u0_6 u0_7 u0_8 u0_9 u2_3 u2_4 u9_2 u9_5 u10_3 u11_1 u11_3 x1_reds x1_bestReds x1_bestCount x1_bestTurning y3_allowed y4_best y5_foes y6_namesLeft y7_redsLeft y8_trial x9_rows x9_columns x10_count x10_reds x11_count x11_turn y12_land y13_riverOf y14_home y15_length y16_letters y17_stops)) rfl rfl rfl rfl rfl rfl (by decide) (c_X8_needHarbour l g a0 a2 a10 _ u0_1 u0_2 (.ref a1) u0_4 u0_5 u0_6 u0_7 u0_8 u0_9 (.ref a9) (.ref a11) u2_3 u2_4 (.int x10_reds) (.ref a14) u10_3 (.ref a15) (.ref a16) x10_count p1 hc) gX8_placedIf_X8_needHarbour rfl hv_X8_needHarbour ⟨nle rfl, nle rfl⟩ 8 0 rfl rfl rfl (rest := []) rfl rfl hl.1 (nle rfl) dX8_placedIf_2 (fun H locs hP hD hS => ?_)
  refine lv_aload_n (pc := 5) hexec hb dX8_placedIf_5 rfl (lv_at hl 0 rfl) ?_
  refine kg_get (pc := 6) hexec hb (own := RX8) hWX8 hown hG hP 0 rfl rfl 3 (nle rfl) (hts _ (List.mem_cons_of_mem _ (List.mem_append_left _ (List.mem_append_left _ (List.mem_append_left _ (List.mem_append_left _ (List.mem_append_left _ (List.mem_append_left _ (List.mem_append_left _ (List.mem_append_left _ (List.mem_of_getElem? (i := 0) rfl))))))))))) rfl rfl dX8_placedIf_6 ?_
  refine lv_aload_n (pc := 9) hexec hb dX8_placedIf_9 rfl (lv_at hl 0 rfl) ?_
  refine kg_get (pc := 10) hexec hb (own := RX8) hWX8 hown hG hP 0 rfl rfl 0 (nle rfl) (hts _ (List.mem_cons_of_mem _ (List.mem_append_left _ (List.mem_append_left _ (List.mem_append_left _ (List.mem_append_left _ (List.mem_append_left _ (List.mem_append_left _ (List.mem_append_left _ (List.mem_append_left _ (List.mem_of_getElem? (i := 1) rfl))))))))))) rfl rfl dX8_placedIf_10 ?_
  refine lv_iconst (pc := 13) hexec hb dX8_placedIf_13 ki_m1 ?_
  refine lv_aload_n (pc := 14) hexec hb dX8_placedIf_14 rfl (lv_at hl 0 rfl) ?_
  refine kg_get (pc := 15) hexec hb (own := RX8) hWX8 hown hG hP 0 rfl rfl 0 (nle rfl) (hts _ (List.mem_cons_of_mem _ (List.mem_append_left _ (List.mem_append_left _ (List.mem_append_left _ (List.mem_append_left _ (List.mem_append_left _ (List.mem_append_left _ (List.mem_append_left _ (List.mem_append_left _ (List.mem_of_getElem? (i := 1) rfl))))))))))) rfl rfl dX8_placedIf_15 ?_
  refine kg_getN (pc := 18) hexec hb (own := RX8) hWX6 hown hG hP 2 rfl rfl 1 (nle rfl) 24 rfl rfl rfl dX8_placedIf_18 ?_
  refine lv_iload_n (pc := 21) hexec hb dX8_placedIf_21 rfl (lv_at hl 1 rfl) ?_
  refine lv_iload_n (pc := 22) hexec hb dX8_placedIf_22 rfl (lv_at hl 2 rfl) ?_
  obtain ⟨r23, hc, hf⟩ := bd1_e hf
  refine kVp (pc := 23) (S := ⟨hexec, hb, hml, hown, hts⟩) hP hD hG hA hS [10] [0, 1, 2, 3, 4, 5, 6, 7, 8, 9, 11, 12, 13, 14, 15, 16, 17] [0, 1, 2, 3, 4, 5, 6, 7, 8, 9, 17, 10, 11, 12, 13, 14, 15, 16] (w2 := (w_X8_placedIf g a0 a1 a2 a3 a4 a5 a6 a7 a8 a9 a10 a11 a12 a13 a14 a15 a16 a17 u0_1 u0_2 u0_4 u0_5 u0_6 u0_7 u0_8 u0_9 u2_3 u2_4 u9_2 u9_5 u10_3 u11_1 u11_3 x1_reds x1_bestReds x1_bestCount x1_bestTurning y3_allowed y4_best y5_foes y6_namesLeft y7_redsLeft y8_trial x9_rows x9_columns x10_count x10_reds x11_count x11_turn y12_land y13_riverOf y14_home y15_length y16_letters y17_stops)) rfl rfl rfl rfl rfl rfl (by decide) (c_X2_redsIf l g a10 _ (.int x10_count) (.ref a14) u10_3 (.ref a15) (.ref a16) x10_reds p1 p2 r23 hc) gX8_placedIf_X2_redsIf rfl hv_X2_redsIf ⟨nle rfl, nle rfl⟩ 2 0 rfl rfl rfl (rest := [.int (-1), .ref a2, .ref a1]) rfl rfl hl.1 (nle rfl) dX8_placedIf_23 (fun H locs hP hD hS => ?_)
  obtain ⟨x1_reds_1, x1_bestReds_1, x1_bestCount_1, x1_bestTurning_1, y3_allowed_1, y4_best_1, y5_foes_1, y6_namesLeft_1, y7_redsLeft_1, y8_trial_1, hc, hf⟩ := bd10_e hf
  refine kVp (pc := 26) (S := ⟨hexec, hb, hml, hown, hts⟩) hP hD hG hA hS [1, 3, 4, 5, 6, 7, 8, 2, 9, 10, 11, 12, 13, 14, 15, 16, 17] [0] [0, 1, 8, 2, 3, 4, 5, 6, 7, 9, 10, 11, 12, 13, 14, 15, 16, 17] (w2 := (w_X8_placedIf g a0 a1 a2 a3 a4 a5 a6 a7 a8 a9 a10 a11 a12 a13 a14 a15 a16 a17 u0_1 u0_2 u0_4 u0_5 u0_6 u0_7 u0_8 u0_9 u2_3 u2_4 u9_2 u9_5 u10_3 u11_1 u11_3 x1_reds_1 x1_bestReds_1 x1_bestCount_1 x1_bestTurning_1 y3_allowed_1 y4_best_1 y5_foes_1 y6_namesLeft_1 y7_redsLeft_1 y8_trial_1 x9_rows x9_columns x10_count x10_reds x11_count x11_turn y12_land y13_riverOf y14_home y15_length y16_letters y17_stops)) rfl rfl rfl rfl rfl rfl (by decide) (c_X0_findBest l g a1 a3 a4 a5 a6 a7 a8 a2 a9 a10 a11 a12 a13 a14 a15 a16 a17 _ u2_3 u2_4 u9_2 u9_5 (.int x10_reds) u10_3 u11_1 u11_3 x1_reds x1_bestReds x1_bestCount x1_bestTurning y3_allowed y4_best y5_foes y6_namesLeft y7_redsLeft y8_trial x9_rows x9_columns x10_count x11_count x11_turn y12_land y13_riverOf y14_home y15_length y16_letters y17_stops (-1) r23 x1_reds_1 x1_bestReds_1 x1_bestCount_1 x1_bestTurning_1 y3_allowed_1 y4_best_1 y5_foes_1 y6_namesLeft_1 y7_redsLeft_1 y8_trial_1 hc) gX8_placedIf_X0_findBest rfl hv_X0_findBest ⟨nle rfl, nle rfl⟩ 0 0 rfl rfl rfl (rest := []) rfl rfl hl.1 (nle rfl) dX8_placedIf_26 (fun H locs hP hD hS => ?_)
  refine lv_aload_n (pc := 29) hexec hb dX8_placedIf_29 rfl (lv_at hl 0 rfl) ?_
  refine kg_get (pc := 30) hexec hb (own := RX8) hWX8 hown hG hP 0 rfl rfl 3 (nle rfl) (hts _ (List.mem_cons_of_mem _ (List.mem_append_left _ (List.mem_append_left _ (List.mem_append_left _ (List.mem_append_left _ (List.mem_append_left _ (List.mem_append_left _ (List.mem_append_left _ (List.mem_append_left _ (List.mem_of_getElem? (i := 0) rfl))))))))))) rfl rfl dX8_placedIf_30 ?_
  refine kg_getN (pc := 33) hexec hb (own := RX8) hWX0 hown hG hP 1 rfl rfl 2 (nle rfl) 35 rfl rfl rfl dX8_placedIf_33 ?_
  cases hf
  exact ke_i hQ hexec hb hr hP hD hS dX8_placedIf_36 hlocks
