abbrev w_X2_beginEmpty (g : GE) (a0 : Nat) (u0_2 u0_3 u0_4 u0_5 : Value) (x0_count : Int32) (x0_reds : Int32) : va_W := [(a0, .inr (2, [.int x0_count, .int x0_reds, u0_2, u0_3, u0_4, u0_5]))]
set_option maxRecDepth 20000 in
theorem c_X2_beginEmpty (l : Launch) (g : GE) (a0 : Nat) (sz : Nat) (u0_2 u0_3 u0_4 u0_5 : Value) (x0_count : Int32) (x0_reds : Int32)   (o_x0_count : Int32) (o_x0_reds : Int32) (hf : f_X2_beginEmpty x0_count x0_reds = some (o_x0_count, o_x0_reds)) : MI l g yX2_beginEmpty wsX2_beginEmpty 1 24 [.ref a0] (w_X2_beginEmpty g a0 u0_2 u0_3 u0_4 u0_5 x0_count x0_reds) sz none (w_X2_beginEmpty g a0 u0_2 u0_3 u0_4 u0_5 o_x0_count o_x0_reds) := by
  refine MI.start (cc := cX2_beginEmpty) (maxL := 1) (ret := none) rfl rfl (nle rfl) ?_
  intro p e s m args below meth c A ls Q hQ hexec hb hr hts hown hlocks hml hA hP hD hG hS hl
  unfold f_X2_beginEmpty at hf
  have hWX2 : ∀ w ∈ wsX20, w.before args s = true := fun w h => hts w (List.mem_cons_of_mem _ (List.mem_append_right _ h))
  have hS : va_S A s.heap s.heap [] := hS
  refine lv_aload_n (pc := 0) hexec hb dX2_beginEmpty_0 rfl (lv_at hl 0 rfl) ?_
  refine lv_iconst (pc := 1) hexec hb dX2_beginEmpty_1 ki_0 ?_
  refine kp_put (pc := 2) hexec hb (own := RX2) hWX2 tyX2 tyX2_ok nmX2 hown hG hP hD hS 0 rfl rfl 0 (nle rfl) (hts _ (List.mem_cons_of_mem _ (List.mem_append_left _ (List.mem_of_getElem? (i := 0) rfl)))) rfl rfl rfl rfl (nle rfl) dX2_beginEmpty_2 (fun H locs (hP : va_P g.1 vwCl (w_X2_beginEmpty g a0 u0_2 u0_3 u0_4 u0_5 0 x0_reds) H) (hD : va_D A (w_X2_beginEmpty g a0 u0_2 u0_3 u0_4 u0_5 0 x0_reds)) hS => ?_)
  refine lv_aload_n (pc := 5) hexec hb dX2_beginEmpty_5 rfl (lv_at hl 0 rfl) ?_
  refine lv_iconst (pc := 6) hexec hb dX2_beginEmpty_6 ki_0 ?_
  refine kp_put (pc := 7) hexec hb (own := RX2) hWX2 tyX2 tyX2_ok nmX2 hown hG hP hD hS 0 rfl rfl 1 (nle rfl) (hts _ (List.mem_cons_of_mem _ (List.mem_append_left _ (List.mem_of_getElem? (i := 1) rfl)))) rfl rfl rfl rfl (nle rfl) dX2_beginEmpty_7 (fun H locs (hP : va_P g.1 vwCl (w_X2_beginEmpty g a0 u0_2 u0_3 u0_4 u0_5 0 0) H) (hD : va_D A (w_X2_beginEmpty g a0 u0_2 u0_3 u0_4 u0_5 0 0)) hS => ?_)
  cases hf
  exact ke_v hQ hexec hb hr hP hD hS dX2_beginEmpty_10 hlocks
abbrev w_X2_copyFrom (g : GE) (a0 a1 a2 a3 a4 a5 a6 a7 a8 a9 : Nat) (x0_count : Int32) (x0_reds : Int32) (y1_direction : Nat → Int32) (y2_home : Nat → Int32) (y3_length : Nat → Int32) (y4_letters : Nat → Int32) (x5_count : Int32) (x5_reds : Int32) (y6_direction : Nat → Int32) (y7_home : Nat → Int32) (y8_length : Nat → Int32) (y9_letters : Nat → Int32) : va_W := [(a0, .inr (2, [.int x0_count, .int x0_reds, .ref a2, .ref a1, .ref a3, .ref a4])), (a1, .inl (g.2.1 0, 8, .inl y1_direction)), (a2, .inl (g.2.1 0, 8, .inl y2_home)), (a3, .inl (g.2.1 0, 8, .inl y3_length)), (a4, .inl (g.2.1 0, 64, .inl y4_letters)), (a5, .inr (2, [.int x5_count, .int x5_reds, .ref a7, .ref a6, .ref a8, .ref a9])), (a6, .inl (g.2.1 0, 8, .inl y6_direction)), (a7, .inl (g.2.1 0, 8, .inl y7_home)), (a8, .inl (g.2.1 0, 8, .inl y8_length)), (a9, .inl (g.2.1 0, 64, .inl y9_letters))]
set_option maxRecDepth 20000 in
theorem c_X2_copyFrom (l : Launch) (g : GE) (a0 a1 a2 a3 a4 a5 a6 a7 a8 a9 : Nat) (sz : Nat) (x0_count : Int32) (x0_reds : Int32) (y1_direction : Nat → Int32) (y2_home : Nat → Int32) (y3_length : Nat → Int32) (y4_letters : Nat → Int32) (x5_count : Int32) (x5_reds : Int32) (y6_direction : Nat → Int32) (y7_home : Nat → Int32) (y8_length : Nat → Int32) (y9_letters : Nat → Int32)   (o_x0_count : Int32) (o_x0_reds : Int32) (o_y1_direction : Nat → Int32) (o_y2_home : Nat → Int32) (o_y3_length : Nat → Int32) (o_y4_letters : Nat → Int32) (hf : f_X2_copyFrom x0_count x0_reds y1_direction y2_home y3_length y4_letters x5_count x5_reds y6_direction y7_home y8_length y9_letters = some (o_x0_count, o_x0_reds, o_y1_direction, o_y2_home, o_y3_length, o_y4_letters)) : MI l g yX2_copyFrom wsX2_copyFrom 1 24 [.ref a0, .ref a5] (w_X2_copyFrom g a0 a1 a2 a3 a4 a5 a6 a7 a8 a9 x0_count x0_reds y1_direction y2_home y3_length y4_letters x5_count x5_reds y6_direction y7_home y8_length y9_letters) sz none (w_X2_copyFrom g a0 a1 a2 a3 a4 a5 a6 a7 a8 a9 o_x0_count o_x0_reds o_y1_direction o_y2_home o_y3_length o_y4_letters x5_count x5_reds y6_direction y7_home y8_length y9_letters) := by
  refine MI.start (cc := cX2_copyFrom) (maxL := 3) (ret := none) rfl rfl (nle rfl) ?_
  intro p e s m args below meth c A ls Q hQ hexec hb hr hts hown hlocks hml hA hP hD hG hS hl
  unfold f_X2_copyFrom at hf
  have hWX2 : ∀ w ∈ wsX20, w.before args s = true := fun w h => hts w (List.mem_cons_of_mem _ (List.mem_append_right _ h))
  have hS : va_S A s.heap s.heap [] := hS
  refine lv_aload_n (pc := 0) hexec hb dX2_copyFrom_0 rfl (lv_at hl 0 rfl) ?_
  refine lv_aload_n (pc := 1) hexec hb dX2_copyFrom_1 rfl (lv_at hl 1 rfl) ?_
  refine kg_get (pc := 2) hexec hb (own := RX2) hWX2 hown hG hP 5 rfl rfl 0 (nle rfl) (hts _ (List.mem_cons_of_mem _ (List.mem_append_left _ (List.mem_of_getElem? (i := 0) rfl)))) rfl rfl dX2_copyFrom_2 ?_
  refine kp_put (pc := 5) hexec hb (own := RX2) hWX2 tyX2 tyX2_ok nmX2 hown hG hP hD hS 0 rfl rfl 0 (nle rfl) (hts _ (List.mem_cons_of_mem _ (List.mem_append_left _ (List.mem_of_getElem? (i := 0) rfl)))) rfl rfl rfl rfl (nle rfl) dX2_copyFrom_5 (fun H locs (hP : va_P g.1 vwCl (w_X2_copyFrom g a0 a1 a2 a3 a4 a5 a6 a7 a8 a9 x5_count x0_reds y1_direction y2_home y3_length y4_letters x5_count x5_reds y6_direction y7_home y8_length y9_letters) H) (hD : va_D A (w_X2_copyFrom g a0 a1 a2 a3 a4 a5 a6 a7 a8 a9 x5_count x0_reds y1_direction y2_home y3_length y4_letters x5_count x5_reds y6_direction y7_home y8_length y9_letters)) hS => ?_)
  refine lv_aload_n (pc := 8) hexec hb dX2_copyFrom_8 rfl (lv_at hl 0 rfl) ?_
  refine lv_aload_n (pc := 9) hexec hb dX2_copyFrom_9 rfl (lv_at hl 1 rfl) ?_
  refine kg_get (pc := 10) hexec hb (own := RX2) hWX2 hown hG hP 5 rfl rfl 1 (nle rfl) (hts _ (List.mem_cons_of_mem _ (List.mem_append_left _ (List.mem_of_getElem? (i := 1) rfl)))) rfl rfl dX2_copyFrom_10 ?_
  refine kp_put (pc := 13) hexec hb (own := RX2) hWX2 tyX2 tyX2_ok nmX2 hown hG hP hD hS 0 rfl rfl 1 (nle rfl) (hts _ (List.mem_cons_of_mem _ (List.mem_append_left _ (List.mem_of_getElem? (i := 1) rfl)))) rfl rfl rfl rfl (nle rfl) dX2_copyFrom_13 (fun H locs (hP : va_P g.1 vwCl (w_X2_copyFrom g a0 a1 a2 a3 a4 a5 a6 a7 a8 a9 x5_count x5_reds y1_direction y2_home y3_length y4_letters x5_count x5_reds y6_direction y7_home y8_length y9_letters) H) (hD : va_D A (w_X2_copyFrom g a0 a1 a2 a3 a4 a5 a6 a7 a8 a9 x5_count x5_reds y1_direction y2_home y3_length y4_letters x5_count x5_reds y6_direction y7_home y8_length y9_letters)) hS => ?_)
  refine lv_iconst (pc := 16) hexec hb dX2_copyFrom_16 ki_0 ?_
  refine lv_istore_n (pc := 17) hexec hb dX2_copyFrom_17 rfl hl (nle rfl) rfl (fun ls (hl : lv_has ls 3 [(2, .int 0), (0, .ref a0), (1, .ref a5)]) => ?_)
  obtain ⟨l18, el18, hf⟩ := bvf4 hf
  obtain ⟨y1_direction_2, y2_home_2, y3_length_2, hz, hf⟩ := bd3_e hf
  have hE18 : ∀ (H : Heap) (locs : List Loc) (ls : Array Slot), va_P g.1 vwCl (w_X2_copyFrom g a0 a1 a2 a3 a4 a5 a6 a7 a8 a9 x5_count x5_reds y1_direction_2 y2_home_2 y3_length_2 y4_letters x5_count x5_reds y6_direction y7_home y8_length y9_letters) H → va_D A (w_X2_copyFrom g a0 a1 a2 a3 a4 a5 a6 a7 a8 a9 x5_count x5_reds y1_direction_2 y2_home_2 y3_length_2 y4_letters x5_count x5_reds y6_direction y7_home y8_length y9_letters) → va_S A s.heap H locs → lv_has ls 3 [(0, .ref a0), (1, .ref a5)] → W p l e (RM 1 24) s m args below meth c H locs 0 0 Q (F0 m 66 ls []) := by
    intro H locs ls hP hD hS hl
    refine lv_iconst (pc := 66) hexec hb dX2_copyFrom_66 ki_0 ?_
    refine lv_istore_n (pc := 67) hexec hb dX2_copyFrom_67 rfl hl (nle rfl) rfl (fun ls (hl : lv_has ls 3 [(2, .int 0), (0, .ref a0), (1, .ref a5)]) => ?_)
    obtain ⟨l68, el68, hf⟩ := bvf2 hf
    obtain ⟨y4_letters_2, hz, hf⟩ := bd1_e hf
    have hE68 : ∀ (H : Heap) (locs : List Loc) (ls : Array Slot), va_P g.1 vwCl (w_X2_copyFrom g a0 a1 a2 a3 a4 a5 a6 a7 a8 a9 x5_count x5_reds y1_direction_2 y2_home_2 y3_length_2 y4_letters_2 x5_count x5_reds y6_direction y7_home y8_length y9_letters) H → va_D A (w_X2_copyFrom g a0 a1 a2 a3 a4 a5 a6 a7 a8 a9 x5_count x5_reds y1_direction_2 y2_home_2 y3_length_2 y4_letters_2 x5_count x5_reds y6_direction y7_home y8_length y9_letters) → va_S A s.heap H locs → lv_has ls 3 [] → W p l e (RM 1 24) s m args below meth c H locs 0 0 Q (F0 m 95 ls []) := by
      intro H locs ls hP hD hS hl
      cases hf
      exact ke_v hQ hexec hb hr hP hD hS dX2_copyFrom_95 hlocks
    obtain ⟨n, hz⟩ := lq2_e hz
    have hL68 : ∀ (n : Nat) (v2_2 : Int32) (y4_letters_1 : Nat → Int32) (H : Heap) (locs : List Loc) (ls : Array Slot), it2 l68 n v2_2 y4_letters_1 = some y4_letters_2 → va_P g.1 vwCl (w_X2_copyFrom g a0 a1 a2 a3 a4 a5 a6 a7 a8 a9 x5_count x5_reds y1_direction_2 y2_home_2 y3_length_2 y4_letters_1 x5_count x5_reds y6_direction y7_home y8_length y9_letters) H → va_D A (w_X2_copyFrom g a0 a1 a2 a3 a4 a5 a6 a7 a8 a9 x5_count x5_reds y1_direction_2 y2_home_2 y3_length_2 y4_letters_1 x5_count x5_reds y6_direction y7_home y8_length y9_letters) → va_S A s.heap H locs → lv_has ls 3 [(0, .ref a0), (1, .ref a5), (2, .int v2_2)] → W p l e (RM 1 24) s m args below meth c H locs 0 0 Q (F0 m 68 ls []) := by
      intro n
      induction n with
      | zero =>
        intro v2_2 y4_letters_1 H locs ls hf hP hD hS hl
        exact it2_0 hf
      | succ n68 ih68 =>
        intro v2_2 y4_letters_1 H locs ls hf hP hD hS hl
        obtain ⟨q68, hf, hk68⟩ := it2_e hf
        have hf := (el68 v2_2 y4_letters_1).symm.trans hf
        refine lv_iload_n (pc := 68) hexec hb dX2_copyFrom_68 rfl (lv_at hl 2 rfl) ?_
        refine lv_aload_n (pc := 69) hexec hb dX2_copyFrom_69 rfl (lv_at hl 0 rfl) ?_
        refine kg_get (pc := 70) hexec hb (own := RX2) hWX2 hown hG hP 0 rfl rfl 5 (nle rfl) (hts _ (List.mem_cons_of_mem _ (List.mem_append_left _ (List.mem_of_getElem? (i := 5) rfl)))) rfl rfl dX2_copyFrom_70 ?_
        refine kr_alen (pc := 73) hexec hb hG hP 4 0 rfl rfl (v := 64) rfl dX2_copyFrom_73 ?_
        refine ki_ge (pc := 74) hexec hb dX2_copyFrom_74 (tgt := 95) rfl hf (fun hc hf => ?_) (fun hc hf => ?_)
        · cases sr2 hf hk68
          exact hE68 _ _ _ hP hD hS (lv_sub hl [] rfl)
        · refine lv_aload_n (pc := 77) hexec hb dX2_copyFrom_77 rfl (lv_at hl 0 rfl) ?_
          refine kg_get (pc := 78) hexec hb (own := RX2) hWX2 hown hG hP 0 rfl rfl 5 (nle rfl) (hts _ (List.mem_cons_of_mem _ (List.mem_append_left _ (List.mem_of_getElem? (i := 5) rfl)))) rfl rfl dX2_copyFrom_78 ?_
          refine lv_iload_n (pc := 81) hexec hb dX2_copyFrom_81 rfl (lv_at hl 2 rfl) ?_
          refine lv_aload_n (pc := 82) hexec hb dX2_copyFrom_82 rfl (lv_at hl 1 rfl) ?_
          refine kg_get (pc := 83) hexec hb (own := RX2) hWX2 hown hG hP 5 rfl rfl 5 (nle rfl) (hts _ (List.mem_cons_of_mem _ (List.mem_append_left _ (List.mem_of_getElem? (i := 5) rfl)))) rfl rfl dX2_copyFrom_83 ?_
          refine lv_iload_n (pc := 86) hexec hb dX2_copyFrom_86 rfl (lv_at hl 2 rfl) ?_
          refine kr_iald (pc := 87) hexec hb hG hP 9 rfl hf dX2_copyFrom_87 (fun hf => ?_)
          refine kw_iast (pc := 88) hexec hb hG hP hD hS 4 rfl hf dX2_copyFrom_88 (fun y4_letters_3 H locs hf (hP : va_P g.1 vwCl (w_X2_copyFrom g a0 a1 a2 a3 a4 a5 a6 a7 a8 a9 x5_count x5_reds y1_direction_2 y2_home_2 y3_length_2 y4_letters_3 x5_count x5_reds y6_direction y7_home y8_length y9_letters) H) (hD : va_D A (w_X2_copyFrom g a0 a1 a2 a3 a4 a5 a6 a7 a8 a9 x5_count x5_reds y1_direction_2 y2_home_2 y3_length_2 y4_letters_3 x5_count x5_reds y6_direction y7_home y8_length y9_letters)) hS => ?_)
          obtain ⟨v2_3, ev2_3, hf⟩ := bv_e hf
          refine k_iinc (pc := 89) hexec hb dX2_copyFrom_89 kq_1 hl (k := 2) rfl ev2_3 (nle rfl) rfl (fun ls (hl : lv_has ls 3 [(2, .int v2_3), (0, .ref a0), (1, .ref a5)]) => ?_)
          refine lv_goto (pc := 92) hexec hb dX2_copyFrom_92 (tgt := 68) rfl ?_
          exact ih68 _ _ _ _ _ (sl2 hf hk68) hP hD hS (lv_sub hl [1, 2, 0] rfl)
    exact hL68 n _ _ _ _ _ hz hP hD hS (lv_sub hl [1, 2, 0] rfl)
  obtain ⟨n, hz⟩ := lq4_e hz
  have hL18 : ∀ (n : Nat) (v2 : Int32) (y1_direction_1 : Nat → Int32) (y2_home_1 : Nat → Int32) (y3_length_1 : Nat → Int32) (H : Heap) (locs : List Loc) (ls : Array Slot), it4 l18 n v2 y1_direction_1 y2_home_1 y3_length_1 = some (y1_direction_2, y2_home_2, y3_length_2) → va_P g.1 vwCl (w_X2_copyFrom g a0 a1 a2 a3 a4 a5 a6 a7 a8 a9 x5_count x5_reds y1_direction_1 y2_home_1 y3_length_1 y4_letters x5_count x5_reds y6_direction y7_home y8_length y9_letters) H → va_D A (w_X2_copyFrom g a0 a1 a2 a3 a4 a5 a6 a7 a8 a9 x5_count x5_reds y1_direction_1 y2_home_1 y3_length_1 y4_letters x5_count x5_reds y6_direction y7_home y8_length y9_letters) → va_S A s.heap H locs → lv_has ls 3 [(0, .ref a0), (1, .ref a5), (2, .int v2)] → W p l e (RM 1 24) s m args below meth c H locs 0 0 Q (F0 m 18 ls []) := by
    intro n
    induction n with
    | zero =>
      intro v2 y1_direction_1 y2_home_1 y3_length_1 H locs ls hf hP hD hS hl
      exact it4_0 hf
    | succ n18 ih18 =>
      intro v2 y1_direction_1 y2_home_1 y3_length_1 H locs ls hf hP hD hS hl
      obtain ⟨q18, hf, hk18⟩ := it4_e hf
      have hf := (el18 v2 y1_direction_1 y2_home_1 y3_length_1).symm.trans hf
      refine lv_iload_n (pc := 18) hexec hb dX2_copyFrom_18 rfl (lv_at hl 2 rfl) ?_
      refine lv_bipush (pc := 19) hexec hb dX2_copyFrom_19 kb_8 ?_
      refine ki_ge (pc := 21) hexec hb dX2_copyFrom_21 (tgt := 66) rfl hf (fun hc hf => ?_) (fun hc hf => ?_)
      · cases sr4 hf hk18
        exact hE18 _ _ _ hP hD hS (lv_sub hl [0, 1] rfl)
      · refine lv_aload_n (pc := 24) hexec hb dX2_copyFrom_24 rfl (lv_at hl 0 rfl) ?_
        refine kg_get (pc := 25) hexec hb (own := RX2) hWX2 hown hG hP 0 rfl rfl 2 (nle rfl) (hts _ (List.mem_cons_of_mem _ (List.mem_append_left _ (List.mem_of_getElem? (i := 2) rfl)))) rfl rfl dX2_copyFrom_25 ?_
        refine lv_iload_n (pc := 28) hexec hb dX2_copyFrom_28 rfl (lv_at hl 2 rfl) ?_
        refine lv_aload_n (pc := 29) hexec hb dX2_copyFrom_29 rfl (lv_at hl 1 rfl) ?_
        refine kg_get (pc := 30) hexec hb (own := RX2) hWX2 hown hG hP 5 rfl rfl 2 (nle rfl) (hts _ (List.mem_cons_of_mem _ (List.mem_append_left _ (List.mem_of_getElem? (i := 2) rfl)))) rfl rfl dX2_copyFrom_30 ?_
        refine lv_iload_n (pc := 33) hexec hb dX2_copyFrom_33 rfl (lv_at hl 2 rfl) ?_
        refine kr_iald (pc := 34) hexec hb hG hP 7 rfl hf dX2_copyFrom_34 (fun hf => ?_)
        refine kw_iast (pc := 35) hexec hb hG hP hD hS 2 rfl hf dX2_copyFrom_35 (fun y2_home_3 H locs hf (hP : va_P g.1 vwCl (w_X2_copyFrom g a0 a1 a2 a3 a4 a5 a6 a7 a8 a9 x5_count x5_reds y1_direction_1 y2_home_3 y3_length_1 y4_letters x5_count x5_reds y6_direction y7_home y8_length y9_letters) H) (hD : va_D A (w_X2_copyFrom g a0 a1 a2 a3 a4 a5 a6 a7 a8 a9 x5_count x5_reds y1_direction_1 y2_home_3 y3_length_1 y4_letters x5_count x5_reds y6_direction y7_home y8_length y9_letters)) hS => ?_)
        refine lv_aload_n (pc := 36) hexec hb dX2_copyFrom_36 rfl (lv_at hl 0 rfl) ?_
        refine kg_get (pc := 37) hexec hb (own := RX2) hWX2 hown hG hP 0 rfl rfl 3 (nle rfl) (hts _ (List.mem_cons_of_mem _ (List.mem_append_left _ (List.mem_of_getElem? (i := 3) rfl)))) rfl rfl dX2_copyFrom_37 ?_
        refine lv_iload_n (pc := 40) hexec hb dX2_copyFrom_40 rfl (lv_at hl 2 rfl) ?_
        refine lv_aload_n (pc := 41) hexec hb dX2_copyFrom_41 rfl (lv_at hl 1 rfl) ?_
        refine kg_get (pc := 42) hexec hb (own := RX2) hWX2 hown hG hP 5 rfl rfl 3 (nle rfl) (hts _ (List.mem_cons_of_mem _ (List.mem_append_left _ (List.mem_of_getElem? (i := 3) rfl)))) rfl rfl dX2_copyFrom_42 ?_
        refine lv_iload_n (pc := 45) hexec hb dX2_copyFrom_45 rfl (lv_at hl 2 rfl) ?_
        refine kr_iald (pc := 46) hexec hb hG hP 6 rfl hf dX2_copyFrom_46 (fun hf => ?_)
        refine kw_iast (pc := 47) hexec hb hG hP hD hS 1 rfl hf dX2_copyFrom_47 (fun y1_direction_3 H locs hf (hP : va_P g.1 vwCl (w_X2_copyFrom g a0 a1 a2 a3 a4 a5 a6 a7 a8 a9 x5_count x5_reds y1_direction_3 y2_home_3 y3_length_1 y4_letters x5_count x5_reds y6_direction y7_home y8_length y9_letters) H) (hD : va_D A (w_X2_copyFrom g a0 a1 a2 a3 a4 a5 a6 a7 a8 a9 x5_count x5_reds y1_direction_3 y2_home_3 y3_length_1 y4_letters x5_count x5_reds y6_direction y7_home y8_length y9_letters)) hS => ?_)
        refine lv_aload_n (pc := 48) hexec hb dX2_copyFrom_48 rfl (lv_at hl 0 rfl) ?_
        refine kg_get (pc := 49) hexec hb (own := RX2) hWX2 hown hG hP 0 rfl rfl 4 (nle rfl) (hts _ (List.mem_cons_of_mem _ (List.mem_append_left _ (List.mem_of_getElem? (i := 4) rfl)))) rfl rfl dX2_copyFrom_49 ?_
        refine lv_iload_n (pc := 52) hexec hb dX2_copyFrom_52 rfl (lv_at hl 2 rfl) ?_
        refine lv_aload_n (pc := 53) hexec hb dX2_copyFrom_53 rfl (lv_at hl 1 rfl) ?_
        refine kg_get (pc := 54) hexec hb (own := RX2) hWX2 hown hG hP 5 rfl rfl 4 (nle rfl) (hts _ (List.mem_cons_of_mem _ (List.mem_append_left _ (List.mem_of_getElem? (i := 4) rfl)))) rfl rfl dX2_copyFrom_54 ?_
        refine lv_iload_n (pc := 57) hexec hb dX2_copyFrom_57 rfl (lv_at hl 2 rfl) ?_
        refine kr_iald (pc := 58) hexec hb hG hP 8 rfl hf dX2_copyFrom_58 (fun hf => ?_)
        refine kw_iast (pc := 59) hexec hb hG hP hD hS 3 rfl hf dX2_copyFrom_59 (fun y3_length_3 H locs hf (hP : va_P g.1 vwCl (w_X2_copyFrom g a0 a1 a2 a3 a4 a5 a6 a7 a8 a9 x5_count x5_reds y1_direction_3 y2_home_3 y3_length_3 y4_letters x5_count x5_reds y6_direction y7_home y8_length y9_letters) H) (hD : va_D A (w_X2_copyFrom g a0 a1 a2 a3 a4 a5 a6 a7 a8 a9 x5_count x5_reds y1_direction_3 y2_home_3 y3_length_3 y4_letters x5_count x5_reds y6_direction y7_home y8_length y9_letters)) hS => ?_)
        obtain ⟨v2_1, ev2_1, hf⟩ := bv_e hf
        refine k_iinc (pc := 60) hexec hb dX2_copyFrom_60 kq_1 hl (k := 2) rfl ev2_1 (nle rfl) rfl (fun ls (hl : lv_has ls 3 [(2, .int v2_1), (0, .ref a0), (1, .ref a5)]) => ?_)
        refine lv_goto (pc := 63) hexec hb dX2_copyFrom_63 (tgt := 18) rfl ?_
        exact ih18 _ _ _ _ _ _ _ (sl4 hf hk18) hP hD hS (lv_sub hl [1, 2, 0] rfl)
  exact hL18 n _ _ _ _ _ _ _ hz hP hD hS (lv_sub hl [1, 2, 0] rfl)
abbrev w_X2_addHarbour (g : GE) (a0 a1 a2 a3 a4 a5 : Nat) (u0_1 : Value) (x0_count : Int32) (y1_direction : Nat → Int32) (y2_home : Nat → Int32) (y3_length : Nat → Int32) (y4_letters : Nat → Int32) (y5_p : Nat → Int32) : va_W := [(a0, .inr (2, [.int x0_count, u0_1, .ref a2, .ref a1, .ref a3, .ref a4])), (a1, .inl (g.2.1 0, 8, .inl y1_direction)), (a2, .inl (g.2.1 0, 8, .inl y2_home)), (a3, .inl (g.2.1 0, 8, .inl y3_length)), (a4, .inl (g.2.1 0, 64, .inl y4_letters)), (a5, .inl (g.2.1 0, 500, .inl y5_p))]
set_option maxRecDepth 20000 in
theorem c_X2_addHarbour (l : Launch) (g : GE) (a0 a1 a2 a3 a4 a5 : Nat) (sz : Nat) (u0_1 : Value) (x0_count : Int32) (y1_direction : Nat → Int32) (y2_home : Nat → Int32) (y3_length : Nat → Int32) (y4_letters : Nat → Int32) (y5_p : Nat → Int32) (p1 : Int32) (p3 : Int32) (p4 : Int32)  (o_x0_count : Int32) (o_y1_direction : Nat → Int32) (o_y2_home : Nat → Int32) (o_y3_length : Nat → Int32) (o_y4_letters : Nat → Int32) (hf : f_X2_addHarbour x0_count y1_direction y2_home y3_length y4_letters y5_p p1 p3 p4 = some (o_x0_count, o_y1_direction, o_y2_home, o_y3_length, o_y4_letters)) : MI l g yX2_addHarbour wsX2_addHarbour 1 24 [.ref a0, .int p1, .ref a5, .int p3, .int p4] (w_X2_addHarbour g a0 a1 a2 a3 a4 a5 u0_1 x0_count y1_direction y2_home y3_length y4_letters y5_p) sz none (w_X2_addHarbour g a0 a1 a2 a3 a4 a5 u0_1 o_x0_count o_y1_direction o_y2_home o_y3_length o_y4_letters y5_p) := by
  refine MI.start (cc := cX2_addHarbour) (maxL := 6) (ret := none) rfl rfl (nle rfl) ?_
  intro p e s m args below meth c A ls Q hQ hexec hb hr hts hown hlocks hml hA hP hD hG hS hl
  unfold f_X2_addHarbour at hf
  have hWX2 : ∀ w ∈ wsX20, w.before args s = true := fun w h => hts w (List.mem_cons_of_mem _ (List.mem_append_right _ h))
  have hS : va_S A s.heap s.heap [] := hS
  refine lv_aload_n (pc := 0) hexec hb dX2_addHarbour_0 rfl (lv_at hl 0 rfl) ?_
  refine kg_get (pc := 1) hexec hb (own := RX2) hWX2 hown hG hP 0 rfl rfl 0 (nle rfl) (hts _ (List.mem_cons_of_mem _ (List.mem_append_left _ (List.mem_of_getElem? (i := 0) rfl)))) rfl rfl dX2_addHarbour_1 ?_
  refine lv_bipush (pc := 4) hexec hb dX2_addHarbour_4 kb_8 ?_
  refine ki_ge (pc := 6) hexec hb dX2_addHarbour_6 (tgt := 13) rfl hf (fun hc hf => ?_) (fun hc hf => ?_)
  · cases hf
    exact ke_v hQ hexec hb hr hP hD hS dX2_addHarbour_13 hlocks
  · refine lv_iload_n (pc := 9) hexec hb dX2_addHarbour_9 rfl (lv_at hl 3 rfl) ?_
    refine kb_ge (pc := 10) hexec hb dX2_addHarbour_10 (tgt := 14) rfl hf (fun hc hf => ?_) (fun hc hf => ?_)
    · refine lv_aload_n (pc := 14) hexec hb dX2_addHarbour_14 rfl (lv_at hl 0 rfl) ?_
      refine kg_get (pc := 15) hexec hb (own := RX2) hWX2 hown hG hP 0 rfl rfl 2 (nle rfl) (hts _ (List.mem_cons_of_mem _ (List.mem_append_left _ (List.mem_of_getElem? (i := 1) rfl)))) rfl rfl dX2_addHarbour_15 ?_
      refine lv_aload_n (pc := 18) hexec hb dX2_addHarbour_18 rfl (lv_at hl 0 rfl) ?_
      refine kg_get (pc := 19) hexec hb (own := RX2) hWX2 hown hG hP 0 rfl rfl 0 (nle rfl) (hts _ (List.mem_cons_of_mem _ (List.mem_append_left _ (List.mem_of_getElem? (i := 0) rfl)))) rfl rfl dX2_addHarbour_19 ?_
      refine lv_iload_n (pc := 22) hexec hb dX2_addHarbour_22 rfl (lv_at hl 1 rfl) ?_
      refine kw_iast (pc := 23) hexec hb hG hP hD hS 2 rfl hf dX2_addHarbour_23 (fun y2_home_1 H locs hf (hP : va_P g.1 vwCl (w_X2_addHarbour g a0 a1 a2 a3 a4 a5 u0_1 x0_count y1_direction y2_home_1 y3_length y4_letters y5_p) H) (hD : va_D A (w_X2_addHarbour g a0 a1 a2 a3 a4 a5 u0_1 x0_count y1_direction y2_home_1 y3_length y4_letters y5_p)) hS => ?_)
      refine lv_aload_n (pc := 24) hexec hb dX2_addHarbour_24 rfl (lv_at hl 0 rfl) ?_
      refine kg_get (pc := 25) hexec hb (own := RX2) hWX2 hown hG hP 0 rfl rfl 3 (nle rfl) (hts _ (List.mem_cons_of_mem _ (List.mem_append_left _ (List.mem_of_getElem? (i := 2) rfl)))) rfl rfl dX2_addHarbour_25 ?_
      refine lv_aload_n (pc := 28) hexec hb dX2_addHarbour_28 rfl (lv_at hl 0 rfl) ?_
      refine kg_get (pc := 29) hexec hb (own := RX2) hWX2 hown hG hP 0 rfl rfl 0 (nle rfl) (hts _ (List.mem_cons_of_mem _ (List.mem_append_left _ (List.mem_of_getElem? (i := 0) rfl)))) rfl rfl dX2_addHarbour_29 ?_
      refine lv_iconst (pc := 32) hexec hb dX2_addHarbour_32 ki_m1 ?_
      refine kw_iast (pc := 33) hexec hb hG hP hD hS 1 rfl hf dX2_addHarbour_33 (fun y1_direction_1 H locs hf (hP : va_P g.1 vwCl (w_X2_addHarbour g a0 a1 a2 a3 a4 a5 u0_1 x0_count y1_direction_1 y2_home_1 y3_length y4_letters y5_p) H) (hD : va_D A (w_X2_addHarbour g a0 a1 a2 a3 a4 a5 u0_1 x0_count y1_direction_1 y2_home_1 y3_length y4_letters y5_p)) hS => ?_)
      refine lv_aload_n (pc := 34) hexec hb dX2_addHarbour_34 rfl (lv_at hl 0 rfl) ?_
      refine kg_get (pc := 35) hexec hb (own := RX2) hWX2 hown hG hP 0 rfl rfl 4 (nle rfl) (hts _ (List.mem_cons_of_mem _ (List.mem_append_left _ (List.mem_of_getElem? (i := 3) rfl)))) rfl rfl dX2_addHarbour_35 ?_
      refine lv_aload_n (pc := 38) hexec hb dX2_addHarbour_38 rfl (lv_at hl 0 rfl) ?_
      refine kg_get (pc := 39) hexec hb (own := RX2) hWX2 hown hG hP 0 rfl rfl 0 (nle rfl) (hts _ (List.mem_cons_of_mem _ (List.mem_append_left _ (List.mem_of_getElem? (i := 0) rfl)))) rfl rfl dX2_addHarbour_39 ?_
      refine lv_iload (pc := 42) hexec hb dX2_addHarbour_42 (lv_at hl 4 rfl) ?_
      refine lv_bipush (pc := 44) hexec hb dX2_addHarbour_44 kb_8 ?_
      refine va_mmin (pc := 46) hexec hb (hml.trans hl.1.symm) (own := RX2) hown (hts _ (List.mem_cons_of_mem _ (List.mem_append_left _ (List.mem_of_getElem? (i := 4) rfl)))) (hts _ (List.mem_cons_of_mem _ (List.mem_append_left _ (List.mem_of_getElem? (i := 5) rfl)))) (hts _ (List.mem_cons_of_mem _ (List.mem_append_left _ (List.mem_of_getElem? (i := 6) rfl)))) (hts _ (List.mem_cons_of_mem _ (List.mem_append_left _ (List.mem_of_getElem? (i := 7) rfl)))) (nle rfl) (nle rfl) (nle rfl) (nle rfl) dX2_addHarbour_46 ?_
      refine kw_iast (pc := 49) hexec hb hG hP hD hS 3 rfl hf dX2_addHarbour_49 (fun y3_length_1 H locs hf (hP : va_P g.1 vwCl (w_X2_addHarbour g a0 a1 a2 a3 a4 a5 u0_1 x0_count y1_direction_1 y2_home_1 y3_length_1 y4_letters y5_p) H) (hD : va_D A (w_X2_addHarbour g a0 a1 a2 a3 a4 a5 u0_1 x0_count y1_direction_1 y2_home_1 y3_length_1 y4_letters y5_p)) hS => ?_)
      refine lv_iconst (pc := 50) hexec hb dX2_addHarbour_50 ki_0 ?_
      refine lv_istore (pc := 51) hexec hb dX2_addHarbour_51 hl (nle rfl) rfl (fun ls (hl : lv_has ls 6 [(5, .int 0), (0, .ref a0), (1, .int p1), (2, .ref a5), (3, .int p3), (4, .int p4)]) => ?_)
      obtain ⟨l53, el53, hf⟩ := bvf2 hf
      obtain ⟨y4_letters_2, hz, hf⟩ := bd1_e hf
      have hE53 : ∀ (H : Heap) (locs : List Loc) (ls : Array Slot), va_P g.1 vwCl (w_X2_addHarbour g a0 a1 a2 a3 a4 a5 u0_1 x0_count y1_direction_1 y2_home_1 y3_length_1 y4_letters_2 y5_p) H → va_D A (w_X2_addHarbour g a0 a1 a2 a3 a4 a5 u0_1 x0_count y1_direction_1 y2_home_1 y3_length_1 y4_letters_2 y5_p) → va_S A s.heap H locs → lv_has ls 6 [(0, .ref a0)] → W p l e (RM 1 24) s m args below meth c H locs 0 0 Q (F0 m 103 ls []) := by
        intro H locs ls hP hD hS hl
        refine lv_aload_n (pc := 103) hexec hb dX2_addHarbour_103 rfl (lv_at hl 0 rfl) ?_
        refine lv_dup (pc := 104) hexec hb dX2_addHarbour_104 rfl ?_
        refine kg_get (pc := 105) hexec hb (own := RX2) hWX2 hown hG hP 0 rfl rfl 0 (nle rfl) (hts _ (List.mem_cons_of_mem _ (List.mem_append_left _ (List.mem_of_getElem? (i := 0) rfl)))) rfl rfl dX2_addHarbour_105 ?_
        refine lv_iconst (pc := 108) hexec hb dX2_addHarbour_108 ki_1 ?_
        refine lv_iadd (pc := 109) hexec hb dX2_addHarbour_109 ?_
        obtain ⟨x0_count_1, ex0_count_1, hf⟩ := bv_e hf
        refine kn_i ex0_count_1 ?_
        refine kp_put (pc := 110) hexec hb (own := RX2) hWX2 tyX2 tyX2_ok nmX2 hown hG hP hD hS 0 rfl rfl 0 (nle rfl) (hts _ (List.mem_cons_of_mem _ (List.mem_append_left _ (List.mem_of_getElem? (i := 0) rfl)))) rfl rfl rfl rfl (nle rfl) dX2_addHarbour_110 (fun H locs (hP : va_P g.1 vwCl (w_X2_addHarbour g a0 a1 a2 a3 a4 a5 u0_1 x0_count_1 y1_direction_1 y2_home_1 y3_length_1 y4_letters_2 y5_p) H) (hD : va_D A (w_X2_addHarbour g a0 a1 a2 a3 a4 a5 u0_1 x0_count_1 y1_direction_1 y2_home_1 y3_length_1 y4_letters_2 y5_p)) hS => ?_)
        cases hf
        exact ke_v hQ hexec hb hr hP hD hS dX2_addHarbour_113 hlocks
      obtain ⟨n, hz⟩ := lq2_e hz
      have hL53 : ∀ (n : Nat) (v5 : Int32) (y4_letters_1 : Nat → Int32) (H : Heap) (locs : List Loc) (ls : Array Slot), it2 l53 n v5 y4_letters_1 = some y4_letters_2 → va_P g.1 vwCl (w_X2_addHarbour g a0 a1 a2 a3 a4 a5 u0_1 x0_count y1_direction_1 y2_home_1 y3_length_1 y4_letters_1 y5_p) H → va_D A (w_X2_addHarbour g a0 a1 a2 a3 a4 a5 u0_1 x0_count y1_direction_1 y2_home_1 y3_length_1 y4_letters_1 y5_p) → va_S A s.heap H locs → lv_has ls 6 [(0, .ref a0), (2, .ref a5), (3, .int p3), (5, .int v5)] → W p l e (RM 1 24) s m args below meth c H locs 0 0 Q (F0 m 53 ls []) := by
        intro n
        induction n with
        | zero =>
          intro v5 y4_letters_1 H locs ls hf hP hD hS hl
          exact it2_0 hf
        | succ n53 ih53 =>
          intro v5 y4_letters_1 H locs ls hf hP hD hS hl
          obtain ⟨q53, hf, hk53⟩ := it2_e hf
          have hf := (el53 v5 y4_letters_1).symm.trans hf
          refine lv_iload (pc := 53) hexec hb dX2_addHarbour_53 (lv_at hl 3 rfl) ?_
          refine lv_aload_n (pc := 55) hexec hb dX2_addHarbour_55 rfl (lv_at hl 0 rfl) ?_
          refine kg_get (pc := 56) hexec hb (own := RX2) hWX2 hown hG hP 0 rfl rfl 4 (nle rfl) (hts _ (List.mem_cons_of_mem _ (List.mem_append_left _ (List.mem_of_getElem? (i := 3) rfl)))) rfl rfl dX2_addHarbour_56 ?_
          refine lv_aload_n (pc := 59) hexec hb dX2_addHarbour_59 rfl (lv_at hl 0 rfl) ?_
          refine kg_get (pc := 60) hexec hb (own := RX2) hWX2 hown hG hP 0 rfl rfl 0 (nle rfl) (hts _ (List.mem_cons_of_mem _ (List.mem_append_left _ (List.mem_of_getElem? (i := 0) rfl)))) rfl rfl dX2_addHarbour_60 ?_
          refine kr_iald (pc := 63) hexec hb hG hP 3 rfl hf dX2_addHarbour_63 (fun hf => ?_)
          refine ki_ge (pc := 64) hexec hb dX2_addHarbour_64 (tgt := 103) rfl hf (fun hc hf => ?_) (fun hc hf => ?_)
          · cases sr2 hf hk53
            exact hE53 _ _ _ hP hD hS (lv_sub hl [0] rfl)
          · refine lv_iload_n (pc := 67) hexec hb dX2_addHarbour_67 rfl (lv_at hl 2 rfl) ?_
            refine lv_iload (pc := 68) hexec hb dX2_addHarbour_68 (lv_at hl 3 rfl) ?_
            refine lv_iadd (pc := 70) hexec hb dX2_addHarbour_70 ?_
            refine lv_aload_n (pc := 71) hexec hb dX2_addHarbour_71 rfl (lv_at hl 1 rfl) ?_
            refine kr_alen (pc := 72) hexec hb hG hP 5 0 rfl rfl (v := 500) rfl dX2_addHarbour_72 ?_
            refine ki_ge (pc := 73) hexec hb dX2_addHarbour_73 (tgt := 103) rfl hf (fun hc hf => ?_) (fun hc hf => ?_)
            · cases sr2 hf hk53
              exact hE53 _ _ _ hP hD hS (lv_sub hl [0] rfl)
            · refine lv_aload_n (pc := 76) hexec hb dX2_addHarbour_76 rfl (lv_at hl 0 rfl) ?_
              refine kg_get (pc := 77) hexec hb (own := RX2) hWX2 hown hG hP 0 rfl rfl 5 (nle rfl) (hts _ (List.mem_cons_of_mem _ (List.mem_append_left _ (List.mem_of_getElem? (i := 8) rfl)))) rfl rfl dX2_addHarbour_77 ?_
              refine lv_aload_n (pc := 80) hexec hb dX2_addHarbour_80 rfl (lv_at hl 0 rfl) ?_
              refine kg_get (pc := 81) hexec hb (own := RX2) hWX2 hown hG hP 0 rfl rfl 0 (nle rfl) (hts _ (List.mem_cons_of_mem _ (List.mem_append_left _ (List.mem_of_getElem? (i := 0) rfl)))) rfl rfl dX2_addHarbour_81 ?_
              refine lv_bipush (pc := 84) hexec hb dX2_addHarbour_84 kb_8 ?_
              refine lv_imul (pc := 86) hexec hb dX2_addHarbour_86 ?_
              refine lv_iload (pc := 87) hexec hb dX2_addHarbour_87 (lv_at hl 3 rfl) ?_
              refine lv_iadd (pc := 89) hexec hb dX2_addHarbour_89 ?_
              refine lv_aload_n (pc := 90) hexec hb dX2_addHarbour_90 rfl (lv_at hl 1 rfl) ?_
              refine lv_iload_n (pc := 91) hexec hb dX2_addHarbour_91 rfl (lv_at hl 2 rfl) ?_
              refine lv_iload (pc := 92) hexec hb dX2_addHarbour_92 (lv_at hl 3 rfl) ?_
              refine lv_iadd (pc := 94) hexec hb dX2_addHarbour_94 ?_
              refine kr_iald (pc := 95) hexec hb hG hP 5 rfl hf dX2_addHarbour_95 (fun hf => ?_)
              refine kw_iast (pc := 96) hexec hb hG hP hD hS 4 rfl hf dX2_addHarbour_96 (fun y4_letters_3 H locs hf (hP : va_P g.1 vwCl (w_X2_addHarbour g a0 a1 a2 a3 a4 a5 u0_1 x0_count y1_direction_1 y2_home_1 y3_length_1 y4_letters_3 y5_p) H) (hD : va_D A (w_X2_addHarbour g a0 a1 a2 a3 a4 a5 u0_1 x0_count y1_direction_1 y2_home_1 y3_length_1 y4_letters_3 y5_p)) hS => ?_)
              obtain ⟨v5_1, ev5_1, hf⟩ := bv_e hf
              refine k_iinc (pc := 97) hexec hb dX2_addHarbour_97 kq_1 hl (k := 3) rfl ev5_1 (nle rfl) rfl (fun ls (hl : lv_has ls 6 [(5, .int v5_1), (0, .ref a0), (2, .ref a5), (3, .int p3)]) => ?_)
              refine lv_goto (pc := 100) hexec hb dX2_addHarbour_100 (tgt := 53) rfl ?_
              exact ih53 _ _ _ _ _ (sl2 hf hk53) hP hD hS (lv_sub hl [1, 2, 3, 0] rfl)
      exact hL53 n _ _ _ _ _ hz hP hD hS (lv_sub hl [1, 3, 4, 0] rfl)
    · cases hf
      exact ke_v hQ hexec hb hr hP hD hS dX2_addHarbour_13 hlocks
abbrev w_X2_homeOf (g : GE) (a0 a1 : Nat) (u0_1 u0_3 u0_4 u0_5 : Value) (x0_count : Int32) (y1_home : Nat → Int32) : va_W := [(a0, .inr (2, [.int x0_count, u0_1, .ref a1, u0_3, u0_4, u0_5])), (a1, .inl (g.2.1 0, 8, .inl y1_home))]
set_option maxRecDepth 20000 in
theorem c_X2_homeOf (l : Launch) (g : GE) (a0 a1 : Nat) (sz : Nat) (u0_1 u0_3 u0_4 u0_5 : Value) (x0_count : Int32) (y1_home : Nat → Int32) (p1 : Int32)  (r : Int32) (hf : f_X2_homeOf x0_count y1_home p1 = some r) : MI l g yX2_homeOf wsX2_homeOf 1 24 [.ref a0, .int p1] (w_X2_homeOf g a0 a1 u0_1 u0_3 u0_4 u0_5 x0_count y1_home) sz (some (.int r)) (w_X2_homeOf g a0 a1 u0_1 u0_3 u0_4 u0_5 x0_count y1_home) := by
  refine MI.start (cc := cX2_homeOf) (maxL := 2) (ret := (some .int)) rfl rfl (nle rfl) ?_
  intro p e s m args below meth c A ls Q hQ hexec hb hr hts hown hlocks hml hA hP hD hG hS hl
  unfold f_X2_homeOf at hf
  have hWX2 : ∀ w ∈ wsX20, w.before args s = true := fun w h => hts w (List.mem_cons_of_mem _ (List.mem_append_right _ h))
  have hS : va_S A s.heap s.heap [] := hS
  refine lv_iload_n (pc := 0) hexec hb dX2_homeOf_0 rfl (lv_at hl 1 rfl) ?_
  obtain ⟨j27, ej27, hf⟩ := bvf1 hf
  have hj27 : ∀ (u : Unit) (H : Heap) (locs : List Loc) (ls : Array Slot), j27 u = some r → va_P g.1 vwCl (w_X2_homeOf g a0 a1 u0_1 u0_3 u0_4 u0_5 x0_count y1_home) H → va_D A (w_X2_homeOf g a0 a1 u0_1 u0_3 u0_4 u0_5 x0_count y1_home) → va_S A s.heap H locs → lv_has ls 2 [] → W p l e (RM 1 24) s m args below meth c H locs 0 0 Q (F0 m 27 ls []) := by
    intro u H locs ls hf hP hD hS hl
    have hf := (ej27 u).symm.trans hf
    refine lv_iconst (pc := 27) hexec hb dX2_homeOf_27 ki_m1 ?_
    cases hf
    exact ke_i hQ hexec hb hr hP hD hS dX2_homeOf_28 hlocks
  refine kb_lt (pc := 1) hexec hb dX2_homeOf_1 (tgt := 27) rfl hf (fun hc hf => ?_) (fun hc hf => ?_)
  · exact hj27 _ _ _ _ hf hP hD hS (lv_sub hl [] rfl)
  · refine lv_iload_n (pc := 4) hexec hb dX2_homeOf_4 rfl (lv_at hl 1 rfl) ?_
    refine lv_aload_n (pc := 5) hexec hb dX2_homeOf_5 rfl (lv_at hl 0 rfl) ?_
    refine kg_get (pc := 6) hexec hb (own := RX2) hWX2 hown hG hP 0 rfl rfl 0 (nle rfl) (hts _ (List.mem_cons_of_mem _ (List.mem_append_left _ (List.mem_of_getElem? (i := 0) rfl)))) rfl rfl dX2_homeOf_6 ?_
    refine ki_ge (pc := 9) hexec hb dX2_homeOf_9 (tgt := 27) rfl hf (fun hc hf => ?_) (fun hc hf => ?_)
    · exact hj27 _ _ _ _ hf hP hD hS (lv_sub hl [] rfl)
    · refine lv_iload_n (pc := 12) hexec hb dX2_homeOf_12 rfl (lv_at hl 1 rfl) ?_
      refine lv_bipush (pc := 13) hexec hb dX2_homeOf_13 kb_8 ?_
      refine ki_ge (pc := 15) hexec hb dX2_homeOf_15 (tgt := 27) rfl hf (fun hc hf => ?_) (fun hc hf => ?_)
      · exact hj27 _ _ _ _ hf hP hD hS (lv_sub hl [] rfl)
      · refine lv_aload_n (pc := 18) hexec hb dX2_homeOf_18 rfl (lv_at hl 0 rfl) ?_
        refine kg_get (pc := 19) hexec hb (own := RX2) hWX2 hown hG hP 0 rfl rfl 2 (nle rfl) (hts _ (List.mem_cons_of_mem _ (List.mem_append_left _ (List.mem_of_getElem? (i := 1) rfl)))) rfl rfl dX2_homeOf_19 ?_
        refine lv_iload_n (pc := 22) hexec hb dX2_homeOf_22 rfl (lv_at hl 1 rfl) ?_
        refine kr_iald (pc := 23) hexec hb hG hP 1 rfl hf dX2_homeOf_23 (fun hf => ?_)
        refine lv_goto (pc := 24) hexec hb dX2_homeOf_24 (tgt := 28) rfl ?_
        cases hf
        exact ke_i hQ hexec hb hr hP hD hS dX2_homeOf_28 hlocks
abbrev w_X2_directionOf (g : GE) (a0 a1 : Nat) (u0_1 u0_2 u0_4 u0_5 : Value) (x0_count : Int32) (y1_direction : Nat → Int32) : va_W := [(a0, .inr (2, [.int x0_count, u0_1, u0_2, .ref a1, u0_4, u0_5])), (a1, .inl (g.2.1 0, 8, .inl y1_direction))]
set_option maxRecDepth 20000 in
theorem c_X2_directionOf (l : Launch) (g : GE) (a0 a1 : Nat) (sz : Nat) (u0_1 u0_2 u0_4 u0_5 : Value) (x0_count : Int32) (y1_direction : Nat → Int32) (p1 : Int32)  (r : Int32) (hf : f_X2_directionOf x0_count y1_direction p1 = some r) : MI l g yX2_directionOf wsX2_directionOf 1 24 [.ref a0, .int p1] (w_X2_directionOf g a0 a1 u0_1 u0_2 u0_4 u0_5 x0_count y1_direction) sz (some (.int r)) (w_X2_directionOf g a0 a1 u0_1 u0_2 u0_4 u0_5 x0_count y1_direction) := by
  refine MI.start (cc := cX2_directionOf) (maxL := 2) (ret := (some .int)) rfl rfl (nle rfl) ?_
  intro p e s m args below meth c A ls Q hQ hexec hb hr hts hown hlocks hml hA hP hD hG hS hl
  unfold f_X2_directionOf at hf
  have hWX2 : ∀ w ∈ wsX20, w.before args s = true := fun w h => hts w (List.mem_cons_of_mem _ (List.mem_append_right _ h))
  have hS : va_S A s.heap s.heap [] := hS
  refine lv_iload_n (pc := 0) hexec hb dX2_directionOf_0 rfl (lv_at hl 1 rfl) ?_
  obtain ⟨j27, ej27, hf⟩ := bvf1 hf
  have hj27 : ∀ (u : Unit) (H : Heap) (locs : List Loc) (ls : Array Slot), j27 u = some r → va_P g.1 vwCl (w_X2_directionOf g a0 a1 u0_1 u0_2 u0_4 u0_5 x0_count y1_direction) H → va_D A (w_X2_directionOf g a0 a1 u0_1 u0_2 u0_4 u0_5 x0_count y1_direction) → va_S A s.heap H locs → lv_has ls 2 [] → W p l e (RM 1 24) s m args below meth c H locs 0 0 Q (F0 m 27 ls []) := by
    intro u H locs ls hf hP hD hS hl
    have hf := (ej27 u).symm.trans hf
    refine lv_iconst (pc := 27) hexec hb dX2_directionOf_27 ki_m1 ?_
    cases hf
    exact ke_i hQ hexec hb hr hP hD hS dX2_directionOf_28 hlocks
  refine kb_lt (pc := 1) hexec hb dX2_directionOf_1 (tgt := 27) rfl hf (fun hc hf => ?_) (fun hc hf => ?_)
  · exact hj27 _ _ _ _ hf hP hD hS (lv_sub hl [] rfl)
  · refine lv_iload_n (pc := 4) hexec hb dX2_directionOf_4 rfl (lv_at hl 1 rfl) ?_
    refine lv_aload_n (pc := 5) hexec hb dX2_directionOf_5 rfl (lv_at hl 0 rfl) ?_
    refine kg_get (pc := 6) hexec hb (own := RX2) hWX2 hown hG hP 0 rfl rfl 0 (nle rfl) (hts _ (List.mem_cons_of_mem _ (List.mem_append_left _ (List.mem_of_getElem? (i := 0) rfl)))) rfl rfl dX2_directionOf_6 ?_
    refine ki_ge (pc := 9) hexec hb dX2_directionOf_9 (tgt := 27) rfl hf (fun hc hf => ?_) (fun hc hf => ?_)
    · exact hj27 _ _ _ _ hf hP hD hS (lv_sub hl [] rfl)
    · refine lv_iload_n (pc := 12) hexec hb dX2_directionOf_12 rfl (lv_at hl 1 rfl) ?_
      refine lv_bipush (pc := 13) hexec hb dX2_directionOf_13 kb_8 ?_
      refine ki_ge (pc := 15) hexec hb dX2_directionOf_15 (tgt := 27) rfl hf (fun hc hf => ?_) (fun hc hf => ?_)
      · exact hj27 _ _ _ _ hf hP hD hS (lv_sub hl [] rfl)
      · refine lv_aload_n (pc := 18) hexec hb dX2_directionOf_18 rfl (lv_at hl 0 rfl) ?_
        refine kg_get (pc := 19) hexec hb (own := RX2) hWX2 hown hG hP 0 rfl rfl 3 (nle rfl) (hts _ (List.mem_cons_of_mem _ (List.mem_append_left _ (List.mem_of_getElem? (i := 1) rfl)))) rfl rfl dX2_directionOf_19 ?_
        refine lv_iload_n (pc := 22) hexec hb dX2_directionOf_22 rfl (lv_at hl 1 rfl) ?_
        refine kr_iald (pc := 23) hexec hb hG hP 1 rfl hf dX2_directionOf_23 (fun hf => ?_)
        refine lv_goto (pc := 24) hexec hb dX2_directionOf_24 (tgt := 28) rfl ?_
        cases hf
        exact ke_i hQ hexec hb hr hP hD hS dX2_directionOf_28 hlocks
abbrev w_X2_setDirection (g : GE) (a0 a1 : Nat) (u0_1 u0_2 u0_4 u0_5 : Value) (x0_count : Int32) (y1_direction : Nat → Int32) : va_W := [(a0, .inr (2, [.int x0_count, u0_1, u0_2, .ref a1, u0_4, u0_5])), (a1, .inl (g.2.1 0, 8, .inl y1_direction))]
set_option maxRecDepth 20000 in
theorem c_X2_setDirection (l : Launch) (g : GE) (a0 a1 : Nat) (sz : Nat) (u0_1 u0_2 u0_4 u0_5 : Value) (x0_count : Int32) (y1_direction : Nat → Int32) (p1 : Int32) (p2 : Int32)  (o_y1_direction : Nat → Int32) (hf : f_X2_setDirection x0_count y1_direction p1 p2 = some o_y1_direction) : MI l g yX2_setDirection wsX2_setDirection 1 24 [.ref a0, .int p1, .int p2] (w_X2_setDirection g a0 a1 u0_1 u0_2 u0_4 u0_5 x0_count y1_direction) sz none (w_X2_setDirection g a0 a1 u0_1 u0_2 u0_4 u0_5 x0_count o_y1_direction) := by
  refine MI.start (cc := cX2_setDirection) (maxL := 3) (ret := none) rfl rfl (nle rfl) ?_
  intro p e s m args below meth c A ls Q hQ hexec hb hr hts hown hlocks hml hA hP hD hG hS hl
  unfold f_X2_setDirection at hf
  have hWX2 : ∀ w ∈ wsX20, w.before args s = true := fun w h => hts w (List.mem_cons_of_mem _ (List.mem_append_right _ h))
  have hS : va_S A s.heap s.heap [] := hS
  refine lv_iload_n (pc := 0) hexec hb dX2_setDirection_0 rfl (lv_at hl 1 rfl) ?_
  refine kb_lt (pc := 1) hexec hb dX2_setDirection_1 (tgt := 25) rfl hf (fun hc hf => ?_) (fun hc hf => ?_)
  · cases hf
    exact ke_v hQ hexec hb hr hP hD hS dX2_setDirection_25 hlocks
  · refine lv_iload_n (pc := 4) hexec hb dX2_setDirection_4 rfl (lv_at hl 1 rfl) ?_
    refine lv_aload_n (pc := 5) hexec hb dX2_setDirection_5 rfl (lv_at hl 0 rfl) ?_
    refine kg_get (pc := 6) hexec hb (own := RX2) hWX2 hown hG hP 0 rfl rfl 0 (nle rfl) (hts _ (List.mem_cons_of_mem _ (List.mem_append_left _ (List.mem_of_getElem? (i := 0) rfl)))) rfl rfl dX2_setDirection_6 ?_
    refine ki_ge (pc := 9) hexec hb dX2_setDirection_9 (tgt := 25) rfl hf (fun hc hf => ?_) (fun hc hf => ?_)
    · cases hf
      exact ke_v hQ hexec hb hr hP hD hS dX2_setDirection_25 hlocks
    · refine lv_iload_n (pc := 12) hexec hb dX2_setDirection_12 rfl (lv_at hl 1 rfl) ?_
      refine lv_bipush (pc := 13) hexec hb dX2_setDirection_13 kb_8 ?_
      refine ki_ge (pc := 15) hexec hb dX2_setDirection_15 (tgt := 25) rfl hf (fun hc hf => ?_) (fun hc hf => ?_)
      · cases hf
        exact ke_v hQ hexec hb hr hP hD hS dX2_setDirection_25 hlocks
      · refine lv_aload_n (pc := 18) hexec hb dX2_setDirection_18 rfl (lv_at hl 0 rfl) ?_
        refine kg_get (pc := 19) hexec hb (own := RX2) hWX2 hown hG hP 0 rfl rfl 3 (nle rfl) (hts _ (List.mem_cons_of_mem _ (List.mem_append_left _ (List.mem_of_getElem? (i := 1) rfl)))) rfl rfl dX2_setDirection_19 ?_
        refine lv_iload_n (pc := 22) hexec hb dX2_setDirection_22 rfl (lv_at hl 1 rfl) ?_
        refine lv_iload_n (pc := 23) hexec hb dX2_setDirection_23 rfl (lv_at hl 2 rfl) ?_
        refine kw_iast (pc := 24) hexec hb hG hP hD hS 1 rfl hf dX2_setDirection_24 (fun y1_direction_1 H locs hf (hP : va_P g.1 vwCl (w_X2_setDirection g a0 a1 u0_1 u0_2 u0_4 u0_5 x0_count y1_direction_1) H) (hD : va_D A (w_X2_setDirection g a0 a1 u0_1 u0_2 u0_4 u0_5 x0_count y1_direction_1)) hS => ?_)
        cases hf
        exact ke_v hQ hexec hb hr hP hD hS dX2_setDirection_25 hlocks
abbrev w_X2_lengthOf (g : GE) (a0 a1 : Nat) (u0_1 u0_2 u0_3 u0_5 : Value) (x0_count : Int32) (y1_length : Nat → Int32) : va_W := [(a0, .inr (2, [.int x0_count, u0_1, u0_2, u0_3, .ref a1, u0_5])), (a1, .inl (g.2.1 0, 8, .inl y1_length))]
set_option maxRecDepth 20000 in
theorem c_X2_lengthOf (l : Launch) (g : GE) (a0 a1 : Nat) (sz : Nat) (u0_1 u0_2 u0_3 u0_5 : Value) (x0_count : Int32) (y1_length : Nat → Int32) (p1 : Int32)  (r : Int32) (hf : f_X2_lengthOf x0_count y1_length p1 = some r) : MI l g yX2_lengthOf wsX2_lengthOf 1 24 [.ref a0, .int p1] (w_X2_lengthOf g a0 a1 u0_1 u0_2 u0_3 u0_5 x0_count y1_length) sz (some (.int r)) (w_X2_lengthOf g a0 a1 u0_1 u0_2 u0_3 u0_5 x0_count y1_length) := by
  refine MI.start (cc := cX2_lengthOf) (maxL := 2) (ret := (some .int)) rfl rfl (nle rfl) ?_
  intro p e s m args below meth c A ls Q hQ hexec hb hr hts hown hlocks hml hA hP hD hG hS hl
  unfold f_X2_lengthOf at hf
  have hWX2 : ∀ w ∈ wsX20, w.before args s = true := fun w h => hts w (List.mem_cons_of_mem _ (List.mem_append_right _ h))
  have hS : va_S A s.heap s.heap [] := hS
  refine lv_iload_n (pc := 0) hexec hb dX2_lengthOf_0 rfl (lv_at hl 1 rfl) ?_
  obtain ⟨j27, ej27, hf⟩ := bvf1 hf
  have hj27 : ∀ (u : Unit) (H : Heap) (locs : List Loc) (ls : Array Slot), j27 u = some r → va_P g.1 vwCl (w_X2_lengthOf g a0 a1 u0_1 u0_2 u0_3 u0_5 x0_count y1_length) H → va_D A (w_X2_lengthOf g a0 a1 u0_1 u0_2 u0_3 u0_5 x0_count y1_length) → va_S A s.heap H locs → lv_has ls 2 [] → W p l e (RM 1 24) s m args below meth c H locs 0 0 Q (F0 m 27 ls []) := by
    intro u H locs ls hf hP hD hS hl
    have hf := (ej27 u).symm.trans hf
    refine lv_iconst (pc := 27) hexec hb dX2_lengthOf_27 ki_0 ?_
    cases hf
    exact ke_i hQ hexec hb hr hP hD hS dX2_lengthOf_28 hlocks
  refine kb_lt (pc := 1) hexec hb dX2_lengthOf_1 (tgt := 27) rfl hf (fun hc hf => ?_) (fun hc hf => ?_)
  · exact hj27 _ _ _ _ hf hP hD hS (lv_sub hl [] rfl)
  · refine lv_iload_n (pc := 4) hexec hb dX2_lengthOf_4 rfl (lv_at hl 1 rfl) ?_
    refine lv_aload_n (pc := 5) hexec hb dX2_lengthOf_5 rfl (lv_at hl 0 rfl) ?_
    refine kg_get (pc := 6) hexec hb (own := RX2) hWX2 hown hG hP 0 rfl rfl 0 (nle rfl) (hts _ (List.mem_cons_of_mem _ (List.mem_append_left _ (List.mem_of_getElem? (i := 0) rfl)))) rfl rfl dX2_lengthOf_6 ?_
    refine ki_ge (pc := 9) hexec hb dX2_lengthOf_9 (tgt := 27) rfl hf (fun hc hf => ?_) (fun hc hf => ?_)
    · exact hj27 _ _ _ _ hf hP hD hS (lv_sub hl [] rfl)
    · refine lv_iload_n (pc := 12) hexec hb dX2_lengthOf_12 rfl (lv_at hl 1 rfl) ?_
      refine lv_bipush (pc := 13) hexec hb dX2_lengthOf_13 kb_8 ?_
      refine ki_ge (pc := 15) hexec hb dX2_lengthOf_15 (tgt := 27) rfl hf (fun hc hf => ?_) (fun hc hf => ?_)
      · exact hj27 _ _ _ _ hf hP hD hS (lv_sub hl [] rfl)
      · refine lv_aload_n (pc := 18) hexec hb dX2_lengthOf_18 rfl (lv_at hl 0 rfl) ?_
        refine kg_get (pc := 19) hexec hb (own := RX2) hWX2 hown hG hP 0 rfl rfl 4 (nle rfl) (hts _ (List.mem_cons_of_mem _ (List.mem_append_left _ (List.mem_of_getElem? (i := 1) rfl)))) rfl rfl dX2_lengthOf_19 ?_
        refine lv_iload_n (pc := 22) hexec hb dX2_lengthOf_22 rfl (lv_at hl 1 rfl) ?_
        refine kr_iald (pc := 23) hexec hb hG hP 1 rfl hf dX2_lengthOf_23 (fun hf => ?_)
        refine lv_goto (pc := 24) hexec hb dX2_lengthOf_24 (tgt := 28) rfl ?_
        cases hf
        exact ke_i hQ hexec hb hr hP hD hS dX2_lengthOf_28 hlocks
abbrev w_X2_letterOf (g : GE) (a0 a1 a2 : Nat) (u0_1 u0_2 u0_3 : Value) (x0_count : Int32) (y1_length : Nat → Int32) (y2_letters : Nat → Int32) : va_W := [(a0, .inr (2, [.int x0_count, u0_1, u0_2, u0_3, .ref a1, .ref a2])), (a1, .inl (g.2.1 0, 8, .inl y1_length)), (a2, .inl (g.2.1 0, 64, .inl y2_letters))]
set_option maxRecDepth 20000 in
theorem c_X2_letterOf (l : Launch) (g : GE) (a0 a1 a2 : Nat) (sz : Nat) (u0_1 u0_2 u0_3 : Value) (x0_count : Int32) (y1_length : Nat → Int32) (y2_letters : Nat → Int32) (p1 : Int32) (p2 : Int32)  (r : Int32) (hf : f_X2_letterOf x0_count y1_length y2_letters p1 p2 = some r) : MI l g yX2_letterOf wsX2_letterOf 2 45 [.ref a0, .int p1, .int p2] (w_X2_letterOf g a0 a1 a2 u0_1 u0_2 u0_3 x0_count y1_length y2_letters) sz (some (.int r)) (w_X2_letterOf g a0 a1 a2 u0_1 u0_2 u0_3 x0_count y1_length y2_letters) := by
  refine MI.start (cc := cX2_letterOf) (maxL := 4) (ret := (some .int)) rfl rfl (nle rfl) ?_
  intro p e s m args below meth c A ls Q hQ hexec hb hr hts hown hlocks hml hA hP hD hG hS hl
  unfold f_X2_letterOf at hf
  have hWX2 : ∀ w ∈ wsX20, w.before args s = true := fun w h => hts w (List.mem_cons_of_mem _ (List.mem_append_right _ h))
  have hS : va_S A s.heap s.heap [] := hS
  refine lv_iload_n (pc := 0) hexec hb dX2_letterOf_0 rfl (lv_at hl 2 rfl) ?_
  obtain ⟨j24, ej24, hf⟩ := bvf1 hf
  have hj24 : ∀ (t24 : Int32) (H : Heap) (locs : List Loc) (ls : Array Slot), j24 t24 = some r → va_P g.1 vwCl (w_X2_letterOf g a0 a1 a2 u0_1 u0_2 u0_3 x0_count y1_length y2_letters) H → va_D A (w_X2_letterOf g a0 a1 a2 u0_1 u0_2 u0_3 x0_count y1_length y2_letters) → va_S A s.heap H locs → lv_has ls 4 [(0, .ref a0), (1, .int p1), (2, .int p2)] → W p l e (RM 2 45) s m args below meth c H locs 0 0 Q (F0 m 24 ls [.int t24]) := by
    intro t24 H locs ls hf hP hD hS hl
    have hf := (ej24 t24).symm.trans hf
    refine lv_istore_n (pc := 24) hexec hb dX2_letterOf_24 rfl hl (nle rfl) rfl (fun ls (hl : lv_has ls 4 [(3, .int t24), (0, .ref a0), (1, .int p1), (2, .int p2)]) => ?_)
    refine lv_iload_n (pc := 25) hexec hb dX2_letterOf_25 rfl (lv_at hl 0 rfl) ?_
    refine kb_eq (pc := 26) hexec hb dX2_letterOf_26 (tgt := 43) rfl hf (fun hc hf => ?_) (fun hc hf => ?_)
    · refine lv_iconst (pc := 43) hexec hb dX2_letterOf_43 ki_m1 ?_
      cases hf
      exact ke_i hQ hexec hb hr hP hD hS dX2_letterOf_44 hlocks
    · refine lv_aload_n (pc := 29) hexec hb dX2_letterOf_29 rfl (lv_at hl 1 rfl) ?_
      refine kg_get (pc := 30) hexec hb (own := RX2) hWX2 hown hG hP 0 rfl rfl 5 (nle rfl) (hts _ (List.mem_cons_of_mem _ (List.mem_append_left _ (List.mem_of_getElem? (i := 0) rfl)))) rfl rfl dX2_letterOf_30 ?_
      refine lv_iload_n (pc := 33) hexec hb dX2_letterOf_33 rfl (lv_at hl 2 rfl) ?_
      refine lv_bipush (pc := 34) hexec hb dX2_letterOf_34 kb_8 ?_
      refine lv_imul (pc := 36) hexec hb dX2_letterOf_36 ?_
      refine lv_iload_n (pc := 37) hexec hb dX2_letterOf_37 rfl (lv_at hl 3 rfl) ?_
      refine lv_iadd (pc := 38) hexec hb dX2_letterOf_38 ?_
      refine kr_iald (pc := 39) hexec hb hG hP 2 rfl hf dX2_letterOf_39 (fun hf => ?_)
      refine lv_goto (pc := 40) hexec hb dX2_letterOf_40 (tgt := 44) rfl ?_
      cases hf
      exact ke_i hQ hexec hb hr hP hD hS dX2_letterOf_44 hlocks
  obtain ⟨j23, ej23, hf⟩ := bvf1 hf
  have hj23 : ∀ (u : Unit) (H : Heap) (locs : List Loc) (ls : Array Slot), j23 u = some r → va_P g.1 vwCl (w_X2_letterOf g a0 a1 a2 u0_1 u0_2 u0_3 x0_count y1_length y2_letters) H → va_D A (w_X2_letterOf g a0 a1 a2 u0_1 u0_2 u0_3 x0_count y1_length y2_letters) → va_S A s.heap H locs → lv_has ls 4 [(0, .ref a0), (1, .int p1), (2, .int p2)] → W p l e (RM 2 45) s m args below meth c H locs 0 0 Q (F0 m 23 ls []) := by
    intro u H locs ls hf hP hD hS hl
    have hf := (ej23 u).symm.trans hf
    refine lv_iconst (pc := 23) hexec hb dX2_letterOf_23 ki_0 ?_
    exact hj24 _ _ _ _ hf hP hD hS (lv_sub hl [0, 1, 2] rfl)
  refine kb_lt (pc := 1) hexec hb dX2_letterOf_1 (tgt := 23) rfl hf (fun hc hf => ?_) (fun hc hf => ?_)
  · exact hj23 _ _ _ _ hf hP hD hS (lv_sub hl [0, 1, 2] rfl)
  · refine lv_iload_n (pc := 4) hexec hb dX2_letterOf_4 rfl (lv_at hl 2 rfl) ?_
    refine lv_aload_n (pc := 5) hexec hb dX2_letterOf_5 rfl (lv_at hl 0 rfl) ?_
    refine lv_iload_n (pc := 6) hexec hb dX2_letterOf_6 rfl (lv_at hl 1 rfl) ?_
    obtain ⟨r7, hc, hf⟩ := bd1_e hf
    refine kVp (pc := 7) (S := ⟨hexec, hb, hml, hown, hts⟩) hP hD hG hA hS [0, 1] [2] [1, 2, 0] (w2 := (w_X2_letterOf g a0 a1 a2 u0_1 u0_2 u0_3 x0_count y1_length y2_letters)) rfl rfl rfl rfl rfl rfl (by decide) (c_X2_lengthOf l g a0 a1 _ u0_1 u0_2 u0_3 (.ref a2) x0_count y1_length p1 r7 hc) gX2_letterOf_X2_lengthOf rfl hv_X2_lengthOf ⟨nle rfl, nle rfl⟩ 2 0 rfl rfl rfl (rest := [.int p2]) rfl rfl hl.1 (nle rfl) dX2_letterOf_7 (fun H locs hP hD hS => ?_)
    refine ki_ge (pc := 10) hexec hb dX2_letterOf_10 (tgt := 23) rfl hf (fun hc hf => ?_) (fun hc hf => ?_)
    · exact hj23 _ _ _ _ hf hP hD hS (lv_sub hl [0, 1, 2] rfl)
    · refine lv_iload_n (pc := 13) hexec hb dX2_letterOf_13 rfl (lv_at hl 2 rfl) ?_
      refine lv_bipush (pc := 14) hexec hb dX2_letterOf_14 kb_8 ?_
      refine ki_ge (pc := 16) hexec hb dX2_letterOf_16 (tgt := 23) rfl hf (fun hc hf => ?_) (fun hc hf => ?_)
      · exact hj23 _ _ _ _ hf hP hD hS (lv_sub hl [0, 1, 2] rfl)
      · refine lv_iconst (pc := 19) hexec hb dX2_letterOf_19 ki_1 ?_
        refine lv_goto (pc := 20) hexec hb dX2_letterOf_20 (tgt := 24) rfl ?_
        exact hj24 _ _ _ _ hf hP hD hS (lv_sub hl [0, 1, 2] rfl)
abbrev w_X2_isRed (g : GE) (a0 : Nat) (u0_0 u0_2 u0_3 u0_4 u0_5 : Value) (x0_reds : Int32) : va_W := [(a0, .inr (2, [u0_0, .int x0_reds, u0_2, u0_3, u0_4, u0_5]))]
set_option maxRecDepth 20000 in
theorem c_X2_isRed (l : Launch) (g : GE) (a0 : Nat) (sz : Nat) (u0_0 u0_2 u0_3 u0_4 u0_5 : Value) (x0_reds : Int32) (p1 : Int32)  (r : Int32) (hf : f_X2_isRed x0_reds p1 = some r) : MI l g yX2_isRed wsX2_isRed 1 24 [.ref a0, .int p1] (w_X2_isRed g a0 u0_0 u0_2 u0_3 u0_4 u0_5 x0_reds) sz (some (.int r)) (w_X2_isRed g a0 u0_0 u0_2 u0_3 u0_4 u0_5 x0_reds) := by
  refine MI.start (cc := cX2_isRed) (maxL := 2) (ret := (some .boolean)) rfl rfl (nle rfl) ?_
  intro p e s m args below meth c A ls Q hQ hexec hb hr hts hown hlocks hml hA hP hD hG hS hl
  unfold f_X2_isRed at hf
  have hWX2 : ∀ w ∈ wsX20, w.before args s = true := fun w h => hts w (List.mem_cons_of_mem _ (List.mem_append_right _ h))
  have hS : va_S A s.heap s.heap [] := hS
  refine lv_aload_n (pc := 0) hexec hb dX2_isRed_0 rfl (lv_at hl 0 rfl) ?_
  refine kg_get (pc := 1) hexec hb (own := RX2) hWX2 hown hG hP 0 rfl rfl 1 (nle rfl) (hts _ (List.mem_cons_of_mem _ (List.mem_append_left _ (List.mem_of_getElem? (i := 0) rfl)))) rfl rfl dX2_isRed_1 ?_
  refine lv_iload_n (pc := 4) hexec hb dX2_isRed_4 rfl (lv_at hl 1 rfl) ?_
  refine lv_ishr (pc := 5) hexec hb dX2_isRed_5 ?_
  refine lv_iconst (pc := 6) hexec hb dX2_isRed_6 ki_1 ?_
  refine lv_iand (pc := 7) hexec hb dX2_isRed_7 ?_
  refine lv_iconst (pc := 8) hexec hb dX2_isRed_8 ki_1 ?_
  refine ki_ne (pc := 9) hexec hb dX2_isRed_9 (tgt := 16) rfl hf (fun hc hf => ?_) (fun hc hf => ?_)
  · refine lv_iconst (pc := 16) hexec hb dX2_isRed_16 ki_0 ?_
    cases hf
    exact ke_z hQ hexec hb hr (.inl rfl) hP hD hS dX2_isRed_17 hlocks
  · refine lv_iconst (pc := 12) hexec hb dX2_isRed_12 ki_1 ?_
    refine lv_goto (pc := 13) hexec hb dX2_isRed_13 (tgt := 17) rfl ?_
    cases hf
    exact ke_z hQ hexec hb hr (.inr rfl) hP hD hS dX2_isRed_17 hlocks
abbrev w_X2_redsIf (g : GE) (a0 : Nat) (u0_0 u0_2 u0_3 u0_4 u0_5 : Value) (x0_reds : Int32) : va_W := [(a0, .inr (2, [u0_0, .int x0_reds, u0_2, u0_3, u0_4, u0_5]))]
set_option maxRecDepth 20000 in
theorem c_X2_redsIf (l : Launch) (g : GE) (a0 : Nat) (sz : Nat) (u0_0 u0_2 u0_3 u0_4 u0_5 : Value) (x0_reds : Int32) (p1 : Int32) (p2 : Int32)  (r : Int32) (hf : f_X2_redsIf x0_reds p1 p2 = some r) : MI l g yX2_redsIf wsX2_redsIf 1 24 [.ref a0, .int p1, .int p2] (w_X2_redsIf g a0 u0_0 u0_2 u0_3 u0_4 u0_5 x0_reds) sz (some (.int r)) (w_X2_redsIf g a0 u0_0 u0_2 u0_3 u0_4 u0_5 x0_reds) := by
  refine MI.start (cc := cX2_redsIf) (maxL := 4) (ret := (some .int)) rfl rfl (nle rfl) ?_
  intro p e s m args below meth c A ls Q hQ hexec hb hr hts hown hlocks hml hA hP hD hG hS hl
  unfold f_X2_redsIf at hf
  have hWX2 : ∀ w ∈ wsX20, w.before args s = true := fun w h => hts w (List.mem_cons_of_mem _ (List.mem_append_right _ h))
  have hS : va_S A s.heap s.heap [] := hS
  refine lv_iconst (pc := 0) hexec hb dX2_redsIf_0 ki_1 ?_
  refine lv_iload_n (pc := 1) hexec hb dX2_redsIf_1 rfl (lv_at hl 1 rfl) ?_
  refine lv_ishl (pc := 2) hexec hb dX2_redsIf_2 ?_
  obtain ⟨v3, ev3, hf⟩ := bv_e hf
  refine kn_i ev3 ?_
  refine lv_istore_n (pc := 3) hexec hb dX2_redsIf_3 rfl hl (nle rfl) rfl (fun ls (hl : lv_has ls 4 [(3, .int v3), (0, .ref a0), (1, .int p1), (2, .int p2)]) => ?_)
  refine lv_iload_n (pc := 4) hexec hb dX2_redsIf_4 rfl (lv_at hl 3 rfl) ?_
  refine kb_eq (pc := 5) hexec hb dX2_redsIf_5 (tgt := 17) rfl hf (fun hc hf => ?_) (fun hc hf => ?_)
  · refine lv_aload_n (pc := 17) hexec hb dX2_redsIf_17 rfl (lv_at hl 1 rfl) ?_
    refine kg_get (pc := 18) hexec hb (own := RX2) hWX2 hown hG hP 0 rfl rfl 1 (nle rfl) (hts _ (List.mem_cons_of_mem _ (List.mem_append_left _ (List.mem_of_getElem? (i := 0) rfl)))) rfl rfl dX2_redsIf_18 ?_
    refine lv_iload_n (pc := 21) hexec hb dX2_redsIf_21 rfl (lv_at hl 0 rfl) ?_
    refine lv_iconst (pc := 22) hexec hb dX2_redsIf_22 ki_m1 ?_
    refine lv_ixor (pc := 23) hexec hb dX2_redsIf_23 ?_
    refine lv_iand (pc := 24) hexec hb dX2_redsIf_24 ?_
    cases hf
    exact ke_i hQ hexec hb hr hP hD hS dX2_redsIf_25 hlocks
  · refine lv_aload_n (pc := 8) hexec hb dX2_redsIf_8 rfl (lv_at hl 1 rfl) ?_
    refine kg_get (pc := 9) hexec hb (own := RX2) hWX2 hown hG hP 0 rfl rfl 1 (nle rfl) (hts _ (List.mem_cons_of_mem _ (List.mem_append_left _ (List.mem_of_getElem? (i := 0) rfl)))) rfl rfl dX2_redsIf_9 ?_
    refine lv_iload_n (pc := 12) hexec hb dX2_redsIf_12 rfl (lv_at hl 0 rfl) ?_
    refine lv_ior (pc := 13) hexec hb dX2_redsIf_13 ?_
    refine lv_goto (pc := 14) hexec hb dX2_redsIf_14 (tgt := 25) rfl ?_
    cases hf
    exact ke_i hQ hexec hb hr hP hD hS dX2_redsIf_25 hlocks
abbrev w_X2_inCell (g : GE) (a0 a1 : Nat) (u0_1 u0_3 u0_4 u0_5 : Value) (x0_count : Int32) (y1_home : Nat → Int32) : va_W := [(a0, .inr (2, [.int x0_count, u0_1, .ref a1, u0_3, u0_4, u0_5])), (a1, .inl (g.2.1 0, 8, .inl y1_home))]
set_option maxRecDepth 20000 in
theorem c_X2_inCell (l : Launch) (g : GE) (a0 a1 : Nat) (sz : Nat) (u0_1 u0_3 u0_4 u0_5 : Value) (x0_count : Int32) (y1_home : Nat → Int32) (p1 : Int32)  (r : Int32) (hf : f_X2_inCell x0_count y1_home p1 = some r) : MI l g yX2_inCell wsX2_inCell 1 24 [.ref a0, .int p1] (w_X2_inCell g a0 a1 u0_1 u0_3 u0_4 u0_5 x0_count y1_home) sz (some (.int r)) (w_X2_inCell g a0 a1 u0_1 u0_3 u0_4 u0_5 x0_count y1_home) := by
  refine MI.start (cc := cX2_inCell) (maxL := 3) (ret := (some .int)) rfl rfl (nle rfl) ?_
  intro p e s m args below meth c A ls Q hQ hexec hb hr hts hown hlocks hml hA hP hD hG hS hl
  unfold f_X2_inCell at hf
  have hWX2 : ∀ w ∈ wsX20, w.before args s = true := fun w h => hts w (List.mem_cons_of_mem _ (List.mem_append_right _ h))
  have hS : va_S A s.heap s.heap [] := hS
  refine lv_iconst (pc := 0) hexec hb dX2_inCell_0 ki_0 ?_
  refine lv_istore_n (pc := 1) hexec hb dX2_inCell_1 rfl hl (nle rfl) rfl (fun ls (hl : lv_has ls 3 [(2, .int 0), (0, .ref a0), (1, .int p1)]) => ?_)
  obtain ⟨l2, el2, hf⟩ := bvf1 hf
  obtain ⟨n, hz⟩ := lq1_e hf
  have hL2 : ∀ (n : Nat) (v2 : Int32) (H : Heap) (locs : List Loc) (ls : Array Slot), it1 l2 n v2 = some r → va_P g.1 vwCl (w_X2_inCell g a0 a1 u0_1 u0_3 u0_4 u0_5 x0_count y1_home) H → va_D A (w_X2_inCell g a0 a1 u0_1 u0_3 u0_4 u0_5 x0_count y1_home) → va_S A s.heap H locs → lv_has ls 3 [(0, .ref a0), (1, .int p1), (2, .int v2)] → W p l e (RM 1 24) s m args below meth c H locs 0 0 Q (F0 m 2 ls []) := by
    intro n
    induction n with
    | zero =>
      intro v2 H locs ls hf hP hD hS hl
      exact it1_0 hf
    | succ n2 ih2 =>
      intro v2 H locs ls hf hP hD hS hl
      obtain ⟨q2, hf, hk2⟩ := it1_e hf
      have hf := (el2 v2).symm.trans hf
      refine lv_iload_n (pc := 2) hexec hb dX2_inCell_2 rfl (lv_at hl 2 rfl) ?_
      refine lv_aload_n (pc := 3) hexec hb dX2_inCell_3 rfl (lv_at hl 0 rfl) ?_
      refine kg_get (pc := 4) hexec hb (own := RX2) hWX2 hown hG hP 0 rfl rfl 0 (nle rfl) (hts _ (List.mem_cons_of_mem _ (List.mem_append_left _ (List.mem_of_getElem? (i := 0) rfl)))) rfl rfl dX2_inCell_4 ?_
      refine ki_ge (pc := 7) hexec hb dX2_inCell_7 (tgt := 34) rfl hf (fun hc hf => ?_) (fun hc hf => ?_)
      · have hf := mk1 hf hk2
        refine lv_iconst (pc := 34) hexec hb dX2_inCell_34 ki_m1 ?_
        cases hf
        exact ke_i hQ hexec hb hr hP hD hS dX2_inCell_35 hlocks
      · refine lv_iload_n (pc := 10) hexec hb dX2_inCell_10 rfl (lv_at hl 2 rfl) ?_
        refine lv_bipush (pc := 11) hexec hb dX2_inCell_11 kb_8 ?_
        refine ki_ge (pc := 13) hexec hb dX2_inCell_13 (tgt := 34) rfl hf (fun hc hf => ?_) (fun hc hf => ?_)
        · have hf := mk1 hf hk2
          refine lv_iconst (pc := 34) hexec hb dX2_inCell_34 ki_m1 ?_
          cases hf
          exact ke_i hQ hexec hb hr hP hD hS dX2_inCell_35 hlocks
        · refine lv_aload_n (pc := 16) hexec hb dX2_inCell_16 rfl (lv_at hl 0 rfl) ?_
          refine kg_get (pc := 17) hexec hb (own := RX2) hWX2 hown hG hP 0 rfl rfl 2 (nle rfl) (hts _ (List.mem_cons_of_mem _ (List.mem_append_left _ (List.mem_of_getElem? (i := 1) rfl)))) rfl rfl dX2_inCell_17 ?_
          refine lv_iload_n (pc := 20) hexec hb dX2_inCell_20 rfl (lv_at hl 2 rfl) ?_
          refine kr_iald (pc := 21) hexec hb hG hP 1 rfl hf dX2_inCell_21 (fun hf => ?_)
          refine lv_iload_n (pc := 22) hexec hb dX2_inCell_22 rfl (lv_at hl 1 rfl) ?_
          refine ki_ne (pc := 23) hexec hb dX2_inCell_23 (tgt := 28) rfl hf (fun hc hf => ?_) (fun hc hf => ?_)
          · obtain ⟨v2_1, ev2_1, hf⟩ := bv_e hf
            refine k_iinc (pc := 28) hexec hb dX2_inCell_28 kq_1 hl (k := 2) rfl ev2_1 (nle rfl) rfl (fun ls (hl : lv_has ls 3 [(2, .int v2_1), (0, .ref a0), (1, .int p1)]) => ?_)
            refine lv_goto (pc := 31) hexec hb dX2_inCell_31 (tgt := 2) rfl ?_
            exact ih2 _ _ _ _ (sl1 hf hk2) hP hD hS (lv_sub hl [1, 2, 0] rfl)
          · have hf := mk1 hf hk2
            refine lv_iload_n (pc := 26) hexec hb dX2_inCell_26 rfl (lv_at hl 2 rfl) ?_
            cases hf
            exact ke_i hQ hexec hb hr hP hD hS dX2_inCell_27 hlocks
  exact hL2 n _ _ _ _ hz hP hD hS (lv_sub hl [1, 2, 0] rfl)
abbrev w_X2_placedNames (g : GE) (a0 a1 : Nat) (u0_1 u0_2 u0_4 u0_5 : Value) (x0_count : Int32) (y1_direction : Nat → Int32) : va_W := [(a0, .inr (2, [.int x0_count, u0_1, u0_2, .ref a1, u0_4, u0_5])), (a1, .inl (g.2.1 0, 8, .inl y1_direction))]
set_option maxRecDepth 20000 in
theorem c_X2_placedNames (l : Launch) (g : GE) (a0 a1 : Nat) (sz : Nat) (u0_1 u0_2 u0_4 u0_5 : Value) (x0_count : Int32) (y1_direction : Nat → Int32)   (r : Int32) (hf : f_X2_placedNames x0_count y1_direction = some r) : MI l g yX2_placedNames wsX2_placedNames 2 45 [.ref a0] (w_X2_placedNames g a0 a1 u0_1 u0_2 u0_4 u0_5 x0_count y1_direction) sz (some (.int r)) (w_X2_placedNames g a0 a1 u0_1 u0_2 u0_4 u0_5 x0_count y1_direction) := by
  refine MI.start (cc := cX2_placedNames) (maxL := 3) (ret := (some .int)) rfl rfl (nle rfl) ?_
  intro p e s m args below meth c A ls Q hQ hexec hb hr hts hown hlocks hml hA hP hD hG hS hl
  unfold f_X2_placedNames at hf
  have hWX2 : ∀ w ∈ wsX20, w.before args s = true := fun w h => hts w (List.mem_cons_of_mem _ (List.mem_append_right _ h))
  have hS : va_S A s.heap s.heap [] := hS
  refine lv_iconst (pc := 0) hexec hb dX2_placedNames_0 ki_0 ?_
  refine lv_istore_n (pc := 1) hexec hb dX2_placedNames_1 rfl hl (nle rfl) rfl (fun ls (hl : lv_has ls 3 [(1, .int 0), (0, .ref a0)]) => ?_)
  refine lv_iconst (pc := 2) hexec hb dX2_placedNames_2 ki_0 ?_
  refine lv_istore_n (pc := 3) hexec hb dX2_placedNames_3 rfl hl (nle rfl) rfl (fun ls (hl : lv_has ls 3 [(2, .int 0), (1, .int 0), (0, .ref a0)]) => ?_)
  obtain ⟨l4, el4, hf⟩ := bvf2 hf
  obtain ⟨v1_1, hz, hf⟩ := bd1_e hf
  have hE4 : ∀ (H : Heap) (locs : List Loc) (ls : Array Slot), va_P g.1 vwCl (w_X2_placedNames g a0 a1 u0_1 u0_2 u0_4 u0_5 x0_count y1_direction) H → va_D A (w_X2_placedNames g a0 a1 u0_1 u0_2 u0_4 u0_5 x0_count y1_direction) → va_S A s.heap H locs → lv_has ls 3 [(1, .int v1_1)] → W p l e (RM 2 45) s m args below meth c H locs 0 0 Q (F0 m 33 ls []) := by
    intro H locs ls hP hD hS hl
    refine lv_iload_n (pc := 33) hexec hb dX2_placedNames_33 rfl (lv_at hl 0 rfl) ?_
    cases hf
    exact ke_i hQ hexec hb hr hP hD hS dX2_placedNames_34 hlocks
  obtain ⟨n, hz⟩ := lq2_e hz
  have hL4 : ∀ (n : Nat) (v1 : Int32) (v2 : Int32) (H : Heap) (locs : List Loc) (ls : Array Slot), it2 l4 n v1 v2 = some v1_1 → va_P g.1 vwCl (w_X2_placedNames g a0 a1 u0_1 u0_2 u0_4 u0_5 x0_count y1_direction) H → va_D A (w_X2_placedNames g a0 a1 u0_1 u0_2 u0_4 u0_5 x0_count y1_direction) → va_S A s.heap H locs → lv_has ls 3 [(0, .ref a0), (1, .int v1), (2, .int v2)] → W p l e (RM 2 45) s m args below meth c H locs 0 0 Q (F0 m 4 ls []) := by
    intro n
    induction n with
    | zero =>
      intro v1 v2 H locs ls hf hP hD hS hl
      exact it2_0 hf
    | succ n4 ih4 =>
      intro v1 v2 H locs ls hf hP hD hS hl
      obtain ⟨q4, hf, hk4⟩ := it2_e hf
      have hf := (el4 v1 v2).symm.trans hf
      refine lv_iload_n (pc := 4) hexec hb dX2_placedNames_4 rfl (lv_at hl 2 rfl) ?_
      refine lv_aload_n (pc := 5) hexec hb dX2_placedNames_5 rfl (lv_at hl 0 rfl) ?_
      refine kg_get (pc := 6) hexec hb (own := RX2) hWX2 hown hG hP 0 rfl rfl 0 (nle rfl) (hts _ (List.mem_cons_of_mem _ (List.mem_append_left _ (List.mem_of_getElem? (i := 0) rfl)))) rfl rfl dX2_placedNames_6 ?_
      refine ki_ge (pc := 9) hexec hb dX2_placedNames_9 (tgt := 33) rfl hf (fun hc hf => ?_) (fun hc hf => ?_)
      · cases sr2 hf hk4
        exact hE4 _ _ _ hP hD hS (lv_sub hl [1] rfl)
      · refine lv_aload_n (pc := 12) hexec hb dX2_placedNames_12 rfl (lv_at hl 0 rfl) ?_
        refine lv_iload_n (pc := 13) hexec hb dX2_placedNames_13 rfl (lv_at hl 2 rfl) ?_
        obtain ⟨r14, hc, hf⟩ := bd1_e hf
        refine kVp (pc := 14) (S := ⟨hexec, hb, hml, hown, hts⟩) hP hD hG hA hS [0, 1] [] [0, 1] (w2 := (w_X2_placedNames g a0 a1 u0_1 u0_2 u0_4 u0_5 x0_count y1_direction)) rfl rfl rfl rfl rfl rfl (by decide) (c_X2_directionOf l g a0 a1 _ u0_1 u0_2 u0_4 u0_5 x0_count y1_direction v2 r14 hc) gX2_placedNames_X2_directionOf rfl hv_X2_directionOf ⟨nle rfl, nle rfl⟩ 2 0 rfl rfl rfl (rest := []) rfl rfl hl.1 (nle rfl) dX2_placedNames_14 (fun H locs hP hD hS => ?_)
        refine lv_iconst (pc := 17) hexec hb dX2_placedNames_17 ki_m1 ?_
        obtain ⟨j27, ej27, hf⟩ := bvf1 hf
        have hj27 : ∀ (v1_2 : Int32) (H : Heap) (locs : List Loc) (ls : Array Slot), j27 v1_2 = some q4 → va_P g.1 vwCl (w_X2_placedNames g a0 a1 u0_1 u0_2 u0_4 u0_5 x0_count y1_direction) H → va_D A (w_X2_placedNames g a0 a1 u0_1 u0_2 u0_4 u0_5 x0_count y1_direction) → va_S A s.heap H locs → lv_has ls 3 [(0, .ref a0), (1, .int v1_2), (2, .int v2)] → W p l e (RM 2 45) s m args below meth c H locs 0 0 Q (F0 m 27 ls []) := by
          intro v1_2 H locs ls hf hP hD hS hl
          have hf := (ej27 v1_2).symm.trans hf
          obtain ⟨v2_1, ev2_1, hf⟩ := bv_e hf
          refine k_iinc (pc := 27) hexec hb dX2_placedNames_27 kq_1 hl (k := 2) rfl ev2_1 (nle rfl) rfl (fun ls (hl : lv_has ls 3 [(2, .int v2_1), (0, .ref a0), (1, .int v1_2)]) => ?_)
          refine lv_goto (pc := 30) hexec hb dX2_placedNames_30 (tgt := 4) rfl ?_
          exact ih4 _ _ _ _ _ (sl2 hf hk4) hP hD hS (lv_sub hl [1, 2, 0] rfl)
        refine ki_eq (pc := 18) hexec hb dX2_placedNames_18 (tgt := 27) rfl hf (fun hc hf => ?_) (fun hc hf => ?_)
        · exact hj27 _ _ _ _ hf hP hD hS (lv_sub hl [0, 1, 2] rfl)
        · refine lv_iload_n (pc := 21) hexec hb dX2_placedNames_21 rfl (lv_at hl 1 rfl) ?_
          refine lv_iconst (pc := 22) hexec hb dX2_placedNames_22 ki_1 ?_
          refine lv_iload_n (pc := 23) hexec hb dX2_placedNames_23 rfl (lv_at hl 2 rfl) ?_
          refine lv_ishl (pc := 24) hexec hb dX2_placedNames_24 ?_
          refine lv_ior (pc := 25) hexec hb dX2_placedNames_25 ?_
          obtain ⟨v1_3, ev1_3, hf⟩ := bv_e hf
          refine kn_i ev1_3 ?_
          refine lv_istore_n (pc := 26) hexec hb dX2_placedNames_26 rfl hl (nle rfl) rfl (fun ls (hl : lv_has ls 3 [(1, .int v1_3), (0, .ref a0), (2, .int v2)]) => ?_)
          exact hj27 _ _ _ _ hf hP hD hS (lv_sub hl [1, 0, 2] rfl)
  exact hL4 n _ _ _ _ _ hz hP hD hS (lv_sub hl [2, 1, 0] rfl)
