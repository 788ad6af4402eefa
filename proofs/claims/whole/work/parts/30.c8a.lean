abbrev w_X8_append (g : GE) (a0 a1 a2 : Nat) (u0_0 u0_1 u0_2 u0_3 u0_5 u0_6 u0_7 u0_8 u0_9 u1_0 u1_1 u1_4 u1_5 u1_6 u1_7 u1_8 u1_9 u1_10 u1_11 u1_12 u1_13 : Value) (x1_length : Int32) (y2_text : Nat → Int32) : va_W := [(a0, .inr (8, [u0_0, u0_1, u0_2, u0_3, .ref a1, u0_5, u0_6, u0_7, u0_8, u0_9])), (a1, .inr (5, [u1_0, u1_1, .ref a2, .int x1_length, u1_4, u1_5, u1_6, u1_7, u1_8, u1_9, u1_10, u1_11, u1_12, u1_13])), (a2, .inl (g.2.1 0, 500, .inl y2_text))]
set_option maxRecDepth 20000 in
theorem c_X8_append (l : Launch) (g : GE) (a0 a1 a2 : Nat) (sz : Nat) (u0_0 u0_1 u0_2 u0_3 u0_5 u0_6 u0_7 u0_8 u0_9 u1_0 u1_1 u1_4 u1_5 u1_6 u1_7 u1_8 u1_9 u1_10 u1_11 u1_12 u1_13 : Value) (x1_length : Int32) (y2_text : Nat → Int32) (p1 : Int64)  (r : Int32) (o_x1_length : Int32) (o_y2_text : Nat → Int32) (hf : f_X8_append x1_length y2_text p1 = some (r, o_x1_length, o_y2_text)) : MI l g yX8_append wsX8_append 2 46 [.ref a0, .long p1] (w_X8_append g a0 a1 a2 u0_0 u0_1 u0_2 u0_3 u0_5 u0_6 u0_7 u0_8 u0_9 u1_0 u1_1 u1_4 u1_5 u1_6 u1_7 u1_8 u1_9 u1_10 u1_11 u1_12 u1_13 x1_length y2_text) sz (some (.int r)) (w_X8_append g a0 a1 a2 u0_0 u0_1 u0_2 u0_3 u0_5 u0_6 u0_7 u0_8 u0_9 u1_0 u1_1 u1_4 u1_5 u1_6 u1_7 u1_8 u1_9 u1_10 u1_11 u1_12 u1_13 o_x1_length o_y2_text) := by
  refine MI.start (cc := cX8_append) (maxL := 5) (ret := (some .int)) rfl rfl (nle rfl) ?_
  intro p e s m args below meth c A ls Q hQ hexec hb hr hts hown hlocks hml hA hP hD hG hS hl
  unfold f_X8_append at hf
  have hWX5 : ∀ w ∈ wsX50, w.before args s = true := fun w h => hts w (List.mem_cons_of_mem _ (List.mem_append_right _ h))
  have hWX8 : ∀ w ∈ wsX80, w.before args s = true := fun w h => hts w (List.mem_cons_of_mem _ (List.mem_append_left _ (List.mem_append_right _ h)))
  have hS : va_S A s.heap s.heap [] := hS
  refine lv_iconst (pc := 0) hexec hb dX8_append_0 ki_0 ?_
  refine lv_istore_n (pc := 1) hexec hb dX8_append_1 rfl hl (nle rfl) rfl (fun ls (hl : lv_has ls 5 [(3, .int 0), (0, .ref a0), (1, .long p1)]) => ?_)
  refine lv_bipush (pc := 2) hexec hb dX8_append_2 kb_56 ?_
  refine lv_istore (pc := 4) hexec hb dX8_append_4 hl (nle rfl) rfl (fun ls (hl : lv_has ls 5 [(4, .int 56), (3, .int 0), (0, .ref a0), (1, .long p1)]) => ?_)
  obtain ⟨l6, el6, hf⟩ := bvf2 hf
  obtain ⟨v3_1, hz, hf⟩ := bd1_e hf
  have hE6 : ∀ (H : Heap) (locs : List Loc) (ls : Array Slot), va_P g.1 vwCl (w_X8_append g a0 a1 a2 u0_0 u0_1 u0_2 u0_3 u0_5 u0_6 u0_7 u0_8 u0_9 u1_0 u1_1 u1_4 u1_5 u1_6 u1_7 u1_8 u1_9 u1_10 u1_11 u1_12 u1_13 x1_length y2_text) H → va_D A (w_X8_append g a0 a1 a2 u0_0 u0_1 u0_2 u0_3 u0_5 u0_6 u0_7 u0_8 u0_9 u1_0 u1_1 u1_4 u1_5 u1_6 u1_7 u1_8 u1_9 u1_10 u1_11 u1_12 u1_13 x1_length y2_text) → va_S A s.heap H locs → lv_has ls 5 [(0, .ref a0), (1, .long p1), (3, .int v3_1)] → W p l e (RM 2 46) s m args below meth c H locs 0 0 Q (F0 m 29 ls []) := by
    intro H locs ls hP hD hS hl
    refine lv_aload_n (pc := 29) hexec hb dX8_append_29 rfl (lv_at hl 0 rfl) ?_
    refine kg_get (pc := 30) hexec hb (own := RX8) hWX8 hown hG hP 0 rfl rfl 4 (nle rfl) (hts _ (List.mem_cons_of_mem _ (List.mem_append_left _ (List.mem_append_left _ (List.mem_of_getElem? (i := 0) rfl))))) rfl rfl dX8_append_30 ?_
    refine kg_getN (pc := 33) hexec hb (own := RX8) hWX5 hown hG hP 1 rfl rfl 3 (nle rfl) 38 rfl rfl rfl dX8_append_33 ?_
    refine lv_iload_n (pc := 36) hexec hb dX8_append_36 rfl (lv_at hl 2 rfl) ?_
    refine lv_iadd (pc := 37) hexec hb dX8_append_37 ?_
    refine lv_sipush (pc := 38) hexec hb dX8_append_38 ks_500 ?_
    refine ki_le (pc := 41) hexec hb dX8_append_41 (tgt := 47) rfl hf (fun hc hf => ?_) (fun hc hf => ?_)
    · refine lv_bipush (pc := 47) hexec hb dX8_append_47 kb_56 ?_
      refine lv_istore (pc := 49) hexec hb dX8_append_49 hl (nle rfl) rfl (fun ls (hl : lv_has ls 5 [(4, .int 56), (0, .ref a0), (1, .long p1), (3, .int v3_1)]) => ?_)
      obtain ⟨l51, el51, hf⟩ := bvf3 hf
      obtain ⟨x1_length_2, y2_text_2, hz, hf⟩ := bd2_e hf
      have hE51 : ∀ (H : Heap) (locs : List Loc) (ls : Array Slot), va_P g.1 vwCl (w_X8_append g a0 a1 a2 u0_0 u0_1 u0_2 u0_3 u0_5 u0_6 u0_7 u0_8 u0_9 u1_0 u1_1 u1_4 u1_5 u1_6 u1_7 u1_8 u1_9 u1_10 u1_11 u1_12 u1_13 x1_length_2 y2_text_2) H → va_D A (w_X8_append g a0 a1 a2 u0_0 u0_1 u0_2 u0_3 u0_5 u0_6 u0_7 u0_8 u0_9 u1_0 u1_1 u1_4 u1_5 u1_6 u1_7 u1_8 u1_9 u1_10 u1_11 u1_12 u1_13 x1_length_2 y2_text_2) → va_S A s.heap H locs → lv_has ls 5 [(0, .ref a0)] → W p l e (RM 2 46) s m args below meth c H locs 0 0 Q (F0 m 84 ls []) := by
        intro H locs ls hP hD hS hl
        refine lv_aload_n (pc := 84) hexec hb dX8_append_84 rfl (lv_at hl 0 rfl) ?_
        refine kg_get (pc := 85) hexec hb (own := RX8) hWX8 hown hG hP 0 rfl rfl 4 (nle rfl) (hts _ (List.mem_cons_of_mem _ (List.mem_append_left _ (List.mem_append_left _ (List.mem_of_getElem? (i := 0) rfl))))) rfl rfl dX8_append_85 ?_
        refine kg_getN (pc := 88) hexec hb (own := RX8) hWX5 hown hG hP 1 rfl rfl 3 (nle rfl) 38 rfl rfl rfl dX8_append_88 ?_
        cases hf
        exact ke_i hQ hexec hb hr hP hD hS dX8_append_91 hlocks
      obtain ⟨n, hz⟩ := lq3_e hz
      have hL51 : ∀ (n : Nat) (v4_2 : Int32) (x1_length_1 : Int32) (y2_text_1 : Nat → Int32) (H : Heap) (locs : List Loc) (ls : Array Slot), it3 l51 n v4_2 x1_length_1 y2_text_1 = some (x1_length_2, y2_text_2) → va_P g.1 vwCl (w_X8_append g a0 a1 a2 u0_0 u0_1 u0_2 u0_3 u0_5 u0_6 u0_7 u0_8 u0_9 u1_0 u1_1 u1_4 u1_5 u1_6 u1_7 u1_8 u1_9 u1_10 u1_11 u1_12 u1_13 x1_length_1 y2_text_1) H → va_D A (w_X8_append g a0 a1 a2 u0_0 u0_1 u0_2 u0_3 u0_5 u0_6 u0_7 u0_8 u0_9 u1_0 u1_1 u1_4 u1_5 u1_6 u1_7 u1_8 u1_9 u1_10 u1_11 u1_12 u1_13 x1_length_1 y2_text_1) → va_S A s.heap H locs → lv_has ls 5 [(0, .ref a0), (1, .long p1), (4, .int v4_2)] → W p l e (RM 2 46) s m args below meth c H locs 0 0 Q (F0 m 51 ls []) := by
        intro n
        induction n with
        | zero =>
          intro v4_2 x1_length_1 y2_text_1 H locs ls hf hP hD hS hl
          exact it3_0 hf
        | succ n51 ih51 =>
          intro v4_2 x1_length_1 y2_text_1 H locs ls hf hP hD hS hl
          obtain ⟨q51, hf, hk51⟩ := it3_e hf
          have hf := (el51 v4_2 x1_length_1 y2_text_1).symm.trans hf
          refine lv_iload (pc := 51) hexec hb dX8_append_51 (lv_at hl 2 rfl) ?_
          refine kb_lt (pc := 53) hexec hb dX8_append_53 (tgt := 84) rfl hf (fun hc hf => ?_) (fun hc hf => ?_)
          · cases sr3 hf hk51
            exact hE51 _ _ _ hP hD hS (lv_sub hl [0] rfl)
          · refine lv_lload_n (pc := 56) hexec hb dX8_append_56 rfl (lv_at hl 1 rfl) ?_
            refine lv_iload (pc := 57) hexec hb dX8_append_57 (lv_at hl 2 rfl) ?_
            obtain ⟨r59, hc, hf⟩ := bd1_e hf
            refine kSp (pc := 59) (S := ⟨hexec, hb, hml, hown, hts⟩) hP hD hG hA hS [] [0, 1, 2] [0, 1, 2] (w2 := (w_X8_append g a0 a1 a2 u0_0 u0_1 u0_2 u0_3 u0_5 u0_6 u0_7 u0_8 u0_9 u1_0 u1_1 u1_4 u1_5 u1_6 u1_7 u1_8 u1_9 u1_10 u1_11 u1_12 u1_13 x1_length_1 y2_text_1)) rfl rfl rfl rfl rfl rfl (by decide) (c_X8_byteOf l g _ p1 v4_2 r59 hc) gX8_append_X8_byteOf rfl hs_X8_byteOf ⟨nle rfl, nle rfl⟩ (rest := []) rfl rfl hl.1 (nle rfl) dX8_append_59 (fun H locs hP hD hS => ?_)
            obtain ⟨j78, ej78, hf⟩ := bvf2 hf
            have hj78 : ∀ (x1_length_3 : Int32) (y2_text_3 : Nat → Int32) (H : Heap) (locs : List Loc) (ls : Array Slot), j78 x1_length_3 y2_text_3 = some q51 → va_P g.1 vwCl (w_X8_append g a0 a1 a2 u0_0 u0_1 u0_2 u0_3 u0_5 u0_6 u0_7 u0_8 u0_9 u1_0 u1_1 u1_4 u1_5 u1_6 u1_7 u1_8 u1_9 u1_10 u1_11 u1_12 u1_13 x1_length_3 y2_text_3) H → va_D A (w_X8_append g a0 a1 a2 u0_0 u0_1 u0_2 u0_3 u0_5 u0_6 u0_7 u0_8 u0_9 u1_0 u1_1 u1_4 u1_5 u1_6 u1_7 u1_8 u1_9 u1_10 u1_11 u1_12 u1_13 x1_length_3 y2_text_3) → va_S A s.heap H locs → lv_has ls 5 [(0, .ref a0), (1, .long p1), (4, .int v4_2)] → W p l e (RM 2 46) s m args below meth c H locs 0 0 Q (F0 m 78 ls []) := by
              intro x1_length_3 y2_text_3 H locs ls hf hP hD hS hl
              have hf := (ej78 x1_length_3 y2_text_3).symm.trans hf
              obtain ⟨v4_3, ev4_3, hf⟩ := bv_e hf
              refine k_iinc (pc := 78) hexec hb dX8_append_78 kq_m8 hl (k := 2) rfl ev4_3 (nle rfl) rfl (fun ls (hl : lv_has ls 5 [(4, .int v4_3), (0, .ref a0), (1, .long p1)]) => ?_)
              refine lv_goto (pc := 81) hexec hb dX8_append_81 (tgt := 51) rfl ?_
              exact ih51 _ _ _ _ _ _ (sl3 hf hk51) hP hD hS (lv_sub hl [1, 2, 0] rfl)
            refine kb_eq (pc := 62) hexec hb dX8_append_62 (tgt := 78) rfl hf (fun hc hf => ?_) (fun hc hf => ?_)
            · exact hj78 _ _ _ _ _ hf hP hD hS (lv_sub hl [0, 1, 2] rfl)
            · refine lv_aload_n (pc := 65) hexec hb dX8_append_65 rfl (lv_at hl 0 rfl) ?_
              refine kg_get (pc := 66) hexec hb (own := RX8) hWX8 hown hG hP 0 rfl rfl 4 (nle rfl) (hts _ (List.mem_cons_of_mem _ (List.mem_append_left _ (List.mem_append_left _ (List.mem_of_getElem? (i := 0) rfl))))) rfl rfl dX8_append_66 ?_
              refine lv_lload_n (pc := 69) hexec hb dX8_append_69 rfl (lv_at hl 1 rfl) ?_
              refine lv_iload (pc := 70) hexec hb dX8_append_70 (lv_at hl 2 rfl) ?_
              obtain ⟨r72, hc, hf⟩ := bd1_e hf
              refine kSp (pc := 72) (S := ⟨hexec, hb, hml, hown, hts⟩) hP hD hG hA hS [] [0, 1, 2] [0, 1, 2] (w2 := (w_X8_append g a0 a1 a2 u0_0 u0_1 u0_2 u0_3 u0_5 u0_6 u0_7 u0_8 u0_9 u1_0 u1_1 u1_4 u1_5 u1_6 u1_7 u1_8 u1_9 u1_10 u1_11 u1_12 u1_13 x1_length_1 y2_text_1)) rfl rfl rfl rfl rfl rfl (by decide) (c_X8_byteOf l g _ p1 v4_2 r72 hc) gX8_append_X8_byteOf rfl hs_X8_byteOf ⟨nle rfl, nle rfl⟩ (rest := [.ref a1]) rfl rfl hl.1 (nle rfl) dX8_append_72 (fun H locs hP hD hS => ?_)
              obtain ⟨x1_length_4, y2_text_4, hc, hf⟩ := bd2_e hf
              refine kVp (pc := 75) (S := ⟨hexec, hb, hml, hown, hts⟩) hP hD hG hA hS [1, 2] [0] [0, 1, 2] (w2 := (w_X8_append g a0 a1 a2 u0_0 u0_1 u0_2 u0_3 u0_5 u0_6 u0_7 u0_8 u0_9 u1_0 u1_1 u1_4 u1_5 u1_6 u1_7 u1_8 u1_9 u1_10 u1_11 u1_12 u1_13 x1_length_4 y2_text_4)) rfl rfl rfl rfl rfl rfl (by decide) (c_X5_addByte l g a1 a2 _ u1_0 u1_1 u1_4 u1_5 u1_6 u1_7 u1_8 u1_9 u1_10 u1_11 u1_12 u1_13 x1_length_1 y2_text_1 r72 x1_length_4 y2_text_4 hc) gX8_append_X5_addByte rfl hv_X5_addByte ⟨nle rfl, nle rfl⟩ 5 0 rfl rfl rfl (rest := []) rfl rfl hl.1 (nle rfl) dX8_append_75 (fun H locs hP hD hS => ?_)
              exact hj78 _ _ _ _ _ hf hP hD hS (lv_sub hl [0, 1, 2] rfl)
      exact hL51 n _ _ _ _ _ _ hz hP hD hS (lv_sub hl [1, 2, 0] rfl)
    · refine lv_bipush (pc := 44) hexec hb dX8_append_44 kb_m2 ?_
      cases hf
      exact ke_i hQ hexec hb hr hP hD hS dX8_append_46 hlocks
  obtain ⟨n, hz⟩ := lq2_e hz
  have hL6 : ∀ (n : Nat) (v3 : Int32) (v4 : Int32) (H : Heap) (locs : List Loc) (ls : Array Slot), it2 l6 n v3 v4 = some v3_1 → va_P g.1 vwCl (w_X8_append g a0 a1 a2 u0_0 u0_1 u0_2 u0_3 u0_5 u0_6 u0_7 u0_8 u0_9 u1_0 u1_1 u1_4 u1_5 u1_6 u1_7 u1_8 u1_9 u1_10 u1_11 u1_12 u1_13 x1_length y2_text) H → va_D A (w_X8_append g a0 a1 a2 u0_0 u0_1 u0_2 u0_3 u0_5 u0_6 u0_7 u0_8 u0_9 u1_0 u1_1 u1_4 u1_5 u1_6 u1_7 u1_8 u1_9 u1_10 u1_11 u1_12 u1_13 x1_length y2_text) → va_S A s.heap H locs → lv_has ls 5 [(0, .ref a0), (1, .long p1), (3, .int v3), (4, .int v4)] → W p l e (RM 2 46) s m args below meth c H locs 0 0 Q (F0 m 6 ls []) := by
    intro n
    induction n with
    | zero =>
      intro v3 v4 H locs ls hf hP hD hS hl
      exact it2_0 hf
    | succ n6 ih6 =>
      intro v3 v4 H locs ls hf hP hD hS hl
      obtain ⟨q6, hf, hk6⟩ := it2_e hf
      have hf := (el6 v3 v4).symm.trans hf
      refine lv_iload (pc := 6) hexec hb dX8_append_6 (lv_at hl 3 rfl) ?_
      refine kb_lt (pc := 8) hexec hb dX8_append_8 (tgt := 29) rfl hf (fun hc hf => ?_) (fun hc hf => ?_)
      · cases sr2 hf hk6
        exact hE6 _ _ _ hP hD hS (lv_sub hl [0, 1, 2] rfl)
      · refine lv_lload_n (pc := 11) hexec hb dX8_append_11 rfl (lv_at hl 1 rfl) ?_
        refine lv_iload (pc := 12) hexec hb dX8_append_12 (lv_at hl 3 rfl) ?_
        obtain ⟨r14, hc, hf⟩ := bd1_e hf
        refine kSp (pc := 14) (S := ⟨hexec, hb, hml, hown, hts⟩) hP hD hG hA hS [] [0, 1, 2] [0, 1, 2] (w2 := (w_X8_append g a0 a1 a2 u0_0 u0_1 u0_2 u0_3 u0_5 u0_6 u0_7 u0_8 u0_9 u1_0 u1_1 u1_4 u1_5 u1_6 u1_7 u1_8 u1_9 u1_10 u1_11 u1_12 u1_13 x1_length y2_text)) rfl rfl rfl rfl rfl rfl (by decide) (c_X8_byteOf l g _ p1 v4 r14 hc) gX8_append_X8_byteOf rfl hs_X8_byteOf ⟨nle rfl, nle rfl⟩ (rest := []) rfl rfl hl.1 (nle rfl) dX8_append_14 (fun H locs hP hD hS => ?_)
        obtain ⟨j23, ej23, hf⟩ := bvf1 hf
        have hj23 : ∀ (v3_2 : Int32) (H : Heap) (locs : List Loc) (ls : Array Slot), j23 v3_2 = some q6 → va_P g.1 vwCl (w_X8_append g a0 a1 a2 u0_0 u0_1 u0_2 u0_3 u0_5 u0_6 u0_7 u0_8 u0_9 u1_0 u1_1 u1_4 u1_5 u1_6 u1_7 u1_8 u1_9 u1_10 u1_11 u1_12 u1_13 x1_length y2_text) H → va_D A (w_X8_append g a0 a1 a2 u0_0 u0_1 u0_2 u0_3 u0_5 u0_6 u0_7 u0_8 u0_9 u1_0 u1_1 u1_4 u1_5 u1_6 u1_7 u1_8 u1_9 u1_10 u1_11 u1_12 u1_13 x1_length y2_text) → va_S A s.heap H locs → lv_has ls 5 [(0, .ref a0), (1, .long p1), (3, .int v3_2), (4, .int v4)] → W p l e (RM 2 46) s m args below meth c H locs 0 0 Q (F0 m 23 ls []) := by
          intro v3_2 H locs ls hf hP hD hS hl
          have hf := (ej23 v3_2).symm.trans hf
          obtain ⟨v4_1, ev4_1, hf⟩ := bv_e hf
          refine k_iinc (pc := 23) hexec hb dX8_append_23 kq_m8 hl (k := 3) rfl ev4_1 (nle rfl) rfl (fun ls (hl : lv_has ls 5 [(4, .int v4_1), (0, .ref a0), (1, .long p1), (3, .int v3_2)]) => ?_)
          refine lv_goto (pc := 26) hexec hb dX8_append_26 (tgt := 6) rfl ?_
          exact ih6 _ _ _ _ _ (sl2 hf hk6) hP hD hS (lv_sub hl [1, 2, 3, 0] rfl)
        refine kb_eq (pc := 17) hexec hb dX8_append_17 (tgt := 23) rfl hf (fun hc hf => ?_) (fun hc hf => ?_)
        · exact hj23 _ _ _ _ hf hP hD hS (lv_sub hl [0, 1, 2, 3] rfl)
        · obtain ⟨v3_3, ev3_3, hf⟩ := bv_e hf
          refine k_iinc (pc := 20) hexec hb dX8_append_20 kq_1 hl (k := 2) rfl ev3_3 (nle rfl) rfl (fun ls (hl : lv_has ls 5 [(3, .int v3_3), (0, .ref a0), (1, .long p1), (4, .int v4)]) => ?_)
          exact hj23 _ _ _ _ hf hP hD hS (lv_sub hl [1, 2, 0, 3] rfl)
  exact hL6 n _ _ _ _ _ hz hP hD hS (lv_sub hl [2, 3, 1, 0] rfl)
abbrev w_X8_load (g : GE) (a0 a1 a2 a3 a4 a5 a6 a7 a8 a9 a10 a11 a12 a13 a14 a15 a16 a17 a18 a19 a20 a21 a22 a23 a24 a25 a26 a27 a28 a29 a30 a31 a32 a33 a34 a35 : Nat) (u0_2 u0_3 u0_7 u0_8 u0_9 u1_0 u1_1 : Value) (x0_errorKind : Int32) (x0_errorStatement : Int32) (x1_count : Int32) (x2_length : Int32) (x2_at : Int32) (x2_voyageTold : Int32) (x2_wordStart : Int32) (x2_wordLength : Int32) (x2_numberStart : Int32) (x2_number : Int32) (x2_cell : Int32) (x2_statement : Int32) (x2_error : Int32) (x2_errorAt : Int32) (x5_length : Int32) (y6_text : Nat → Int32) (x7_rows : Int32) (x7_columns : Int32) (x7_rivers : Int32) (x8_count : Int32) (x8_reds : Int32) (x9_count : Int32) (x9_next : Int32) (x9_turn : Int32) (x9_quarters : Int32) (y10_letterOn : Nat → Int32) (y11_namesOn : Nat → Int32) (x12_rows : Int32) (x12_columns : Int32) (x12_rivers : Int32) (x13_count : Int32) (x13_reds : Int32) (x14_count : Int32) (x14_next : Int32) (x14_turn : Int32) (x14_quarters : Int32) (y15_letterOn : Nat → Int32) (y16_namesOn : Nat → Int32) (y17_costs : Nat → Int32) (y18_sums : Nat → Int32) (y19_way : Nat → Int32) (y20_land : Nat → Int32) (y21_riverOf : Nat → Int32) (y22_riverPlace : Nat → Int32) (y23_direction : Nat → Int32) (y24_home : Nat → Int32) (y25_length : Nat → Int32) (y26_letters : Nat → Int32) (y27_stops : Nat → Int32) (y28_land : Nat → Int32) (y29_riverOf : Nat → Int32) (y30_riverPlace : Nat → Int32) (y31_direction : Nat → Int32) (y32_home : Nat → Int32) (y33_length : Nat → Int32) (y34_letters : Nat → Int32) (y35_stops : Nat → Int32) : va_W := [(a0, .inr (8, [.ref a3, .ref a1, u0_2, u0_3, .ref a2, .int x0_errorKind, .int x0_errorStatement, u0_7, u0_8, u0_9])), (a1, .inr (3, [u1_0, u1_1, .int x1_count])), (a2, .inr (5, [.ref a4, .ref a5, .ref a6, .int x2_length, .int x2_at, .int x2_voyageTold, .int x2_wordStart, .int x2_wordLength, .int x2_numberStart, .int x2_number, .int x2_cell, .int x2_statement, .int x2_error, .int x2_errorAt])), (a3, .inr (6, [.ref a7, .ref a8, .ref a9, .ref a11, .ref a10])), (a4, .inr (6, [.ref a12, .ref a13, .ref a14, .ref a16, .ref a15])), (a5, .inr (7, [.ref a17, .ref a18, .ref a19, .int x5_length])), (a6, .inl (g.2.1 0, 500, .inl y6_text)), (a7, .inr (1, [.int x7_rows, .int x7_columns, .int x7_rivers, .ref a20, .ref a21, .ref a22])), (a8, .inr (2, [.int x8_count, .int x8_reds, .ref a24, .ref a23, .ref a25, .ref a26])), (a9, .inr (4, [.int x9_count, .int x9_next, .int x9_turn, .int x9_quarters, .ref a27])), (a10, .inl (g.2.1 0, 144, .inl y10_letterOn)), (a11, .inl (g.2.1 0, 144, .inl y11_namesOn)), (a12, .inr (1, [.int x12_rows, .int x12_columns, .int x12_rivers, .ref a28, .ref a29, .ref a30])), (a13, .inr (2, [.int x13_count, .int x13_reds, .ref a32, .ref a31, .ref a33, .ref a34])), (a14, .inr (4, [.int x14_count, .int x14_next, .int x14_turn, .int x14_quarters, .ref a35])), (a15, .inl (g.2.1 0, 144, .inl y15_letterOn)), (a16, .inl (g.2.1 0, 144, .inl y16_namesOn)), (a17, .inl (g.2.1 0, 144, .inl y17_costs)), (a18, .inl (g.2.1 0, 144, .inl y18_sums)), (a19, .inl (g.2.1 0, 144, .inl y19_way)), (a20, .inl (g.2.1 1, 144, .inl y20_land)), (a21, .inl (g.2.1 0, 144, .inl y21_riverOf)), (a22, .inl (g.2.1 0, 144, .inl y22_riverPlace)), (a23, .inl (g.2.1 0, 8, .inl y23_direction)), (a24, .inl (g.2.1 0, 8, .inl y24_home)), (a25, .inl (g.2.1 0, 8, .inl y25_length)), (a26, .inl (g.2.1 0, 64, .inl y26_letters)), (a27, .inl (g.2.1 0, 16, .inl y27_stops)), (a28, .inl (g.2.1 1, 144, .inl y28_land)), (a29, .inl (g.2.1 0, 144, .inl y29_riverOf)), (a30, .inl (g.2.1 0, 144, .inl y30_riverPlace)), (a31, .inl (g.2.1 0, 8, .inl y31_direction)), (a32, .inl (g.2.1 0, 8, .inl y32_home)), (a33, .inl (g.2.1 0, 8, .inl y33_length)), (a34, .inl (g.2.1 0, 64, .inl y34_letters)), (a35, .inl (g.2.1 0, 16, .inl y35_stops))]
set_option maxRecDepth 20000 in
theorem c_X8_load (l : Launch) (g : GE) (a0 a1 a2 a3 a4 a5 a6 a7 a8 a9 a10 a11 a12 a13 a14 a15 a16 a17 a18 a19 a20 a21 a22 a23 a24 a25 a26 a27 a28 a29 a30 a31 a32 a33 a34 a35 : Nat) (sz : Nat) (u0_2 u0_3 u0_7 u0_8 u0_9 u1_0 u1_1 : Value) (x0_errorKind : Int32) (x0_errorStatement : Int32) (x1_count : Int32) (x2_length : Int32) (x2_at : Int32) (x2_voyageTold : Int32) (x2_wordStart : Int32) (x2_wordLength : Int32) (x2_numberStart : Int32) (x2_number : Int32) (x2_cell : Int32) (x2_statement : Int32) (x2_error : Int32) (x2_errorAt : Int32) (x5_length : Int32) (y6_text : Nat → Int32) (x7_rows : Int32) (x7_columns : Int32) (x7_rivers : Int32) (x8_count : Int32) (x8_reds : Int32) (x9_count : Int32) (x9_next : Int32) (x9_turn : Int32) (x9_quarters : Int32) (y10_letterOn : Nat → Int32) (y11_namesOn : Nat → Int32) (x12_rows : Int32) (x12_columns : Int32) (x12_rivers : Int32) (x13_count : Int32) (x13_reds : Int32) (x14_count : Int32) (x14_next : Int32) (x14_turn : Int32) (x14_quarters : Int32) (y15_letterOn : Nat → Int32) (y16_namesOn : Nat → Int32) (y17_costs : Nat → Int32) (y18_sums : Nat → Int32) (y19_way : Nat → Int32) (y20_land : Nat → Int32) (y21_riverOf : Nat → Int32) (y22_riverPlace : Nat → Int32) (y23_direction : Nat → Int32) (y24_home : Nat → Int32) (y25_length : Nat → Int32) (y26_letters : Nat → Int32) (y27_stops : Nat → Int32) (y28_land : Nat → Int32) (y29_riverOf : Nat → Int32) (y30_riverPlace : Nat → Int32) (y31_direction : Nat → Int32) (y32_home : Nat → Int32) (y33_length : Nat → Int32) (y34_letters : Nat → Int32) (y35_stops : Nat → Int32)   (r : Int32) (o_x0_errorKind : Int32) (o_x0_errorStatement : Int32) (o_x1_count : Int32) (o_x2_length : Int32) (o_x2_at : Int32) (o_x2_voyageTold : Int32) (o_x2_wordStart : Int32) (o_x2_wordLength : Int32) (o_x2_numberStart : Int32) (o_x2_number : Int32) (o_x2_cell : Int32) (o_x2_statement : Int32) (o_x2_error : Int32) (o_x2_errorAt : Int32) (o_x5_length : Int32) (o_x7_rows : Int32) (o_x7_columns : Int32) (o_x7_rivers : Int32) (o_x8_count : Int32) (o_x8_reds : Int32) (o_x9_count : Int32) (o_x9_next : Int32) (o_x9_turn : Int32) (o_x9_quarters : Int32) (o_y10_letterOn : Nat → Int32) (o_y11_namesOn : Nat → Int32) (o_x12_rows : Int32) (o_x12_columns : Int32) (o_x12_rivers : Int32) (o_x13_count : Int32) (o_x13_reds : Int32) (o_x14_count : Int32) (o_x14_next : Int32) (o_x14_turn : Int32) (o_x14_quarters : Int32) (o_y15_letterOn : Nat → Int32) (o_y16_namesOn : Nat → Int32) (o_y17_costs : Nat → Int32) (o_y18_sums : Nat → Int32) (o_y19_way : Nat → Int32) (o_y20_land : Nat → Int32) (o_y21_riverOf : Nat → Int32) (o_y22_riverPlace : Nat → Int32) (o_y23_direction : Nat → Int32) (o_y24_home : Nat → Int32) (o_y25_length : Nat → Int32) (o_y26_letters : Nat → Int32) (o_y27_stops : Nat → Int32) (o_y28_land : Nat → Int32) (o_y29_riverOf : Nat → Int32) (o_y30_riverPlace : Nat → Int32) (o_y31_direction : Nat → Int32) (o_y32_home : Nat → Int32) (o_y33_length : Nat → Int32) (o_y34_letters : Nat → Int32) (o_y35_stops : Nat → Int32) (hf : f_X8_load x0_errorKind x0_errorStatement x1_count x2_length x2_at x2_voyageTold x2_wordStart x2_wordLength x2_numberStart x2_number x2_cell x2_statement x2_error x2_errorAt x5_length y6_text x7_rows x7_columns x7_rivers x8_count x8_reds x9_count x9_next x9_turn x9_quarters y10_letterOn y11_namesOn x12_rows x12_columns x12_rivers x13_count x13_reds x14_count x14_next x14_turn x14_quarters y15_letterOn y16_namesOn y17_costs y18_sums y19_way y20_land y21_riverOf y22_riverPlace y23_direction y24_home y25_length y26_letters y27_stops y28_land y29_riverOf y30_riverPlace y31_direction y32_home y33_length y34_letters y35_stops = some (r, o_x0_errorKind, o_x0_errorStatement, o_x1_count, o_x2_length, o_x2_at, o_x2_voyageTold, o_x2_wordStart, o_x2_wordLength, o_x2_numberStart, o_x2_number, o_x2_cell, o_x2_statement, o_x2_error, o_x2_errorAt, o_x5_length, o_x7_rows, o_x7_columns, o_x7_rivers, o_x8_count, o_x8_reds, o_x9_count, o_x9_next, o_x9_turn, o_x9_quarters, o_y10_letterOn, o_y11_namesOn, o_x12_rows, o_x12_columns, o_x12_rivers, o_x13_count, o_x13_reds, o_x14_count, o_x14_next, o_x14_turn, o_x14_quarters, o_y15_letterOn, o_y16_namesOn, o_y17_costs, o_y18_sums, o_y19_way, o_y20_land, o_y21_riverOf, o_y22_riverPlace, o_y23_direction, o_y24_home, o_y25_length, o_y26_letters, o_y27_stops, o_y28_land, o_y29_riverOf, o_y30_riverPlace, o_y31_direction, o_y32_home, o_y33_length, o_y34_letters, o_y35_stops)) : MI l g yX8_load wsX8_load 9 198 [.ref a0] (w_X8_load g a0 a1 a2 a3 a4 a5 a6 a7 a8 a9 a10 a11 a12 a13 a14 a15 a16 a17 a18 a19 a20 a21 a22 a23 a24 a25 a26 a27 a28 a29 a30 a31 a32 a33 a34 a35 u0_2 u0_3 u0_7 u0_8 u0_9 u1_0 u1_1 x0_errorKind x0_errorStatement x1_count x2_length x2_at x2_voyageTold x2_wordStart x2_wordLength x2_numberStart x2_number x2_cell x2_statement x2_error x2_errorAt x5_length y6_text x7_rows x7_columns x7_rivers x8_count x8_reds x9_count x9_next x9_turn x9_quarters y10_letterOn y11_namesOn x12_rows x12_columns x12_rivers x13_count x13_reds x14_count x14_next x14_turn x14_quarters y15_letterOn y16_namesOn y17_costs y18_sums y19_way y20_land y21_riverOf y22_riverPlace y23_direction y24_home y25_length y26_letters y27_stops y28_land y29_riverOf y30_riverPlace y31_direction y32_home y33_length y34_letters y35_stops) sz (some (.int r)) (w_X8_load g a0 a1 a2 a3 a4 a5 a6 a7 a8 a9 a10 a11 a12 a13 a14 a15 a16 a17 a18 a19 a20 a21 a22 a23 a24 a25 a26 a27 a28 a29 a30 a31 a32 a33 a34 a35 u0_2 u0_3 u0_7 u0_8 u0_9 u1_0 u1_1 o_x0_errorKind o_x0_errorStatement o_x1_count o_x2_length o_x2_at o_x2_voyageTold o_x2_wordStart o_x2_wordLength o_x2_numberStart o_x2_number o_x2_cell o_x2_statement o_x2_error o_x2_errorAt o_x5_length y6_text o_x7_rows o_x7_columns o_x7_rivers o_x8_count o_x8_reds o_x9_count o_x9_next o_x9_turn o_x9_quarters o_y10_letterOn o_y11_namesOn o_x12_rows o_x12_columns o_x12_rivers o_x13_count o_x13_reds o_x14_count o_x14_next o_x14_turn o_x14_quarters o_y15_letterOn o_y16_namesOn o_y17_costs o_y18_sums o_y19_way o_y20_land o_y21_riverOf o_y22_riverPlace o_y23_direction o_y24_home o_y25_length o_y26_letters o_y27_stops o_y28_land o_y29_riverOf o_y30_riverPlace o_y31_direction o_y32_home o_y33_length o_y34_letters o_y35_stops) := by
  refine MI.start (cc := cX8_load) (maxL := 2) (ret := (some .int)) rfl rfl (nle rfl) ?_
  intro p e s m args below meth c A ls Q hQ hexec hb hr hts hown hlocks hml hA hP hD hG hS hl
  unfold f_X8_load at hf
  have hWX1 : ∀ w ∈ wsX10, w.before args s = true := fun w h => hts w (List.mem_cons_of_mem _ (List.mem_append_left _ (List.mem_append_left _ (List.mem_append_left _ (List.mem_append_right _ h)))))
  have hWX2 : ∀ w ∈ wsX20, w.before args s = true := fun w h => hts w (List.mem_cons_of_mem _ (List.mem_append_left _ (List.mem_append_left _ (List.mem_append_left _ (List.mem_append_left _ (List.mem_append_right _ h))))))
  have hWX3 : ∀ w ∈ wsX30, w.before args s = true := fun w h => hts w (List.mem_cons_of_mem _ (List.mem_append_right _ h))
  have hWX4 : ∀ w ∈ wsX40, w.before args s = true := fun w h => hts w (List.mem_cons_of_mem _ (List.mem_append_left _ (List.mem_append_left _ (List.mem_append_right _ h))))
  have hWX5 : ∀ w ∈ wsX50, w.before args s = true := fun w h => hts w (List.mem_cons_of_mem _ (List.mem_append_left _ (List.mem_append_left _ (List.mem_append_left _ (List.mem_append_left _ (List.mem_append_left _ (List.mem_append_left _ (List.mem_append_right _ h))))))))
  have hWX6 : ∀ w ∈ wsX60, w.before args s = true := fun w h => hts w (List.mem_cons_of_mem _ (List.mem_append_left _ (List.mem_append_left _ (List.mem_append_left _ (List.mem_append_left _ (List.mem_append_left _ (List.mem_append_right _ h)))))))
  have hWX7 : ∀ w ∈ wsX70, w.before args s = true := fun w h => hts w (List.mem_cons_of_mem _ (List.mem_append_left _ (List.mem_append_right _ h)))
  have hWX8 : ∀ w ∈ wsX80, w.before args s = true := fun w h => hts w (List.mem_cons_of_mem _ (List.mem_append_left _ (List.mem_append_left _ (List.mem_append_left _ (List.mem_append_left _ (List.mem_append_left _ (List.mem_append_left _ (List.mem_append_left _ (List.mem_append_right _ h)))))))))
  have hS : va_S A s.heap s.heap [] := hS
  refine lv_aload_n (pc := 0) hexec hb dX8_load_0 rfl (lv_at hl 0 rfl) ?_
  refine kg_get (pc := 1) hexec hb (own := RX8) hWX8 hown hG hP 0 rfl rfl 4 (nle rfl) (hts _ (List.mem_cons_of_mem _ (List.mem_append_left _ (List.mem_append_left _ (List.mem_append_left _ (List.mem_append_left _ (List.mem_append_left _ (List.mem_append_left _ (List.mem_append_left _ (List.mem_append_left _ (List.mem_append_left _ (List.mem_of_getElem? (i := 0) rfl)))))))))))) rfl rfl dX8_load_1 ?_
  obtain ⟨r4, x2_at_1, x2_voyageTold_1, x2_wordStart_1, x2_wordLength_1, x2_numberStart_1, x2_number_1, x2_cell_1, x2_statement_1, x2_error_1, x2_errorAt_1, x5_length_1, x12_rows_1, x12_columns_1, x12_rivers_1, x13_count_1, x13_reds_1, x14_count_1, x14_next_1, x14_turn_1, x14_quarters_1, y15_letterOn_1, y16_namesOn_1, y17_costs_1, y18_sums_1, y19_way_1, y28_land_1, y29_riverOf_1, y30_riverPlace_1, y31_direction_1, y32_home_1, y33_length_1, y34_letters_1, y35_stops_1, hc, hf⟩ := bd34_e hf
  refine kVp (pc := 4) (S := ⟨hexec, hb, hml, hown, hts⟩) hP hD hG hA hS [2, 4, 5, 6, 12, 13, 14, 15, 16, 17, 18, 19, 28, 29, 30, 31, 32, 33, 34, 35] [0, 1, 3, 7, 8, 9, 10, 11, 20, 21, 22, 23, 24, 25, 26, 27] [0, 1, 16, 2, 17, 18, 19, 3, 4, 5, 6, 7, 20, 21, 22, 23, 24, 25, 26, 27, 8, 9, 10, 11, 12, 13, 14, 15, 28, 29, 30, 31, 32, 33, 34, 35] (w2 := (w_X8_load g a0 a1 a2 a3 a4 a5 a6 a7 a8 a9 a10 a11 a12 a13 a14 a15 a16 a17 a18 a19 a20 a21 a22 a23 a24 a25 a26 a27 a28 a29 a30 a31 a32 a33 a34 a35 u0_2 u0_3 u0_7 u0_8 u0_9 u1_0 u1_1 x0_errorKind x0_errorStatement x1_count x2_length x2_at_1 x2_voyageTold_1 x2_wordStart_1 x2_wordLength_1 x2_numberStart_1 x2_number_1 x2_cell_1 x2_statement_1 x2_error_1 x2_errorAt_1 x5_length_1 y6_text x7_rows x7_columns x7_rivers x8_count x8_reds x9_count x9_next x9_turn x9_quarters y10_letterOn y11_namesOn x12_rows_1 x12_columns_1 x12_rivers_1 x13_count_1 x13_reds_1 x14_count_1 x14_next_1 x14_turn_1 x14_quarters_1 y15_letterOn_1 y16_namesOn_1 y17_costs_1 y18_sums_1 y19_way_1 y20_land y21_riverOf y22_riverPlace y23_direction y24_home y25_length y26_letters y27_stops y28_land_1 y29_riverOf_1 y30_riverPlace_1 y31_direction_1 y32_home_1 y33_length_1 y34_letters_1 y35_stops_1)) rfl rfl rfl rfl rfl rfl (by decide) (c_X5_readText l g a2 a4 a5 a6 a12 a13 a14 a15 a16 a17 a18 a19 a28 a29 a30 a31 a32 a33 a34 a35 _ x2_length x2_at x2_voyageTold x2_wordStart x2_wordLength x2_numberStart x2_number x2_cell x2_statement x2_error x2_errorAt x5_length y6_text x12_rows x12_columns x12_rivers x13_count x13_reds x14_count x14_next x14_turn x14_quarters y15_letterOn y16_namesOn y17_costs y18_sums y19_way y28_land y29_riverOf y30_riverPlace y31_direction y32_home y33_length y34_letters y35_stops r4 x2_at_1 x2_voyageTold_1 x2_wordStart_1 x2_wordLength_1 x2_numberStart_1 x2_number_1 x2_cell_1 x2_statement_1 x2_error_1 x2_errorAt_1 x5_length_1 x12_rows_1 x12_columns_1 x12_rivers_1 x13_count_1 x13_reds_1 x14_count_1 x14_next_1 x14_turn_1 x14_quarters_1 y15_letterOn_1 y16_namesOn_1 y17_costs_1 y18_sums_1 y19_way_1 y28_land_1 y29_riverOf_1 y30_riverPlace_1 y31_direction_1 y32_home_1 y33_length_1 y34_letters_1 y35_stops_1 hc) gX8_load_X5_readText rfl hv_X5_readText ⟨nle rfl, nle rfl⟩ 5 0 rfl rfl rfl (rest := []) rfl rfl hl.1 (nle rfl) dX8_load_4 (fun H locs hP hD hS => ?_)
  refine lv_istore_n (pc := 7) hexec hb dX8_load_7 rfl hl (nle rfl) rfl (fun ls (hl : lv_has ls 2 [(1, .int r4), (0, .ref a0)]) => ?_)
  refine lv_aload_n (pc := 8) hexec hb dX8_load_8 rfl (lv_at hl 1 rfl) ?_
  refine kg_get (pc := 9) hexec hb (own := RX8) hWX8 hown hG hP 0 rfl rfl 4 (nle rfl) (hts _ (List.mem_cons_of_mem _ (List.mem_append_left _ (List.mem_append_left _ (List.mem_append_left _ (List.mem_append_left _ (List.mem_append_left _ (List.mem_append_left _ (List.mem_append_left _ (List.mem_append_left _ (List.mem_append_left _ (List.mem_of_getElem? (i := 0) rfl)))))))))))) rfl rfl dX8_load_9 ?_
  refine lv_iconst (pc := 12) hexec hb dX8_load_12 ki_0 ?_
  refine kp_putN (pc := 13) hexec hb (own := RX8) hWX5 tyX5 tyX5_ok nmX5 hown hG hP hD hS 2 rfl rfl 3 (nle rfl) 38 rfl rfl rfl rfl rfl (nle rfl) dX8_load_13 (fun H locs (hP : va_P g.1 vwCl (w_X8_load g a0 a1 a2 a3 a4 a5 a6 a7 a8 a9 a10 a11 a12 a13 a14 a15 a16 a17 a18 a19 a20 a21 a22 a23 a24 a25 a26 a27 a28 a29 a30 a31 a32 a33 a34 a35 u0_2 u0_3 u0_7 u0_8 u0_9 u1_0 u1_1 x0_errorKind x0_errorStatement x1_count 0 x2_at_1 x2_voyageTold_1 x2_wordStart_1 x2_wordLength_1 x2_numberStart_1 x2_number_1 x2_cell_1 x2_statement_1 x2_error_1 x2_errorAt_1 x5_length_1 y6_text x7_rows x7_columns x7_rivers x8_count x8_reds x9_count x9_next x9_turn x9_quarters y10_letterOn y11_namesOn x12_rows_1 x12_columns_1 x12_rivers_1 x13_count_1 x13_reds_1 x14_count_1 x14_next_1 x14_turn_1 x14_quarters_1 y15_letterOn_1 y16_namesOn_1 y17_costs_1 y18_sums_1 y19_way_1 y20_land y21_riverOf y22_riverPlace y23_direction y24_home y25_length y26_letters y27_stops y28_land_1 y29_riverOf_1 y30_riverPlace_1 y31_direction_1 y32_home_1 y33_length_1 y34_letters_1 y35_stops_1) H) (hD : va_D A (w_X8_load g a0 a1 a2 a3 a4 a5 a6 a7 a8 a9 a10 a11 a12 a13 a14 a15 a16 a17 a18 a19 a20 a21 a22 a23 a24 a25 a26 a27 a28 a29 a30 a31 a32 a33 a34 a35 u0_2 u0_3 u0_7 u0_8 u0_9 u1_0 u1_1 x0_errorKind x0_errorStatement x1_count 0 x2_at_1 x2_voyageTold_1 x2_wordStart_1 x2_wordLength_1 x2_numberStart_1 x2_number_1 x2_cell_1 x2_statement_1 x2_error_1 x2_errorAt_1 x5_length_1 y6_text x7_rows x7_columns x7_rivers x8_count x8_reds x9_count x9_next x9_turn x9_quarters y10_letterOn y11_namesOn x12_rows_1 x12_columns_1 x12_rivers_1 x13_count_1 x13_reds_1 x14_count_1 x14_next_1 x14_turn_1 x14_quarters_1 y15_letterOn_1 y16_namesOn_1 y17_costs_1 y18_sums_1 y19_way_1 y20_land y21_riverOf y22_riverPlace y23_direction y24_home y25_length y26_letters y27_stops y28_land_1 y29_riverOf_1 y30_riverPlace_1 y31_direction_1 y32_home_1 y33_length_1 y34_letters_1 y35_stops_1)) hS => ?_)
  refine lv_aload_n (pc := 16) hexec hb dX8_load_16 rfl (lv_at hl 1 rfl) ?_
  refine lv_iload_n (pc := 17) hexec hb dX8_load_17 rfl (lv_at hl 0 rfl) ?_
  obtain ⟨j32, ej32, hf⟩ := bvf1 hf
  have hj32 : ∀ (t32 : Int32) (H : Heap) (locs : List Loc) (ls : Array Slot), j32 t32 = some (r, o_x0_errorKind, o_x0_errorStatement, o_x1_count, o_x2_length, o_x2_at, o_x2_voyageTold, o_x2_wordStart, o_x2_wordLength, o_x2_numberStart, o_x2_number, o_x2_cell, o_x2_statement, o_x2_error, o_x2_errorAt, o_x5_length, o_x7_rows, o_x7_columns, o_x7_rivers, o_x8_count, o_x8_reds, o_x9_count, o_x9_next, o_x9_turn, o_x9_quarters, o_y10_letterOn, o_y11_namesOn, o_x12_rows, o_x12_columns, o_x12_rivers, o_x13_count, o_x13_reds, o_x14_count, o_x14_next, o_x14_turn, o_x14_quarters, o_y15_letterOn, o_y16_namesOn, o_y17_costs, o_y18_sums, o_y19_way, o_y20_land, o_y21_riverOf, o_y22_riverPlace, o_y23_direction, o_y24_home, o_y25_length, o_y26_letters, o_y27_stops, o_y28_land, o_y29_riverOf, o_y30_riverPlace, o_y31_direction, o_y32_home, o_y33_length, o_y34_letters, o_y35_stops) → va_P g.1 vwCl (w_X8_load g a0 a1 a2 a3 a4 a5 a6 a7 a8 a9 a10 a11 a12 a13 a14 a15 a16 a17 a18 a19 a20 a21 a22 a23 a24 a25 a26 a27 a28 a29 a30 a31 a32 a33 a34 a35 u0_2 u0_3 u0_7 u0_8 u0_9 u1_0 u1_1 x0_errorKind x0_errorStatement x1_count 0 x2_at_1 x2_voyageTold_1 x2_wordStart_1 x2_wordLength_1 x2_numberStart_1 x2_number_1 x2_cell_1 x2_statement_1 x2_error_1 x2_errorAt_1 x5_length_1 y6_text x7_rows x7_columns x7_rivers x8_count x8_reds x9_count x9_next x9_turn x9_quarters y10_letterOn y11_namesOn x12_rows_1 x12_columns_1 x12_rivers_1 x13_count_1 x13_reds_1 x14_count_1 x14_next_1 x14_turn_1 x14_quarters_1 y15_letterOn_1 y16_namesOn_1 y17_costs_1 y18_sums_1 y19_way_1 y20_land y21_riverOf y22_riverPlace y23_direction y24_home y25_length y26_letters y27_stops y28_land_1 y29_riverOf_1 y30_riverPlace_1 y31_direction_1 y32_home_1 y33_length_1 y34_letters_1 y35_stops_1) H → va_D A (w_X8_load g a0 a1 a2 a3 a4 a5 a6 a7 a8 a9 a10 a11 a12 a13 a14 a15 a16 a17 a18 a19 a20 a21 a22 a23 a24 a25 a26 a27 a28 a29 a30 a31 a32 a33 a34 a35 u0_2 u0_3 u0_7 u0_8 u0_9 u1_0 u1_1 x0_errorKind x0_errorStatement x1_count 0 x2_at_1 x2_voyageTold_1 x2_wordStart_1 x2_wordLength_1 x2_numberStart_1 x2_number_1 x2_cell_1 x2_statement_1 x2_error_1 x2_errorAt_1 x5_length_1 y6_text x7_rows x7_columns x7_rivers x8_count x8_reds x9_count x9_next x9_turn x9_quarters y10_letterOn y11_namesOn x12_rows_1 x12_columns_1 x12_rivers_1 x13_count_1 x13_reds_1 x14_count_1 x14_next_1 x14_turn_1 x14_quarters_1 y15_letterOn_1 y16_namesOn_1 y17_costs_1 y18_sums_1 y19_way_1 y20_land y21_riverOf y22_riverPlace y23_direction y24_home y25_length y26_letters y27_stops y28_land_1 y29_riverOf_1 y30_riverPlace_1 y31_direction_1 y32_home_1 y33_length_1 y34_letters_1 y35_stops_1) → va_S A s.heap H locs → lv_has ls 2 [(0, .ref a0), (1, .int r4)] → W p l e (RM 9 198) s m args below meth c H locs 0 0 Q (F0 m 32 ls [.int t32, .ref a0]) := by
    intro t32 H locs ls hf hP hD hS hl
    have hf := (ej32 t32).symm.trans hf
    refine kp_put (pc := 32) hexec hb (own := RX8) hWX8 tyX8 tyX8_ok nmX8 hown hG hP hD hS 0 rfl rfl 5 (nle rfl) (hts _ (List.mem_cons_of_mem _ (List.mem_append_left _ (List.mem_append_left _ (List.mem_append_left _ (List.mem_append_left _ (List.mem_append_left _ (List.mem_append_left _ (List.mem_append_left _ (List.mem_append_left _ (List.mem_append_left _ (List.mem_of_getElem? (i := 1) rfl)))))))))))) rfl rfl rfl rfl (nle rfl) dX8_load_32 (fun H locs (hP : va_P g.1 vwCl (w_X8_load g a0 a1 a2 a3 a4 a5 a6 a7 a8 a9 a10 a11 a12 a13 a14 a15 a16 a17 a18 a19 a20 a21 a22 a23 a24 a25 a26 a27 a28 a29 a30 a31 a32 a33 a34 a35 u0_2 u0_3 u0_7 u0_8 u0_9 u1_0 u1_1 t32 x0_errorStatement x1_count 0 x2_at_1 x2_voyageTold_1 x2_wordStart_1 x2_wordLength_1 x2_numberStart_1 x2_number_1 x2_cell_1 x2_statement_1 x2_error_1 x2_errorAt_1 x5_length_1 y6_text x7_rows x7_columns x7_rivers x8_count x8_reds x9_count x9_next x9_turn x9_quarters y10_letterOn y11_namesOn x12_rows_1 x12_columns_1 x12_rivers_1 x13_count_1 x13_reds_1 x14_count_1 x14_next_1 x14_turn_1 x14_quarters_1 y15_letterOn_1 y16_namesOn_1 y17_costs_1 y18_sums_1 y19_way_1 y20_land y21_riverOf y22_riverPlace y23_direction y24_home y25_length y26_letters y27_stops y28_land_1 y29_riverOf_1 y30_riverPlace_1 y31_direction_1 y32_home_1 y33_length_1 y34_letters_1 y35_stops_1) H) (hD : va_D A (w_X8_load g a0 a1 a2 a3 a4 a5 a6 a7 a8 a9 a10 a11 a12 a13 a14 a15 a16 a17 a18 a19 a20 a21 a22 a23 a24 a25 a26 a27 a28 a29 a30 a31 a32 a33 a34 a35 u0_2 u0_3 u0_7 u0_8 u0_9 u1_0 u1_1 t32 x0_errorStatement x1_count 0 x2_at_1 x2_voyageTold_1 x2_wordStart_1 x2_wordLength_1 x2_numberStart_1 x2_number_1 x2_cell_1 x2_statement_1 x2_error_1 x2_errorAt_1 x5_length_1 y6_text x7_rows x7_columns x7_rivers x8_count x8_reds x9_count x9_next x9_turn x9_quarters y10_letterOn y11_namesOn x12_rows_1 x12_columns_1 x12_rivers_1 x13_count_1 x13_reds_1 x14_count_1 x14_next_1 x14_turn_1 x14_quarters_1 y15_letterOn_1 y16_namesOn_1 y17_costs_1 y18_sums_1 y19_way_1 y20_land y21_riverOf y22_riverPlace y23_direction y24_home y25_length y26_letters y27_stops y28_land_1 y29_riverOf_1 y30_riverPlace_1 y31_direction_1 y32_home_1 y33_length_1 y34_letters_1 y35_stops_1)) hS => ?_)
    refine lv_aload_n (pc := 35) hexec hb dX8_load_35 rfl (lv_at hl 0 rfl) ?_
    refine lv_iload_n (pc := 36) hexec hb dX8_load_36 rfl (lv_at hl 1 rfl) ?_
    obtain ⟨j51, ej51, hf⟩ := bvf1 hf
    have hj51 : ∀ (t51 : Int32) (H : Heap) (locs : List Loc) (ls : Array Slot), j51 t51 = some (r, o_x0_errorKind, o_x0_errorStatement, o_x1_count, o_x2_length, o_x2_at, o_x2_voyageTold, o_x2_wordStart, o_x2_wordLength, o_x2_numberStart, o_x2_number, o_x2_cell, o_x2_statement, o_x2_error, o_x2_errorAt, o_x5_length, o_x7_rows, o_x7_columns, o_x7_rivers, o_x8_count, o_x8_reds, o_x9_count, o_x9_next, o_x9_turn, o_x9_quarters, o_y10_letterOn, o_y11_namesOn, o_x12_rows, o_x12_columns, o_x12_rivers, o_x13_count, o_x13_reds, o_x14_count, o_x14_next, o_x14_turn, o_x14_quarters, o_y15_letterOn, o_y16_namesOn, o_y17_costs, o_y18_sums, o_y19_way, o_y20_land, o_y21_riverOf, o_y22_riverPlace, o_y23_direction, o_y24_home, o_y25_length, o_y26_letters, o_y27_stops, o_y28_land, o_y29_riverOf, o_y30_riverPlace, o_y31_direction, o_y32_home, o_y33_length, o_y34_letters, o_y35_stops) → va_P g.1 vwCl (w_X8_load g a0 a1 a2 a3 a4 a5 a6 a7 a8 a9 a10 a11 a12 a13 a14 a15 a16 a17 a18 a19 a20 a21 a22 a23 a24 a25 a26 a27 a28 a29 a30 a31 a32 a33 a34 a35 u0_2 u0_3 u0_7 u0_8 u0_9 u1_0 u1_1 t32 x0_errorStatement x1_count 0 x2_at_1 x2_voyageTold_1 x2_wordStart_1 x2_wordLength_1 x2_numberStart_1 x2_number_1 x2_cell_1 x2_statement_1 x2_error_1 x2_errorAt_1 x5_length_1 y6_text x7_rows x7_columns x7_rivers x8_count x8_reds x9_count x9_next x9_turn x9_quarters y10_letterOn y11_namesOn x12_rows_1 x12_columns_1 x12_rivers_1 x13_count_1 x13_reds_1 x14_count_1 x14_next_1 x14_turn_1 x14_quarters_1 y15_letterOn_1 y16_namesOn_1 y17_costs_1 y18_sums_1 y19_way_1 y20_land y21_riverOf y22_riverPlace y23_direction y24_home y25_length y26_letters y27_stops y28_land_1 y29_riverOf_1 y30_riverPlace_1 y31_direction_1 y32_home_1 y33_length_1 y34_letters_1 y35_stops_1) H → va_D A (w_X8_load g a0 a1 a2 a3 a4 a5 a6 a7 a8 a9 a10 a11 a12 a13 a14 a15 a16 a17 a18 a19 a20 a21 a22 a23 a24 a25 a26 a27 a28 a29 a30 a31 a32 a33 a34 a35 u0_2 u0_3 u0_7 u0_8 u0_9 u1_0 u1_1 t32 x0_errorStatement x1_count 0 x2_at_1 x2_voyageTold_1 x2_wordStart_1 x2_wordLength_1 x2_numberStart_1 x2_number_1 x2_cell_1 x2_statement_1 x2_error_1 x2_errorAt_1 x5_length_1 y6_text x7_rows x7_columns x7_rivers x8_count x8_reds x9_count x9_next x9_turn x9_quarters y10_letterOn y11_namesOn x12_rows_1 x12_columns_1 x12_rivers_1 x13_count_1 x13_reds_1 x14_count_1 x14_next_1 x14_turn_1 x14_quarters_1 y15_letterOn_1 y16_namesOn_1 y17_costs_1 y18_sums_1 y19_way_1 y20_land y21_riverOf y22_riverPlace y23_direction y24_home y25_length y26_letters y27_stops y28_land_1 y29_riverOf_1 y30_riverPlace_1 y31_direction_1 y32_home_1 y33_length_1 y34_letters_1 y35_stops_1) → va_S A s.heap H locs → lv_has ls 2 [(0, .ref a0), (1, .int r4)] → W p l e (RM 9 198) s m args below meth c H locs 0 0 Q (F0 m 51 ls [.int t51, .ref a0]) := by
      intro t51 H locs ls hf hP hD hS hl
      have hf := (ej51 t51).symm.trans hf
      refine kp_put (pc := 51) hexec hb (own := RX8) hWX8 tyX8 tyX8_ok nmX8 hown hG hP hD hS 0 rfl rfl 6 (nle rfl) (hts _ (List.mem_cons_of_mem _ (List.mem_append_left _ (List.mem_append_left _ (List.mem_append_left _ (List.mem_append_left _ (List.mem_append_left _ (List.mem_append_left _ (List.mem_append_left _ (List.mem_append_left _ (List.mem_append_left _ (List.mem_of_getElem? (i := 2) rfl)))))))))))) rfl rfl rfl rfl (nle rfl) dX8_load_51 (fun H locs (hP : va_P g.1 vwCl (w_X8_load g a0 a1 a2 a3 a4 a5 a6 a7 a8 a9 a10 a11 a12 a13 a14 a15 a16 a17 a18 a19 a20 a21 a22 a23 a24 a25 a26 a27 a28 a29 a30 a31 a32 a33 a34 a35 u0_2 u0_3 u0_7 u0_8 u0_9 u1_0 u1_1 t32 t51 x1_count 0 x2_at_1 x2_voyageTold_1 x2_wordStart_1 x2_wordLength_1 x2_numberStart_1 x2_number_1 x2_cell_1 x2_statement_1 x2_error_1 x2_errorAt_1 x5_length_1 y6_text x7_rows x7_columns x7_rivers x8_count x8_reds x9_count x9_next x9_turn x9_quarters y10_letterOn y11_namesOn x12_rows_1 x12_columns_1 x12_rivers_1 x13_count_1 x13_reds_1 x14_count_1 x14_next_1 x14_turn_1 x14_quarters_1 y15_letterOn_1 y16_namesOn_1 y17_costs_1 y18_sums_1 y19_way_1 y20_land y21_riverOf y22_riverPlace y23_direction y24_home y25_length y26_letters y27_stops y28_land_1 y29_riverOf_1 y30_riverPlace_1 y31_direction_1 y32_home_1 y33_length_1 y34_letters_1 y35_stops_1) H) (hD : va_D A (w_X8_load g a0 a1 a2 a3 a4 a5 a6 a7 a8 a9 a10 a11 a12 a13 a14 a15 a16 a17 a18 a19 a20 a21 a22 a23 a24 a25 a26 a27 a28 a29 a30 a31 a32 a33 a34 a35 u0_2 u0_3 u0_7 u0_8 u0_9 u1_0 u1_1 t32 t51 x1_count 0 x2_at_1 x2_voyageTold_1 x2_wordStart_1 x2_wordLength_1 x2_numberStart_1 x2_number_1 x2_cell_1 x2_statement_1 x2_error_1 x2_errorAt_1 x5_length_1 y6_text x7_rows x7_columns x7_rivers x8_count x8_reds x9_count x9_next x9_turn x9_quarters y10_letterOn y11_namesOn x12_rows_1 x12_columns_1 x12_rivers_1 x13_count_1 x13_reds_1 x14_count_1 x14_next_1 x14_turn_1 x14_quarters_1 y15_letterOn_1 y16_namesOn_1 y17_costs_1 y18_sums_1 y19_way_1 y20_land y21_riverOf y22_riverPlace y23_direction y24_home y25_length y26_letters y27_stops y28_land_1 y29_riverOf_1 y30_riverPlace_1 y31_direction_1 y32_home_1 y33_length_1 y34_letters_1 y35_stops_1)) hS => ?_)
      refine lv_iload_n (pc := 54) hexec hb dX8_load_54 rfl (lv_at hl 1 rfl) ?_
      refine kb_ne (pc := 55) hexec hb dX8_load_55 (tgt := 69) rfl hf (fun hc hf => ?_) (fun hc hf => ?_)
      · refine lv_aload_n (pc := 69) hexec hb dX8_load_69 rfl (lv_at hl 0 rfl) ?_
        refine kg_get (pc := 70) hexec hb (own := RX8) hWX8 hown hG hP 0 rfl rfl 0 (nle rfl) (hts _ (List.mem_cons_of_mem _ (List.mem_append_left _ (List.mem_append_left _ (List.mem_append_left _ (List.mem_append_left _ (List.mem_append_left _ (List.mem_append_left _ (List.mem_append_left _ (List.mem_append_left _ (List.mem_append_left _ (List.mem_of_getElem? (i := 3) rfl)))))))))))) rfl rfl dX8_load_70 ?_
        refine lv_aload_n (pc := 73) hexec hb dX8_load_73 rfl (lv_at hl 0 rfl) ?_
        refine kg_get (pc := 74) hexec hb (own := RX8) hWX8 hown hG hP 0 rfl rfl 4 (nle rfl) (hts _ (List.mem_cons_of_mem _ (List.mem_append_left _ (List.mem_append_left _ (List.mem_append_left _ (List.mem_append_left _ (List.mem_append_left _ (List.mem_append_left _ (List.mem_append_left _ (List.mem_append_left _ (List.mem_append_left _ (List.mem_of_getElem? (i := 0) rfl)))))))))))) rfl rfl dX8_load_74 ?_
        refine kg_getN (pc := 77) hexec hb (own := RX8) hWX5 hown hG hP 2 rfl rfl 0 (nle rfl) 37 rfl rfl rfl dX8_load_77 ?_
        obtain ⟨x7_rows_1, x7_columns_1, x7_rivers_1, x8_count_1, x8_reds_1, x9_count_1, x9_next_1, x9_turn_1, x9_quarters_1, y10_letterOn_1, y11_namesOn_1, y20_land_1, y21_riverOf_1, y22_riverPlace_1, y23_direction_1, y24_home_1, y25_length_1, y26_letters_1, y27_stops_1, hc, hf⟩ := bd19_e hf
        refine kVp (pc := 80) (S := ⟨hexec, hb, hml, hown, hts⟩) hP hD hG hA hS [3, 7, 8, 9, 10, 11, 20, 21, 22, 23, 24, 25, 26, 27, 4, 12, 13, 14, 15, 16, 28, 29, 30, 31, 32, 33, 34, 35] [0, 1, 2, 5, 6, 17, 18, 19] [0, 1, 2, 8, 22, 3, 4, 9, 10, 11, 12, 13, 23, 24, 25, 26, 27, 5, 6, 7, 14, 15, 16, 17, 18, 19, 20, 21, 28, 29, 30, 31, 32, 33, 34, 35] (w2 := (w_X8_load g a0 a1 a2 a3 a4 a5 a6 a7 a8 a9 a10 a11 a12 a13 a14 a15 a16 a17 a18 a19 a20 a21 a22 a23 a24 a25 a26 a27 a28 a29 a30 a31 a32 a33 a34 a35 u0_2 u0_3 u0_7 u0_8 u0_9 u1_0 u1_1 t32 t51 x1_count 0 x2_at_1 x2_voyageTold_1 x2_wordStart_1 x2_wordLength_1 x2_numberStart_1 x2_number_1 x2_cell_1 x2_statement_1 x2_error_1 x2_errorAt_1 x5_length_1 y6_text x7_rows_1 x7_columns_1 x7_rivers_1 x8_count_1 x8_reds_1 x9_count_1 x9_next_1 x9_turn_1 x9_quarters_1 y10_letterOn_1 y11_namesOn_1 x12_rows_1 x12_columns_1 x12_rivers_1 x13_count_1 x13_reds_1 x14_count_1 x14_next_1 x14_turn_1 x14_quarters_1 y15_letterOn_1 y16_namesOn_1 y17_costs_1 y18_sums_1 y19_way_1 y20_land_1 y21_riverOf_1 y22_riverPlace_1 y23_direction_1 y24_home_1 y25_length_1 y26_letters_1 y27_stops_1 y28_land_1 y29_riverOf_1 y30_riverPlace_1 y31_direction_1 y32_home_1 y33_length_1 y34_letters_1 y35_stops_1)) rfl rfl rfl rfl rfl rfl (by decide) (c_X6_copyFrom l g a3 a7 a8 a9 a10 a11 a20 a21 a22 a23 a24 a25 a26 a27 a4 a12 a13 a14 a15 a16 a28 a29 a30 a31 a32 a33 a34 a35 _ x7_rows x7_columns x7_rivers x8_count x8_reds x9_count x9_next x9_turn x9_quarters y10_letterOn y11_namesOn y20_land y21_riverOf y22_riverPlace y23_direction y24_home y25_length y26_letters y27_stops x12_rows_1 x12_columns_1 x12_rivers_1 x13_count_1 x13_reds_1 x14_count_1 x14_next_1 x14_turn_1 x14_quarters_1 y15_letterOn_1 y16_namesOn_1 y28_land_1 y29_riverOf_1 y30_riverPlace_1 y31_direction_1 y32_home_1 y33_length_1 y34_letters_1 y35_stops_1 x7_rows_1 x7_columns_1 x7_rivers_1 x8_count_1 x8_reds_1 x9_count_1 x9_next_1 x9_turn_1 x9_quarters_1 y10_letterOn_1 y11_namesOn_1 y20_land_1 y21_riverOf_1 y22_riverPlace_1 y23_direction_1 y24_home_1 y25_length_1 y26_letters_1 y27_stops_1 hc) gX8_load_X6_copyFrom rfl hv_X6_copyFrom ⟨nle rfl, nle rfl⟩ 6 0 rfl rfl rfl (rest := []) rfl rfl hl.1 (nle rfl) dX8_load_80 (fun H locs hP hD hS => ?_)
        refine lv_aload_n (pc := 83) hexec hb dX8_load_83 rfl (lv_at hl 0 rfl) ?_
        refine kg_get (pc := 84) hexec hb (own := RX8) hWX8 hown hG hP 0 rfl rfl 1 (nle rfl) (hts _ (List.mem_cons_of_mem _ (List.mem_append_left _ (List.mem_append_left _ (List.mem_append_left _ (List.mem_append_left _ (List.mem_append_left _ (List.mem_append_left _ (List.mem_append_left _ (List.mem_append_left _ (List.mem_append_left _ (List.mem_of_getElem? (i := 4) rfl)))))))))))) rfl rfl dX8_load_84 ?_
        obtain ⟨x1_count_1, hc, hf⟩ := bd1_e hf
        refine kVp (pc := 87) (S := ⟨hexec, hb, hml, hown, hts⟩) hP hD hG hA hS [1] [0, 2, 3, 4, 5, 6, 7, 8, 9, 10, 11, 12, 13, 14, 15, 16, 17, 18, 19, 20, 21, 22, 23, 24, 25, 26, 27, 28, 29, 30, 31, 32, 33, 34, 35] [0, 35, 1, 2, 3, 4, 5, 6, 7, 8, 9, 10, 11, 12, 13, 14, 15, 16, 17, 18, 19, 20, 21, 22, 23, 24, 25, 26, 27, 28, 29, 30, 31, 32, 33, 34] (w2 := (w_X8_load g a0 a1 a2 a3 a4 a5 a6 a7 a8 a9 a10 a11 a12 a13 a14 a15 a16 a17 a18 a19 a20 a21 a22 a23 a24 a25 a26 a27 a28 a29 a30 a31 a32 a33 a34 a35 u0_2 u0_3 u0_7 u0_8 u0_9 u1_0 u1_1 t32 t51 x1_count_1 0 x2_at_1 x2_voyageTold_1 x2_wordStart_1 x2_wordLength_1 x2_numberStart_1 x2_number_1 x2_cell_1 x2_statement_1 x2_error_1 x2_errorAt_1 x5_length_1 y6_text x7_rows_1 x7_columns_1 x7_rivers_1 x8_count_1 x8_reds_1 x9_count_1 x9_next_1 x9_turn_1 x9_quarters_1 y10_letterOn_1 y11_namesOn_1 x12_rows_1 x12_columns_1 x12_rivers_1 x13_count_1 x13_reds_1 x14_count_1 x14_next_1 x14_turn_1 x14_quarters_1 y15_letterOn_1 y16_namesOn_1 y17_costs_1 y18_sums_1 y19_way_1 y20_land_1 y21_riverOf_1 y22_riverPlace_1 y23_direction_1 y24_home_1 y25_length_1 y26_letters_1 y27_stops_1 y28_land_1 y29_riverOf_1 y30_riverPlace_1 y31_direction_1 y32_home_1 y33_length_1 y34_letters_1 y35_stops_1)) rfl rfl rfl rfl rfl rfl (by decide) (c_X3_forget l g a1 _ u1_0 u1_1 x1_count x1_count_1 hc) gX8_load_X3_forget rfl hv_X3_forget ⟨nle rfl, nle rfl⟩ 3 0 rfl rfl rfl (rest := []) rfl rfl hl.1 (nle rfl) dX8_load_87 (fun H locs hP hD hS => ?_)
        refine lv_aload_n (pc := 90) hexec hb dX8_load_90 rfl (lv_at hl 0 rfl) ?_
        refine kg_get (pc := 91) hexec hb (own := RX8) hWX8 hown hG hP 0 rfl rfl 0 (nle rfl) (hts _ (List.mem_cons_of_mem _ (List.mem_append_left _ (List.mem_append_left _ (List.mem_append_left _ (List.mem_append_left _ (List.mem_append_left _ (List.mem_append_left _ (List.mem_append_left _ (List.mem_append_left _ (List.mem_append_left _ (List.mem_of_getElem? (i := 3) rfl)))))))))))) rfl rfl dX8_load_91 ?_
        refine kg_getN (pc := 94) hexec hb (own := RX8) hWX6 hown hG hP 3 rfl rfl 1 (nle rfl) 24 rfl rfl rfl dX8_load_94 ?_
        refine kg_getN (pc := 97) hexec hb (own := RX8) hWX2 hown hG hP 8 rfl rfl 0 (nle rfl) 6 rfl rfl rfl dX8_load_97 ?_
        simp only [Option.some.injEq, Prod.mk.injEq] at hf
        obtain ⟨rfl, rfl, rfl, rfl, rfl, rfl, rfl, rfl, rfl, rfl, rfl, rfl, rfl, rfl, rfl, rfl, rfl, rfl, rfl, rfl, rfl, rfl, rfl, rfl, rfl, rfl, rfl, rfl, rfl, rfl, rfl, rfl, rfl, rfl, rfl, rfl, rfl, rfl, rfl, rfl, rfl, rfl, rfl, rfl, rfl, rfl, rfl, rfl, rfl, rfl, rfl, rfl, rfl, rfl, rfl, rfl, rfl⟩ := hf
        exact ke_i hQ hexec hb hr hP hD hS dX8_load_100 hlocks
      · refine lv_bipush (pc := 58) hexec hb dX8_load_58 kb_m100 ?_
        refine lv_aload_n (pc := 60) hexec hb dX8_load_60 rfl (lv_at hl 0 rfl) ?_
        refine kg_get (pc := 61) hexec hb (own := RX8) hWX8 hown hG hP 0 rfl rfl 4 (nle rfl) (hts _ (List.mem_cons_of_mem _ (List.mem_append_left _ (List.mem_append_left _ (List.mem_append_left _ (List.mem_append_left _ (List.mem_append_left _ (List.mem_append_left _ (List.mem_append_left _ (List.mem_append_left _ (List.mem_append_left _ (List.mem_of_getElem? (i := 0) rfl)))))))))))) rfl rfl dX8_load_61 ?_
        refine kg_getN (pc := 64) hexec hb (own := RX8) hWX5 hown hG hP 2 rfl rfl 13 (nle rfl) 41 rfl rfl rfl dX8_load_64 ?_
        refine lv_isub (pc := 67) hexec hb dX8_load_67 ?_
        simp only [Option.some.injEq, Prod.mk.injEq] at hf
        obtain ⟨rfl, rfl, rfl, rfl, rfl, rfl, rfl, rfl, rfl, rfl, rfl, rfl, rfl, rfl, rfl, rfl, rfl, rfl, rfl, rfl, rfl, rfl, rfl, rfl, rfl, rfl, rfl, rfl, rfl, rfl, rfl, rfl, rfl, rfl, rfl, rfl, rfl, rfl, rfl, rfl, rfl, rfl, rfl, rfl, rfl, rfl, rfl, rfl, rfl, rfl, rfl, rfl, rfl, rfl, rfl, rfl, rfl⟩ := hf
        exact ke_i hQ hexec hb hr hP hD hS dX8_load_68 hlocks
    refine kb_eq (pc := 37) hexec hb dX8_load_37 (tgt := 44) rfl hf (fun hc hf => ?_) (fun hc hf => ?_)
    · refine lv_aload_n (pc := 44) hexec hb dX8_load_44 rfl (lv_at hl 0 rfl) ?_
      refine kg_get (pc := 45) hexec hb (own := RX8) hWX8 hown hG hP 0 rfl rfl 4 (nle rfl) (hts _ (List.mem_cons_of_mem _ (List.mem_append_left _ (List.mem_append_left _ (List.mem_append_left _ (List.mem_append_left _ (List.mem_append_left _ (List.mem_append_left _ (List.mem_append_left _ (List.mem_append_left _ (List.mem_append_left _ (List.mem_of_getElem? (i := 0) rfl)))))))))))) rfl rfl dX8_load_45 ?_
      refine kg_getN (pc := 48) hexec hb (own := RX8) hWX5 hown hG hP 2 rfl rfl 11 (nle rfl) 39 rfl rfl rfl dX8_load_48 ?_
      exact hj51 _ _ _ _ hf hP hD hS (lv_sub hl [0, 1] rfl)
    · refine lv_iconst (pc := 40) hexec hb dX8_load_40 ki_m1 ?_
      refine lv_goto (pc := 41) hexec hb dX8_load_41 (tgt := 51) rfl ?_
      exact hj51 _ _ _ _ hf hP hD hS (lv_sub hl [0, 1] rfl)
  refine kb_eq (pc := 18) hexec hb dX8_load_18 (tgt := 25) rfl hf (fun hc hf => ?_) (fun hc hf => ?_)
  · refine lv_aload_n (pc := 25) hexec hb dX8_load_25 rfl (lv_at hl 1 rfl) ?_
    refine kg_get (pc := 26) hexec hb (own := RX8) hWX8 hown hG hP 0 rfl rfl 4 (nle rfl) (hts _ (List.mem_cons_of_mem _ (List.mem_append_left _ (List.mem_append_left _ (List.mem_append_left _ (List.mem_append_left _ (List.mem_append_left _ (List.mem_append_left _ (List.mem_append_left _ (List.mem_append_left _ (List.mem_append_left _ (List.mem_of_getElem? (i := 0) rfl)))))))))))) rfl rfl dX8_load_26 ?_
    refine kg_getN (pc := 29) hexec hb (own := RX8) hWX5 hown hG hP 2 rfl rfl 12 (nle rfl) 40 rfl rfl rfl dX8_load_29 ?_
    exact hj32 _ _ _ _ hf hP hD hS (lv_sub hl [1, 0] rfl)
  · refine lv_iconst (pc := 21) hexec hb dX8_load_21 ki_0 ?_
    refine lv_goto (pc := 22) hexec hb dX8_load_22 (tgt := 32) rfl ?_
    exact hj32 _ _ _ _ hf hP hD hS (lv_sub hl [1, 0] rfl)
abbrev w_X8_loadError (g : GE) (a0 : Nat) (u0_0 u0_1 u0_2 u0_3 u0_4 u0_6 u0_7 u0_8 u0_9 : Value) (x0_errorKind : Int32) : va_W := [(a0, .inr (8, [u0_0, u0_1, u0_2, u0_3, u0_4, .int x0_errorKind, u0_6, u0_7, u0_8, u0_9]))]
set_option maxRecDepth 20000 in
theorem c_X8_loadError (l : Launch) (g : GE) (a0 : Nat) (sz : Nat) (u0_0 u0_1 u0_2 u0_3 u0_4 u0_6 u0_7 u0_8 u0_9 : Value) (x0_errorKind : Int32)   (r : Int32) (hf : f_X8_loadError x0_errorKind = some r) : MI l g yX8_loadError wsX8_loadError 1 24 [.ref a0] (w_X8_loadError g a0 u0_0 u0_1 u0_2 u0_3 u0_4 u0_6 u0_7 u0_8 u0_9 x0_errorKind) sz (some (.int r)) (w_X8_loadError g a0 u0_0 u0_1 u0_2 u0_3 u0_4 u0_6 u0_7 u0_8 u0_9 x0_errorKind) := by
  refine MI.start (cc := cX8_loadError) (maxL := 1) (ret := (some .int)) rfl rfl (nle rfl) ?_
  intro p e s m args below meth c A ls Q hQ hexec hb hr hts hown hlocks hml hA hP hD hG hS hl
  unfold f_X8_loadError at hf
  have hWX8 : ∀ w ∈ wsX80, w.before args s = true := fun w h => hts w (List.mem_cons_of_mem _ (List.mem_append_right _ h))
  have hS : va_S A s.heap s.heap [] := hS
  refine lv_aload_n (pc := 0) hexec hb dX8_loadError_0 rfl (lv_at hl 0 rfl) ?_
  refine kg_get (pc := 1) hexec hb (own := RX8) hWX8 hown hG hP 0 rfl rfl 5 (nle rfl) (hts _ (List.mem_cons_of_mem _ (List.mem_append_left _ (List.mem_of_getElem? (i := 0) rfl)))) rfl rfl dX8_loadError_1 ?_
  cases hf
  exact ke_i hQ hexec hb hr hP hD hS dX8_loadError_4 hlocks
abbrev w_X8_loadStatement (g : GE) (a0 : Nat) (u0_0 u0_1 u0_2 u0_3 u0_4 u0_5 u0_7 u0_8 u0_9 : Value) (x0_errorStatement : Int32) : va_W := [(a0, .inr (8, [u0_0, u0_1, u0_2, u0_3, u0_4, u0_5, .int x0_errorStatement, u0_7, u0_8, u0_9]))]
set_option maxRecDepth 20000 in
theorem c_X8_loadStatement (l : Launch) (g : GE) (a0 : Nat) (sz : Nat) (u0_0 u0_1 u0_2 u0_3 u0_4 u0_5 u0_7 u0_8 u0_9 : Value) (x0_errorStatement : Int32)   (r : Int32) (hf : f_X8_loadStatement x0_errorStatement = some r) : MI l g yX8_loadStatement wsX8_loadStatement 1 24 [.ref a0] (w_X8_loadStatement g a0 u0_0 u0_1 u0_2 u0_3 u0_4 u0_5 u0_7 u0_8 u0_9 x0_errorStatement) sz (some (.int r)) (w_X8_loadStatement g a0 u0_0 u0_1 u0_2 u0_3 u0_4 u0_5 u0_7 u0_8 u0_9 x0_errorStatement) := by
  refine MI.start (cc := cX8_loadStatement) (maxL := 1) (ret := (some .int)) rfl rfl (nle rfl) ?_
  intro p e s m args below meth c A ls Q hQ hexec hb hr hts hown hlocks hml hA hP hD hG hS hl
  unfold f_X8_loadStatement at hf
  have hWX8 : ∀ w ∈ wsX80, w.before args s = true := fun w h => hts w (List.mem_cons_of_mem _ (List.mem_append_right _ h))
  have hS : va_S A s.heap s.heap [] := hS
  refine lv_aload_n (pc := 0) hexec hb dX8_loadStatement_0 rfl (lv_at hl 0 rfl) ?_
  refine kg_get (pc := 1) hexec hb (own := RX8) hWX8 hown hG hP 0 rfl rfl 6 (nle rfl) (hts _ (List.mem_cons_of_mem _ (List.mem_append_left _ (List.mem_of_getElem? (i := 0) rfl)))) rfl rfl dX8_loadStatement_1 ?_
  cases hf
  exact ke_i hQ hexec hb hr hP hD hS dX8_loadStatement_4 hlocks
abbrev w_X8_size (g : GE) (a0 a1 a2 a3 a4 a5 a6 a7 : Nat) (u0_2 u0_3 u0_4 u0_5 u0_6 u0_7 u0_8 u0_9 u1_0 u1_1 u2_3 u2_4 u3_4 u3_5 u4_2 u4_4 u4_5 u5_4 : Value) (x1_count : Int32) (x3_rows : Int32) (x3_columns : Int32) (x3_rivers : Int32) (x4_count : Int32) (x4_reds : Int32) (x5_count : Int32) (x5_next : Int32) (x5_turn : Int32) (x5_quarters : Int32) (y6_land : Nat → Int32) (y7_direction : Nat → Int32) : va_W := [(a0, .inr (8, [.ref a2, .ref a1, u0_2, u0_3, u0_4, u0_5, u0_6, u0_7, u0_8, u0_9])), (a1, .inr (3, [u1_0, u1_1, .int x1_count])), (a2, .inr (6, [.ref a3, .ref a4, .ref a5, u2_3, u2_4])), (a3, .inr (1, [.int x3_rows, .int x3_columns, .int x3_rivers, .ref a6, u3_4, u3_5])), (a4, .inr (2, [.int x4_count, .int x4_reds, u4_2, .ref a7, u4_4, u4_5])), (a5, .inr (4, [.int x5_count, .int x5_next, .int x5_turn, .int x5_quarters, u5_4])), (a6, .inl (g.2.1 1, 144, .inl y6_land)), (a7, .inl (g.2.1 0, 8, .inl y7_direction))]
set_option maxRecDepth 20000 in
theorem c_X8_size (l : Launch) (g : GE) (a0 a1 a2 a3 a4 a5 a6 a7 : Nat) (sz : Nat) (u0_2 u0_3 u0_4 u0_5 u0_6 u0_7 u0_8 u0_9 u1_0 u1_1 u2_3 u2_4 u3_4 u3_5 u4_2 u4_4 u4_5 u5_4 : Value) (x1_count : Int32) (x3_rows : Int32) (x3_columns : Int32) (x3_rivers : Int32) (x4_count : Int32) (x4_reds : Int32) (x5_count : Int32) (x5_next : Int32) (x5_turn : Int32) (x5_quarters : Int32) (y6_land : Nat → Int32) (y7_direction : Nat → Int32) (p1 : Int32)  (r : Int32) (hf : f_X8_size x1_count x3_rows x3_columns x3_rivers x4_count x4_reds x5_count x5_next x5_turn x5_quarters y6_land y7_direction p1 = some r) : MI l g yX8_size wsX8_size 3 67 [.ref a0, .int p1] (w_X8_size g a0 a1 a2 a3 a4 a5 a6 a7 u0_2 u0_3 u0_4 u0_5 u0_6 u0_7 u0_8 u0_9 u1_0 u1_1 u2_3 u2_4 u3_4 u3_5 u4_2 u4_4 u4_5 u5_4 x1_count x3_rows x3_columns x3_rivers x4_count x4_reds x5_count x5_next x5_turn x5_quarters y6_land y7_direction) sz (some (.int r)) (w_X8_size g a0 a1 a2 a3 a4 a5 a6 a7 u0_2 u0_3 u0_4 u0_5 u0_6 u0_7 u0_8 u0_9 u1_0 u1_1 u2_3 u2_4 u3_4 u3_5 u4_2 u4_4 u4_5 u5_4 x1_count x3_rows x3_columns x3_rivers x4_count x4_reds x5_count x5_next x5_turn x5_quarters y6_land y7_direction) := by
  refine MI.start (cc := cX8_size) (maxL := 2) (ret := (some .int)) rfl rfl (nle rfl) ?_
  intro p e s m args below meth c A ls Q hQ hexec hb hr hts hown hlocks hml hA hP hD hG hS hl
  unfold f_X8_size at hf
  have hWX1 : ∀ w ∈ wsX10, w.before args s = true := fun w h => hts w (List.mem_cons_of_mem _ (List.mem_append_left _ (List.mem_append_left _ (List.mem_append_left _ (List.mem_append_left _ (List.mem_append_right _ h))))))
  have hWX2 : ∀ w ∈ wsX20, w.before args s = true := fun w h => hts w (List.mem_cons_of_mem _ (List.mem_append_left _ (List.mem_append_left _ (List.mem_append_left _ (List.mem_append_right _ h)))))
  have hWX3 : ∀ w ∈ wsX30, w.before args s = true := fun w h => hts w (List.mem_cons_of_mem _ (List.mem_append_left _ (List.mem_append_right _ h)))
  have hWX4 : ∀ w ∈ wsX40, w.before args s = true := fun w h => hts w (List.mem_cons_of_mem _ (List.mem_append_left _ (List.mem_append_left _ (List.mem_append_right _ h))))
  have hWX6 : ∀ w ∈ wsX60, w.before args s = true := fun w h => hts w (List.mem_cons_of_mem _ (List.mem_append_left _ (List.mem_append_left _ (List.mem_append_left _ (List.mem_append_left _ (List.mem_append_left _ (List.mem_append_right _ h)))))))
  have hWX8 : ∀ w ∈ wsX80, w.before args s = true := fun w h => hts w (List.mem_cons_of_mem _ (List.mem_append_left _ (List.mem_append_left _ (List.mem_append_left _ (List.mem_append_left _ (List.mem_append_left _ (List.mem_append_left _ (List.mem_append_right _ h))))))))
  have hS : va_S A s.heap s.heap [] := hS
  refine lv_iload_n (pc := 0) hexec hb dX8_size_0 rfl (lv_at hl 1 rfl) ?_
  rcases ite_or hf with ⟨hc0, hf⟩ | ⟨hc0, hf⟩
  · refine lv_tableIn (pc := 1) hexec hb dX8_size_1 (by rw [hc0]; decide) (by rw [hc0]; decide) (by rw [hc0]; rfl) (tgt := 64) rfl ?_
    refine lv_aload_n (pc := 64) hexec hb dX8_size_64 rfl (lv_at hl 0 rfl) ?_
    refine kg_get (pc := 65) hexec hb (own := RX8) hWX8 hown hG hP 0 rfl rfl 0 (nle rfl) (hts _ (List.mem_cons_of_mem _ (List.mem_append_left _ (List.mem_append_left _ (List.mem_append_left _ (List.mem_append_left _ (List.mem_append_left _ (List.mem_append_left _ (List.mem_append_left _ (List.mem_append_left _ (List.mem_of_getElem? (i := 2) rfl))))))))))) rfl rfl dX8_size_65 ?_
    refine kg_getN (pc := 68) hexec hb (own := RX8) hWX6 hown hG hP 2 rfl rfl 0 (nle rfl) 21 rfl rfl rfl dX8_size_68 ?_
    refine kg_getN (pc := 71) hexec hb (own := RX8) hWX1 hown hG hP 3 rfl rfl 0 (nle rfl) 0 rfl rfl rfl dX8_size_71 ?_
    cases hf
    exact ke_i hQ hexec hb hr hP hD hS dX8_size_74 hlocks
  rcases ite_or hf with ⟨hc1, hf⟩ | ⟨hc1, hf⟩
  · refine lv_tableIn (pc := 1) hexec hb dX8_size_1 (by rw [hc1]; decide) (by rw [hc1]; decide) (by rw [hc1]; rfl) (tgt := 75) rfl ?_
    refine lv_aload_n (pc := 75) hexec hb dX8_size_75 rfl (lv_at hl 0 rfl) ?_
    refine kg_get (pc := 76) hexec hb (own := RX8) hWX8 hown hG hP 0 rfl rfl 0 (nle rfl) (hts _ (List.mem_cons_of_mem _ (List.mem_append_left _ (List.mem_append_left _ (List.mem_append_left _ (List.mem_append_left _ (List.mem_append_left _ (List.mem_append_left _ (List.mem_append_left _ (List.mem_append_left _ (List.mem_of_getElem? (i := 2) rfl))))))))))) rfl rfl dX8_size_76 ?_
    refine kg_getN (pc := 79) hexec hb (own := RX8) hWX6 hown hG hP 2 rfl rfl 0 (nle rfl) 21 rfl rfl rfl dX8_size_79 ?_
    refine kg_getN (pc := 82) hexec hb (own := RX8) hWX1 hown hG hP 3 rfl rfl 1 (nle rfl) 2 rfl rfl rfl dX8_size_82 ?_
    cases hf
    exact ke_i hQ hexec hb hr hP hD hS dX8_size_85 hlocks
  rcases ite_or hf with ⟨hc2, hf⟩ | ⟨hc2, hf⟩
  · refine lv_tableIn (pc := 1) hexec hb dX8_size_1 (by rw [hc2]; decide) (by rw [hc2]; decide) (by rw [hc2]; rfl) (tgt := 86) rfl ?_
    refine lv_aload_n (pc := 86) hexec hb dX8_size_86 rfl (lv_at hl 0 rfl) ?_
    refine kg_get (pc := 87) hexec hb (own := RX8) hWX8 hown hG hP 0 rfl rfl 0 (nle rfl) (hts _ (List.mem_cons_of_mem _ (List.mem_append_left _ (List.mem_append_left _ (List.mem_append_left _ (List.mem_append_left _ (List.mem_append_left _ (List.mem_append_left _ (List.mem_append_left _ (List.mem_append_left _ (List.mem_of_getElem? (i := 2) rfl))))))))))) rfl rfl dX8_size_87 ?_
    refine kg_getN (pc := 90) hexec hb (own := RX8) hWX6 hown hG hP 2 rfl rfl 0 (nle rfl) 21 rfl rfl rfl dX8_size_90 ?_
    obtain ⟨r93, hc, hf⟩ := bd1_e hf
    refine kVp (pc := 93) (S := ⟨hexec, hb, hml, hown, hts⟩) hP hD hG hA hS [3, 6] [0, 1, 2, 4, 5, 7] [0, 1, 2, 6, 3, 4, 7, 5] (w2 := (w_X8_size g a0 a1 a2 a3 a4 a5 a6 a7 u0_2 u0_3 u0_4 u0_5 u0_6 u0_7 u0_8 u0_9 u1_0 u1_1 u2_3 u2_4 u3_4 u3_5 u4_2 u4_4 u4_5 u5_4 x1_count x3_rows x3_columns x3_rivers x4_count x4_reds x5_count x5_next x5_turn x5_quarters y6_land y7_direction)) rfl rfl rfl rfl rfl rfl (by decide) (c_X1_landCells l g a3 a6 _ (.int x3_rows) (.int x3_columns) (.int x3_rivers) u3_4 u3_5 y6_land r93 hc) gX8_size_X1_landCells rfl hv_X1_landCells ⟨nle rfl, nle rfl⟩ 1 0 rfl rfl rfl (rest := []) rfl rfl hl.1 (nle rfl) dX8_size_93 (fun H locs hP hD hS => ?_)
    cases hf
    exact ke_i hQ hexec hb hr hP hD hS dX8_size_96 hlocks
  rcases ite_or hf with ⟨hc3, hf⟩ | ⟨hc3, hf⟩
  · refine lv_tableIn (pc := 1) hexec hb dX8_size_1 (by rw [hc3]; decide) (by rw [hc3]; decide) (by rw [hc3]; rfl) (tgt := 97) rfl ?_
    refine lv_aload_n (pc := 97) hexec hb dX8_size_97 rfl (lv_at hl 0 rfl) ?_
    refine kg_get (pc := 98) hexec hb (own := RX8) hWX8 hown hG hP 0 rfl rfl 0 (nle rfl) (hts _ (List.mem_cons_of_mem _ (List.mem_append_left _ (List.mem_append_left _ (List.mem_append_left _ (List.mem_append_left _ (List.mem_append_left _ (List.mem_append_left _ (List.mem_append_left _ (List.mem_append_left _ (List.mem_of_getElem? (i := 2) rfl))))))))))) rfl rfl dX8_size_98 ?_
    refine kg_getN (pc := 101) hexec hb (own := RX8) hWX6 hown hG hP 2 rfl rfl 1 (nle rfl) 24 rfl rfl rfl dX8_size_101 ?_
    refine kg_getN (pc := 104) hexec hb (own := RX8) hWX2 hown hG hP 4 rfl rfl 0 (nle rfl) 6 rfl rfl rfl dX8_size_104 ?_
    cases hf
    exact ke_i hQ hexec hb hr hP hD hS dX8_size_107 hlocks
  rcases ite_or hf with ⟨hc4, hf⟩ | ⟨hc4, hf⟩
  · refine lv_tableIn (pc := 1) hexec hb dX8_size_1 (by rw [hc4]; decide) (by rw [hc4]; decide) (by rw [hc4]; rfl) (tgt := 108) rfl ?_
    refine lv_aload_n (pc := 108) hexec hb dX8_size_108 rfl (lv_at hl 0 rfl) ?_
    refine kg_get (pc := 109) hexec hb (own := RX8) hWX8 hown hG hP 0 rfl rfl 0 (nle rfl) (hts _ (List.mem_cons_of_mem _ (List.mem_append_left _ (List.mem_append_left _ (List.mem_append_left _ (List.mem_append_left _ (List.mem_append_left _ (List.mem_append_left _ (List.mem_append_left _ (List.mem_append_left _ (List.mem_of_getElem? (i := 2) rfl))))))))))) rfl rfl dX8_size_109 ?_
    refine kg_getN (pc := 112) hexec hb (own := RX8) hWX6 hown hG hP 2 rfl rfl 0 (nle rfl) 21 rfl rfl rfl dX8_size_112 ?_
    refine kg_getN (pc := 115) hexec hb (own := RX8) hWX1 hown hG hP 3 rfl rfl 2 (nle rfl) 4 rfl rfl rfl dX8_size_115 ?_
    cases hf
    exact ke_i hQ hexec hb hr hP hD hS dX8_size_118 hlocks
  rcases ite_or hf with ⟨hc5, hf⟩ | ⟨hc5, hf⟩
  · refine lv_tableIn (pc := 1) hexec hb dX8_size_1 (by rw [hc5]; decide) (by rw [hc5]; decide) (by rw [hc5]; rfl) (tgt := 119) rfl ?_
    refine lv_aload_n (pc := 119) hexec hb dX8_size_119 rfl (lv_at hl 0 rfl) ?_
    refine kg_get (pc := 120) hexec hb (own := RX8) hWX8 hown hG hP 0 rfl rfl 0 (nle rfl) (hts _ (List.mem_cons_of_mem _ (List.mem_append_left _ (List.mem_append_left _ (List.mem_append_left _ (List.mem_append_left _ (List.mem_append_left _ (List.mem_append_left _ (List.mem_append_left _ (List.mem_append_left _ (List.mem_of_getElem? (i := 2) rfl))))))))))) rfl rfl dX8_size_120 ?_
    refine kg_getN (pc := 123) hexec hb (own := RX8) hWX6 hown hG hP 2 rfl rfl 1 (nle rfl) 24 rfl rfl rfl dX8_size_123 ?_
    obtain ⟨r126, hc, hf⟩ := bd1_e hf
    refine kVp (pc := 126) (S := ⟨hexec, hb, hml, hown, hts⟩) hP hD hG hA hS [4, 7] [0, 1, 2, 3, 5, 6] [0, 1, 2, 3, 6, 4, 5, 7] (w2 := (w_X8_size g a0 a1 a2 a3 a4 a5 a6 a7 u0_2 u0_3 u0_4 u0_5 u0_6 u0_7 u0_8 u0_9 u1_0 u1_1 u2_3 u2_4 u3_4 u3_5 u4_2 u4_4 u4_5 u5_4 x1_count x3_rows x3_columns x3_rivers x4_count x4_reds x5_count x5_next x5_turn x5_quarters y6_land y7_direction)) rfl rfl rfl rfl rfl rfl (by decide) (c_X2_placedNames l g a4 a7 _ (.int x4_reds) u4_2 u4_4 u4_5 x4_count y7_direction r126 hc) gX8_size_X2_placedNames rfl hv_X2_placedNames ⟨nle rfl, nle rfl⟩ 2 0 rfl rfl rfl (rest := []) rfl rfl hl.1 (nle rfl) dX8_size_126 (fun H locs hP hD hS => ?_)
    obtain ⟨r129, hc, hf⟩ := bd1_e hf
    refine kSp (pc := 129) (S := ⟨hexec, hb, hml, hown, hts⟩) hP hD hG hA hS [] [0, 1, 2, 3, 4, 5, 6, 7] [0, 1, 2, 3, 4, 5, 6, 7] (w2 := (w_X8_size g a0 a1 a2 a3 a4 a5 a6 a7 u0_2 u0_3 u0_4 u0_5 u0_6 u0_7 u0_8 u0_9 u1_0 u1_1 u2_3 u2_4 u3_4 u3_5 u4_2 u4_4 u4_5 u5_4 x1_count x3_rows x3_columns x3_rivers x4_count x4_reds x5_count x5_next x5_turn x5_quarters y6_land y7_direction)) rfl rfl rfl rfl rfl rfl (by decide) (c_J6_bitCount_0f7a4 l g _ r126 r129 hc) gX8_size_J6_bitCount_0f7a4 rfl hs_J6_bitCount_0f7a4 ⟨nle rfl, nle rfl⟩ (rest := []) rfl rfl hl.1 (nle rfl) dX8_size_129 (fun H locs hP hD hS => ?_)
    cases hf
    exact ke_i hQ hexec hb hr hP hD hS dX8_size_132 hlocks
  rcases ite_or hf with ⟨hc6, hf⟩ | ⟨hc6, hf⟩
  · refine lv_tableIn (pc := 1) hexec hb dX8_size_1 (by rw [hc6]; decide) (by rw [hc6]; decide) (by rw [hc6]; rfl) (tgt := 133) rfl ?_
    refine lv_aload_n (pc := 133) hexec hb dX8_size_133 rfl (lv_at hl 0 rfl) ?_
    refine kg_get (pc := 134) hexec hb (own := RX8) hWX8 hown hG hP 0 rfl rfl 0 (nle rfl) (hts _ (List.mem_cons_of_mem _ (List.mem_append_left _ (List.mem_append_left _ (List.mem_append_left _ (List.mem_append_left _ (List.mem_append_left _ (List.mem_append_left _ (List.mem_append_left _ (List.mem_append_left _ (List.mem_of_getElem? (i := 2) rfl))))))))))) rfl rfl dX8_size_134 ?_
    refine kg_getN (pc := 137) hexec hb (own := RX8) hWX6 hown hG hP 2 rfl rfl 1 (nle rfl) 24 rfl rfl rfl dX8_size_137 ?_
    obtain ⟨r140, hc, hf⟩ := bd1_e hf
    refine kVp (pc := 140) (S := ⟨hexec, hb, hml, hown, hts⟩) hP hD hG hA hS [4, 7] [0, 1, 2, 3, 5, 6] [0, 1, 2, 3, 6, 4, 5, 7] (w2 := (w_X8_size g a0 a1 a2 a3 a4 a5 a6 a7 u0_2 u0_3 u0_4 u0_5 u0_6 u0_7 u0_8 u0_9 u1_0 u1_1 u2_3 u2_4 u3_4 u3_5 u4_2 u4_4 u4_5 u5_4 x1_count x3_rows x3_columns x3_rivers x4_count x4_reds x5_count x5_next x5_turn x5_quarters y6_land y7_direction)) rfl rfl rfl rfl rfl rfl (by decide) (c_X2_placedNames l g a4 a7 _ (.int x4_reds) u4_2 u4_4 u4_5 x4_count y7_direction r140 hc) gX8_size_X2_placedNames rfl hv_X2_placedNames ⟨nle rfl, nle rfl⟩ 2 0 rfl rfl rfl (rest := []) rfl rfl hl.1 (nle rfl) dX8_size_140 (fun H locs hP hD hS => ?_)
    refine lv_aload_n (pc := 143) hexec hb dX8_size_143 rfl (lv_at hl 0 rfl) ?_
    refine kg_get (pc := 144) hexec hb (own := RX8) hWX8 hown hG hP 0 rfl rfl 0 (nle rfl) (hts _ (List.mem_cons_of_mem _ (List.mem_append_left _ (List.mem_append_left _ (List.mem_append_left _ (List.mem_append_left _ (List.mem_append_left _ (List.mem_append_left _ (List.mem_append_left _ (List.mem_append_left _ (List.mem_of_getElem? (i := 2) rfl))))))))))) rfl rfl dX8_size_144 ?_
    refine kg_getN (pc := 147) hexec hb (own := RX8) hWX6 hown hG hP 2 rfl rfl 1 (nle rfl) 24 rfl rfl rfl dX8_size_147 ?_
    refine kg_getN (pc := 150) hexec hb (own := RX8) hWX2 hown hG hP 4 rfl rfl 1 (nle rfl) 10 rfl rfl rfl dX8_size_150 ?_
    refine lv_iand (pc := 153) hexec hb dX8_size_153 ?_
    obtain ⟨r154, hc, hf⟩ := bd1_e hf
    refine kSp (pc := 154) (S := ⟨hexec, hb, hml, hown, hts⟩) hP hD hG hA hS [] [0, 1, 2, 3, 4, 5, 6, 7] [0, 1, 2, 3, 4, 5, 6, 7] (w2 := (w_X8_size g a0 a1 a2 a3 a4 a5 a6 a7 u0_2 u0_3 u0_4 u0_5 u0_6 u0_7 u0_8 u0_9 u1_0 u1_1 u2_3 u2_4 u3_4 u3_5 u4_2 u4_4 u4_5 u5_4 x1_count x3_rows x3_columns x3_rivers x4_count x4_reds x5_count x5_next x5_turn x5_quarters y6_land y7_direction)) rfl rfl rfl rfl rfl rfl (by decide) (c_J6_bitCount_0f7a4 l g _ (r140 &&& x4_reds) r154 hc) gX8_size_J6_bitCount_0f7a4 rfl hs_J6_bitCount_0f7a4 ⟨nle rfl, nle rfl⟩ (rest := []) rfl rfl hl.1 (nle rfl) dX8_size_154 (fun H locs hP hD hS => ?_)
    cases hf
    exact ke_i hQ hexec hb hr hP hD hS dX8_size_157 hlocks
  rcases ite_or hf with ⟨hc7, hf⟩ | ⟨hc7, hf⟩
  · refine lv_tableIn (pc := 1) hexec hb dX8_size_1 (by rw [hc7]; decide) (by rw [hc7]; decide) (by rw [hc7]; rfl) (tgt := 158) rfl ?_
    refine lv_aload_n (pc := 158) hexec hb dX8_size_158 rfl (lv_at hl 0 rfl) ?_
    refine kg_get (pc := 159) hexec hb (own := RX8) hWX8 hown hG hP 0 rfl rfl 0 (nle rfl) (hts _ (List.mem_cons_of_mem _ (List.mem_append_left _ (List.mem_append_left _ (List.mem_append_left _ (List.mem_append_left _ (List.mem_append_left _ (List.mem_append_left _ (List.mem_append_left _ (List.mem_append_left _ (List.mem_of_getElem? (i := 2) rfl))))))))))) rfl rfl dX8_size_159 ?_
    refine kg_getN (pc := 162) hexec hb (own := RX8) hWX6 hown hG hP 2 rfl rfl 2 (nle rfl) 27 rfl rfl rfl dX8_size_162 ?_
    refine kg_getN (pc := 165) hexec hb (own := RX8) hWX4 hown hG hP 5 rfl rfl 0 (nle rfl) 14 rfl rfl rfl dX8_size_165 ?_
    cases hf
    exact ke_i hQ hexec hb hr hP hD hS dX8_size_168 hlocks
  rcases ite_or hf with ⟨hc8, hf⟩ | ⟨hc8, hf⟩
  · refine lv_tableIn (pc := 1) hexec hb dX8_size_1 (by rw [hc8]; decide) (by rw [hc8]; decide) (by rw [hc8]; rfl) (tgt := 169) rfl ?_
    refine lv_aload_n (pc := 169) hexec hb dX8_size_169 rfl (lv_at hl 0 rfl) ?_
    refine kg_get (pc := 170) hexec hb (own := RX8) hWX8 hown hG hP 0 rfl rfl 0 (nle rfl) (hts _ (List.mem_cons_of_mem _ (List.mem_append_left _ (List.mem_append_left _ (List.mem_append_left _ (List.mem_append_left _ (List.mem_append_left _ (List.mem_append_left _ (List.mem_append_left _ (List.mem_append_left _ (List.mem_of_getElem? (i := 2) rfl))))))))))) rfl rfl dX8_size_170 ?_
    refine kg_getN (pc := 173) hexec hb (own := RX8) hWX6 hown hG hP 2 rfl rfl 2 (nle rfl) 27 rfl rfl rfl dX8_size_173 ?_
    refine kg_getN (pc := 176) hexec hb (own := RX8) hWX4 hown hG hP 5 rfl rfl 2 (nle rfl) 16 rfl rfl rfl dX8_size_176 ?_
    cases hf
    exact ke_i hQ hexec hb hr hP hD hS dX8_size_179 hlocks
  rcases ite_or hf with ⟨hc9, hf⟩ | ⟨hc9, hf⟩
  · refine lv_tableIn (pc := 1) hexec hb dX8_size_1 (by rw [hc9]; decide) (by rw [hc9]; decide) (by rw [hc9]; rfl) (tgt := 180) rfl ?_
    refine lv_aload_n (pc := 180) hexec hb dX8_size_180 rfl (lv_at hl 0 rfl) ?_
    refine kg_get (pc := 181) hexec hb (own := RX8) hWX8 hown hG hP 0 rfl rfl 0 (nle rfl) (hts _ (List.mem_cons_of_mem _ (List.mem_append_left _ (List.mem_append_left _ (List.mem_append_left _ (List.mem_append_left _ (List.mem_append_left _ (List.mem_append_left _ (List.mem_append_left _ (List.mem_append_left _ (List.mem_of_getElem? (i := 2) rfl))))))))))) rfl rfl dX8_size_181 ?_
    refine kg_getN (pc := 184) hexec hb (own := RX8) hWX6 hown hG hP 2 rfl rfl 2 (nle rfl) 27 rfl rfl rfl dX8_size_184 ?_
    refine kg_getN (pc := 187) hexec hb (own := RX8) hWX4 hown hG hP 5 rfl rfl 1 (nle rfl) 15 rfl rfl rfl dX8_size_187 ?_
    cases hf
    exact ke_i hQ hexec hb hr hP hD hS dX8_size_190 hlocks
  rcases ite_or hf with ⟨hc10, hf⟩ | ⟨hc10, hf⟩
  · refine lv_tableIn (pc := 1) hexec hb dX8_size_1 (by rw [hc10]; decide) (by rw [hc10]; decide) (by rw [hc10]; rfl) (tgt := 191) rfl ?_
    refine lv_aload_n (pc := 191) hexec hb dX8_size_191 rfl (lv_at hl 0 rfl) ?_
    refine kg_get (pc := 192) hexec hb (own := RX8) hWX8 hown hG hP 0 rfl rfl 0 (nle rfl) (hts _ (List.mem_cons_of_mem _ (List.mem_append_left _ (List.mem_append_left _ (List.mem_append_left _ (List.mem_append_left _ (List.mem_append_left _ (List.mem_append_left _ (List.mem_append_left _ (List.mem_append_left _ (List.mem_of_getElem? (i := 2) rfl))))))))))) rfl rfl dX8_size_192 ?_
    refine kg_getN (pc := 195) hexec hb (own := RX8) hWX6 hown hG hP 2 rfl rfl 2 (nle rfl) 27 rfl rfl rfl dX8_size_195 ?_
    refine kg_getN (pc := 198) hexec hb (own := RX8) hWX4 hown hG hP 5 rfl rfl 3 (nle rfl) 19 rfl rfl rfl dX8_size_198 ?_
    cases hf
    exact ke_i hQ hexec hb hr hP hD hS dX8_size_201 hlocks
  rcases ite_or hf with ⟨hc11, hf⟩ | ⟨hc11, hf⟩
  · refine lv_tableIn (pc := 1) hexec hb dX8_size_1 (by rw [hc11]; decide) (by rw [hc11]; decide) (by rw [hc11]; rfl) (tgt := 202) rfl ?_
    refine lv_aload_n (pc := 202) hexec hb dX8_size_202 rfl (lv_at hl 0 rfl) ?_
    refine kg_get (pc := 203) hexec hb (own := RX8) hWX8 hown hG hP 0 rfl rfl 1 (nle rfl) (hts _ (List.mem_cons_of_mem _ (List.mem_append_left _ (List.mem_append_left _ (List.mem_append_left _ (List.mem_append_left _ (List.mem_append_left _ (List.mem_append_left _ (List.mem_append_left _ (List.mem_append_left _ (List.mem_of_getElem? (i := 3) rfl))))))))))) rfl rfl dX8_size_203 ?_
    refine kg_getN (pc := 206) hexec hb (own := RX8) hWX3 hown hG hP 1 rfl rfl 2 (nle rfl) 30 rfl rfl rfl dX8_size_206 ?_
    cases hf
    exact ke_i hQ hexec hb hr hP hD hS dX8_size_209 hlocks
  refine lv_tableOut (pc := 1) hexec hb dX8_size_1 (by have h0 : ¬ (p1).toInt = 0 := fun h => hc0 (Int32.toInt_inj.mp (h.trans (by decide))); have h1 : ¬ (p1).toInt = 1 := fun h => hc1 (Int32.toInt_inj.mp (h.trans (by decide))); have h2 : ¬ (p1).toInt = 2 := fun h => hc2 (Int32.toInt_inj.mp (h.trans (by decide))); have h3 : ¬ (p1).toInt = 3 := fun h => hc3 (Int32.toInt_inj.mp (h.trans (by decide))); have h4 : ¬ (p1).toInt = 4 := fun h => hc4 (Int32.toInt_inj.mp (h.trans (by decide))); have h5 : ¬ (p1).toInt = 5 := fun h => hc5 (Int32.toInt_inj.mp (h.trans (by decide))); have h6 : ¬ (p1).toInt = 6 := fun h => hc6 (Int32.toInt_inj.mp (h.trans (by decide))); have h7 : ¬ (p1).toInt = 7 := fun h => hc7 (Int32.toInt_inj.mp (h.trans (by decide))); have h8 : ¬ (p1).toInt = 8 := fun h => hc8 (Int32.toInt_inj.mp (h.trans (by decide))); have h9 : ¬ (p1).toInt = 9 := fun h => hc9 (Int32.toInt_inj.mp (h.trans (by decide))); have h10 : ¬ (p1).toInt = 10 := fun h => hc10 (Int32.toInt_inj.mp (h.trans (by decide))); have h11 : ¬ (p1).toInt = 11 := fun h => hc11 (Int32.toInt_inj.mp (h.trans (by decide))); omega) (tgt := 210) rfl ?_
  cases hf
abbrev w_X8_needCell (g : GE) (a0 a1 a2 : Nat) (u0_1 u0_2 u0_3 u0_4 u0_5 u0_6 u0_7 u0_8 u0_9 u1_1 u1_2 u1_3 u1_4 u2_2 u2_3 u2_4 u2_5 : Value) (x2_rows : Int32) (x2_columns : Int32) : va_W := [(a0, .inr (8, [.ref a1, u0_1, u0_2, u0_3, u0_4, u0_5, u0_6, u0_7, u0_8, u0_9])), (a1, .inr (6, [.ref a2, u1_1, u1_2, u1_3, u1_4])), (a2, .inr (1, [.int x2_rows, .int x2_columns, u2_2, u2_3, u2_4, u2_5]))]
set_option maxRecDepth 20000 in
theorem c_X8_needCell (l : Launch) (g : GE) (a0 a1 a2 : Nat) (sz : Nat) (u0_1 u0_2 u0_3 u0_4 u0_5 u0_6 u0_7 u0_8 u0_9 u1_1 u1_2 u1_3 u1_4 u2_2 u2_3 u2_4 u2_5 : Value) (x2_rows : Int32) (x2_columns : Int32) (p1 : Int32)  (hf : f_X8_needCell x2_rows x2_columns p1 = some ()) : MI l g yX8_needCell wsX8_needCell 2 44 [.ref a0, .int p1] (w_X8_needCell g a0 a1 a2 u0_1 u0_2 u0_3 u0_4 u0_5 u0_6 u0_7 u0_8 u0_9 u1_1 u1_2 u1_3 u1_4 u2_2 u2_3 u2_4 u2_5 x2_rows x2_columns) sz none (w_X8_needCell g a0 a1 a2 u0_1 u0_2 u0_3 u0_4 u0_5 u0_6 u0_7 u0_8 u0_9 u1_1 u1_2 u1_3 u1_4 u2_2 u2_3 u2_4 u2_5 x2_rows x2_columns) := by
  refine MI.start (cc := cX8_needCell) (maxL := 2) (ret := none) rfl rfl (nle rfl) ?_
  intro p e s m args below meth c A ls Q hQ hexec hb hr hts hown hlocks hml hA hP hD hG hS hl
  unfold f_X8_needCell at hf
  have hWX1 : ∀ w ∈ wsX10, w.before args s = true := fun w h => hts w (List.mem_cons_of_mem _ (List.mem_append_left _ (List.mem_append_right _ h)))
  have hWX6 : ∀ w ∈ wsX60, w.before args s = true := fun w h => hts w (List.mem_cons_of_mem _ (List.mem_append_left _ (List.mem_append_left _ (List.mem_append_right _ h))))
  have hWX8 : ∀ w ∈ wsX80, w.before args s = true := fun w h => hts w (List.mem_cons_of_mem _ (List.mem_append_left _ (List.mem_append_left _ (List.mem_append_left _ (List.mem_append_right _ h)))))
  have hS : va_S A s.heap s.heap [] := hS
  refine lv_iload_n (pc := 0) hexec hb dX8_needCell_0 rfl (lv_at hl 1 rfl) ?_
  obtain ⟨j18, ej18, hf⟩ := bvf1 hf
  have hj18 : ∀ (u : Unit) (H : Heap) (locs : List Loc) (ls : Array Slot), j18 u = some () → va_P g.1 vwCl (w_X8_needCell g a0 a1 a2 u0_1 u0_2 u0_3 u0_4 u0_5 u0_6 u0_7 u0_8 u0_9 u1_1 u1_2 u1_3 u1_4 u2_2 u2_3 u2_4 u2_5 x2_rows x2_columns) H → va_D A (w_X8_needCell g a0 a1 a2 u0_1 u0_2 u0_3 u0_4 u0_5 u0_6 u0_7 u0_8 u0_9 u1_1 u1_2 u1_3 u1_4 u2_2 u2_3 u2_4 u2_5 x2_rows x2_columns) → va_S A s.heap H locs → lv_has ls 2 [] → W p l e (RM 2 44) s m args below meth c H locs 0 0 Q (F0 m 18 ls []) := by
    intro u H locs ls hf hP hD hS hl
    have hf := (ej18 u).symm.trans hf
    cases hf
  refine kb_lt (pc := 1) hexec hb dX8_needCell_1 (tgt := 18) rfl hf (fun hc hf => ?_) (fun hc hf => ?_)
  · exact hj18 _ _ _ _ hf hP hD hS (lv_sub hl [] rfl)
  · refine lv_iload_n (pc := 4) hexec hb dX8_needCell_4 rfl (lv_at hl 1 rfl) ?_
    refine lv_aload_n (pc := 5) hexec hb dX8_needCell_5 rfl (lv_at hl 0 rfl) ?_
    refine kg_get (pc := 6) hexec hb (own := RX8) hWX8 hown hG hP 0 rfl rfl 0 (nle rfl) (hts _ (List.mem_cons_of_mem _ (List.mem_append_left _ (List.mem_append_left _ (List.mem_append_left _ (List.mem_append_left _ (List.mem_of_getElem? (i := 2) rfl))))))) rfl rfl dX8_needCell_6 ?_
    refine kg_getN (pc := 9) hexec hb (own := RX8) hWX6 hown hG hP 1 rfl rfl 0 (nle rfl) 21 rfl rfl rfl dX8_needCell_9 ?_
    obtain ⟨r12, hc, hf⟩ := bd1_e hf
    refine kVp (pc := 12) (S := ⟨hexec, hb, hml, hown, hts⟩) hP hD hG hA hS [2] [0, 1] [0, 1, 2] (w2 := (w_X8_needCell g a0 a1 a2 u0_1 u0_2 u0_3 u0_4 u0_5 u0_6 u0_7 u0_8 u0_9 u1_1 u1_2 u1_3 u1_4 u2_2 u2_3 u2_4 u2_5 x2_rows x2_columns)) rfl rfl rfl rfl rfl rfl (by decide) (c_X1_cells l g a2 _ u2_2 u2_3 u2_4 u2_5 x2_rows x2_columns r12 hc) gX8_needCell_X1_cells rfl hv_X1_cells ⟨nle rfl, nle rfl⟩ 1 0 rfl rfl rfl (rest := [.int p1]) rfl rfl hl.1 (nle rfl) dX8_needCell_12 (fun H locs hP hD hS => ?_)
    refine ki_lt (pc := 15) hexec hb dX8_needCell_15 (tgt := 29) rfl hf (fun hc hf => ?_) (fun hc hf => ?_)
    · cases hf
      exact ke_v hQ hexec hb hr hP hD hS dX8_needCell_29 hlocks
    · exact hj18 _ _ _ _ hf hP hD hS (lv_sub hl [] rfl)
abbrev w_X8_cell (g : GE) (a0 a1 a2 a3 a4 a5 a6 a7 a8 : Nat) (u0_1 u0_2 u0_3 u0_4 u0_5 u0_6 u0_7 u0_8 u0_9 u1_2 u2_2 u2_5 u3_1 u3_3 u3_4 u3_5 : Value) (x2_rows : Int32) (x2_columns : Int32) (x3_count : Int32) (y4_letterOn : Nat → Int32) (y5_namesOn : Nat → Int32) (y6_land : Nat → Int32) (y7_riverOf : Nat → Int32) (y8_home : Nat → Int32) : va_W := [(a0, .inr (8, [.ref a1, u0_1, u0_2, u0_3, u0_4, u0_5, u0_6, u0_7, u0_8, u0_9])), (a1, .inr (6, [.ref a2, .ref a3, u1_2, .ref a5, .ref a4])), (a2, .inr (1, [.int x2_rows, .int x2_columns, u2_2, .ref a6, .ref a7, u2_5])), (a3, .inr (2, [.int x3_count, u3_1, .ref a8, u3_3, u3_4, u3_5])), (a4, .inl (g.2.1 0, 144, .inl y4_letterOn)), (a5, .inl (g.2.1 0, 144, .inl y5_namesOn)), (a6, .inl (g.2.1 1, 144, .inl y6_land)), (a7, .inl (g.2.1 0, 144, .inl y7_riverOf)), (a8, .inl (g.2.1 0, 8, .inl y8_home))]
set_option maxRecDepth 20000 in
theorem c_X8_cell (l : Launch) (g : GE) (a0 a1 a2 a3 a4 a5 a6 a7 a8 : Nat) (sz : Nat) (u0_1 u0_2 u0_3 u0_4 u0_5 u0_6 u0_7 u0_8 u0_9 u1_2 u2_2 u2_5 u3_1 u3_3 u3_4 u3_5 : Value) (x2_rows : Int32) (x2_columns : Int32) (x3_count : Int32) (y4_letterOn : Nat → Int32) (y5_namesOn : Nat → Int32) (y6_land : Nat → Int32) (y7_riverOf : Nat → Int32) (y8_home : Nat → Int32) (p1 : Int32) (p2 : Int32)  (r : Int32) (hf : f_X8_cell x2_rows x2_columns x3_count y4_letterOn y5_namesOn y6_land y7_riverOf y8_home p1 p2 = some r) : MI l g yX8_cell wsX8_cell 3 73 [.ref a0, .int p1, .int p2] (w_X8_cell g a0 a1 a2 a3 a4 a5 a6 a7 a8 u0_1 u0_2 u0_3 u0_4 u0_5 u0_6 u0_7 u0_8 u0_9 u1_2 u2_2 u2_5 u3_1 u3_3 u3_4 u3_5 x2_rows x2_columns x3_count y4_letterOn y5_namesOn y6_land y7_riverOf y8_home) sz (some (.int r)) (w_X8_cell g a0 a1 a2 a3 a4 a5 a6 a7 a8 u0_1 u0_2 u0_3 u0_4 u0_5 u0_6 u0_7 u0_8 u0_9 u1_2 u2_2 u2_5 u3_1 u3_3 u3_4 u3_5 x2_rows x2_columns x3_count y4_letterOn y5_namesOn y6_land y7_riverOf y8_home) := by
  refine MI.start (cc := cX8_cell) (maxL := 3) (ret := (some .int)) rfl rfl (nle rfl) ?_
  intro p e s m args below meth c A ls Q hQ hexec hb hr hts hown hlocks hml hA hP hD hG hS hl
  unfold f_X8_cell at hf
  have hWX1 : ∀ w ∈ wsX10, w.before args s = true := fun w h => hts w (List.mem_cons_of_mem _ (List.mem_append_left _ (List.mem_append_left _ (List.mem_append_left _ (List.mem_append_right _ h)))))
  have hWX2 : ∀ w ∈ wsX20, w.before args s = true := fun w h => hts w (List.mem_cons_of_mem _ (List.mem_append_left _ (List.mem_append_left _ (List.mem_append_right _ h))))
  have hWX6 : ∀ w ∈ wsX60, w.before args s = true := fun w h => hts w (List.mem_cons_of_mem _ (List.mem_append_left _ (List.mem_append_left _ (List.mem_append_left _ (List.mem_append_left _ (List.mem_append_right _ h))))))
  have hWX8 : ∀ w ∈ wsX80, w.before args s = true := fun w h => hts w (List.mem_cons_of_mem _ (List.mem_append_left _ (List.mem_append_left _ (List.mem_append_left _ (List.mem_append_left _ (List.mem_append_left _ (List.mem_append_right _ h)))))))
  have hS : va_S A s.heap s.heap [] := hS
  refine lv_aload_n (pc := 0) hexec hb dX8_cell_0 rfl (lv_at hl 0 rfl) ?_
  refine lv_iload_n (pc := 1) hexec hb dX8_cell_1 rfl (lv_at hl 1 rfl) ?_
  obtain ⟨_, hc, hf⟩ := bd1_e hf
  refine kVp (pc := 2) (S := ⟨hexec, hb, hml, hown, hts⟩) hP hD hG hA hS [0, 1, 2] [3, 4, 5, 6, 7, 8] [6, 7, 8, 0, 1, 2, 3, 4, 5] (w2 := (w_X8_cell g a0 a1 a2 a3 a4 a5 a6 a7 a8 u0_1 u0_2 u0_3 u0_4 u0_5 u0_6 u0_7 u0_8 u0_9 u1_2 u2_2 u2_5 u3_1 u3_3 u3_4 u3_5 x2_rows x2_columns x3_count y4_letterOn y5_namesOn y6_land y7_riverOf y8_home)) rfl rfl rfl rfl rfl rfl (by decide) (c_X8_needCell l g a0 a1 a2 _ u0_1 u0_2 u0_3 u0_4 u0_5 u0_6 u0_7 u0_8 u0_9 (.ref a3) u1_2 (.ref a5) (.ref a4) u2_2 (.ref a6) (.ref a7) u2_5 x2_rows x2_columns p1 hc) gX8_cell_X8_needCell rfl hv_X8_needCell ⟨nle rfl, nle rfl⟩ 8 0 rfl rfl rfl (rest := []) rfl rfl hl.1 (nle rfl) dX8_cell_2 (fun H locs hP hD hS => ?_)
  refine lv_iload_n (pc := 5) hexec hb dX8_cell_5 rfl (lv_at hl 2 rfl) ?_
  rcases ite_or hf with ⟨hc0, hf⟩ | ⟨hc0, hf⟩
  · refine lv_tableIn (pc := 6) hexec hb dX8_cell_6 (by rw [hc0]; decide) (by rw [hc0]; decide) (by rw [hc0]; rfl) (tgt := 44) rfl ?_
    refine lv_aload_n (pc := 44) hexec hb dX8_cell_44 rfl (lv_at hl 0 rfl) ?_
    refine kg_get (pc := 45) hexec hb (own := RX8) hWX8 hown hG hP 0 rfl rfl 0 (nle rfl) (hts _ (List.mem_cons_of_mem _ (List.mem_append_left _ (List.mem_append_left _ (List.mem_append_left _ (List.mem_append_left _ (List.mem_append_left _ (List.mem_append_left _ (List.mem_append_left _ (List.mem_of_getElem? (i := 2) rfl)))))))))) rfl rfl dX8_cell_45 ?_
    refine kg_getN (pc := 48) hexec hb (own := RX8) hWX6 hown hG hP 1 rfl rfl 0 (nle rfl) 21 rfl rfl rfl dX8_cell_48 ?_
    refine lv_iload_n (pc := 51) hexec hb dX8_cell_51 rfl (lv_at hl 1 rfl) ?_
    obtain ⟨r52, hc, hf⟩ := bd1_e hf
    refine kVp (pc := 52) (S := ⟨hexec, hb, hml, hown, hts⟩) hP hD hG hA hS [2, 7] [0, 1, 3, 4, 5, 6, 8] [0, 1, 7, 2, 3, 4, 5, 8, 6] (w2 := (w_X8_cell g a0 a1 a2 a3 a4 a5 a6 a7 a8 u0_1 u0_2 u0_3 u0_4 u0_5 u0_6 u0_7 u0_8 u0_9 u1_2 u2_2 u2_5 u3_1 u3_3 u3_4 u3_5 x2_rows x2_columns x3_count y4_letterOn y5_namesOn y6_land y7_riverOf y8_home)) rfl rfl rfl rfl rfl rfl (by decide) (c_X1_isRiver l g a2 a7 _ (.int x2_rows) (.int x2_columns) u2_2 (.ref a6) u2_5 y7_riverOf p1 r52 hc) gX8_cell_X1_isRiver rfl hv_X1_isRiver ⟨nle rfl, nle rfl⟩ 1 0 rfl rfl rfl (rest := []) rfl rfl hl.1 (nle rfl) dX8_cell_52 (fun H locs hP hD hS => ?_)
    refine kb_eq (pc := 55) hexec hb dX8_cell_55 (tgt := 62) rfl hf (fun hc hf => ?_) (fun hc hf => ?_)
    · refine lv_aload_n (pc := 62) hexec hb dX8_cell_62 rfl (lv_at hl 0 rfl) ?_
      refine kg_get (pc := 63) hexec hb (own := RX8) hWX8 hown hG hP 0 rfl rfl 0 (nle rfl) (hts _ (List.mem_cons_of_mem _ (List.mem_append_left _ (List.mem_append_left _ (List.mem_append_left _ (List.mem_append_left _ (List.mem_append_left _ (List.mem_append_left _ (List.mem_append_left _ (List.mem_of_getElem? (i := 2) rfl)))))))))) rfl rfl dX8_cell_63 ?_
      refine kg_getN (pc := 66) hexec hb (own := RX8) hWX6 hown hG hP 1 rfl rfl 0 (nle rfl) 21 rfl rfl rfl dX8_cell_66 ?_
      refine lv_iload_n (pc := 69) hexec hb dX8_cell_69 rfl (lv_at hl 1 rfl) ?_
      obtain ⟨r70, hc, hf⟩ := bd1_e hf
      refine kVp (pc := 70) (S := ⟨hexec, hb, hml, hown, hts⟩) hP hD hG hA hS [2, 6] [0, 1, 3, 4, 5, 7, 8] [0, 1, 7, 2, 3, 4, 8, 5, 6] (w2 := (w_X8_cell g a0 a1 a2 a3 a4 a5 a6 a7 a8 u0_1 u0_2 u0_3 u0_4 u0_5 u0_6 u0_7 u0_8 u0_9 u1_2 u2_2 u2_5 u3_1 u3_3 u3_4 u3_5 x2_rows x2_columns x3_count y4_letterOn y5_namesOn y6_land y7_riverOf y8_home)) rfl rfl rfl rfl rfl rfl (by decide) (c_X1_isLand l g a2 a6 _ (.int x2_rows) (.int x2_columns) u2_2 (.ref a7) u2_5 y6_land p1 r70 hc) gX8_cell_X1_isLand rfl hv_X1_isLand ⟨nle rfl, nle rfl⟩ 1 0 rfl rfl rfl (rest := []) rfl rfl hl.1 (nle rfl) dX8_cell_70 (fun H locs hP hD hS => ?_)
      refine kb_eq (pc := 73) hexec hb dX8_cell_73 (tgt := 80) rfl hf (fun hc hf => ?_) (fun hc hf => ?_)
      · refine lv_iconst (pc := 80) hexec hb dX8_cell_80 ki_0 ?_
        cases hf
        exact ke_i hQ hexec hb hr hP hD hS dX8_cell_81 hlocks
      · refine lv_iconst (pc := 76) hexec hb dX8_cell_76 ki_1 ?_
        refine lv_goto (pc := 77) hexec hb dX8_cell_77 (tgt := 81) rfl ?_
        cases hf
        exact ke_i hQ hexec hb hr hP hD hS dX8_cell_81 hlocks
    · refine lv_iconst (pc := 58) hexec hb dX8_cell_58 ki_2 ?_
      refine lv_goto (pc := 59) hexec hb dX8_cell_59 (tgt := 81) rfl ?_
      cases hf
      exact ke_i hQ hexec hb hr hP hD hS dX8_cell_81 hlocks
  rcases ite_or hf with ⟨hc1, hf⟩ | ⟨hc1, hf⟩
  · refine lv_tableIn (pc := 6) hexec hb dX8_cell_6 (by rw [hc1]; decide) (by rw [hc1]; decide) (by rw [hc1]; rfl) (tgt := 82) rfl ?_
    refine lv_aload_n (pc := 82) hexec hb dX8_cell_82 rfl (lv_at hl 0 rfl) ?_
    refine kg_get (pc := 83) hexec hb (own := RX8) hWX8 hown hG hP 0 rfl rfl 0 (nle rfl) (hts _ (List.mem_cons_of_mem _ (List.mem_append_left _ (List.mem_append_left _ (List.mem_append_left _ (List.mem_append_left _ (List.mem_append_left _ (List.mem_append_left _ (List.mem_append_left _ (List.mem_of_getElem? (i := 2) rfl)))))))))) rfl rfl dX8_cell_83 ?_
    refine kg_getN (pc := 86) hexec hb (own := RX8) hWX6 hown hG hP 1 rfl rfl 1 (nle rfl) 24 rfl rfl rfl dX8_cell_86 ?_
    refine lv_iload_n (pc := 89) hexec hb dX8_cell_89 rfl (lv_at hl 1 rfl) ?_
    obtain ⟨r90, hc, hf⟩ := bd1_e hf
    refine kVp (pc := 90) (S := ⟨hexec, hb, hml, hown, hts⟩) hP hD hG hA hS [3, 8] [0, 1, 2, 4, 5, 6, 7] [0, 1, 2, 7, 3, 4, 5, 6, 8] (w2 := (w_X8_cell g a0 a1 a2 a3 a4 a5 a6 a7 a8 u0_1 u0_2 u0_3 u0_4 u0_5 u0_6 u0_7 u0_8 u0_9 u1_2 u2_2 u2_5 u3_1 u3_3 u3_4 u3_5 x2_rows x2_columns x3_count y4_letterOn y5_namesOn y6_land y7_riverOf y8_home)) rfl rfl rfl rfl rfl rfl (by decide) (c_X2_inCell l g a3 a8 _ u3_1 u3_3 u3_4 u3_5 x3_count y8_home p1 r90 hc) gX8_cell_X2_inCell rfl hv_X2_inCell ⟨nle rfl, nle rfl⟩ 2 0 rfl rfl rfl (rest := []) rfl rfl hl.1 (nle rfl) dX8_cell_90 (fun H locs hP hD hS => ?_)
    cases hf
    exact ke_i hQ hexec hb hr hP hD hS dX8_cell_93 hlocks
  rcases ite_or hf with ⟨hc2, hf⟩ | ⟨hc2, hf⟩
  · refine lv_tableIn (pc := 6) hexec hb dX8_cell_6 (by rw [hc2]; decide) (by rw [hc2]; decide) (by rw [hc2]; rfl) (tgt := 94) rfl ?_
    refine lv_aload_n (pc := 94) hexec hb dX8_cell_94 rfl (lv_at hl 0 rfl) ?_
    refine kg_get (pc := 95) hexec hb (own := RX8) hWX8 hown hG hP 0 rfl rfl 0 (nle rfl) (hts _ (List.mem_cons_of_mem _ (List.mem_append_left _ (List.mem_append_left _ (List.mem_append_left _ (List.mem_append_left _ (List.mem_append_left _ (List.mem_append_left _ (List.mem_append_left _ (List.mem_of_getElem? (i := 2) rfl)))))))))) rfl rfl dX8_cell_95 ?_
    refine kg_getN (pc := 98) hexec hb (own := RX8) hWX6 hown hG hP 1 rfl rfl 0 (nle rfl) 21 rfl rfl rfl dX8_cell_98 ?_
    refine lv_iload_n (pc := 101) hexec hb dX8_cell_101 rfl (lv_at hl 1 rfl) ?_
    obtain ⟨r102, hc, hf⟩ := bd1_e hf
    refine kVp (pc := 102) (S := ⟨hexec, hb, hml, hown, hts⟩) hP hD hG hA hS [2, 7] [0, 1, 3, 4, 5, 6, 8] [0, 1, 7, 2, 3, 4, 5, 8, 6] (w2 := (w_X8_cell g a0 a1 a2 a3 a4 a5 a6 a7 a8 u0_1 u0_2 u0_3 u0_4 u0_5 u0_6 u0_7 u0_8 u0_9 u1_2 u2_2 u2_5 u3_1 u3_3 u3_4 u3_5 x2_rows x2_columns x3_count y4_letterOn y5_namesOn y6_land y7_riverOf y8_home)) rfl rfl rfl rfl rfl rfl (by decide) (c_X1_riverIn l g a2 a7 _ (.int x2_rows) (.int x2_columns) u2_2 (.ref a6) u2_5 y7_riverOf p1 r102 hc) gX8_cell_X1_riverIn rfl hv_X1_riverIn ⟨nle rfl, nle rfl⟩ 1 0 rfl rfl rfl (rest := []) rfl rfl hl.1 (nle rfl) dX8_cell_102 (fun H locs hP hD hS => ?_)
    cases hf
    exact ke_i hQ hexec hb hr hP hD hS dX8_cell_105 hlocks
  rcases ite_or hf with ⟨hc3, hf⟩ | ⟨hc3, hf⟩
  · refine lv_tableIn (pc := 6) hexec hb dX8_cell_6 (by rw [hc3]; decide) (by rw [hc3]; decide) (by rw [hc3]; rfl) (tgt := 106) rfl ?_
    refine lv_aload_n (pc := 106) hexec hb dX8_cell_106 rfl (lv_at hl 0 rfl) ?_
    refine kg_get (pc := 107) hexec hb (own := RX8) hWX8 hown hG hP 0 rfl rfl 0 (nle rfl) (hts _ (List.mem_cons_of_mem _ (List.mem_append_left _ (List.mem_append_left _ (List.mem_append_left _ (List.mem_append_left _ (List.mem_append_left _ (List.mem_append_left _ (List.mem_append_left _ (List.mem_of_getElem? (i := 2) rfl)))))))))) rfl rfl dX8_cell_107 ?_
    refine lv_iload_n (pc := 110) hexec hb dX8_cell_110 rfl (lv_at hl 1 rfl) ?_
    obtain ⟨r111, hc, hf⟩ := bd1_e hf
    refine kVp (pc := 111) (S := ⟨hexec, hb, hml, hown, hts⟩) hP hD hG hA hS [1, 4, 5] [0, 2, 3, 6, 7, 8] [0, 6, 1, 2, 7, 8, 3, 4, 5] (w2 := (w_X8_cell g a0 a1 a2 a3 a4 a5 a6 a7 a8 u0_1 u0_2 u0_3 u0_4 u0_5 u0_6 u0_7 u0_8 u0_9 u1_2 u2_2 u2_5 u3_1 u3_3 u3_4 u3_5 x2_rows x2_columns x3_count y4_letterOn y5_namesOn y6_land y7_riverOf y8_home)) rfl rfl rfl rfl rfl rfl (by decide) (c_X6_letterIn l g a1 a4 a5 _ (.ref a2) (.ref a3) u1_2 y4_letterOn y5_namesOn p1 r111 hc) gX8_cell_X6_letterIn rfl hv_X6_letterIn ⟨nle rfl, nle rfl⟩ 6 0 rfl rfl rfl (rest := []) rfl rfl hl.1 (nle rfl) dX8_cell_111 (fun H locs hP hD hS => ?_)
    cases hf
    exact ke_i hQ hexec hb hr hP hD hS dX8_cell_114 hlocks
  rcases ite_or hf with ⟨hc4, hf⟩ | ⟨hc4, hf⟩
  · refine lv_tableIn (pc := 6) hexec hb dX8_cell_6 (by rw [hc4]; decide) (by rw [hc4]; decide) (by rw [hc4]; rfl) (tgt := 115) rfl ?_
    refine lv_aload_n (pc := 115) hexec hb dX8_cell_115 rfl (lv_at hl 0 rfl) ?_
    refine kg_get (pc := 116) hexec hb (own := RX8) hWX8 hown hG hP 0 rfl rfl 0 (nle rfl) (hts _ (List.mem_cons_of_mem _ (List.mem_append_left _ (List.mem_append_left _ (List.mem_append_left _ (List.mem_append_left _ (List.mem_append_left _ (List.mem_append_left _ (List.mem_append_left _ (List.mem_of_getElem? (i := 2) rfl)))))))))) rfl rfl dX8_cell_116 ?_
    refine lv_iload_n (pc := 119) hexec hb dX8_cell_119 rfl (lv_at hl 1 rfl) ?_
    obtain ⟨r120, hc, hf⟩ := bd1_e hf
    refine kVp (pc := 120) (S := ⟨hexec, hb, hml, hown, hts⟩) hP hD hG hA hS [1, 5] [0, 2, 3, 4, 6, 7, 8] [0, 7, 1, 2, 3, 8, 4, 5, 6] (w2 := (w_X8_cell g a0 a1 a2 a3 a4 a5 a6 a7 a8 u0_1 u0_2 u0_3 u0_4 u0_5 u0_6 u0_7 u0_8 u0_9 u1_2 u2_2 u2_5 u3_1 u3_3 u3_4 u3_5 x2_rows x2_columns x3_count y4_letterOn y5_namesOn y6_land y7_riverOf y8_home)) rfl rfl rfl rfl rfl rfl (by decide) (c_X6_namesIn l g a1 a5 _ (.ref a2) (.ref a3) u1_2 (.ref a4) y5_namesOn p1 r120 hc) gX8_cell_X6_namesIn rfl hv_X6_namesIn ⟨nle rfl, nle rfl⟩ 6 0 rfl rfl rfl (rest := []) rfl rfl hl.1 (nle rfl) dX8_cell_120 (fun H locs hP hD hS => ?_)
    cases hf
    exact ke_i hQ hexec hb hr hP hD hS dX8_cell_123 hlocks
  rcases ite_or hf with ⟨hc5, hf⟩ | ⟨hc5, hf⟩
  · refine lv_tableIn (pc := 6) hexec hb dX8_cell_6 (by rw [hc5]; decide) (by rw [hc5]; decide) (by rw [hc5]; rfl) (tgt := 124) rfl ?_
    refine lv_aload_n (pc := 124) hexec hb dX8_cell_124 rfl (lv_at hl 0 rfl) ?_
    refine kg_get (pc := 125) hexec hb (own := RX8) hWX8 hown hG hP 0 rfl rfl 0 (nle rfl) (hts _ (List.mem_cons_of_mem _ (List.mem_append_left _ (List.mem_append_left _ (List.mem_append_left _ (List.mem_append_left _ (List.mem_append_left _ (List.mem_append_left _ (List.mem_append_left _ (List.mem_of_getElem? (i := 2) rfl)))))))))) rfl rfl dX8_cell_125 ?_
    refine kg_getN (pc := 128) hexec hb (own := RX8) hWX6 hown hG hP 1 rfl rfl 0 (nle rfl) 21 rfl rfl rfl dX8_cell_128 ?_
    refine lv_iload_n (pc := 131) hexec hb dX8_cell_131 rfl (lv_at hl 1 rfl) ?_
    obtain ⟨r132, hc, hf⟩ := bd1_e hf
    refine kVp (pc := 132) (S := ⟨hexec, hb, hml, hown, hts⟩) hP hD hG hA hS [2, 6] [0, 1, 3, 4, 5, 7, 8] [0, 1, 7, 2, 3, 4, 8, 5, 6] (w2 := (w_X8_cell g a0 a1 a2 a3 a4 a5 a6 a7 a8 u0_1 u0_2 u0_3 u0_4 u0_5 u0_6 u0_7 u0_8 u0_9 u1_2 u2_2 u2_5 u3_1 u3_3 u3_4 u3_5 x2_rows x2_columns x3_count y4_letterOn y5_namesOn y6_land y7_riverOf y8_home)) rfl rfl rfl rfl rfl rfl (by decide) (c_X1_depthOf l g a2 a6 _ u2_2 (.ref a7) u2_5 x2_rows x2_columns y6_land p1 r132 hc) gX8_cell_X1_depthOf rfl hv_X1_depthOf ⟨nle rfl, nle rfl⟩ 1 0 rfl rfl rfl (rest := []) rfl rfl hl.1 (nle rfl) dX8_cell_132 (fun H locs hP hD hS => ?_)
    cases hf
    exact ke_i hQ hexec hb hr hP hD hS dX8_cell_135 hlocks
  refine lv_tableOut (pc := 6) hexec hb dX8_cell_6 (by have h0 : ¬ (p2).toInt = 0 := fun h => hc0 (Int32.toInt_inj.mp (h.trans (by decide))); have h1 : ¬ (p2).toInt = 1 := fun h => hc1 (Int32.toInt_inj.mp (h.trans (by decide))); have h2 : ¬ (p2).toInt = 2 := fun h => hc2 (Int32.toInt_inj.mp (h.trans (by decide))); have h3 : ¬ (p2).toInt = 3 := fun h => hc3 (Int32.toInt_inj.mp (h.trans (by decide))); have h4 : ¬ (p2).toInt = 4 := fun h => hc4 (Int32.toInt_inj.mp (h.trans (by decide))); have h5 : ¬ (p2).toInt = 5 := fun h => hc5 (Int32.toInt_inj.mp (h.trans (by decide))); omega) (tgt := 136) rfl ?_
  cases hf
abbrev w_X8_needHarbour (g : GE) (a0 a1 a2 : Nat) (u0_1 u0_2 u0_3 u0_4 u0_5 u0_6 u0_7 u0_8 u0_9 u1_0 u1_2 u1_3 u1_4 u2_1 u2_2 u2_3 u2_4 u2_5 : Value) (x2_count : Int32) : va_W := [(a0, .inr (8, [.ref a1, u0_1, u0_2, u0_3, u0_4, u0_5, u0_6, u0_7, u0_8, u0_9])), (a1, .inr (6, [u1_0, .ref a2, u1_2, u1_3, u1_4])), (a2, .inr (2, [.int x2_count, u2_1, u2_2, u2_3, u2_4, u2_5]))]
set_option maxRecDepth 20000 in
theorem c_X8_needHarbour (l : Launch) (g : GE) (a0 a1 a2 : Nat) (sz : Nat) (u0_1 u0_2 u0_3 u0_4 u0_5 u0_6 u0_7 u0_8 u0_9 u1_0 u1_2 u1_3 u1_4 u2_1 u2_2 u2_3 u2_4 u2_5 : Value) (x2_count : Int32) (p1 : Int32)  (hf : f_X8_needHarbour x2_count p1 = some ()) : MI l g yX8_needHarbour wsX8_needHarbour 1 24 [.ref a0, .int p1] (w_X8_needHarbour g a0 a1 a2 u0_1 u0_2 u0_3 u0_4 u0_5 u0_6 u0_7 u0_8 u0_9 u1_0 u1_2 u1_3 u1_4 u2_1 u2_2 u2_3 u2_4 u2_5 x2_count) sz none (w_X8_needHarbour g a0 a1 a2 u0_1 u0_2 u0_3 u0_4 u0_5 u0_6 u0_7 u0_8 u0_9 u1_0 u1_2 u1_3 u1_4 u2_1 u2_2 u2_3 u2_4 u2_5 x2_count) := by
  refine MI.start (cc := cX8_needHarbour) (maxL := 2) (ret := none) rfl rfl (nle rfl) ?_
  intro p e s m args below meth c A ls Q hQ hexec hb hr hts hown hlocks hml hA hP hD hG hS hl
  unfold f_X8_needHarbour at hf
  have hWX2 : ∀ w ∈ wsX20, w.before args s = true := fun w h => hts w (List.mem_cons_of_mem _ (List.mem_append_left _ (List.mem_append_right _ h)))
  have hWX6 : ∀ w ∈ wsX60, w.before args s = true := fun w h => hts w (List.mem_cons_of_mem _ (List.mem_append_left _ (List.mem_append_left _ (List.mem_append_right _ h))))
  have hWX8 : ∀ w ∈ wsX80, w.before args s = true := fun w h => hts w (List.mem_cons_of_mem _ (List.mem_append_left _ (List.mem_append_left _ (List.mem_append_left _ (List.mem_append_right _ h)))))
  have hS : va_S A s.heap s.heap [] := hS
  refine lv_iload_n (pc := 0) hexec hb dX8_needHarbour_0 rfl (lv_at hl 1 rfl) ?_
  obtain ⟨j18, ej18, hf⟩ := bvf1 hf
  have hj18 : ∀ (u : Unit) (H : Heap) (locs : List Loc) (ls : Array Slot), j18 u = some () → va_P g.1 vwCl (w_X8_needHarbour g a0 a1 a2 u0_1 u0_2 u0_3 u0_4 u0_5 u0_6 u0_7 u0_8 u0_9 u1_0 u1_2 u1_3 u1_4 u2_1 u2_2 u2_3 u2_4 u2_5 x2_count) H → va_D A (w_X8_needHarbour g a0 a1 a2 u0_1 u0_2 u0_3 u0_4 u0_5 u0_6 u0_7 u0_8 u0_9 u1_0 u1_2 u1_3 u1_4 u2_1 u2_2 u2_3 u2_4 u2_5 x2_count) → va_S A s.heap H locs → lv_has ls 2 [] → W p l e (RM 1 24) s m args below meth c H locs 0 0 Q (F0 m 18 ls []) := by
    intro u H locs ls hf hP hD hS hl
    have hf := (ej18 u).symm.trans hf
    cases hf
  refine kb_lt (pc := 1) hexec hb dX8_needHarbour_1 (tgt := 18) rfl hf (fun hc hf => ?_) (fun hc hf => ?_)
  · exact hj18 _ _ _ _ hf hP hD hS (lv_sub hl [] rfl)
  · refine lv_iload_n (pc := 4) hexec hb dX8_needHarbour_4 rfl (lv_at hl 1 rfl) ?_
    refine lv_aload_n (pc := 5) hexec hb dX8_needHarbour_5 rfl (lv_at hl 0 rfl) ?_
    refine kg_get (pc := 6) hexec hb (own := RX8) hWX8 hown hG hP 0 rfl rfl 0 (nle rfl) (hts _ (List.mem_cons_of_mem _ (List.mem_append_left _ (List.mem_append_left _ (List.mem_append_left _ (List.mem_append_left _ (List.mem_of_getElem? (i := 2) rfl))))))) rfl rfl dX8_needHarbour_6 ?_
    refine kg_getN (pc := 9) hexec hb (own := RX8) hWX6 hown hG hP 1 rfl rfl 1 (nle rfl) 24 rfl rfl rfl dX8_needHarbour_9 ?_
    refine kg_getN (pc := 12) hexec hb (own := RX8) hWX2 hown hG hP 2 rfl rfl 0 (nle rfl) 6 rfl rfl rfl dX8_needHarbour_12 ?_
    refine ki_lt (pc := 15) hexec hb dX8_needHarbour_15 (tgt := 29) rfl hf (fun hc hf => ?_) (fun hc hf => ?_)
    · cases hf
      exact ke_v hQ hexec hb hr hP hD hS dX8_needHarbour_29 hlocks
    · exact hj18 _ _ _ _ hf hP hD hS (lv_sub hl [] rfl)
abbrev w_X8_harbour (g : GE) (a0 a1 a2 a3 a4 a5 a6 a7 : Nat) (u0_1 u0_2 u0_3 u0_4 u0_5 u0_6 u0_7 u0_8 u0_9 u1_0 u1_3 u1_4 u2_5 u3_1 u3_2 u3_3 : Value) (x2_count : Int32) (x2_reds : Int32) (x3_count : Int32) (y4_direction : Nat → Int32) (y5_home : Nat → Int32) (y6_length : Nat → Int32) (y7_stops : Nat → Int32) : va_W := [(a0, .inr (8, [.ref a1, u0_1, u0_2, u0_3, u0_4, u0_5, u0_6, u0_7, u0_8, u0_9])), (a1, .inr (6, [u1_0, .ref a2, .ref a3, u1_3, u1_4])), (a2, .inr (2, [.int x2_count, .int x2_reds, .ref a5, .ref a4, .ref a6, u2_5])), (a3, .inr (4, [.int x3_count, u3_1, u3_2, u3_3, .ref a7])), (a4, .inl (g.2.1 0, 8, .inl y4_direction)), (a5, .inl (g.2.1 0, 8, .inl y5_home)), (a6, .inl (g.2.1 0, 8, .inl y6_length)), (a7, .inl (g.2.1 0, 16, .inl y7_stops))]
set_option maxRecDepth 20000 in
theorem c_X8_harbour (l : Launch) (g : GE) (a0 a1 a2 a3 a4 a5 a6 a7 : Nat) (sz : Nat) (u0_1 u0_2 u0_3 u0_4 u0_5 u0_6 u0_7 u0_8 u0_9 u1_0 u1_3 u1_4 u2_5 u3_1 u3_2 u3_3 : Value) (x2_count : Int32) (x2_reds : Int32) (x3_count : Int32) (y4_direction : Nat → Int32) (y5_home : Nat → Int32) (y6_length : Nat → Int32) (y7_stops : Nat → Int32) (p1 : Int32) (p2 : Int32)  (r : Int32) (hf : f_X8_harbour x2_count x2_reds x3_count y4_direction y5_home y6_length y7_stops p1 p2 = some r) : MI l g yX8_harbour wsX8_harbour 3 68 [.ref a0, .int p1, .int p2] (w_X8_harbour g a0 a1 a2 a3 a4 a5 a6 a7 u0_1 u0_2 u0_3 u0_4 u0_5 u0_6 u0_7 u0_8 u0_9 u1_0 u1_3 u1_4 u2_5 u3_1 u3_2 u3_3 x2_count x2_reds x3_count y4_direction y5_home y6_length y7_stops) sz (some (.int r)) (w_X8_harbour g a0 a1 a2 a3 a4 a5 a6 a7 u0_1 u0_2 u0_3 u0_4 u0_5 u0_6 u0_7 u0_8 u0_9 u1_0 u1_3 u1_4 u2_5 u3_1 u3_2 u3_3 x2_count x2_reds x3_count y4_direction y5_home y6_length y7_stops) := by
  refine MI.start (cc := cX8_harbour) (maxL := 3) (ret := (some .int)) rfl rfl (nle rfl) ?_
  intro p e s m args below meth c A ls Q hQ hexec hb hr hts hown hlocks hml hA hP hD hG hS hl
  unfold f_X8_harbour at hf
  have hWX2 : ∀ w ∈ wsX20, w.before args s = true := fun w h => hts w (List.mem_cons_of_mem _ (List.mem_append_left _ (List.mem_append_left _ (List.mem_append_left _ (List.mem_append_right _ h)))))
  have hWX4 : ∀ w ∈ wsX40, w.before args s = true := fun w h => hts w (List.mem_cons_of_mem _ (List.mem_append_left _ (List.mem_append_left _ (List.mem_append_right _ h))))
  have hWX6 : ∀ w ∈ wsX60, w.before args s = true := fun w h => hts w (List.mem_cons_of_mem _ (List.mem_append_left _ (List.mem_append_left _ (List.mem_append_left _ (List.mem_append_left _ (List.mem_append_right _ h))))))
  have hWX8 : ∀ w ∈ wsX80, w.before args s = true := fun w h => hts w (List.mem_cons_of_mem _ (List.mem_append_left _ (List.mem_append_left _ (List.mem_append_left _ (List.mem_append_left _ (List.mem_append_left _ (List.mem_append_right _ h)))))))
  have hS : va_S A s.heap s.heap [] := hS
  refine lv_aload_n (pc := 0) hexec hb dX8_harbour_0 rfl (lv_at hl 0 rfl) ?_
  refine lv_iload_n (pc := 1) hexec hb dX8_harbour_1 rfl (lv_at hl 1 rfl) ?_
  obtain ⟨_, hc, hf⟩ := bd1_e hf
  refine kVp (pc := 2) (S := ⟨hexec, hb, hml, hown, hts⟩) hP hD hG hA hS [0, 1, 2] [3, 4, 5, 6, 7] [5, 6, 7, 0, 1, 2, 3, 4] (w2 := (w_X8_harbour g a0 a1 a2 a3 a4 a5 a6 a7 u0_1 u0_2 u0_3 u0_4 u0_5 u0_6 u0_7 u0_8 u0_9 u1_0 u1_3 u1_4 u2_5 u3_1 u3_2 u3_3 x2_count x2_reds x3_count y4_direction y5_home y6_length y7_stops)) rfl rfl rfl rfl rfl rfl (by decide) (c_X8_needHarbour l g a0 a1 a2 _ u0_1 u0_2 u0_3 u0_4 u0_5 u0_6 u0_7 u0_8 u0_9 u1_0 (.ref a3) u1_3 u1_4 (.int x2_reds) (.ref a5) (.ref a4) (.ref a6) u2_5 x2_count p1 hc) gX8_harbour_X8_needHarbour rfl hv_X8_needHarbour ⟨nle rfl, nle rfl⟩ 8 0 rfl rfl rfl (rest := []) rfl rfl hl.1 (nle rfl) dX8_harbour_2 (fun H locs hP hD hS => ?_)
  refine lv_iload_n (pc := 5) hexec hb dX8_harbour_5 rfl (lv_at hl 2 rfl) ?_
  rcases ite_or hf with ⟨hc0, hf⟩ | ⟨hc0, hf⟩
  · refine lv_tableIn (pc := 6) hexec hb dX8_harbour_6 (by rw [hc0]; decide) (by rw [hc0]; decide) (by rw [hc0]; rfl) (tgt := 40) rfl ?_
    refine lv_aload_n (pc := 40) hexec hb dX8_harbour_40 rfl (lv_at hl 0 rfl) ?_
    refine kg_get (pc := 41) hexec hb (own := RX8) hWX8 hown hG hP 0 rfl rfl 0 (nle rfl) (hts _ (List.mem_cons_of_mem _ (List.mem_append_left _ (List.mem_append_left _ (List.mem_append_left _ (List.mem_append_left _ (List.mem_append_left _ (List.mem_append_left _ (List.mem_append_left _ (List.mem_of_getElem? (i := 2) rfl)))))))))) rfl rfl dX8_harbour_41 ?_
    refine kg_getN (pc := 44) hexec hb (own := RX8) hWX6 hown hG hP 1 rfl rfl 1 (nle rfl) 24 rfl rfl rfl dX8_harbour_44 ?_
    refine lv_iload_n (pc := 47) hexec hb dX8_harbour_47 rfl (lv_at hl 1 rfl) ?_
    obtain ⟨r48, hc, hf⟩ := bd1_e hf
    refine kVp (pc := 48) (S := ⟨hexec, hb, hml, hown, hts⟩) hP hD hG hA hS [2, 5] [0, 1, 3, 4, 6, 7] [0, 1, 6, 2, 3, 7, 4, 5] (w2 := (w_X8_harbour g a0 a1 a2 a3 a4 a5 a6 a7 u0_1 u0_2 u0_3 u0_4 u0_5 u0_6 u0_7 u0_8 u0_9 u1_0 u1_3 u1_4 u2_5 u3_1 u3_2 u3_3 x2_count x2_reds x3_count y4_direction y5_home y6_length y7_stops)) rfl rfl rfl rfl rfl rfl (by decide) (c_X2_homeOf l g a2 a5 _ (.int x2_reds) (.ref a4) (.ref a6) u2_5 x2_count y5_home p1 r48 hc) gX8_harbour_X2_homeOf rfl hv_X2_homeOf ⟨nle rfl, nle rfl⟩ 2 0 rfl rfl rfl (rest := []) rfl rfl hl.1 (nle rfl) dX8_harbour_48 (fun H locs hP hD hS => ?_)
    cases hf
    exact ke_i hQ hexec hb hr hP hD hS dX8_harbour_51 hlocks
  rcases ite_or hf with ⟨hc1, hf⟩ | ⟨hc1, hf⟩
  · refine lv_tableIn (pc := 6) hexec hb dX8_harbour_6 (by rw [hc1]; decide) (by rw [hc1]; decide) (by rw [hc1]; rfl) (tgt := 52) rfl ?_
    refine lv_aload_n (pc := 52) hexec hb dX8_harbour_52 rfl (lv_at hl 0 rfl) ?_
    refine kg_get (pc := 53) hexec hb (own := RX8) hWX8 hown hG hP 0 rfl rfl 0 (nle rfl) (hts _ (List.mem_cons_of_mem _ (List.mem_append_left _ (List.mem_append_left _ (List.mem_append_left _ (List.mem_append_left _ (List.mem_append_left _ (List.mem_append_left _ (List.mem_append_left _ (List.mem_of_getElem? (i := 2) rfl)))))))))) rfl rfl dX8_harbour_53 ?_
    refine kg_getN (pc := 56) hexec hb (own := RX8) hWX6 hown hG hP 1 rfl rfl 1 (nle rfl) 24 rfl rfl rfl dX8_harbour_56 ?_
    refine lv_iload_n (pc := 59) hexec hb dX8_harbour_59 rfl (lv_at hl 1 rfl) ?_
    obtain ⟨r60, hc, hf⟩ := bd1_e hf
    refine kVp (pc := 60) (S := ⟨hexec, hb, hml, hown, hts⟩) hP hD hG hA hS [2] [0, 1, 3, 4, 5, 6, 7] [0, 1, 7, 2, 3, 4, 5, 6] (w2 := (w_X8_harbour g a0 a1 a2 a3 a4 a5 a6 a7 u0_1 u0_2 u0_3 u0_4 u0_5 u0_6 u0_7 u0_8 u0_9 u1_0 u1_3 u1_4 u2_5 u3_1 u3_2 u3_3 x2_count x2_reds x3_count y4_direction y5_home y6_length y7_stops)) rfl rfl rfl rfl rfl rfl (by decide) (c_X2_isRed l g a2 _ (.int x2_count) (.ref a5) (.ref a4) (.ref a6) u2_5 x2_reds p1 r60 hc) gX8_harbour_X2_isRed rfl hv_X2_isRed ⟨nle rfl, nle rfl⟩ 2 0 rfl rfl rfl (rest := []) rfl rfl hl.1 (nle rfl) dX8_harbour_60 (fun H locs hP hD hS => ?_)
    refine kb_eq (pc := 63) hexec hb dX8_harbour_63 (tgt := 70) rfl hf (fun hc hf => ?_) (fun hc hf => ?_)
    · refine lv_iconst (pc := 70) hexec hb dX8_harbour_70 ki_0 ?_
      cases hf
      exact ke_i hQ hexec hb hr hP hD hS dX8_harbour_71 hlocks
    · refine lv_iconst (pc := 66) hexec hb dX8_harbour_66 ki_1 ?_
      refine lv_goto (pc := 67) hexec hb dX8_harbour_67 (tgt := 71) rfl ?_
      cases hf
      exact ke_i hQ hexec hb hr hP hD hS dX8_harbour_71 hlocks
  rcases ite_or hf with ⟨hc2, hf⟩ | ⟨hc2, hf⟩
  · refine lv_tableIn (pc := 6) hexec hb dX8_harbour_6 (by rw [hc2]; decide) (by rw [hc2]; decide) (by rw [hc2]; rfl) (tgt := 72) rfl ?_
    refine lv_aload_n (pc := 72) hexec hb dX8_harbour_72 rfl (lv_at hl 0 rfl) ?_
    refine kg_get (pc := 73) hexec hb (own := RX8) hWX8 hown hG hP 0 rfl rfl 0 (nle rfl) (hts _ (List.mem_cons_of_mem _ (List.mem_append_left _ (List.mem_append_left _ (List.mem_append_left _ (List.mem_append_left _ (List.mem_append_left _ (List.mem_append_left _ (List.mem_append_left _ (List.mem_of_getElem? (i := 2) rfl)))))))))) rfl rfl dX8_harbour_73 ?_
    refine kg_getN (pc := 76) hexec hb (own := RX8) hWX6 hown hG hP 1 rfl rfl 1 (nle rfl) 24 rfl rfl rfl dX8_harbour_76 ?_
    refine lv_iload_n (pc := 79) hexec hb dX8_harbour_79 rfl (lv_at hl 1 rfl) ?_
    obtain ⟨r80, hc, hf⟩ := bd1_e hf
    refine kVp (pc := 80) (S := ⟨hexec, hb, hml, hown, hts⟩) hP hD hG hA hS [2, 4] [0, 1, 3, 5, 6, 7] [0, 1, 6, 2, 7, 3, 4, 5] (w2 := (w_X8_harbour g a0 a1 a2 a3 a4 a5 a6 a7 u0_1 u0_2 u0_3 u0_4 u0_5 u0_6 u0_7 u0_8 u0_9 u1_0 u1_3 u1_4 u2_5 u3_1 u3_2 u3_3 x2_count x2_reds x3_count y4_direction y5_home y6_length y7_stops)) rfl rfl rfl rfl rfl rfl (by decide) (c_X2_directionOf l g a2 a4 _ (.int x2_reds) (.ref a5) (.ref a6) u2_5 x2_count y4_direction p1 r80 hc) gX8_harbour_X2_directionOf rfl hv_X2_directionOf ⟨nle rfl, nle rfl⟩ 2 0 rfl rfl rfl (rest := []) rfl rfl hl.1 (nle rfl) dX8_harbour_80 (fun H locs hP hD hS => ?_)
    cases hf
    exact ke_i hQ hexec hb hr hP hD hS dX8_harbour_83 hlocks
  rcases ite_or hf with ⟨hc3, hf⟩ | ⟨hc3, hf⟩
  · refine lv_tableIn (pc := 6) hexec hb dX8_harbour_6 (by rw [hc3]; decide) (by rw [hc3]; decide) (by rw [hc3]; rfl) (tgt := 84) rfl ?_
    refine lv_aload_n (pc := 84) hexec hb dX8_harbour_84 rfl (lv_at hl 0 rfl) ?_
    refine kg_get (pc := 85) hexec hb (own := RX8) hWX8 hown hG hP 0 rfl rfl 0 (nle rfl) (hts _ (List.mem_cons_of_mem _ (List.mem_append_left _ (List.mem_append_left _ (List.mem_append_left _ (List.mem_append_left _ (List.mem_append_left _ (List.mem_append_left _ (List.mem_append_left _ (List.mem_of_getElem? (i := 2) rfl)))))))))) rfl rfl dX8_harbour_85 ?_
    refine kg_getN (pc := 88) hexec hb (own := RX8) hWX6 hown hG hP 1 rfl rfl 1 (nle rfl) 24 rfl rfl rfl dX8_harbour_88 ?_
    refine lv_iload_n (pc := 91) hexec hb dX8_harbour_91 rfl (lv_at hl 1 rfl) ?_
    obtain ⟨r92, hc, hf⟩ := bd1_e hf
    refine kVp (pc := 92) (S := ⟨hexec, hb, hml, hown, hts⟩) hP hD hG hA hS [2, 6] [0, 1, 3, 4, 5, 7] [0, 1, 6, 2, 3, 4, 7, 5] (w2 := (w_X8_harbour g a0 a1 a2 a3 a4 a5 a6 a7 u0_1 u0_2 u0_3 u0_4 u0_5 u0_6 u0_7 u0_8 u0_9 u1_0 u1_3 u1_4 u2_5 u3_1 u3_2 u3_3 x2_count x2_reds x3_count y4_direction y5_home y6_length y7_stops)) rfl rfl rfl rfl rfl rfl (by decide) (c_X2_lengthOf l g a2 a6 _ (.int x2_reds) (.ref a5) (.ref a4) u2_5 x2_count y6_length p1 r92 hc) gX8_harbour_X2_lengthOf rfl hv_X2_lengthOf ⟨nle rfl, nle rfl⟩ 2 0 rfl rfl rfl (rest := []) rfl rfl hl.1 (nle rfl) dX8_harbour_92 (fun H locs hP hD hS => ?_)
    cases hf
    exact ke_i hQ hexec hb hr hP hD hS dX8_harbour_95 hlocks
  rcases ite_or hf with ⟨hc4, hf⟩ | ⟨hc4, hf⟩
  · refine lv_tableIn (pc := 6) hexec hb dX8_harbour_6 (by rw [hc4]; decide) (by rw [hc4]; decide) (by rw [hc4]; rfl) (tgt := 96) rfl ?_
    refine lv_aload_n (pc := 96) hexec hb dX8_harbour_96 rfl (lv_at hl 0 rfl) ?_
    refine kg_get (pc := 97) hexec hb (own := RX8) hWX8 hown hG hP 0 rfl rfl 0 (nle rfl) (hts _ (List.mem_cons_of_mem _ (List.mem_append_left _ (List.mem_append_left _ (List.mem_append_left _ (List.mem_append_left _ (List.mem_append_left _ (List.mem_append_left _ (List.mem_append_left _ (List.mem_of_getElem? (i := 2) rfl)))))))))) rfl rfl dX8_harbour_97 ?_
    refine kg_getN (pc := 100) hexec hb (own := RX8) hWX6 hown hG hP 1 rfl rfl 2 (nle rfl) 27 rfl rfl rfl dX8_harbour_100 ?_
    refine lv_iload_n (pc := 103) hexec hb dX8_harbour_103 rfl (lv_at hl 1 rfl) ?_
    obtain ⟨r104, hc, hf⟩ := bd1_e hf
    refine kVp (pc := 104) (S := ⟨hexec, hb, hml, hown, hts⟩) hP hD hG hA hS [3, 7] [0, 1, 2, 4, 5, 6] [0, 1, 2, 6, 3, 4, 5, 7] (w2 := (w_X8_harbour g a0 a1 a2 a3 a4 a5 a6 a7 u0_1 u0_2 u0_3 u0_4 u0_5 u0_6 u0_7 u0_8 u0_9 u1_0 u1_3 u1_4 u2_5 u3_1 u3_2 u3_3 x2_count x2_reds x3_count y4_direction y5_home y6_length y7_stops)) rfl rfl rfl rfl rfl rfl (by decide) (c_X4_timesOf l g a3 a7 _ u3_1 u3_2 u3_3 x3_count y7_stops p1 r104 hc) gX8_harbour_X4_timesOf rfl hv_X4_timesOf ⟨nle rfl, nle rfl⟩ 4 0 rfl rfl rfl (rest := []) rfl rfl hl.1 (nle rfl) dX8_harbour_104 (fun H locs hP hD hS => ?_)
    cases hf
    exact ke_i hQ hexec hb hr hP hD hS dX8_harbour_107 hlocks
  refine lv_tableOut (pc := 6) hexec hb dX8_harbour_6 (by have h0 : ¬ (p2).toInt = 0 := fun h => hc0 (Int32.toInt_inj.mp (h.trans (by decide))); have h1 : ¬ (p2).toInt = 1 := fun h => hc1 (Int32.toInt_inj.mp (h.trans (by decide))); have h2 : ¬ (p2).toInt = 2 := fun h => hc2 (Int32.toInt_inj.mp (h.trans (by decide))); have h3 : ¬ (p2).toInt = 3 := fun h => hc3 (Int32.toInt_inj.mp (h.trans (by decide))); have h4 : ¬ (p2).toInt = 4 := fun h => hc4 (Int32.toInt_inj.mp (h.trans (by decide))); omega) (tgt := 108) rfl ?_
  cases hf
abbrev w_X8_letter (g : GE) (a0 a1 a2 a3 a4 : Nat) (u0_1 u0_2 u0_3 u0_4 u0_5 u0_6 u0_7 u0_8 u0_9 u1_0 u1_2 u1_3 u1_4 u2_1 u2_2 u2_3 : Value) (x2_count : Int32) (y3_length : Nat → Int32) (y4_letters : Nat → Int32) : va_W := [(a0, .inr (8, [.ref a1, u0_1, u0_2, u0_3, u0_4, u0_5, u0_6, u0_7, u0_8, u0_9])), (a1, .inr (6, [u1_0, .ref a2, u1_2, u1_3, u1_4])), (a2, .inr (2, [.int x2_count, u2_1, u2_2, u2_3, .ref a3, .ref a4])), (a3, .inl (g.2.1 0, 8, .inl y3_length)), (a4, .inl (g.2.1 0, 64, .inl y4_letters))]
set_option maxRecDepth 20000 in
theorem c_X8_letter (l : Launch) (g : GE) (a0 a1 a2 a3 a4 : Nat) (sz : Nat) (u0_1 u0_2 u0_3 u0_4 u0_5 u0_6 u0_7 u0_8 u0_9 u1_0 u1_2 u1_3 u1_4 u2_1 u2_2 u2_3 : Value) (x2_count : Int32) (y3_length : Nat → Int32) (y4_letters : Nat → Int32) (p1 : Int32) (p2 : Int32)  (r : Int32) (hf : f_X8_letter x2_count y3_length y4_letters p1 p2 = some r) : MI l g yX8_letter wsX8_letter 3 68 [.ref a0, .int p1, .int p2] (w_X8_letter g a0 a1 a2 a3 a4 u0_1 u0_2 u0_3 u0_4 u0_5 u0_6 u0_7 u0_8 u0_9 u1_0 u1_2 u1_3 u1_4 u2_1 u2_2 u2_3 x2_count y3_length y4_letters) sz (some (.int r)) (w_X8_letter g a0 a1 a2 a3 a4 u0_1 u0_2 u0_3 u0_4 u0_5 u0_6 u0_7 u0_8 u0_9 u1_0 u1_2 u1_3 u1_4 u2_1 u2_2 u2_3 x2_count y3_length y4_letters) := by
  refine MI.start (cc := cX8_letter) (maxL := 3) (ret := (some .int)) rfl rfl (nle rfl) ?_
  intro p e s m args below meth c A ls Q hQ hexec hb hr hts hown hlocks hml hA hP hD hG hS hl
  unfold f_X8_letter at hf
  have hWX2 : ∀ w ∈ wsX20, w.before args s = true := fun w h => hts w (List.mem_cons_of_mem _ (List.mem_append_left _ (List.mem_append_right _ h)))
  have hWX6 : ∀ w ∈ wsX60, w.before args s = true := fun w h => hts w (List.mem_cons_of_mem _ (List.mem_append_left _ (List.mem_append_left _ (List.mem_append_right _ h))))
  have hWX8 : ∀ w ∈ wsX80, w.before args s = true := fun w h => hts w (List.mem_cons_of_mem _ (List.mem_append_left _ (List.mem_append_left _ (List.mem_append_left _ (List.mem_append_right _ h)))))
  have hS : va_S A s.heap s.heap [] := hS
  refine lv_aload_n (pc := 0) hexec hb dX8_letter_0 rfl (lv_at hl 0 rfl) ?_
  refine lv_iload_n (pc := 1) hexec hb dX8_letter_1 rfl (lv_at hl 1 rfl) ?_
  obtain ⟨_, hc, hf⟩ := bd1_e hf
  refine kVp (pc := 2) (S := ⟨hexec, hb, hml, hown, hts⟩) hP hD hG hA hS [0, 1, 2] [3, 4] [2, 3, 4, 0, 1] (w2 := (w_X8_letter g a0 a1 a2 a3 a4 u0_1 u0_2 u0_3 u0_4 u0_5 u0_6 u0_7 u0_8 u0_9 u1_0 u1_2 u1_3 u1_4 u2_1 u2_2 u2_3 x2_count y3_length y4_letters)) rfl rfl rfl rfl rfl rfl (by decide) (c_X8_needHarbour l g a0 a1 a2 _ u0_1 u0_2 u0_3 u0_4 u0_5 u0_6 u0_7 u0_8 u0_9 u1_0 u1_2 u1_3 u1_4 u2_1 u2_2 u2_3 (.ref a3) (.ref a4) x2_count p1 hc) gX8_letter_X8_needHarbour rfl hv_X8_needHarbour ⟨nle rfl, nle rfl⟩ 8 0 rfl rfl rfl (rest := []) rfl rfl hl.1 (nle rfl) dX8_letter_2 (fun H locs hP hD hS => ?_)
  refine lv_aload_n (pc := 5) hexec hb dX8_letter_5 rfl (lv_at hl 0 rfl) ?_
  refine kg_get (pc := 6) hexec hb (own := RX8) hWX8 hown hG hP 0 rfl rfl 0 (nle rfl) (hts _ (List.mem_cons_of_mem _ (List.mem_append_left _ (List.mem_append_left _ (List.mem_append_left _ (List.mem_append_left _ (List.mem_of_getElem? (i := 0) rfl))))))) rfl rfl dX8_letter_6 ?_
  refine kg_getN (pc := 9) hexec hb (own := RX8) hWX6 hown hG hP 1 rfl rfl 1 (nle rfl) 24 rfl rfl rfl dX8_letter_9 ?_
  refine lv_iload_n (pc := 12) hexec hb dX8_letter_12 rfl (lv_at hl 1 rfl) ?_
  refine lv_iload_n (pc := 13) hexec hb dX8_letter_13 rfl (lv_at hl 2 rfl) ?_
  obtain ⟨r14, hc, hf⟩ := bd1_e hf
  refine kVp (pc := 14) (S := ⟨hexec, hb, hml, hown, hts⟩) hP hD hG hA hS [2, 3, 4] [0, 1] [0, 1, 2, 3, 4] (w2 := (w_X8_letter g a0 a1 a2 a3 a4 u0_1 u0_2 u0_3 u0_4 u0_5 u0_6 u0_7 u0_8 u0_9 u1_0 u1_2 u1_3 u1_4 u2_1 u2_2 u2_3 x2_count y3_length y4_letters)) rfl rfl rfl rfl rfl rfl (by decide) (c_X2_letterOf l g a2 a3 a4 _ u2_1 u2_2 u2_3 x2_count y3_length y4_letters p1 p2 r14 hc) gX8_letter_X2_letterOf rfl hv_X2_letterOf ⟨nle rfl, nle rfl⟩ 2 0 rfl rfl rfl (rest := []) rfl rfl hl.1 (nle rfl) dX8_letter_14 (fun H locs hP hD hS => ?_)
  cases hf
  exact ke_i hQ hexec hb hr hP hD hS dX8_letter_17 hlocks
abbrev w_X8_needRiver (g : GE) (a0 a1 a2 : Nat) (u0_1 u0_2 u0_3 u0_4 u0_5 u0_6 u0_7 u0_8 u0_9 u1_1 u1_2 u1_3 u1_4 u2_0 u2_1 u2_3 u2_4 u2_5 : Value) (x2_rivers : Int32) : va_W := [(a0, .inr (8, [.ref a1, u0_1, u0_2, u0_3, u0_4, u0_5, u0_6, u0_7, u0_8, u0_9])), (a1, .inr (6, [.ref a2, u1_1, u1_2, u1_3, u1_4])), (a2, .inr (1, [u2_0, u2_1, .int x2_rivers, u2_3, u2_4, u2_5]))]
set_option maxRecDepth 20000 in
theorem c_X8_needRiver (l : Launch) (g : GE) (a0 a1 a2 : Nat) (sz : Nat) (u0_1 u0_2 u0_3 u0_4 u0_5 u0_6 u0_7 u0_8 u0_9 u1_1 u1_2 u1_3 u1_4 u2_0 u2_1 u2_3 u2_4 u2_5 : Value) (x2_rivers : Int32) (p1 : Int32)  (hf : f_X8_needRiver x2_rivers p1 = some ()) : MI l g yX8_needRiver wsX8_needRiver 1 24 [.ref a0, .int p1] (w_X8_needRiver g a0 a1 a2 u0_1 u0_2 u0_3 u0_4 u0_5 u0_6 u0_7 u0_8 u0_9 u1_1 u1_2 u1_3 u1_4 u2_0 u2_1 u2_3 u2_4 u2_5 x2_rivers) sz none (w_X8_needRiver g a0 a1 a2 u0_1 u0_2 u0_3 u0_4 u0_5 u0_6 u0_7 u0_8 u0_9 u1_1 u1_2 u1_3 u1_4 u2_0 u2_1 u2_3 u2_4 u2_5 x2_rivers) := by
  refine MI.start (cc := cX8_needRiver) (maxL := 2) (ret := none) rfl rfl (nle rfl) ?_
  intro p e s m args below meth c A ls Q hQ hexec hb hr hts hown hlocks hml hA hP hD hG hS hl
  unfold f_X8_needRiver at hf
  have hWX1 : ∀ w ∈ wsX10, w.before args s = true := fun w h => hts w (List.mem_cons_of_mem _ (List.mem_append_left _ (List.mem_append_right _ h)))
  have hWX6 : ∀ w ∈ wsX60, w.before args s = true := fun w h => hts w (List.mem_cons_of_mem _ (List.mem_append_left _ (List.mem_append_left _ (List.mem_append_right _ h))))
  have hWX8 : ∀ w ∈ wsX80, w.before args s = true := fun w h => hts w (List.mem_cons_of_mem _ (List.mem_append_left _ (List.mem_append_left _ (List.mem_append_left _ (List.mem_append_right _ h)))))
  have hS : va_S A s.heap s.heap [] := hS
  refine lv_iload_n (pc := 0) hexec hb dX8_needRiver_0 rfl (lv_at hl 1 rfl) ?_
  obtain ⟨j18, ej18, hf⟩ := bvf1 hf
  have hj18 : ∀ (u : Unit) (H : Heap) (locs : List Loc) (ls : Array Slot), j18 u = some () → va_P g.1 vwCl (w_X8_needRiver g a0 a1 a2 u0_1 u0_2 u0_3 u0_4 u0_5 u0_6 u0_7 u0_8 u0_9 u1_1 u1_2 u1_3 u1_4 u2_0 u2_1 u2_3 u2_4 u2_5 x2_rivers) H → va_D A (w_X8_needRiver g a0 a1 a2 u0_1 u0_2 u0_3 u0_4 u0_5 u0_6 u0_7 u0_8 u0_9 u1_1 u1_2 u1_3 u1_4 u2_0 u2_1 u2_3 u2_4 u2_5 x2_rivers) → va_S A s.heap H locs → lv_has ls 2 [] → W p l e (RM 1 24) s m args below meth c H locs 0 0 Q (F0 m 18 ls []) := by
    intro u H locs ls hf hP hD hS hl
    have hf := (ej18 u).symm.trans hf
    cases hf
  refine kb_lt (pc := 1) hexec hb dX8_needRiver_1 (tgt := 18) rfl hf (fun hc hf => ?_) (fun hc hf => ?_)
  · exact hj18 _ _ _ _ hf hP hD hS (lv_sub hl [] rfl)
  · refine lv_iload_n (pc := 4) hexec hb dX8_needRiver_4 rfl (lv_at hl 1 rfl) ?_
    refine lv_aload_n (pc := 5) hexec hb dX8_needRiver_5 rfl (lv_at hl 0 rfl) ?_
    refine kg_get (pc := 6) hexec hb (own := RX8) hWX8 hown hG hP 0 rfl rfl 0 (nle rfl) (hts _ (List.mem_cons_of_mem _ (List.mem_append_left _ (List.mem_append_left _ (List.mem_append_left _ (List.mem_append_left _ (List.mem_of_getElem? (i := 2) rfl))))))) rfl rfl dX8_needRiver_6 ?_
    refine kg_getN (pc := 9) hexec hb (own := RX8) hWX6 hown hG hP 1 rfl rfl 0 (nle rfl) 21 rfl rfl rfl dX8_needRiver_9 ?_
    refine kg_getN (pc := 12) hexec hb (own := RX8) hWX1 hown hG hP 2 rfl rfl 2 (nle rfl) 4 rfl rfl rfl dX8_needRiver_12 ?_
    refine ki_lt (pc := 15) hexec hb dX8_needRiver_15 (tgt := 29) rfl hf (fun hc hf => ?_) (fun hc hf => ?_)
    · cases hf
      exact ke_v hQ hexec hb hr hP hD hS dX8_needRiver_29 hlocks
    · exact hj18 _ _ _ _ hf hP hD hS (lv_sub hl [] rfl)
abbrev w_X8_river (g : GE) (a0 a1 a2 a3 a4 : Nat) (u0_1 u0_2 u0_3 u0_4 u0_5 u0_6 u0_7 u0_8 u0_9 u1_1 u1_2 u1_3 u1_4 u2_0 u2_1 u2_3 : Value) (x2_rivers : Int32) (y3_riverOf : Nat → Int32) (y4_riverPlace : Nat → Int32) : va_W := [(a0, .inr (8, [.ref a1, u0_1, u0_2, u0_3, u0_4, u0_5, u0_6, u0_7, u0_8, u0_9])), (a1, .inr (6, [.ref a2, u1_1, u1_2, u1_3, u1_4])), (a2, .inr (1, [u2_0, u2_1, .int x2_rivers, u2_3, .ref a3, .ref a4])), (a3, .inl (g.2.1 0, 144, .inl y3_riverOf)), (a4, .inl (g.2.1 0, 144, .inl y4_riverPlace))]
set_option maxRecDepth 20000 in
theorem c_X8_river (l : Launch) (g : GE) (a0 a1 a2 a3 a4 : Nat) (sz : Nat) (u0_1 u0_2 u0_3 u0_4 u0_5 u0_6 u0_7 u0_8 u0_9 u1_1 u1_2 u1_3 u1_4 u2_0 u2_1 u2_3 : Value) (x2_rivers : Int32) (y3_riverOf : Nat → Int32) (y4_riverPlace : Nat → Int32) (p1 : Int32) (p2 : Int32)  (r : Int32) (hf : f_X8_river x2_rivers y3_riverOf y4_riverPlace p1 p2 = some r) : MI l g yX8_river wsX8_river 2 47 [.ref a0, .int p1, .int p2] (w_X8_river g a0 a1 a2 a3 a4 u0_1 u0_2 u0_3 u0_4 u0_5 u0_6 u0_7 u0_8 u0_9 u1_1 u1_2 u1_3 u1_4 u2_0 u2_1 u2_3 x2_rivers y3_riverOf y4_riverPlace) sz (some (.int r)) (w_X8_river g a0 a1 a2 a3 a4 u0_1 u0_2 u0_3 u0_4 u0_5 u0_6 u0_7 u0_8 u0_9 u1_1 u1_2 u1_3 u1_4 u2_0 u2_1 u2_3 x2_rivers y3_riverOf y4_riverPlace) := by
  refine MI.start (cc := cX8_river) (maxL := 3) (ret := (some .int)) rfl rfl (nle rfl) ?_
  intro p e s m args below meth c A ls Q hQ hexec hb hr hts hown hlocks hml hA hP hD hG hS hl
  unfold f_X8_river at hf
  have hWX1 : ∀ w ∈ wsX10, w.before args s = true := fun w h => hts w (List.mem_cons_of_mem _ (List.mem_append_left _ (List.mem_append_right _ h)))
  have hWX6 : ∀ w ∈ wsX60, w.before args s = true := fun w h => hts w (List.mem_cons_of_mem _ (List.mem_append_left _ (List.mem_append_left _ (List.mem_append_right _ h))))
  have hWX8 : ∀ w ∈ wsX80, w.before args s = true := fun w h => hts w (List.mem_cons_of_mem _ (List.mem_append_left _ (List.mem_append_left _ (List.mem_append_left _ (List.mem_append_right _ h)))))
  have hS : va_S A s.heap s.heap [] := hS
  refine lv_aload_n (pc := 0) hexec hb dX8_river_0 rfl (lv_at hl 0 rfl) ?_
  refine lv_iload_n (pc := 1) hexec hb dX8_river_1 rfl (lv_at hl 1 rfl) ?_
  obtain ⟨_, hc, hf⟩ := bd1_e hf
  refine kVp (pc := 2) (S := ⟨hexec, hb, hml, hown, hts⟩) hP hD hG hA hS [0, 1, 2] [3, 4] [2, 3, 4, 0, 1] (w2 := (w_X8_river g a0 a1 a2 a3 a4 u0_1 u0_2 u0_3 u0_4 u0_5 u0_6 u0_7 u0_8 u0_9 u1_1 u1_2 u1_3 u1_4 u2_0 u2_1 u2_3 x2_rivers y3_riverOf y4_riverPlace)) rfl rfl rfl rfl rfl rfl (by decide) (c_X8_needRiver l g a0 a1 a2 _ u0_1 u0_2 u0_3 u0_4 u0_5 u0_6 u0_7 u0_8 u0_9 u1_1 u1_2 u1_3 u1_4 u2_0 u2_1 u2_3 (.ref a3) (.ref a4) x2_rivers p1 hc) gX8_river_X8_needRiver rfl hv_X8_needRiver ⟨nle rfl, nle rfl⟩ 8 0 rfl rfl rfl (rest := []) rfl rfl hl.1 (nle rfl) dX8_river_2 (fun H locs hP hD hS => ?_)
  refine lv_aload_n (pc := 5) hexec hb dX8_river_5 rfl (lv_at hl 0 rfl) ?_
  refine kg_get (pc := 6) hexec hb (own := RX8) hWX8 hown hG hP 0 rfl rfl 0 (nle rfl) (hts _ (List.mem_cons_of_mem _ (List.mem_append_left _ (List.mem_append_left _ (List.mem_append_left _ (List.mem_append_left _ (List.mem_of_getElem? (i := 0) rfl))))))) rfl rfl dX8_river_6 ?_
  refine kg_getN (pc := 9) hexec hb (own := RX8) hWX6 hown hG hP 1 rfl rfl 0 (nle rfl) 21 rfl rfl rfl dX8_river_9 ?_
  refine lv_iload_n (pc := 12) hexec hb dX8_river_12 rfl (lv_at hl 1 rfl) ?_
  refine lv_iload_n (pc := 13) hexec hb dX8_river_13 rfl (lv_at hl 2 rfl) ?_
  obtain ⟨r14, hc, hf⟩ := bd1_e hf
  refine kVp (pc := 14) (S := ⟨hexec, hb, hml, hown, hts⟩) hP hD hG hA hS [2, 3, 4] [0, 1] [0, 1, 2, 3, 4] (w2 := (w_X8_river g a0 a1 a2 a3 a4 u0_1 u0_2 u0_3 u0_4 u0_5 u0_6 u0_7 u0_8 u0_9 u1_1 u1_2 u1_3 u1_4 u2_0 u2_1 u2_3 x2_rivers y3_riverOf y4_riverPlace)) rfl rfl rfl rfl rfl rfl (by decide) (c_X1_riverCell l g a2 a3 a4 _ u2_0 u2_1 (.int x2_rivers) u2_3 y3_riverOf y4_riverPlace p1 p2 r14 hc) gX8_river_X1_riverCell rfl hv_X1_riverCell ⟨nle rfl, nle rfl⟩ 1 0 rfl rfl rfl (rest := []) rfl rfl hl.1 (nle rfl) dX8_river_14 (fun H locs hP hD hS => ?_)
  cases hf
  exact ke_i hQ hexec hb hr hP hD hS dX8_river_17 hlocks
abbrev w_X8_voyage (g : GE) (a0 a1 a2 a3 : Nat) (u0_1 u0_2 u0_3 u0_4 u0_5 u0_6 u0_7 u0_8 u0_9 u1_0 u1_1 u1_3 u1_4 u2_1 u2_2 u2_3 : Value) (x2_count : Int32) (y3_stops : Nat → Int32) : va_W := [(a0, .inr (8, [.ref a1, u0_1, u0_2, u0_3, u0_4, u0_5, u0_6, u0_7, u0_8, u0_9])), (a1, .inr (6, [u1_0, u1_1, .ref a2, u1_3, u1_4])), (a2, .inr (4, [.int x2_count, u2_1, u2_2, u2_3, .ref a3])), (a3, .inl (g.2.1 0, 16, .inl y3_stops))]
set_option maxRecDepth 20000 in
theorem c_X8_voyage (l : Launch) (g : GE) (a0 a1 a2 a3 : Nat) (sz : Nat) (u0_1 u0_2 u0_3 u0_4 u0_5 u0_6 u0_7 u0_8 u0_9 u1_0 u1_1 u1_3 u1_4 u2_1 u2_2 u2_3 : Value) (x2_count : Int32) (y3_stops : Nat → Int32) (p1 : Int32)  (r : Int32) (hf : f_X8_voyage x2_count y3_stops p1 = some r) : MI l g yX8_voyage wsX8_voyage 2 45 [.ref a0, .int p1] (w_X8_voyage g a0 a1 a2 a3 u0_1 u0_2 u0_3 u0_4 u0_5 u0_6 u0_7 u0_8 u0_9 u1_0 u1_1 u1_3 u1_4 u2_1 u2_2 u2_3 x2_count y3_stops) sz (some (.int r)) (w_X8_voyage g a0 a1 a2 a3 u0_1 u0_2 u0_3 u0_4 u0_5 u0_6 u0_7 u0_8 u0_9 u1_0 u1_1 u1_3 u1_4 u2_1 u2_2 u2_3 x2_count y3_stops) := by
  refine MI.start (cc := cX8_voyage) (maxL := 2) (ret := (some .int)) rfl rfl (nle rfl) ?_
  intro p e s m args below meth c A ls Q hQ hexec hb hr hts hown hlocks hml hA hP hD hG hS hl
  unfold f_X8_voyage at hf
  have hWX4 : ∀ w ∈ wsX40, w.before args s = true := fun w h => hts w (List.mem_cons_of_mem _ (List.mem_append_right _ h))
  have hWX6 : ∀ w ∈ wsX60, w.before args s = true := fun w h => hts w (List.mem_cons_of_mem _ (List.mem_append_left _ (List.mem_append_right _ h)))
  have hWX8 : ∀ w ∈ wsX80, w.before args s = true := fun w h => hts w (List.mem_cons_of_mem _ (List.mem_append_left _ (List.mem_append_left _ (List.mem_append_right _ h))))
  have hS : va_S A s.heap s.heap [] := hS
  refine lv_aload_n (pc := 0) hexec hb dX8_voyage_0 rfl (lv_at hl 0 rfl) ?_
  refine kg_get (pc := 1) hexec hb (own := RX8) hWX8 hown hG hP 0 rfl rfl 0 (nle rfl) (hts _ (List.mem_cons_of_mem _ (List.mem_append_left _ (List.mem_append_left _ (List.mem_append_left _ (List.mem_of_getElem? (i := 0) rfl)))))) rfl rfl dX8_voyage_1 ?_
  refine kg_getN (pc := 4) hexec hb (own := RX8) hWX6 hown hG hP 1 rfl rfl 2 (nle rfl) 27 rfl rfl rfl dX8_voyage_4 ?_
  refine lv_iload_n (pc := 7) hexec hb dX8_voyage_7 rfl (lv_at hl 1 rfl) ?_
  obtain ⟨r8, hc, hf⟩ := bd1_e hf
  refine kVp (pc := 8) (S := ⟨hexec, hb, hml, hown, hts⟩) hP hD hG hA hS [2, 3] [0, 1] [0, 1, 2, 3] (w2 := (w_X8_voyage g a0 a1 a2 a3 u0_1 u0_2 u0_3 u0_4 u0_5 u0_6 u0_7 u0_8 u0_9 u1_0 u1_1 u1_3 u1_4 u2_1 u2_2 u2_3 x2_count y3_stops)) rfl rfl rfl rfl rfl rfl (by decide) (c_X4_stopAt l g a2 a3 _ u2_1 u2_2 u2_3 x2_count y3_stops p1 r8 hc) gX8_voyage_X4_stopAt rfl hv_X4_stopAt ⟨nle rfl, nle rfl⟩ 4 0 rfl rfl rfl (rest := []) rfl rfl hl.1 (nle rfl) dX8_voyage_8 (fun H locs hP hD hS => ?_)
  cases hf
  exact ke_i hQ hexec hb hr hP hD hS dX8_voyage_11 hlocks
abbrev w_X8_needDirection (g : GE) : va_W := []
set_option maxRecDepth 20000 in
theorem c_X8_needDirection (l : Launch) (g : GE) (sz : Nat)  (p0 : Int32)  (hf : f_X8_needDirection p0 = some ()) : MI l g yX8_needDirection wsX8_needDirection 1 24 [.int p0] (w_X8_needDirection g ) sz none (w_X8_needDirection g ) := by
  refine MI.start (cc := cX8_needDirection) (maxL := 1) (ret := none) rfl rfl (nle rfl) ?_
  intro p e s m args below meth c A ls Q hQ hexec hb hr hts hown hlocks hml hA hP hD hG hS hl
  unfold f_X8_needDirection at hf
  have hS : va_S A s.heap s.heap [] := hS
  refine lv_iload_n (pc := 0) hexec hb dX8_needDirection_0 rfl (lv_at hl 0 rfl) ?_
  obtain ⟨j9, ej9, hf⟩ := bvf1 hf
  have hj9 : ∀ (u : Unit) (H : Heap) (locs : List Loc) (ls : Array Slot), j9 u = some () → va_P g.1 vwCl (w_X8_needDirection g ) H → va_D A (w_X8_needDirection g ) → va_S A s.heap H locs → lv_has ls 1 [] → W p l e (RM 1 24) s m args below meth c H locs 0 0 Q (F0 m 9 ls []) := by
    intro u H locs ls hf hP hD hS hl
    have hf := (ej9 u).symm.trans hf
    cases hf
  refine kb_lt (pc := 1) hexec hb dX8_needDirection_1 (tgt := 9) rfl hf (fun hc hf => ?_) (fun hc hf => ?_)
  · exact hj9 _ _ _ _ hf hP hD hS (lv_sub hl [] rfl)
  · refine lv_iload_n (pc := 4) hexec hb dX8_needDirection_4 rfl (lv_at hl 0 rfl) ?_
    refine lv_iconst (pc := 5) hexec hb dX8_needDirection_5 ki_4 ?_
    refine ki_lt (pc := 6) hexec hb dX8_needDirection_6 (tgt := 20) rfl hf (fun hc hf => ?_) (fun hc hf => ?_)
    · cases hf
      exact ke_v hQ hexec hb hr hP hD hS dX8_needDirection_20 hlocks
    · exact hj9 _ _ _ _ hf hP hD hS (lv_sub hl [] rfl)
abbrev w_X8_why (g : GE) (a0 a1 a2 a3 a4 a5 a6 a7 a8 a9 a10 : Nat) (u0_1 u0_2 u0_3 u0_4 u0_5 u0_6 u0_7 u0_8 u0_9 u1_2 u2_2 u2_5 u3_3 : Value) (x2_rows : Int32) (x2_columns : Int32) (x3_count : Int32) (x3_reds : Int32) (y4_letterOn : Nat → Int32) (y5_namesOn : Nat → Int32) (y6_land : Nat → Int32) (y7_riverOf : Nat → Int32) (y8_home : Nat → Int32) (y9_length : Nat → Int32) (y10_letters : Nat → Int32) : va_W := [(a0, .inr (8, [.ref a1, u0_1, u0_2, u0_3, u0_4, u0_5, u0_6, u0_7, u0_8, u0_9])), (a1, .inr (6, [.ref a2, .ref a3, u1_2, .ref a5, .ref a4])), (a2, .inr (1, [.int x2_rows, .int x2_columns, u2_2, .ref a6, .ref a7, u2_5])), (a3, .inr (2, [.int x3_count, .int x3_reds, .ref a8, u3_3, .ref a9, .ref a10])), (a4, .inl (g.2.1 0, 144, .inl y4_letterOn)), (a5, .inl (g.2.1 0, 144, .inl y5_namesOn)), (a6, .inl (g.2.1 1, 144, .inl y6_land)), (a7, .inl (g.2.1 0, 144, .inl y7_riverOf)), (a8, .inl (g.2.1 0, 8, .inl y8_home)), (a9, .inl (g.2.1 0, 8, .inl y9_length)), (a10, .inl (g.2.1 0, 64, .inl y10_letters))]
set_option maxRecDepth 20000 in
theorem c_X8_why (l : Launch) (g : GE) (a0 a1 a2 a3 a4 a5 a6 a7 a8 a9 a10 : Nat) (sz : Nat) (u0_1 u0_2 u0_3 u0_4 u0_5 u0_6 u0_7 u0_8 u0_9 u1_2 u2_2 u2_5 u3_3 : Value) (x2_rows : Int32) (x2_columns : Int32) (x3_count : Int32) (x3_reds : Int32) (y4_letterOn : Nat → Int32) (y5_namesOn : Nat → Int32) (y6_land : Nat → Int32) (y7_riverOf : Nat → Int32) (y8_home : Nat → Int32) (y9_length : Nat → Int32) (y10_letters : Nat → Int32) (p1 : Int32) (p2 : Int32)  (r : Int32) (hf : f_X8_why x2_rows x2_columns x3_count x3_reds y4_letterOn y5_namesOn y6_land y7_riverOf y8_home y9_length y10_letters p1 p2 = some r) : MI l g yX8_why wsX8_why 5 119 [.ref a0, .int p1, .int p2] (w_X8_why g a0 a1 a2 a3 a4 a5 a6 a7 a8 a9 a10 u0_1 u0_2 u0_3 u0_4 u0_5 u0_6 u0_7 u0_8 u0_9 u1_2 u2_2 u2_5 u3_3 x2_rows x2_columns x3_count x3_reds y4_letterOn y5_namesOn y6_land y7_riverOf y8_home y9_length y10_letters) sz (some (.int r)) (w_X8_why g a0 a1 a2 a3 a4 a5 a6 a7 a8 a9 a10 u0_1 u0_2 u0_3 u0_4 u0_5 u0_6 u0_7 u0_8 u0_9 u1_2 u2_2 u2_5 u3_3 x2_rows x2_columns x3_count x3_reds y4_letterOn y5_namesOn y6_land y7_riverOf y8_home y9_length y10_letters) := by
  refine MI.start (cc := cX8_why) (maxL := 3) (ret := (some .int)) rfl rfl (nle rfl) ?_
  intro p e s m args below meth c A ls Q hQ hexec hb hr hts hown hlocks hml hA hP hD hG hS hl
  unfold f_X8_why at hf
  have hWX1 : ∀ w ∈ wsX10, w.before args s = true := fun w h => hts w (List.mem_cons_of_mem _ (List.mem_append_left _ (List.mem_append_left _ (List.mem_append_right _ h))))
  have hWX2 : ∀ w ∈ wsX20, w.before args s = true := fun w h => hts w (List.mem_cons_of_mem _ (List.mem_append_left _ (List.mem_append_left _ (List.mem_append_left _ (List.mem_append_right _ h)))))
  have hWX6 : ∀ w ∈ wsX60, w.before args s = true := fun w h => hts w (List.mem_cons_of_mem _ (List.mem_append_left _ (List.mem_append_left _ (List.mem_append_left _ (List.mem_append_left _ (List.mem_append_right _ h))))))
  have hWX8 : ∀ w ∈ wsX80, w.before args s = true := fun w h => hts w (List.mem_cons_of_mem _ (List.mem_append_left _ (List.mem_append_left _ (List.mem_append_left _ (List.mem_append_left _ (List.mem_append_left _ (List.mem_append_right _ h)))))))
  have hS : va_S A s.heap s.heap [] := hS
  refine lv_aload_n (pc := 0) hexec hb dX8_why_0 rfl (lv_at hl 0 rfl) ?_
  refine lv_iload_n (pc := 1) hexec hb dX8_why_1 rfl (lv_at hl 1 rfl) ?_
  obtain ⟨_, hc, hf⟩ := bd1_e hf
  refine kVp (pc := 2) (S := ⟨hexec, hb, hml, hown, hts⟩) hP hD hG hA hS [0, 1, 3] [2, 4, 5, 6, 7, 8, 9, 10] [8, 9, 0, 10, 1, 2, 3, 4, 5, 6, 7] (w2 := (w_X8_why g a0 a1 a2 a3 a4 a5 a6 a7 a8 a9 a10 u0_1 u0_2 u0_3 u0_4 u0_5 u0_6 u0_7 u0_8 u0_9 u1_2 u2_2 u2_5 u3_3 x2_rows x2_columns x3_count x3_reds y4_letterOn y5_namesOn y6_land y7_riverOf y8_home y9_length y10_letters)) rfl rfl rfl rfl rfl rfl (by decide) (c_X8_needHarbour l g a0 a1 a3 _ u0_1 u0_2 u0_3 u0_4 u0_5 u0_6 u0_7 u0_8 u0_9 (.ref a2) u1_2 (.ref a5) (.ref a4) (.int x3_reds) (.ref a8) u3_3 (.ref a9) (.ref a10) x3_count p1 hc) gX8_why_X8_needHarbour rfl hv_X8_needHarbour ⟨nle rfl, nle rfl⟩ 8 0 rfl rfl rfl (rest := []) rfl rfl hl.1 (nle rfl) dX8_why_2 (fun H locs hP hD hS => ?_)
  refine lv_iload_n (pc := 5) hexec hb dX8_why_5 rfl (lv_at hl 2 rfl) ?_
  obtain ⟨_, hc, hf⟩ := bd1_e hf
  refine kSp (pc := 6) (S := ⟨hexec, hb, hml, hown, hts⟩) hP hD hG hA hS [] [0, 1, 2, 3, 4, 5, 6, 7, 8, 9, 10] [0, 1, 2, 3, 4, 5, 6, 7, 8, 9, 10] (w2 := (w_X8_why g a0 a1 a2 a3 a4 a5 a6 a7 a8 a9 a10 u0_1 u0_2 u0_3 u0_4 u0_5 u0_6 u0_7 u0_8 u0_9 u1_2 u2_2 u2_5 u3_3 x2_rows x2_columns x3_count x3_reds y4_letterOn y5_namesOn y6_land y7_riverOf y8_home y9_length y10_letters)) rfl rfl rfl rfl rfl rfl (by decide) (c_X8_needDirection l g _ p2 hc) gX8_why_X8_needDirection rfl hs_X8_needDirection ⟨nle rfl, nle rfl⟩ (rest := []) rfl rfl hl.1 (nle rfl) dX8_why_6 (fun H locs hP hD hS => ?_)
  refine lv_aload_n (pc := 9) hexec hb dX8_why_9 rfl (lv_at hl 0 rfl) ?_
  refine kg_get (pc := 10) hexec hb (own := RX8) hWX8 hown hG hP 0 rfl rfl 0 (nle rfl) (hts _ (List.mem_cons_of_mem _ (List.mem_append_left _ (List.mem_append_left _ (List.mem_append_left _ (List.mem_append_left _ (List.mem_append_left _ (List.mem_append_left _ (List.mem_append_left _ (List.mem_of_getElem? (i := 0) rfl)))))))))) rfl rfl dX8_why_10 ?_
  refine lv_iload_n (pc := 13) hexec hb dX8_why_13 rfl (lv_at hl 1 rfl) ?_
  refine lv_iload_n (pc := 14) hexec hb dX8_why_14 rfl (lv_at hl 2 rfl) ?_
  obtain ⟨r15, hc, hf⟩ := bd1_e hf
  refine kVp (pc := 15) (S := ⟨hexec, hb, hml, hown, hts⟩) hP hD hG hA hS [1, 2, 3, 4, 5, 6, 7, 8, 9, 10] [0] [0, 1, 2, 3, 4, 5, 6, 7, 8, 9, 10] (w2 := (w_X8_why g a0 a1 a2 a3 a4 a5 a6 a7 a8 a9 a10 u0_1 u0_2 u0_3 u0_4 u0_5 u0_6 u0_7 u0_8 u0_9 u1_2 u2_2 u2_5 u3_3 x2_rows x2_columns x3_count x3_reds y4_letterOn y5_namesOn y6_land y7_riverOf y8_home y9_length y10_letters)) rfl rfl rfl rfl rfl rfl (by decide) (c_X6_reasonAgainst l g a1 a2 a3 a4 a5 a6 a7 a8 a9 a10 _ u1_2 u2_2 u2_5 u3_3 x2_rows x2_columns x3_count x3_reds y4_letterOn y5_namesOn y6_land y7_riverOf y8_home y9_length y10_letters p1 p2 r15 hc) gX8_why_X6_reasonAgainst rfl hv_X6_reasonAgainst ⟨nle rfl, nle rfl⟩ 6 0 rfl rfl rfl (rest := []) rfl rfl hl.1 (nle rfl) dX8_why_15 (fun H locs hP hD hS => ?_)
  cases hf
  exact ke_i hQ hexec hb hr hP hD hS dX8_why_18 hlocks
