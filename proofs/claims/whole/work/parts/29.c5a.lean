abbrev w_X5_addByte (g : GE) (a0 a1 : Nat) (u0_0 u0_1 u0_4 u0_5 u0_6 u0_7 u0_8 u0_9 u0_10 u0_11 u0_12 u0_13 : Value) (x0_length : Int32) (y1_text : Nat → Int32) : va_W := [(a0, .inr (5, [u0_0, u0_1, .ref a1, .int x0_length, u0_4, u0_5, u0_6, u0_7, u0_8, u0_9, u0_10, u0_11, u0_12, u0_13])), (a1, .inl (g.2.1 0, 500, .inl y1_text))]
set_option maxRecDepth 20000 in
theorem c_X5_addByte (l : Launch) (g : GE) (a0 a1 : Nat) (sz : Nat) (u0_0 u0_1 u0_4 u0_5 u0_6 u0_7 u0_8 u0_9 u0_10 u0_11 u0_12 u0_13 : Value) (x0_length : Int32) (y1_text : Nat → Int32) (p1 : Int32)  (o_x0_length : Int32) (o_y1_text : Nat → Int32) (hf : f_X5_addByte x0_length y1_text p1 = some (o_x0_length, o_y1_text)) : MI l g yX5_addByte wsX5_addByte 1 24 [.ref a0, .int p1] (w_X5_addByte g a0 a1 u0_0 u0_1 u0_4 u0_5 u0_6 u0_7 u0_8 u0_9 u0_10 u0_11 u0_12 u0_13 x0_length y1_text) sz none (w_X5_addByte g a0 a1 u0_0 u0_1 u0_4 u0_5 u0_6 u0_7 u0_8 u0_9 u0_10 u0_11 u0_12 u0_13 o_x0_length o_y1_text) := by
  refine MI.start (cc := cX5_addByte) (maxL := 2) (ret := none) rfl rfl (nle rfl) ?_
  intro p e s m args below meth c A ls Q hQ hexec hb hr hts hown hlocks hml hA hP hD hG hS hl
  unfold f_X5_addByte at hf
  have hWX5 : ∀ w ∈ wsX50, w.before args s = true := fun w h => hts w (List.mem_cons_of_mem _ (List.mem_append_right _ h))
  have hS : va_S A s.heap s.heap [] := hS
  refine lv_aload_n (pc := 0) hexec hb dX5_addByte_0 rfl (lv_at hl 0 rfl) ?_
  refine kg_get (pc := 1) hexec hb (own := RX5) hWX5 hown hG hP 0 rfl rfl 3 (nle rfl) (hts _ (List.mem_cons_of_mem _ (List.mem_append_left _ (List.mem_of_getElem? (i := 0) rfl)))) rfl rfl dX5_addByte_1 ?_
  refine lv_sipush (pc := 4) hexec hb dX5_addByte_4 ks_500 ?_
  refine ki_ge (pc := 7) hexec hb dX5_addByte_7 (tgt := 30) rfl hf (fun hc hf => ?_) (fun hc hf => ?_)
  · cases hf
    exact ke_v hQ hexec hb hr hP hD hS dX5_addByte_30 hlocks
  · refine lv_aload_n (pc := 10) hexec hb dX5_addByte_10 rfl (lv_at hl 0 rfl) ?_
    refine kg_get (pc := 11) hexec hb (own := RX5) hWX5 hown hG hP 0 rfl rfl 2 (nle rfl) (hts _ (List.mem_cons_of_mem _ (List.mem_append_left _ (List.mem_of_getElem? (i := 1) rfl)))) rfl rfl dX5_addByte_11 ?_
    refine lv_aload_n (pc := 14) hexec hb dX5_addByte_14 rfl (lv_at hl 0 rfl) ?_
    refine kg_get (pc := 15) hexec hb (own := RX5) hWX5 hown hG hP 0 rfl rfl 3 (nle rfl) (hts _ (List.mem_cons_of_mem _ (List.mem_append_left _ (List.mem_of_getElem? (i := 0) rfl)))) rfl rfl dX5_addByte_15 ?_
    refine lv_iload_n (pc := 18) hexec hb dX5_addByte_18 rfl (lv_at hl 1 rfl) ?_
    refine kw_iast (pc := 19) hexec hb hG hP hD hS 1 rfl hf dX5_addByte_19 (fun y1_text_1 H locs hf (hP : va_P g.1 vwCl (w_X5_addByte g a0 a1 u0_0 u0_1 u0_4 u0_5 u0_6 u0_7 u0_8 u0_9 u0_10 u0_11 u0_12 u0_13 x0_length y1_text_1) H) (hD : va_D A (w_X5_addByte g a0 a1 u0_0 u0_1 u0_4 u0_5 u0_6 u0_7 u0_8 u0_9 u0_10 u0_11 u0_12 u0_13 x0_length y1_text_1)) hS => ?_)
    refine lv_aload_n (pc := 20) hexec hb dX5_addByte_20 rfl (lv_at hl 0 rfl) ?_
    refine lv_dup (pc := 21) hexec hb dX5_addByte_21 rfl ?_
    refine kg_get (pc := 22) hexec hb (own := RX5) hWX5 hown hG hP 0 rfl rfl 3 (nle rfl) (hts _ (List.mem_cons_of_mem _ (List.mem_append_left _ (List.mem_of_getElem? (i := 0) rfl)))) rfl rfl dX5_addByte_22 ?_
    refine lv_iconst (pc := 25) hexec hb dX5_addByte_25 ki_1 ?_
    refine lv_iadd (pc := 26) hexec hb dX5_addByte_26 ?_
    obtain ⟨x0_length_1, ex0_length_1, hf⟩ := bv_e hf
    refine kn_i ex0_length_1 ?_
    refine kp_put (pc := 27) hexec hb (own := RX5) hWX5 tyX5 tyX5_ok nmX5 hown hG hP hD hS 0 rfl rfl 3 (nle rfl) (hts _ (List.mem_cons_of_mem _ (List.mem_append_left _ (List.mem_of_getElem? (i := 0) rfl)))) rfl rfl rfl rfl (nle rfl) dX5_addByte_27 (fun H locs (hP : va_P g.1 vwCl (w_X5_addByte g a0 a1 u0_0 u0_1 u0_4 u0_5 u0_6 u0_7 u0_8 u0_9 u0_10 u0_11 u0_12 u0_13 x0_length_1 y1_text_1) H) (hD : va_D A (w_X5_addByte g a0 a1 u0_0 u0_1 u0_4 u0_5 u0_6 u0_7 u0_8 u0_9 u0_10 u0_11 u0_12 u0_13 x0_length_1 y1_text_1)) hS => ?_)
    cases hf
    exact ke_v hQ hexec hb hr hP hD hS dX5_addByte_30 hlocks
abbrev w_X5_signAt (g : GE) (a0 a1 : Nat) (u0_0 u0_1 u0_4 u0_5 u0_6 u0_7 u0_8 u0_9 u0_10 u0_11 u0_12 u0_13 : Value) (x0_length : Int32) (y1_text : Nat → Int32) : va_W := [(a0, .inr (5, [u0_0, u0_1, .ref a1, .int x0_length, u0_4, u0_5, u0_6, u0_7, u0_8, u0_9, u0_10, u0_11, u0_12, u0_13])), (a1, .inl (g.2.1 0, 500, .inl y1_text))]
set_option maxRecDepth 20000 in
theorem c_X5_signAt (l : Launch) (g : GE) (a0 a1 : Nat) (sz : Nat) (u0_0 u0_1 u0_4 u0_5 u0_6 u0_7 u0_8 u0_9 u0_10 u0_11 u0_12 u0_13 : Value) (x0_length : Int32) (y1_text : Nat → Int32) (p1 : Int32)  (r : Int32) (hf : f_X5_signAt x0_length y1_text p1 = some r) : MI l g yX5_signAt wsX5_signAt 1 24 [.ref a0, .int p1] (w_X5_signAt g a0 a1 u0_0 u0_1 u0_4 u0_5 u0_6 u0_7 u0_8 u0_9 u0_10 u0_11 u0_12 u0_13 x0_length y1_text) sz (some (.int r)) (w_X5_signAt g a0 a1 u0_0 u0_1 u0_4 u0_5 u0_6 u0_7 u0_8 u0_9 u0_10 u0_11 u0_12 u0_13 x0_length y1_text) := by
  refine MI.start (cc := cX5_signAt) (maxL := 2) (ret := (some .int)) rfl rfl (nle rfl) ?_
  intro p e s m args below meth c A ls Q hQ hexec hb hr hts hown hlocks hml hA hP hD hG hS hl
  unfold f_X5_signAt at hf
  have hWX5 : ∀ w ∈ wsX50, w.before args s = true := fun w h => hts w (List.mem_cons_of_mem _ (List.mem_append_right _ h))
  have hS : va_S A s.heap s.heap [] := hS
  refine lv_iload_n (pc := 0) hexec hb dX5_signAt_0 rfl (lv_at hl 1 rfl) ?_
  obtain ⟨j28, ej28, hf⟩ := bvf1 hf
  have hj28 : ∀ (u : Unit) (H : Heap) (locs : List Loc) (ls : Array Slot), j28 u = some r → va_P g.1 vwCl (w_X5_signAt g a0 a1 u0_0 u0_1 u0_4 u0_5 u0_6 u0_7 u0_8 u0_9 u0_10 u0_11 u0_12 u0_13 x0_length y1_text) H → va_D A (w_X5_signAt g a0 a1 u0_0 u0_1 u0_4 u0_5 u0_6 u0_7 u0_8 u0_9 u0_10 u0_11 u0_12 u0_13 x0_length y1_text) → va_S A s.heap H locs → lv_has ls 2 [] → W p l e (RM 1 24) s m args below meth c H locs 0 0 Q (F0 m 28 ls []) := by
    intro u H locs ls hf hP hD hS hl
    have hf := (ej28 u).symm.trans hf
    refine lv_iconst (pc := 28) hexec hb dX5_signAt_28 ki_m1 ?_
    cases hf
    exact ke_i hQ hexec hb hr hP hD hS dX5_signAt_29 hlocks
  refine kb_lt (pc := 1) hexec hb dX5_signAt_1 (tgt := 28) rfl hf (fun hc hf => ?_) (fun hc hf => ?_)
  · exact hj28 _ _ _ _ hf hP hD hS (lv_sub hl [] rfl)
  · refine lv_iload_n (pc := 4) hexec hb dX5_signAt_4 rfl (lv_at hl 1 rfl) ?_
    refine lv_aload_n (pc := 5) hexec hb dX5_signAt_5 rfl (lv_at hl 0 rfl) ?_
    refine kg_get (pc := 6) hexec hb (own := RX5) hWX5 hown hG hP 0 rfl rfl 3 (nle rfl) (hts _ (List.mem_cons_of_mem _ (List.mem_append_left _ (List.mem_of_getElem? (i := 0) rfl)))) rfl rfl dX5_signAt_6 ?_
    refine ki_ge (pc := 9) hexec hb dX5_signAt_9 (tgt := 28) rfl hf (fun hc hf => ?_) (fun hc hf => ?_)
    · exact hj28 _ _ _ _ hf hP hD hS (lv_sub hl [] rfl)
    · refine lv_iload_n (pc := 12) hexec hb dX5_signAt_12 rfl (lv_at hl 1 rfl) ?_
      refine lv_sipush (pc := 13) hexec hb dX5_signAt_13 ks_500 ?_
      refine ki_ge (pc := 16) hexec hb dX5_signAt_16 (tgt := 28) rfl hf (fun hc hf => ?_) (fun hc hf => ?_)
      · exact hj28 _ _ _ _ hf hP hD hS (lv_sub hl [] rfl)
      · refine lv_aload_n (pc := 19) hexec hb dX5_signAt_19 rfl (lv_at hl 0 rfl) ?_
        refine kg_get (pc := 20) hexec hb (own := RX5) hWX5 hown hG hP 0 rfl rfl 2 (nle rfl) (hts _ (List.mem_cons_of_mem _ (List.mem_append_left _ (List.mem_of_getElem? (i := 1) rfl)))) rfl rfl dX5_signAt_20 ?_
        refine lv_iload_n (pc := 23) hexec hb dX5_signAt_23 rfl (lv_at hl 1 rfl) ?_
        refine kr_iald (pc := 24) hexec hb hG hP 1 rfl hf dX5_signAt_24 (fun hf => ?_)
        refine lv_goto (pc := 25) hexec hb dX5_signAt_25 (tgt := 29) rfl ?_
        cases hf
        exact ke_i hQ hexec hb hr hP hD hS dX5_signAt_29 hlocks
abbrev w_X5_nextSign (g : GE) (a0 a1 : Nat) (u0_0 u0_1 u0_5 u0_6 u0_7 u0_8 u0_9 u0_10 u0_11 u0_12 u0_13 : Value) (x0_length : Int32) (x0_at : Int32) (y1_text : Nat → Int32) : va_W := [(a0, .inr (5, [u0_0, u0_1, .ref a1, .int x0_length, .int x0_at, u0_5, u0_6, u0_7, u0_8, u0_9, u0_10, u0_11, u0_12, u0_13])), (a1, .inl (g.2.1 0, 500, .inl y1_text))]
set_option maxRecDepth 20000 in
theorem c_X5_nextSign (l : Launch) (g : GE) (a0 a1 : Nat) (sz : Nat) (u0_0 u0_1 u0_5 u0_6 u0_7 u0_8 u0_9 u0_10 u0_11 u0_12 u0_13 : Value) (x0_length : Int32) (x0_at : Int32) (y1_text : Nat → Int32)   (r : Int32) (o_x0_at : Int32) (hf : f_X5_nextSign x0_length x0_at y1_text = some (r, o_x0_at)) : MI l g yX5_nextSign wsX5_nextSign 2 45 [.ref a0] (w_X5_nextSign g a0 a1 u0_0 u0_1 u0_5 u0_6 u0_7 u0_8 u0_9 u0_10 u0_11 u0_12 u0_13 x0_length x0_at y1_text) sz (some (.int r)) (w_X5_nextSign g a0 a1 u0_0 u0_1 u0_5 u0_6 u0_7 u0_8 u0_9 u0_10 u0_11 u0_12 u0_13 x0_length o_x0_at y1_text) := by
  refine MI.start (cc := cX5_nextSign) (maxL := 2) (ret := (some .int)) rfl rfl (nle rfl) ?_
  intro p e s m args below meth c A ls Q hQ hexec hb hr hts hown hlocks hml hA hP hD hG hS hl
  unfold f_X5_nextSign at hf
  have hWX5 : ∀ w ∈ wsX50, w.before args s = true := fun w h => hts w (List.mem_cons_of_mem _ (List.mem_append_right _ h))
  have hS : va_S A s.heap s.heap [] := hS
  refine lv_iconst (pc := 0) hexec hb dX5_nextSign_0 ki_0 ?_
  refine lv_istore_n (pc := 1) hexec hb dX5_nextSign_1 rfl hl (nle rfl) rfl (fun ls (hl : lv_has ls 2 [(1, .int 0), (0, .ref a0)]) => ?_)
  obtain ⟨l2, el2, hf⟩ := bvf2 hf
  obtain ⟨x0_at_2, hz, hf⟩ := bd1_e hf
  have hE2 : ∀ (H : Heap) (locs : List Loc) (ls : Array Slot), va_P g.1 vwCl (w_X5_nextSign g a0 a1 u0_0 u0_1 u0_5 u0_6 u0_7 u0_8 u0_9 u0_10 u0_11 u0_12 u0_13 x0_length x0_at_2 y1_text) H → va_D A (w_X5_nextSign g a0 a1 u0_0 u0_1 u0_5 u0_6 u0_7 u0_8 u0_9 u0_10 u0_11 u0_12 u0_13 x0_length x0_at_2 y1_text) → va_S A s.heap H locs → lv_has ls 2 [(0, .ref a0)] → W p l e (RM 2 45) s m args below meth c H locs 0 0 Q (F0 m 39 ls []) := by
    intro H locs ls hP hD hS hl
    refine lv_aload_n (pc := 39) hexec hb dX5_nextSign_39 rfl (lv_at hl 0 rfl) ?_
    refine lv_aload_n (pc := 40) hexec hb dX5_nextSign_40 rfl (lv_at hl 0 rfl) ?_
    refine kg_get (pc := 41) hexec hb (own := RX5) hWX5 hown hG hP 0 rfl rfl 4 (nle rfl) (hts _ (List.mem_cons_of_mem _ (List.mem_append_left _ (List.mem_of_getElem? (i := 1) rfl)))) rfl rfl dX5_nextSign_41 ?_
    obtain ⟨r44, hc, hf⟩ := bd1_e hf
    refine kVp (pc := 44) (S := ⟨hexec, hb, hml, hown, hts⟩) hP hD hG hA hS [0, 1] [] [0, 1] (w2 := (w_X5_nextSign g a0 a1 u0_0 u0_1 u0_5 u0_6 u0_7 u0_8 u0_9 u0_10 u0_11 u0_12 u0_13 x0_length x0_at_2 y1_text)) rfl rfl rfl rfl rfl rfl (by decide) (c_X5_signAt l g a0 a1 _ u0_0 u0_1 (.int x0_at_2) u0_5 u0_6 u0_7 u0_8 u0_9 u0_10 u0_11 u0_12 u0_13 x0_length y1_text x0_at_2 r44 hc) gX5_nextSign_X5_signAt rfl hv_X5_signAt ⟨nle rfl, nle rfl⟩ 5 0 rfl rfl rfl (rest := []) rfl rfl hl.1 (nle rfl) dX5_nextSign_44 (fun H locs hP hD hS => ?_)
    cases hf
    exact ke_i hQ hexec hb hr hP hD hS dX5_nextSign_47 hlocks
  obtain ⟨n, hz⟩ := lq2_e hz
  have hL2 : ∀ (n : Nat) (v1 : Int32) (x0_at_1 : Int32) (H : Heap) (locs : List Loc) (ls : Array Slot), it2 l2 n v1 x0_at_1 = some x0_at_2 → va_P g.1 vwCl (w_X5_nextSign g a0 a1 u0_0 u0_1 u0_5 u0_6 u0_7 u0_8 u0_9 u0_10 u0_11 u0_12 u0_13 x0_length x0_at_1 y1_text) H → va_D A (w_X5_nextSign g a0 a1 u0_0 u0_1 u0_5 u0_6 u0_7 u0_8 u0_9 u0_10 u0_11 u0_12 u0_13 x0_length x0_at_1 y1_text) → va_S A s.heap H locs → lv_has ls 2 [(0, .ref a0), (1, .int v1)] → W p l e (RM 2 45) s m args below meth c H locs 0 0 Q (F0 m 2 ls []) := by
    intro n
    induction n with
    | zero =>
      intro v1 x0_at_1 H locs ls hf hP hD hS hl
      exact it2_0 hf
    | succ n2 ih2 =>
      intro v1 x0_at_1 H locs ls hf hP hD hS hl
      obtain ⟨q2, hf, hk2⟩ := it2_e hf
      have hf := (el2 v1 x0_at_1).symm.trans hf
      refine lv_iload_n (pc := 2) hexec hb dX5_nextSign_2 rfl (lv_at hl 1 rfl) ?_
      refine lv_aload_n (pc := 3) hexec hb dX5_nextSign_3 rfl (lv_at hl 0 rfl) ?_
      refine kg_get (pc := 4) hexec hb (own := RX5) hWX5 hown hG hP 0 rfl rfl 3 (nle rfl) (hts _ (List.mem_cons_of_mem _ (List.mem_append_left _ (List.mem_of_getElem? (i := 0) rfl)))) rfl rfl dX5_nextSign_4 ?_
      refine ki_ge (pc := 7) hexec hb dX5_nextSign_7 (tgt := 39) rfl hf (fun hc hf => ?_) (fun hc hf => ?_)
      · cases sr2 hf hk2
        exact hE2 _ _ _ hP hD hS (lv_sub hl [0] rfl)
      · refine lv_aload_n (pc := 10) hexec hb dX5_nextSign_10 rfl (lv_at hl 0 rfl) ?_
        refine lv_aload_n (pc := 11) hexec hb dX5_nextSign_11 rfl (lv_at hl 0 rfl) ?_
        refine kg_get (pc := 12) hexec hb (own := RX5) hWX5 hown hG hP 0 rfl rfl 4 (nle rfl) (hts _ (List.mem_cons_of_mem _ (List.mem_append_left _ (List.mem_of_getElem? (i := 1) rfl)))) rfl rfl dX5_nextSign_12 ?_
        obtain ⟨r15, hc, hf⟩ := bd1_e hf
        refine kVp (pc := 15) (S := ⟨hexec, hb, hml, hown, hts⟩) hP hD hG hA hS [0, 1] [] [0, 1] (w2 := (w_X5_nextSign g a0 a1 u0_0 u0_1 u0_5 u0_6 u0_7 u0_8 u0_9 u0_10 u0_11 u0_12 u0_13 x0_length x0_at_1 y1_text)) rfl rfl rfl rfl rfl rfl (by decide) (c_X5_signAt l g a0 a1 _ u0_0 u0_1 (.int x0_at_1) u0_5 u0_6 u0_7 u0_8 u0_9 u0_10 u0_11 u0_12 u0_13 x0_length y1_text x0_at_1 r15 hc) gX5_nextSign_X5_signAt rfl hv_X5_signAt ⟨nle rfl, nle rfl⟩ 5 0 rfl rfl rfl (rest := []) rfl rfl hl.1 (nle rfl) dX5_nextSign_15 (fun H locs hP hD hS => ?_)
        refine lv_bipush (pc := 18) hexec hb dX5_nextSign_18 kb_32 ?_
        refine ki_ne (pc := 20) hexec hb dX5_nextSign_20 (tgt := 39) rfl hf (fun hc hf => ?_) (fun hc hf => ?_)
        · cases sr2 hf hk2
          exact hE2 _ _ _ hP hD hS (lv_sub hl [0] rfl)
        · refine lv_aload_n (pc := 23) hexec hb dX5_nextSign_23 rfl (lv_at hl 0 rfl) ?_
          refine lv_dup (pc := 24) hexec hb dX5_nextSign_24 rfl ?_
          refine kg_get (pc := 25) hexec hb (own := RX5) hWX5 hown hG hP 0 rfl rfl 4 (nle rfl) (hts _ (List.mem_cons_of_mem _ (List.mem_append_left _ (List.mem_of_getElem? (i := 1) rfl)))) rfl rfl dX5_nextSign_25 ?_
          refine lv_iconst (pc := 28) hexec hb dX5_nextSign_28 ki_1 ?_
          refine lv_iadd (pc := 29) hexec hb dX5_nextSign_29 ?_
          obtain ⟨x0_at_3, ex0_at_3, hf⟩ := bv_e hf
          refine kn_i ex0_at_3 ?_
          refine kp_put (pc := 30) hexec hb (own := RX5) hWX5 tyX5 tyX5_ok nmX5 hown hG hP hD hS 0 rfl rfl 4 (nle rfl) (hts _ (List.mem_cons_of_mem _ (List.mem_append_left _ (List.mem_of_getElem? (i := 1) rfl)))) rfl rfl rfl rfl (nle rfl) dX5_nextSign_30 (fun H locs (hP : va_P g.1 vwCl (w_X5_nextSign g a0 a1 u0_0 u0_1 u0_5 u0_6 u0_7 u0_8 u0_9 u0_10 u0_11 u0_12 u0_13 x0_length x0_at_3 y1_text) H) (hD : va_D A (w_X5_nextSign g a0 a1 u0_0 u0_1 u0_5 u0_6 u0_7 u0_8 u0_9 u0_10 u0_11 u0_12 u0_13 x0_length x0_at_3 y1_text)) hS => ?_)
          obtain ⟨v1_1, ev1_1, hf⟩ := bv_e hf
          refine k_iinc (pc := 33) hexec hb dX5_nextSign_33 kq_1 hl (k := 1) rfl ev1_1 (nle rfl) rfl (fun ls (hl : lv_has ls 2 [(1, .int v1_1), (0, .ref a0)]) => ?_)
          refine lv_goto (pc := 36) hexec hb dX5_nextSign_36 (tgt := 2) rfl ?_
          exact ih2 _ _ _ _ _ (sl2 hf hk2) hP hD hS (lv_sub hl [1, 0] rfl)
  exact hL2 n _ _ _ _ _ hz hP hD hS (lv_sub hl [1, 0] rfl)
abbrev w_X5_isLetter (g : GE) : va_W := []
set_option maxRecDepth 20000 in
theorem c_X5_isLetter (l : Launch) (g : GE) (sz : Nat)  (p0 : Int32)  (r : Int32) (hf : f_X5_isLetter p0 = some r) : MI l g yX5_isLetter wsX5_isLetter 1 24 [.int p0] (w_X5_isLetter g ) sz (some (.int r)) (w_X5_isLetter g ) := by
  refine MI.start (cc := cX5_isLetter) (maxL := 1) (ret := (some .boolean)) rfl rfl (nle rfl) ?_
  intro p e s m args below meth c A ls Q hQ hexec hb hr hts hown hlocks hml hA hP hD hG hS hl
  unfold f_X5_isLetter at hf
  have hS : va_S A s.heap s.heap [] := hS
  refine lv_iload_n (pc := 0) hexec hb dX5_isLetter_0 rfl (lv_at hl 0 rfl) ?_
  refine lv_bipush (pc := 1) hexec hb dX5_isLetter_1 kb_97 ?_
  obtain ⟨j16, ej16, hf⟩ := bvf1 hf
  have hj16 : ∀ (u : Unit) (H : Heap) (locs : List Loc) (ls : Array Slot), j16 u = some r → va_P g.1 vwCl (w_X5_isLetter g ) H → va_D A (w_X5_isLetter g ) → va_S A s.heap H locs → lv_has ls 1 [] → W p l e (RM 1 24) s m args below meth c H locs 0 0 Q (F0 m 16 ls []) := by
    intro u H locs ls hf hP hD hS hl
    have hf := (ej16 u).symm.trans hf
    refine lv_iconst (pc := 16) hexec hb dX5_isLetter_16 ki_0 ?_
    cases hf
    exact ke_z hQ hexec hb hr (.inl rfl) hP hD hS dX5_isLetter_17 hlocks
  refine ki_lt (pc := 3) hexec hb dX5_isLetter_3 (tgt := 16) rfl hf (fun hc hf => ?_) (fun hc hf => ?_)
  · exact hj16 _ _ _ _ hf hP hD hS (lv_sub hl [] rfl)
  · refine lv_iload_n (pc := 6) hexec hb dX5_isLetter_6 rfl (lv_at hl 0 rfl) ?_
    refine lv_bipush (pc := 7) hexec hb dX5_isLetter_7 kb_122 ?_
    refine ki_gt (pc := 9) hexec hb dX5_isLetter_9 (tgt := 16) rfl hf (fun hc hf => ?_) (fun hc hf => ?_)
    · exact hj16 _ _ _ _ hf hP hD hS (lv_sub hl [] rfl)
    · refine lv_iconst (pc := 12) hexec hb dX5_isLetter_12 ki_1 ?_
      refine lv_goto (pc := 13) hexec hb dX5_isLetter_13 (tgt := 17) rfl ?_
      cases hf
      exact ke_z hQ hexec hb hr (.inr rfl) hP hD hS dX5_isLetter_17 hlocks
abbrev w_X5_fail (g : GE) (a0 : Nat) (u0_0 u0_1 u0_2 u0_3 u0_4 u0_5 u0_6 u0_7 u0_8 u0_9 u0_10 u0_11 : Value) (x0_error : Int32) (x0_errorAt : Int32) : va_W := [(a0, .inr (5, [u0_0, u0_1, u0_2, u0_3, u0_4, u0_5, u0_6, u0_7, u0_8, u0_9, u0_10, u0_11, .int x0_error, .int x0_errorAt]))]
set_option maxRecDepth 20000 in
theorem c_X5_fail (l : Launch) (g : GE) (a0 : Nat) (sz : Nat) (u0_0 u0_1 u0_2 u0_3 u0_4 u0_5 u0_6 u0_7 u0_8 u0_9 u0_10 u0_11 : Value) (x0_error : Int32) (x0_errorAt : Int32) (p1 : Int32) (p2 : Int32)  (r : Int32) (o_x0_error : Int32) (o_x0_errorAt : Int32) (hf : f_X5_fail x0_error x0_errorAt p1 p2 = some (r, o_x0_error, o_x0_errorAt)) : MI l g yX5_fail wsX5_fail 1 24 [.ref a0, .int p1, .int p2] (w_X5_fail g a0 u0_0 u0_1 u0_2 u0_3 u0_4 u0_5 u0_6 u0_7 u0_8 u0_9 u0_10 u0_11 x0_error x0_errorAt) sz (some (.int r)) (w_X5_fail g a0 u0_0 u0_1 u0_2 u0_3 u0_4 u0_5 u0_6 u0_7 u0_8 u0_9 u0_10 u0_11 o_x0_error o_x0_errorAt) := by
  refine MI.start (cc := cX5_fail) (maxL := 3) (ret := (some .boolean)) rfl rfl (nle rfl) ?_
  intro p e s m args below meth c A ls Q hQ hexec hb hr hts hown hlocks hml hA hP hD hG hS hl
  unfold f_X5_fail at hf
  have hWX5 : ∀ w ∈ wsX50, w.before args s = true := fun w h => hts w (List.mem_cons_of_mem _ (List.mem_append_right _ h))
  have hS : va_S A s.heap s.heap [] := hS
  refine lv_aload_n (pc := 0) hexec hb dX5_fail_0 rfl (lv_at hl 0 rfl) ?_
  refine lv_iload_n (pc := 1) hexec hb dX5_fail_1 rfl (lv_at hl 1 rfl) ?_
  refine kp_put (pc := 2) hexec hb (own := RX5) hWX5 tyX5 tyX5_ok nmX5 hown hG hP hD hS 0 rfl rfl 12 (nle rfl) (hts _ (List.mem_cons_of_mem _ (List.mem_append_left _ (List.mem_of_getElem? (i := 0) rfl)))) rfl rfl rfl rfl (nle rfl) dX5_fail_2 (fun H locs (hP : va_P g.1 vwCl (w_X5_fail g a0 u0_0 u0_1 u0_2 u0_3 u0_4 u0_5 u0_6 u0_7 u0_8 u0_9 u0_10 u0_11 p1 x0_errorAt) H) (hD : va_D A (w_X5_fail g a0 u0_0 u0_1 u0_2 u0_3 u0_4 u0_5 u0_6 u0_7 u0_8 u0_9 u0_10 u0_11 p1 x0_errorAt)) hS => ?_)
  refine lv_aload_n (pc := 5) hexec hb dX5_fail_5 rfl (lv_at hl 0 rfl) ?_
  refine lv_iload_n (pc := 6) hexec hb dX5_fail_6 rfl (lv_at hl 2 rfl) ?_
  refine kp_put (pc := 7) hexec hb (own := RX5) hWX5 tyX5 tyX5_ok nmX5 hown hG hP hD hS 0 rfl rfl 13 (nle rfl) (hts _ (List.mem_cons_of_mem _ (List.mem_append_left _ (List.mem_of_getElem? (i := 1) rfl)))) rfl rfl rfl rfl (nle rfl) dX5_fail_7 (fun H locs (hP : va_P g.1 vwCl (w_X5_fail g a0 u0_0 u0_1 u0_2 u0_3 u0_4 u0_5 u0_6 u0_7 u0_8 u0_9 u0_10 u0_11 p1 p2) H) (hD : va_D A (w_X5_fail g a0 u0_0 u0_1 u0_2 u0_3 u0_4 u0_5 u0_6 u0_7 u0_8 u0_9 u0_10 u0_11 p1 p2)) hS => ?_)
  refine lv_iconst (pc := 10) hexec hb dX5_fail_10 ki_0 ?_
  cases hf
  exact ke_z hQ hexec hb hr (.inl rfl) hP hD hS dX5_fail_11 hlocks
abbrev w_X5_takeWord (g : GE) (a0 a1 : Nat) (u0_0 u0_1 u0_5 u0_8 u0_9 u0_10 u0_11 : Value) (x0_length : Int32) (x0_at : Int32) (x0_wordStart : Int32) (x0_wordLength : Int32) (x0_error : Int32) (x0_errorAt : Int32) (y1_text : Nat → Int32) : va_W := [(a0, .inr (5, [u0_0, u0_1, .ref a1, .int x0_length, .int x0_at, u0_5, .int x0_wordStart, .int x0_wordLength, u0_8, u0_9, u0_10, u0_11, .int x0_error, .int x0_errorAt])), (a1, .inl (g.2.1 0, 500, .inl y1_text))]
set_option maxRecDepth 20000 in
theorem c_X5_takeWord (l : Launch) (g : GE) (a0 a1 : Nat) (sz : Nat) (u0_0 u0_1 u0_5 u0_8 u0_9 u0_10 u0_11 : Value) (x0_length : Int32) (x0_at : Int32) (x0_wordStart : Int32) (x0_wordLength : Int32) (x0_error : Int32) (x0_errorAt : Int32) (y1_text : Nat → Int32)   (r : Int32) (o_x0_at : Int32) (o_x0_wordStart : Int32) (o_x0_wordLength : Int32) (o_x0_error : Int32) (o_x0_errorAt : Int32) (hf : f_X5_takeWord x0_length x0_at x0_wordStart x0_wordLength x0_error x0_errorAt y1_text = some (r, o_x0_at, o_x0_wordStart, o_x0_wordLength, o_x0_error, o_x0_errorAt)) : MI l g yX5_takeWord wsX5_takeWord 3 66 [.ref a0] (w_X5_takeWord g a0 a1 u0_0 u0_1 u0_5 u0_8 u0_9 u0_10 u0_11 x0_length x0_at x0_wordStart x0_wordLength x0_error x0_errorAt y1_text) sz (some (.int r)) (w_X5_takeWord g a0 a1 u0_0 u0_1 u0_5 u0_8 u0_9 u0_10 u0_11 x0_length o_x0_at o_x0_wordStart o_x0_wordLength o_x0_error o_x0_errorAt y1_text) := by
  refine MI.start (cc := cX5_takeWord) (maxL := 2) (ret := (some .boolean)) rfl rfl (nle rfl) ?_
  intro p e s m args below meth c A ls Q hQ hexec hb hr hts hown hlocks hml hA hP hD hG hS hl
  unfold f_X5_takeWord at hf
  have hWX5 : ∀ w ∈ wsX50, w.before args s = true := fun w h => hts w (List.mem_cons_of_mem _ (List.mem_append_right _ h))
  have hS : va_S A s.heap s.heap [] := hS
  refine lv_aload_n (pc := 0) hexec hb dX5_takeWord_0 rfl (lv_at hl 0 rfl) ?_
  obtain ⟨r1, x0_at_1, hc, hf⟩ := bd2_e hf
  refine kVp (pc := 1) (S := ⟨hexec, hb, hml, hown, hts⟩) hP hD hG hA hS [0, 1] [] [0, 1] (w2 := (w_X5_takeWord g a0 a1 u0_0 u0_1 u0_5 u0_8 u0_9 u0_10 u0_11 x0_length x0_at_1 x0_wordStart x0_wordLength x0_error x0_errorAt y1_text)) rfl rfl rfl rfl rfl rfl (by decide) (c_X5_nextSign l g a0 a1 _ u0_0 u0_1 u0_5 (.int x0_wordStart) (.int x0_wordLength) u0_8 u0_9 u0_10 u0_11 (.int x0_error) (.int x0_errorAt) x0_length x0_at y1_text r1 x0_at_1 hc) gX5_takeWord_X5_nextSign rfl hv_X5_nextSign ⟨nle rfl, nle rfl⟩ 5 0 rfl rfl rfl (rest := []) rfl rfl hl.1 (nle rfl) dX5_takeWord_1 (fun H locs hP hD hS => ?_)
  refine lv_pop (pc := 4) hexec hb dX5_takeWord_4 rfl ?_
  refine lv_aload_n (pc := 5) hexec hb dX5_takeWord_5 rfl (lv_at hl 0 rfl) ?_
  refine lv_aload_n (pc := 6) hexec hb dX5_takeWord_6 rfl (lv_at hl 0 rfl) ?_
  refine kg_get (pc := 7) hexec hb (own := RX5) hWX5 hown hG hP 0 rfl rfl 4 (nle rfl) (hts _ (List.mem_cons_of_mem _ (List.mem_append_left _ (List.mem_of_getElem? (i := 0) rfl)))) rfl rfl dX5_takeWord_7 ?_
  refine kp_put (pc := 10) hexec hb (own := RX5) hWX5 tyX5 tyX5_ok nmX5 hown hG hP hD hS 0 rfl rfl 6 (nle rfl) (hts _ (List.mem_cons_of_mem _ (List.mem_append_left _ (List.mem_of_getElem? (i := 1) rfl)))) rfl rfl rfl rfl (nle rfl) dX5_takeWord_10 (fun H locs (hP : va_P g.1 vwCl (w_X5_takeWord g a0 a1 u0_0 u0_1 u0_5 u0_8 u0_9 u0_10 u0_11 x0_length x0_at_1 x0_at_1 x0_wordLength x0_error x0_errorAt y1_text) H) (hD : va_D A (w_X5_takeWord g a0 a1 u0_0 u0_1 u0_5 u0_8 u0_9 u0_10 u0_11 x0_length x0_at_1 x0_at_1 x0_wordLength x0_error x0_errorAt y1_text)) hS => ?_)
  refine lv_iconst (pc := 13) hexec hb dX5_takeWord_13 ki_0 ?_
  refine lv_istore_n (pc := 14) hexec hb dX5_takeWord_14 rfl hl (nle rfl) rfl (fun ls (hl : lv_has ls 2 [(1, .int 0), (0, .ref a0)]) => ?_)
  obtain ⟨l15, el15, hf⟩ := bvf2 hf
  obtain ⟨x0_at_3, hz, hf⟩ := bd1_e hf
  have hE15 : ∀ (H : Heap) (locs : List Loc) (ls : Array Slot), va_P g.1 vwCl (w_X5_takeWord g a0 a1 u0_0 u0_1 u0_5 u0_8 u0_9 u0_10 u0_11 x0_length x0_at_3 x0_at_1 x0_wordLength x0_error x0_errorAt y1_text) H → va_D A (w_X5_takeWord g a0 a1 u0_0 u0_1 u0_5 u0_8 u0_9 u0_10 u0_11 x0_length x0_at_3 x0_at_1 x0_wordLength x0_error x0_errorAt y1_text) → va_S A s.heap H locs → lv_has ls 2 [(0, .ref a0)] → W p l e (RM 3 66) s m args below meth c H locs 0 0 Q (F0 m 53 ls []) := by
    intro H locs ls hP hD hS hl
    refine lv_aload_n (pc := 53) hexec hb dX5_takeWord_53 rfl (lv_at hl 0 rfl) ?_
    refine lv_aload_n (pc := 54) hexec hb dX5_takeWord_54 rfl (lv_at hl 0 rfl) ?_
    refine kg_get (pc := 55) hexec hb (own := RX5) hWX5 hown hG hP 0 rfl rfl 4 (nle rfl) (hts _ (List.mem_cons_of_mem _ (List.mem_append_left _ (List.mem_of_getElem? (i := 0) rfl)))) rfl rfl dX5_takeWord_55 ?_
    refine lv_aload_n (pc := 58) hexec hb dX5_takeWord_58 rfl (lv_at hl 0 rfl) ?_
    refine kg_get (pc := 59) hexec hb (own := RX5) hWX5 hown hG hP 0 rfl rfl 6 (nle rfl) (hts _ (List.mem_cons_of_mem _ (List.mem_append_left _ (List.mem_of_getElem? (i := 1) rfl)))) rfl rfl dX5_takeWord_59 ?_
    refine lv_isub (pc := 62) hexec hb dX5_takeWord_62 ?_
    obtain ⟨x0_wordLength_1, ex0_wordLength_1, hf⟩ := bv_e hf
    refine kn_i ex0_wordLength_1 ?_
    refine kp_put (pc := 63) hexec hb (own := RX5) hWX5 tyX5 tyX5_ok nmX5 hown hG hP hD hS 0 rfl rfl 7 (nle rfl) (hts _ (List.mem_cons_of_mem _ (List.mem_append_left _ (List.mem_of_getElem? (i := 3) rfl)))) rfl rfl rfl rfl (nle rfl) dX5_takeWord_63 (fun H locs (hP : va_P g.1 vwCl (w_X5_takeWord g a0 a1 u0_0 u0_1 u0_5 u0_8 u0_9 u0_10 u0_11 x0_length x0_at_3 x0_at_1 x0_wordLength_1 x0_error x0_errorAt y1_text) H) (hD : va_D A (w_X5_takeWord g a0 a1 u0_0 u0_1 u0_5 u0_8 u0_9 u0_10 u0_11 x0_length x0_at_3 x0_at_1 x0_wordLength_1 x0_error x0_errorAt y1_text)) hS => ?_)
    refine lv_aload_n (pc := 66) hexec hb dX5_takeWord_66 rfl (lv_at hl 0 rfl) ?_
    refine kg_get (pc := 67) hexec hb (own := RX5) hWX5 hown hG hP 0 rfl rfl 7 (nle rfl) (hts _ (List.mem_cons_of_mem _ (List.mem_append_left _ (List.mem_of_getElem? (i := 3) rfl)))) rfl rfl dX5_takeWord_67 ?_
    obtain ⟨j85, ej85, hf⟩ := bvf2 hf
    have hj85 : ∀ (x0_error_1 : Int32) (x0_errorAt_1 : Int32) (H : Heap) (locs : List Loc) (ls : Array Slot), j85 x0_error_1 x0_errorAt_1 = some (r, o_x0_at, o_x0_wordStart, o_x0_wordLength, o_x0_error, o_x0_errorAt) → va_P g.1 vwCl (w_X5_takeWord g a0 a1 u0_0 u0_1 u0_5 u0_8 u0_9 u0_10 u0_11 x0_length x0_at_3 x0_at_1 x0_wordLength_1 x0_error_1 x0_errorAt_1 y1_text) H → va_D A (w_X5_takeWord g a0 a1 u0_0 u0_1 u0_5 u0_8 u0_9 u0_10 u0_11 x0_length x0_at_3 x0_at_1 x0_wordLength_1 x0_error_1 x0_errorAt_1 y1_text) → va_S A s.heap H locs → lv_has ls 2 [] → W p l e (RM 3 66) s m args below meth c H locs 0 0 Q (F0 m 85 ls []) := by
      intro x0_error_1 x0_errorAt_1 H locs ls hf hP hD hS hl
      have hf := (ej85 x0_error_1 x0_errorAt_1).symm.trans hf
      refine lv_iconst (pc := 85) hexec hb dX5_takeWord_85 ki_1 ?_
      refine lv_goto (pc := 86) hexec hb dX5_takeWord_86 (tgt := 90) rfl ?_
      cases hf
      exact ke_z hQ hexec hb hr (.inr rfl) hP hD hS dX5_takeWord_90 hlocks
    refine kb_gt (pc := 70) hexec hb dX5_takeWord_70 (tgt := 85) rfl hf (fun hc hf => ?_) (fun hc hf => ?_)
    · exact hj85 _ _ _ _ _ hf hP hD hS (lv_sub hl [] rfl)
    · refine lv_aload_n (pc := 73) hexec hb dX5_takeWord_73 rfl (lv_at hl 0 rfl) ?_
      refine lv_iconst (pc := 74) hexec hb dX5_takeWord_74 ki_1 ?_
      refine lv_aload_n (pc := 75) hexec hb dX5_takeWord_75 rfl (lv_at hl 0 rfl) ?_
      refine kg_get (pc := 76) hexec hb (own := RX5) hWX5 hown hG hP 0 rfl rfl 6 (nle rfl) (hts _ (List.mem_cons_of_mem _ (List.mem_append_left _ (List.mem_of_getElem? (i := 1) rfl)))) rfl rfl dX5_takeWord_76 ?_
      obtain ⟨r79, x0_error_2, x0_errorAt_2, hc, hf⟩ := bd3_e hf
      refine kVp (pc := 79) (S := ⟨hexec, hb, hml, hown, hts⟩) hP hD hG hA hS [0] [1] [1, 0] (w2 := (w_X5_takeWord g a0 a1 u0_0 u0_1 u0_5 u0_8 u0_9 u0_10 u0_11 x0_length x0_at_3 x0_at_1 x0_wordLength_1 x0_error_2 x0_errorAt_2 y1_text)) rfl rfl rfl rfl rfl rfl (by decide) (c_X5_fail l g a0 _ u0_0 u0_1 (.ref a1) (.int x0_length) (.int x0_at_3) u0_5 (.int x0_at_1) (.int x0_wordLength_1) u0_8 u0_9 u0_10 u0_11 x0_error x0_errorAt 1 x0_at_1 r79 x0_error_2 x0_errorAt_2 hc) gX5_takeWord_X5_fail rfl hv_X5_fail ⟨nle rfl, nle rfl⟩ 5 0 rfl rfl rfl (rest := []) rfl rfl hl.1 (nle rfl) dX5_takeWord_79 (fun H locs hP hD hS => ?_)
      refine kb_eq (pc := 82) hexec hb dX5_takeWord_82 (tgt := 89) rfl hf (fun hc hf => ?_) (fun hc hf => ?_)
      · refine lv_iconst (pc := 89) hexec hb dX5_takeWord_89 ki_0 ?_
        cases hf
        exact ke_z hQ hexec hb hr (.inl rfl) hP hD hS dX5_takeWord_90 hlocks
      · exact hj85 _ _ _ _ _ hf hP hD hS (lv_sub hl [] rfl)
  obtain ⟨n, hz⟩ := lq2_e hz
  have hL15 : ∀ (n : Nat) (v1 : Int32) (x0_at_2 : Int32) (H : Heap) (locs : List Loc) (ls : Array Slot), it2 l15 n v1 x0_at_2 = some x0_at_3 → va_P g.1 vwCl (w_X5_takeWord g a0 a1 u0_0 u0_1 u0_5 u0_8 u0_9 u0_10 u0_11 x0_length x0_at_2 x0_at_1 x0_wordLength x0_error x0_errorAt y1_text) H → va_D A (w_X5_takeWord g a0 a1 u0_0 u0_1 u0_5 u0_8 u0_9 u0_10 u0_11 x0_length x0_at_2 x0_at_1 x0_wordLength x0_error x0_errorAt y1_text) → va_S A s.heap H locs → lv_has ls 2 [(0, .ref a0), (1, .int v1)] → W p l e (RM 3 66) s m args below meth c H locs 0 0 Q (F0 m 15 ls []) := by
    intro n
    induction n with
    | zero =>
      intro v1 x0_at_2 H locs ls hf hP hD hS hl
      exact it2_0 hf
    | succ n15 ih15 =>
      intro v1 x0_at_2 H locs ls hf hP hD hS hl
      obtain ⟨q15, hf, hk15⟩ := it2_e hf
      have hf := (el15 v1 x0_at_2).symm.trans hf
      refine lv_iload_n (pc := 15) hexec hb dX5_takeWord_15 rfl (lv_at hl 1 rfl) ?_
      refine lv_aload_n (pc := 16) hexec hb dX5_takeWord_16 rfl (lv_at hl 0 rfl) ?_
      refine kg_get (pc := 17) hexec hb (own := RX5) hWX5 hown hG hP 0 rfl rfl 3 (nle rfl) (hts _ (List.mem_cons_of_mem _ (List.mem_append_left _ (List.mem_of_getElem? (i := 2) rfl)))) rfl rfl dX5_takeWord_17 ?_
      refine ki_ge (pc := 20) hexec hb dX5_takeWord_20 (tgt := 53) rfl hf (fun hc hf => ?_) (fun hc hf => ?_)
      · cases sr2 hf hk15
        exact hE15 _ _ _ hP hD hS (lv_sub hl [0] rfl)
      · refine lv_aload_n (pc := 23) hexec hb dX5_takeWord_23 rfl (lv_at hl 0 rfl) ?_
        refine lv_aload_n (pc := 24) hexec hb dX5_takeWord_24 rfl (lv_at hl 0 rfl) ?_
        refine kg_get (pc := 25) hexec hb (own := RX5) hWX5 hown hG hP 0 rfl rfl 4 (nle rfl) (hts _ (List.mem_cons_of_mem _ (List.mem_append_left _ (List.mem_of_getElem? (i := 0) rfl)))) rfl rfl dX5_takeWord_25 ?_
        obtain ⟨r28, hc, hf⟩ := bd1_e hf
        refine kVp (pc := 28) (S := ⟨hexec, hb, hml, hown, hts⟩) hP hD hG hA hS [0, 1] [] [0, 1] (w2 := (w_X5_takeWord g a0 a1 u0_0 u0_1 u0_5 u0_8 u0_9 u0_10 u0_11 x0_length x0_at_2 x0_at_1 x0_wordLength x0_error x0_errorAt y1_text)) rfl rfl rfl rfl rfl rfl (by decide) (c_X5_signAt l g a0 a1 _ u0_0 u0_1 (.int x0_at_2) u0_5 (.int x0_at_1) (.int x0_wordLength) u0_8 u0_9 u0_10 u0_11 (.int x0_error) (.int x0_errorAt) x0_length y1_text x0_at_2 r28 hc) gX5_takeWord_X5_signAt rfl hv_X5_signAt ⟨nle rfl, nle rfl⟩ 5 0 rfl rfl rfl (rest := []) rfl rfl hl.1 (nle rfl) dX5_takeWord_28 (fun H locs hP hD hS => ?_)
        obtain ⟨r31, hc, hf⟩ := bd1_e hf
        refine kSp (pc := 31) (S := ⟨hexec, hb, hml, hown, hts⟩) hP hD hG hA hS [] [0, 1] [0, 1] (w2 := (w_X5_takeWord g a0 a1 u0_0 u0_1 u0_5 u0_8 u0_9 u0_10 u0_11 x0_length x0_at_2 x0_at_1 x0_wordLength x0_error x0_errorAt y1_text)) rfl rfl rfl rfl rfl rfl (by decide) (c_X5_isLetter l g _ r28 r31 hc) gX5_takeWord_X5_isLetter rfl hs_X5_isLetter ⟨nle rfl, nle rfl⟩ (rest := []) rfl rfl hl.1 (nle rfl) dX5_takeWord_31 (fun H locs hP hD hS => ?_)
        refine kb_eq (pc := 34) hexec hb dX5_takeWord_34 (tgt := 53) rfl hf (fun hc hf => ?_) (fun hc hf => ?_)
        · cases sr2 hf hk15
          exact hE15 _ _ _ hP hD hS (lv_sub hl [0] rfl)
        · refine lv_aload_n (pc := 37) hexec hb dX5_takeWord_37 rfl (lv_at hl 0 rfl) ?_
          refine lv_dup (pc := 38) hexec hb dX5_takeWord_38 rfl ?_
          refine kg_get (pc := 39) hexec hb (own := RX5) hWX5 hown hG hP 0 rfl rfl 4 (nle rfl) (hts _ (List.mem_cons_of_mem _ (List.mem_append_left _ (List.mem_of_getElem? (i := 0) rfl)))) rfl rfl dX5_takeWord_39 ?_
          refine lv_iconst (pc := 42) hexec hb dX5_takeWord_42 ki_1 ?_
          refine lv_iadd (pc := 43) hexec hb dX5_takeWord_43 ?_
          obtain ⟨x0_at_4, ex0_at_4, hf⟩ := bv_e hf
          refine kn_i ex0_at_4 ?_
          refine kp_put (pc := 44) hexec hb (own := RX5) hWX5 tyX5 tyX5_ok nmX5 hown hG hP hD hS 0 rfl rfl 4 (nle rfl) (hts _ (List.mem_cons_of_mem _ (List.mem_append_left _ (List.mem_of_getElem? (i := 0) rfl)))) rfl rfl rfl rfl (nle rfl) dX5_takeWord_44 (fun H locs (hP : va_P g.1 vwCl (w_X5_takeWord g a0 a1 u0_0 u0_1 u0_5 u0_8 u0_9 u0_10 u0_11 x0_length x0_at_4 x0_at_1 x0_wordLength x0_error x0_errorAt y1_text) H) (hD : va_D A (w_X5_takeWord g a0 a1 u0_0 u0_1 u0_5 u0_8 u0_9 u0_10 u0_11 x0_length x0_at_4 x0_at_1 x0_wordLength x0_error x0_errorAt y1_text)) hS => ?_)
          obtain ⟨v1_1, ev1_1, hf⟩ := bv_e hf
          refine k_iinc (pc := 47) hexec hb dX5_takeWord_47 kq_1 hl (k := 1) rfl ev1_1 (nle rfl) rfl (fun ls (hl : lv_has ls 2 [(1, .int v1_1), (0, .ref a0)]) => ?_)
          refine lv_goto (pc := 50) hexec hb dX5_takeWord_50 (tgt := 15) rfl ?_
          exact ih15 _ _ _ _ _ (sl2 hf hk15) hP hD hS (lv_sub hl [1, 0] rfl)
  exact hL15 n _ _ _ _ _ hz hP hD hS (lv_sub hl [1, 0] rfl)
abbrev w_X5_wordIs (g : GE) (a0 a1 : Nat) (u0_0 u0_1 u0_4 u0_5 u0_8 u0_9 u0_10 u0_11 u0_12 u0_13 : Value) (x0_length : Int32) (x0_wordStart : Int32) (x0_wordLength : Int32) (y1_text : Nat → Int32) : va_W := [(a0, .inr (5, [u0_0, u0_1, .ref a1, .int x0_length, u0_4, u0_5, .int x0_wordStart, .int x0_wordLength, u0_8, u0_9, u0_10, u0_11, u0_12, u0_13])), (a1, .inl (g.2.1 0, 500, .inl y1_text))]
set_option maxRecDepth 20000 in
theorem c_X5_wordIs (l : Launch) (g : GE) (a0 a1 : Nat) (sz : Nat) (u0_0 u0_1 u0_4 u0_5 u0_8 u0_9 u0_10 u0_11 u0_12 u0_13 : Value) (x0_length : Int32) (x0_wordStart : Int32) (x0_wordLength : Int32) (y1_text : Nat → Int32) (k1 : Nat) (hk1 : k1 < 12) (r : Int32) (hf : f_X5_wordIs x0_length x0_wordStart x0_wordLength y1_text k1 = some r) : MI l g yX5_wordIs wsX5_wordIs 5 111 [.ref a0, .ref (adK g k1)] (w_X5_wordIs g a0 a1 u0_0 u0_1 u0_4 u0_5 u0_8 u0_9 u0_10 u0_11 u0_12 u0_13 x0_length x0_wordStart x0_wordLength y1_text) sz (some (.int r)) (w_X5_wordIs g a0 a1 u0_0 u0_1 u0_4 u0_5 u0_8 u0_9 u0_10 u0_11 u0_12 u0_13 x0_length x0_wordStart x0_wordLength y1_text) := by
  refine MI.start (cc := cX5_wordIs) (maxL := 3) (ret := (some .boolean)) rfl rfl (nle rfl) ?_
  intro p e s m args below meth c A ls Q hQ hexec hb hr hts hown hlocks hml hA hP hD hG hS hl
  unfold f_X5_wordIs at hf
  have hWX5 : ∀ w ∈ wsX50, w.before args s = true := fun w h => hts w (List.mem_cons_of_mem _ (List.mem_append_right _ h))
  have hS : va_S A s.heap s.heap [] := hS
  refine lv_aload_n (pc := 0) hexec hb dX5_wordIs_0 rfl (lv_at hl 0 rfl) ?_
  refine kg_get (pc := 1) hexec hb (own := RX5) hWX5 hown hG hP 0 rfl rfl 7 (nle rfl) (hts _ (List.mem_cons_of_mem _ (List.mem_append_left _ (List.mem_append_left _ (List.mem_of_getElem? (i := 0) rfl))))) rfl rfl dX5_wordIs_1 ?_
  refine lv_aload_n (pc := 4) hexec hb dX5_wordIs_4 rfl (lv_at hl 1 rfl) ?_
  refine kVq (pc := 5) (S := ⟨hexec, hb, hml, hown, hts⟩) hP hD hG hA hS [] [0, 1] [0, 1] (w2 := (w_X5_wordIs g a0 a1 u0_0 u0_1 u0_4 u0_5 u0_8 u0_9 u0_10 u0_11 u0_12 u0_13 x0_length x0_wordStart x0_wordLength y1_text)) rfl rfl rfl rfl rfl rfl (by decide) (c_slen l g _ k1 hk1) gX5_wordIs_J0_length_8abf5 rfl hv_J0_length ⟨nle rfl, nle rfl⟩ (vk_recv (gs_s hG) hk1 hS) (rest := [.int x0_wordLength]) rfl rfl hl.1 (nle rfl) dX5_wordIs_5 (fun H locs hP hD hS => ?_)
  refine ki_eq (pc := 8) hexec hb dX5_wordIs_8 (tgt := 13) rfl hf (fun hc hf => ?_) (fun hc hf => ?_)
  · refine lv_iconst (pc := 13) hexec hb dX5_wordIs_13 ki_0 ?_
    refine lv_istore_n (pc := 14) hexec hb dX5_wordIs_14 rfl hl (nle rfl) rfl (fun ls (hl : lv_has ls 3 [(2, .int 0), (0, .ref a0), (1, .ref (adK g k1))]) => ?_)
    obtain ⟨l15, el15, hf⟩ := bvf1 hf
    obtain ⟨n, hz⟩ := lq1_e hf
    have hL15 : ∀ (n : Nat) (v2 : Int32) (H : Heap) (locs : List Loc) (ls : Array Slot), it1 l15 n v2 = some r → va_P g.1 vwCl (w_X5_wordIs g a0 a1 u0_0 u0_1 u0_4 u0_5 u0_8 u0_9 u0_10 u0_11 u0_12 u0_13 x0_length x0_wordStart x0_wordLength y1_text) H → va_D A (w_X5_wordIs g a0 a1 u0_0 u0_1 u0_4 u0_5 u0_8 u0_9 u0_10 u0_11 u0_12 u0_13 x0_length x0_wordStart x0_wordLength y1_text) → va_S A s.heap H locs → lv_has ls 3 [(0, .ref a0), (1, .ref (adK g k1)), (2, .int v2)] → W p l e (RM 5 111) s m args below meth c H locs 0 0 Q (F0 m 15 ls []) := by
      intro n
      induction n with
      | zero =>
        intro v2 H locs ls hf hP hD hS hl
        exact it1_0 hf
      | succ n15 ih15 =>
        intro v2 H locs ls hf hP hD hS hl
        obtain ⟨q15, hf, hk15⟩ := it1_e hf
        have hf := (el15 v2).symm.trans hf
        refine lv_iload_n (pc := 15) hexec hb dX5_wordIs_15 rfl (lv_at hl 2 rfl) ?_
        refine lv_aload_n (pc := 16) hexec hb dX5_wordIs_16 rfl (lv_at hl 1 rfl) ?_
        refine kVq (pc := 17) (S := ⟨hexec, hb, hml, hown, hts⟩) hP hD hG hA hS [] [0, 1] [0, 1] (w2 := (w_X5_wordIs g a0 a1 u0_0 u0_1 u0_4 u0_5 u0_8 u0_9 u0_10 u0_11 u0_12 u0_13 x0_length x0_wordStart x0_wordLength y1_text)) rfl rfl rfl rfl rfl rfl (by decide) (c_slen l g _ k1 hk1) gX5_wordIs_J0_length_8abf5 rfl hv_J0_length ⟨nle rfl, nle rfl⟩ (vk_recv (gs_s hG) hk1 hS) (rest := [.int v2]) rfl rfl hl.1 (nle rfl) dX5_wordIs_17 (fun H locs hP hD hS => ?_)
        refine ki_ge (pc := 20) hexec hb dX5_wordIs_20 (tgt := 49) rfl hf (fun hc hf => ?_) (fun hc hf => ?_)
        · have hf := mk1 hf hk15
          refine lv_iconst (pc := 49) hexec hb dX5_wordIs_49 ki_1 ?_
          cases hf
          exact ke_z hQ hexec hb hr (.inr rfl) hP hD hS dX5_wordIs_50 hlocks
        · refine lv_aload_n (pc := 23) hexec hb dX5_wordIs_23 rfl (lv_at hl 0 rfl) ?_
          refine lv_aload_n (pc := 24) hexec hb dX5_wordIs_24 rfl (lv_at hl 0 rfl) ?_
          refine kg_get (pc := 25) hexec hb (own := RX5) hWX5 hown hG hP 0 rfl rfl 6 (nle rfl) (hts _ (List.mem_cons_of_mem _ (List.mem_append_left _ (List.mem_append_left _ (List.mem_of_getElem? (i := 1) rfl))))) rfl rfl dX5_wordIs_25 ?_
          refine lv_iload_n (pc := 28) hexec hb dX5_wordIs_28 rfl (lv_at hl 2 rfl) ?_
          refine lv_iadd (pc := 29) hexec hb dX5_wordIs_29 ?_
          obtain ⟨r30, hc, hf⟩ := bd1_e hf
          refine kVp (pc := 30) (S := ⟨hexec, hb, hml, hown, hts⟩) hP hD hG hA hS [0, 1] [] [0, 1] (w2 := (w_X5_wordIs g a0 a1 u0_0 u0_1 u0_4 u0_5 u0_8 u0_9 u0_10 u0_11 u0_12 u0_13 x0_length x0_wordStart x0_wordLength y1_text)) rfl rfl rfl rfl rfl rfl (by decide) (c_X5_signAt l g a0 a1 _ u0_0 u0_1 u0_4 u0_5 (.int x0_wordStart) (.int x0_wordLength) u0_8 u0_9 u0_10 u0_11 u0_12 u0_13 x0_length y1_text (x0_wordStart + v2) r30 hc) gX5_wordIs_X5_signAt rfl hv_X5_signAt ⟨nle rfl, nle rfl⟩ 5 0 rfl rfl rfl (rest := []) rfl rfl hl.1 (nle rfl) dX5_wordIs_30 (fun H locs hP hD hS => ?_)
          refine lv_aload_n (pc := 33) hexec hb dX5_wordIs_33 rfl (lv_at hl 1 rfl) ?_
          refine lv_iload_n (pc := 34) hexec hb dX5_wordIs_34 rfl (lv_at hl 2 rfl) ?_
          obtain ⟨hi, hf⟩ := ar_e hf
          refine kVq (pc := 35) (S := ⟨hexec, hb, hml, hown, hts⟩) hP hD hG hA hS [] [0, 1] [0, 1] (w2 := (w_X5_wordIs g a0 a1 u0_0 u0_1 u0_4 u0_5 u0_8 u0_9 u0_10 u0_11 u0_12 u0_13 x0_length x0_wordStart x0_wordLength y1_text)) rfl rfl rfl rfl rfl rfl (by decide) (c_schr l g _ k1 v2 hk1 hi) gX5_wordIs_J0_charAt_5068e rfl hv_J0_charAt ⟨nle rfl, nle rfl⟩ (vk_recv (gs_s hG) hk1 hS) (rest := [.int r30]) rfl rfl hl.1 (nle rfl) dX5_wordIs_35 (fun H locs hP hD hS => ?_)
          refine ki_eq (pc := 38) hexec hb dX5_wordIs_38 (tgt := 43) rfl hf (fun hc hf => ?_) (fun hc hf => ?_)
          · obtain ⟨v2_1, ev2_1, hf⟩ := bv_e hf
            refine k_iinc (pc := 43) hexec hb dX5_wordIs_43 kq_1 hl (k := 2) rfl ev2_1 (nle rfl) rfl (fun ls (hl : lv_has ls 3 [(2, .int v2_1), (0, .ref a0), (1, .ref (adK g k1))]) => ?_)
            refine lv_goto (pc := 46) hexec hb dX5_wordIs_46 (tgt := 15) rfl ?_
            exact ih15 _ _ _ _ (sl1 hf hk15) hP hD hS (lv_sub hl [1, 2, 0] rfl)
          · have hf := mk1 hf hk15
            refine lv_iconst (pc := 41) hexec hb dX5_wordIs_41 ki_0 ?_
            cases hf
            exact ke_z hQ hexec hb hr (.inl rfl) hP hD hS dX5_wordIs_42 hlocks
    exact hL15 n _ _ _ _ hz hP hD hS (lv_sub hl [1, 2, 0] rfl)
  · refine lv_iconst (pc := 11) hexec hb dX5_wordIs_11 ki_0 ?_
    cases hf
    exact ke_z hQ hexec hb hr (.inl rfl) hP hD hS dX5_wordIs_12 hlocks
abbrev w_X5_isDigit (g : GE) : va_W := []
set_option maxRecDepth 20000 in
theorem c_X5_isDigit (l : Launch) (g : GE) (sz : Nat)  (p0 : Int32)  (r : Int32) (hf : f_X5_isDigit p0 = some r) : MI l g yX5_isDigit wsX5_isDigit 1 24 [.int p0] (w_X5_isDigit g ) sz (some (.int r)) (w_X5_isDigit g ) := by
  refine MI.start (cc := cX5_isDigit) (maxL := 1) (ret := (some .boolean)) rfl rfl (nle rfl) ?_
  intro p e s m args below meth c A ls Q hQ hexec hb hr hts hown hlocks hml hA hP hD hG hS hl
  unfold f_X5_isDigit at hf
  have hS : va_S A s.heap s.heap [] := hS
  refine lv_iload_n (pc := 0) hexec hb dX5_isDigit_0 rfl (lv_at hl 0 rfl) ?_
  refine lv_bipush (pc := 1) hexec hb dX5_isDigit_1 kb_48 ?_
  obtain ⟨j16, ej16, hf⟩ := bvf1 hf
  have hj16 : ∀ (u : Unit) (H : Heap) (locs : List Loc) (ls : Array Slot), j16 u = some r → va_P g.1 vwCl (w_X5_isDigit g ) H → va_D A (w_X5_isDigit g ) → va_S A s.heap H locs → lv_has ls 1 [] → W p l e (RM 1 24) s m args below meth c H locs 0 0 Q (F0 m 16 ls []) := by
    intro u H locs ls hf hP hD hS hl
    have hf := (ej16 u).symm.trans hf
    refine lv_iconst (pc := 16) hexec hb dX5_isDigit_16 ki_0 ?_
    cases hf
    exact ke_z hQ hexec hb hr (.inl rfl) hP hD hS dX5_isDigit_17 hlocks
  refine ki_lt (pc := 3) hexec hb dX5_isDigit_3 (tgt := 16) rfl hf (fun hc hf => ?_) (fun hc hf => ?_)
  · exact hj16 _ _ _ _ hf hP hD hS (lv_sub hl [] rfl)
  · refine lv_iload_n (pc := 6) hexec hb dX5_isDigit_6 rfl (lv_at hl 0 rfl) ?_
    refine lv_bipush (pc := 7) hexec hb dX5_isDigit_7 kb_57 ?_
    refine ki_gt (pc := 9) hexec hb dX5_isDigit_9 (tgt := 16) rfl hf (fun hc hf => ?_) (fun hc hf => ?_)
    · exact hj16 _ _ _ _ hf hP hD hS (lv_sub hl [] rfl)
    · refine lv_iconst (pc := 12) hexec hb dX5_isDigit_12 ki_1 ?_
      refine lv_goto (pc := 13) hexec hb dX5_isDigit_13 (tgt := 17) rfl ?_
      cases hf
      exact ke_z hQ hexec hb hr (.inr rfl) hP hD hS dX5_isDigit_17 hlocks
abbrev w_X5_takeNumber (g : GE) (a0 a1 : Nat) (u0_0 u0_1 u0_5 u0_6 u0_7 u0_10 u0_11 : Value) (x0_length : Int32) (x0_at : Int32) (x0_numberStart : Int32) (x0_number : Int32) (x0_error : Int32) (x0_errorAt : Int32) (y1_text : Nat → Int32) : va_W := [(a0, .inr (5, [u0_0, u0_1, .ref a1, .int x0_length, .int x0_at, u0_5, u0_6, u0_7, .int x0_numberStart, .int x0_number, u0_10, u0_11, .int x0_error, .int x0_errorAt])), (a1, .inl (g.2.1 0, 500, .inl y1_text))]
set_option maxRecDepth 20000 in
theorem c_X5_takeNumber (l : Launch) (g : GE) (a0 a1 : Nat) (sz : Nat) (u0_0 u0_1 u0_5 u0_6 u0_7 u0_10 u0_11 : Value) (x0_length : Int32) (x0_at : Int32) (x0_numberStart : Int32) (x0_number : Int32) (x0_error : Int32) (x0_errorAt : Int32) (y1_text : Nat → Int32) (p1 : Int32) (p2 : Int32)  (r : Int32) (o_x0_at : Int32) (o_x0_numberStart : Int32) (o_x0_number : Int32) (o_x0_error : Int32) (o_x0_errorAt : Int32) (hf : f_X5_takeNumber x0_length x0_at x0_numberStart x0_number x0_error x0_errorAt y1_text p1 p2 = some (r, o_x0_at, o_x0_numberStart, o_x0_number, o_x0_error, o_x0_errorAt)) : MI l g yX5_takeNumber wsX5_takeNumber 3 66 [.ref a0, .int p1, .int p2] (w_X5_takeNumber g a0 a1 u0_0 u0_1 u0_5 u0_6 u0_7 u0_10 u0_11 x0_length x0_at x0_numberStart x0_number x0_error x0_errorAt y1_text) sz (some (.int r)) (w_X5_takeNumber g a0 a1 u0_0 u0_1 u0_5 u0_6 u0_7 u0_10 u0_11 x0_length o_x0_at o_x0_numberStart o_x0_number o_x0_error o_x0_errorAt y1_text) := by
  refine MI.start (cc := cX5_takeNumber) (maxL := 4) (ret := (some .boolean)) rfl rfl (nle rfl) ?_
  intro p e s m args below meth c A ls Q hQ hexec hb hr hts hown hlocks hml hA hP hD hG hS hl
  unfold f_X5_takeNumber at hf
  have hWX5 : ∀ w ∈ wsX50, w.before args s = true := fun w h => hts w (List.mem_cons_of_mem _ (List.mem_append_right _ h))
  have hS : va_S A s.heap s.heap [] := hS
  refine lv_aload_n (pc := 0) hexec hb dX5_takeNumber_0 rfl (lv_at hl 0 rfl) ?_
  obtain ⟨r1, x0_at_1, hc, hf⟩ := bd2_e hf
  refine kVp (pc := 1) (S := ⟨hexec, hb, hml, hown, hts⟩) hP hD hG hA hS [0, 1] [] [0, 1] (w2 := (w_X5_takeNumber g a0 a1 u0_0 u0_1 u0_5 u0_6 u0_7 u0_10 u0_11 x0_length x0_at_1 x0_numberStart x0_number x0_error x0_errorAt y1_text)) rfl rfl rfl rfl rfl rfl (by decide) (c_X5_nextSign l g a0 a1 _ u0_0 u0_1 u0_5 u0_6 u0_7 (.int x0_numberStart) (.int x0_number) u0_10 u0_11 (.int x0_error) (.int x0_errorAt) x0_length x0_at y1_text r1 x0_at_1 hc) gX5_takeNumber_X5_nextSign rfl hv_X5_nextSign ⟨nle rfl, nle rfl⟩ 5 0 rfl rfl rfl (rest := []) rfl rfl hl.1 (nle rfl) dX5_takeNumber_1 (fun H locs hP hD hS => ?_)
  refine lv_pop (pc := 4) hexec hb dX5_takeNumber_4 rfl ?_
  refine lv_aload_n (pc := 5) hexec hb dX5_takeNumber_5 rfl (lv_at hl 0 rfl) ?_
  refine lv_aload_n (pc := 6) hexec hb dX5_takeNumber_6 rfl (lv_at hl 0 rfl) ?_
  refine kg_get (pc := 7) hexec hb (own := RX5) hWX5 hown hG hP 0 rfl rfl 4 (nle rfl) (hts _ (List.mem_cons_of_mem _ (List.mem_append_left _ (List.mem_append_left _ (List.mem_of_getElem? (i := 0) rfl))))) rfl rfl dX5_takeNumber_7 ?_
  refine kp_put (pc := 10) hexec hb (own := RX5) hWX5 tyX5 tyX5_ok nmX5 hown hG hP hD hS 0 rfl rfl 8 (nle rfl) (hts _ (List.mem_cons_of_mem _ (List.mem_append_left _ (List.mem_append_left _ (List.mem_of_getElem? (i := 1) rfl))))) rfl rfl rfl rfl (nle rfl) dX5_takeNumber_10 (fun H locs (hP : va_P g.1 vwCl (w_X5_takeNumber g a0 a1 u0_0 u0_1 u0_5 u0_6 u0_7 u0_10 u0_11 x0_length x0_at_1 x0_at_1 x0_number x0_error x0_errorAt y1_text) H) (hD : va_D A (w_X5_takeNumber g a0 a1 u0_0 u0_1 u0_5 u0_6 u0_7 u0_10 u0_11 x0_length x0_at_1 x0_at_1 x0_number x0_error x0_errorAt y1_text)) hS => ?_)
  refine lv_aload_n (pc := 13) hexec hb dX5_takeNumber_13 rfl (lv_at hl 0 rfl) ?_
  refine lv_iconst (pc := 14) hexec hb dX5_takeNumber_14 ki_0 ?_
  refine kp_put (pc := 15) hexec hb (own := RX5) hWX5 tyX5 tyX5_ok nmX5 hown hG hP hD hS 0 rfl rfl 9 (nle rfl) (hts _ (List.mem_cons_of_mem _ (List.mem_append_left _ (List.mem_append_left _ (List.mem_of_getElem? (i := 2) rfl))))) rfl rfl rfl rfl (nle rfl) dX5_takeNumber_15 (fun H locs (hP : va_P g.1 vwCl (w_X5_takeNumber g a0 a1 u0_0 u0_1 u0_5 u0_6 u0_7 u0_10 u0_11 x0_length x0_at_1 x0_at_1 0 x0_error x0_errorAt y1_text) H) (hD : va_D A (w_X5_takeNumber g a0 a1 u0_0 u0_1 u0_5 u0_6 u0_7 u0_10 u0_11 x0_length x0_at_1 x0_at_1 0 x0_error x0_errorAt y1_text)) hS => ?_)
  refine lv_iconst (pc := 18) hexec hb dX5_takeNumber_18 ki_0 ?_
  refine lv_istore_n (pc := 19) hexec hb dX5_takeNumber_19 rfl hl (nle rfl) rfl (fun ls (hl : lv_has ls 4 [(3, .int 0), (0, .ref a0), (1, .int p1), (2, .int p2)]) => ?_)
  obtain ⟨l20, el20, hf⟩ := bvf3 hf
  obtain ⟨x0_at_3, x0_number_2, hz, hf⟩ := bd2_e hf
  have hE20 : ∀ (H : Heap) (locs : List Loc) (ls : Array Slot), va_P g.1 vwCl (w_X5_takeNumber g a0 a1 u0_0 u0_1 u0_5 u0_6 u0_7 u0_10 u0_11 x0_length x0_at_3 x0_at_1 x0_number_2 x0_error x0_errorAt y1_text) H → va_D A (w_X5_takeNumber g a0 a1 u0_0 u0_1 u0_5 u0_6 u0_7 u0_10 u0_11 x0_length x0_at_3 x0_at_1 x0_number_2 x0_error x0_errorAt y1_text) → va_S A s.heap H locs → lv_has ls 4 [(0, .ref a0), (1, .int p1), (2, .int p2)] → W p l e (RM 3 66) s m args below meth c H locs 0 0 Q (F0 m 87 ls []) := by
    intro H locs ls hP hD hS hl
    refine lv_aload_n (pc := 87) hexec hb dX5_takeNumber_87 rfl (lv_at hl 0 rfl) ?_
    refine kg_get (pc := 88) hexec hb (own := RX5) hWX5 hown hG hP 0 rfl rfl 4 (nle rfl) (hts _ (List.mem_cons_of_mem _ (List.mem_append_left _ (List.mem_append_left _ (List.mem_of_getElem? (i := 0) rfl))))) rfl rfl dX5_takeNumber_88 ?_
    refine lv_aload_n (pc := 91) hexec hb dX5_takeNumber_91 rfl (lv_at hl 0 rfl) ?_
    refine kg_get (pc := 92) hexec hb (own := RX5) hWX5 hown hG hP 0 rfl rfl 8 (nle rfl) (hts _ (List.mem_cons_of_mem _ (List.mem_append_left _ (List.mem_append_left _ (List.mem_of_getElem? (i := 1) rfl))))) rfl rfl dX5_takeNumber_92 ?_
    refine ki_ne (pc := 95) hexec hb dX5_takeNumber_95 (tgt := 108) rfl hf (fun hc hf => ?_) (fun hc hf => ?_)
    · refine lv_aload_n (pc := 108) hexec hb dX5_takeNumber_108 rfl (lv_at hl 0 rfl) ?_
      refine kg_get (pc := 109) hexec hb (own := RX5) hWX5 hown hG hP 0 rfl rfl 9 (nle rfl) (hts _ (List.mem_cons_of_mem _ (List.mem_append_left _ (List.mem_append_left _ (List.mem_of_getElem? (i := 2) rfl))))) rfl rfl dX5_takeNumber_109 ?_
      refine lv_iload_n (pc := 112) hexec hb dX5_takeNumber_112 rfl (lv_at hl 1 rfl) ?_
      obtain ⟨j136, ej136, hf⟩ := bvf2 hf
      have hj136 : ∀ (x0_error_1 : Int32) (x0_errorAt_1 : Int32) (H : Heap) (locs : List Loc) (ls : Array Slot), j136 x0_error_1 x0_errorAt_1 = some (r, o_x0_at, o_x0_numberStart, o_x0_number, o_x0_error, o_x0_errorAt) → va_P g.1 vwCl (w_X5_takeNumber g a0 a1 u0_0 u0_1 u0_5 u0_6 u0_7 u0_10 u0_11 x0_length x0_at_3 x0_at_1 x0_number_2 x0_error_1 x0_errorAt_1 y1_text) H → va_D A (w_X5_takeNumber g a0 a1 u0_0 u0_1 u0_5 u0_6 u0_7 u0_10 u0_11 x0_length x0_at_3 x0_at_1 x0_number_2 x0_error_1 x0_errorAt_1 y1_text) → va_S A s.heap H locs → lv_has ls 4 [] → W p l e (RM 3 66) s m args below meth c H locs 0 0 Q (F0 m 136 ls []) := by
        intro x0_error_1 x0_errorAt_1 H locs ls hf hP hD hS hl
        have hf := (ej136 x0_error_1 x0_errorAt_1).symm.trans hf
        refine lv_iconst (pc := 136) hexec hb dX5_takeNumber_136 ki_1 ?_
        refine lv_goto (pc := 137) hexec hb dX5_takeNumber_137 (tgt := 141) rfl ?_
        cases hf
        exact ke_z hQ hexec hb hr (.inr rfl) hP hD hS dX5_takeNumber_141 hlocks
      obtain ⟨j124, ej124, hf⟩ := bvf1 hf
      have hj124 : ∀ (u : Unit) (H : Heap) (locs : List Loc) (ls : Array Slot), j124 u = some (r, o_x0_at, o_x0_numberStart, o_x0_number, o_x0_error, o_x0_errorAt) → va_P g.1 vwCl (w_X5_takeNumber g a0 a1 u0_0 u0_1 u0_5 u0_6 u0_7 u0_10 u0_11 x0_length x0_at_3 x0_at_1 x0_number_2 x0_error x0_errorAt y1_text) H → va_D A (w_X5_takeNumber g a0 a1 u0_0 u0_1 u0_5 u0_6 u0_7 u0_10 u0_11 x0_length x0_at_3 x0_at_1 x0_number_2 x0_error x0_errorAt y1_text) → va_S A s.heap H locs → lv_has ls 4 [(0, .ref a0)] → W p l e (RM 3 66) s m args below meth c H locs 0 0 Q (F0 m 124 ls []) := by
        intro u H locs ls hf hP hD hS hl
        have hf := (ej124 u).symm.trans hf
        refine lv_aload_n (pc := 124) hexec hb dX5_takeNumber_124 rfl (lv_at hl 0 rfl) ?_
        refine lv_iconst (pc := 125) hexec hb dX5_takeNumber_125 ki_2 ?_
        refine lv_aload_n (pc := 126) hexec hb dX5_takeNumber_126 rfl (lv_at hl 0 rfl) ?_
        refine kg_get (pc := 127) hexec hb (own := RX5) hWX5 hown hG hP 0 rfl rfl 8 (nle rfl) (hts _ (List.mem_cons_of_mem _ (List.mem_append_left _ (List.mem_append_left _ (List.mem_of_getElem? (i := 1) rfl))))) rfl rfl dX5_takeNumber_127 ?_
        obtain ⟨r130, x0_error_2, x0_errorAt_2, hc, hf⟩ := bd3_e hf
        refine kVp (pc := 130) (S := ⟨hexec, hb, hml, hown, hts⟩) hP hD hG hA hS [0] [1] [1, 0] (w2 := (w_X5_takeNumber g a0 a1 u0_0 u0_1 u0_5 u0_6 u0_7 u0_10 u0_11 x0_length x0_at_3 x0_at_1 x0_number_2 x0_error_2 x0_errorAt_2 y1_text)) rfl rfl rfl rfl rfl rfl (by decide) (c_X5_fail l g a0 _ u0_0 u0_1 (.ref a1) (.int x0_length) (.int x0_at_3) u0_5 u0_6 u0_7 (.int x0_at_1) (.int x0_number_2) u0_10 u0_11 x0_error x0_errorAt 2 x0_at_1 r130 x0_error_2 x0_errorAt_2 hc) gX5_takeNumber_X5_fail rfl hv_X5_fail ⟨nle rfl, nle rfl⟩ 5 0 rfl rfl rfl (rest := []) rfl rfl hl.1 (nle rfl) dX5_takeNumber_130 (fun H locs hP hD hS => ?_)
        refine kb_eq (pc := 133) hexec hb dX5_takeNumber_133 (tgt := 140) rfl hf (fun hc hf => ?_) (fun hc hf => ?_)
        · refine lv_iconst (pc := 140) hexec hb dX5_takeNumber_140 ki_0 ?_
          cases hf
          exact ke_z hQ hexec hb hr (.inl rfl) hP hD hS dX5_takeNumber_141 hlocks
        · exact hj136 _ _ _ _ _ hf hP hD hS (lv_sub hl [] rfl)
      refine ki_lt (pc := 113) hexec hb dX5_takeNumber_113 (tgt := 124) rfl hf (fun hc hf => ?_) (fun hc hf => ?_)
      · exact hj124 _ _ _ _ hf hP hD hS (lv_sub hl [0] rfl)
      · refine lv_aload_n (pc := 116) hexec hb dX5_takeNumber_116 rfl (lv_at hl 0 rfl) ?_
        refine kg_get (pc := 117) hexec hb (own := RX5) hWX5 hown hG hP 0 rfl rfl 9 (nle rfl) (hts _ (List.mem_cons_of_mem _ (List.mem_append_left _ (List.mem_append_left _ (List.mem_of_getElem? (i := 2) rfl))))) rfl rfl dX5_takeNumber_117 ?_
        refine lv_iload_n (pc := 120) hexec hb dX5_takeNumber_120 rfl (lv_at hl 2 rfl) ?_
        refine ki_le (pc := 121) hexec hb dX5_takeNumber_121 (tgt := 136) rfl hf (fun hc hf => ?_) (fun hc hf => ?_)
        · exact hj136 _ _ _ _ _ hf hP hD hS (lv_sub hl [] rfl)
        · exact hj124 _ _ _ _ hf hP hD hS (lv_sub hl [0] rfl)
    · refine lv_aload_n (pc := 98) hexec hb dX5_takeNumber_98 rfl (lv_at hl 0 rfl) ?_
      refine lv_iconst (pc := 99) hexec hb dX5_takeNumber_99 ki_1 ?_
      refine lv_aload_n (pc := 100) hexec hb dX5_takeNumber_100 rfl (lv_at hl 0 rfl) ?_
      refine kg_get (pc := 101) hexec hb (own := RX5) hWX5 hown hG hP 0 rfl rfl 4 (nle rfl) (hts _ (List.mem_cons_of_mem _ (List.mem_append_left _ (List.mem_append_left _ (List.mem_of_getElem? (i := 0) rfl))))) rfl rfl dX5_takeNumber_101 ?_
      obtain ⟨r104, x0_error_3, x0_errorAt_3, hc, hf⟩ := bd3_e hf
      refine kVp (pc := 104) (S := ⟨hexec, hb, hml, hown, hts⟩) hP hD hG hA hS [0] [1] [1, 0] (w2 := (w_X5_takeNumber g a0 a1 u0_0 u0_1 u0_5 u0_6 u0_7 u0_10 u0_11 x0_length x0_at_3 x0_at_1 x0_number_2 x0_error_3 x0_errorAt_3 y1_text)) rfl rfl rfl rfl rfl rfl (by decide) (c_X5_fail l g a0 _ u0_0 u0_1 (.ref a1) (.int x0_length) (.int x0_at_3) u0_5 u0_6 u0_7 (.int x0_at_1) (.int x0_number_2) u0_10 u0_11 x0_error x0_errorAt 1 x0_at_3 r104 x0_error_3 x0_errorAt_3 hc) gX5_takeNumber_X5_fail rfl hv_X5_fail ⟨nle rfl, nle rfl⟩ 5 0 rfl rfl rfl (rest := []) rfl rfl hl.1 (nle rfl) dX5_takeNumber_104 (fun H locs hP hD hS => ?_)
      obtain ⟨hx, hf⟩ := zb_e hf
      cases hf
      exact ke_z hQ hexec hb hr hx hP hD hS dX5_takeNumber_107 hlocks
  obtain ⟨n, hz⟩ := lq3_e hz
  have hL20 : ∀ (n : Nat) (v3 : Int32) (x0_at_2 : Int32) (x0_number_1 : Int32) (H : Heap) (locs : List Loc) (ls : Array Slot), it3 l20 n v3 x0_at_2 x0_number_1 = some (x0_at_3, x0_number_2) → va_P g.1 vwCl (w_X5_takeNumber g a0 a1 u0_0 u0_1 u0_5 u0_6 u0_7 u0_10 u0_11 x0_length x0_at_2 x0_at_1 x0_number_1 x0_error x0_errorAt y1_text) H → va_D A (w_X5_takeNumber g a0 a1 u0_0 u0_1 u0_5 u0_6 u0_7 u0_10 u0_11 x0_length x0_at_2 x0_at_1 x0_number_1 x0_error x0_errorAt y1_text) → va_S A s.heap H locs → lv_has ls 4 [(0, .ref a0), (1, .int p1), (2, .int p2), (3, .int v3)] → W p l e (RM 3 66) s m args below meth c H locs 0 0 Q (F0 m 20 ls []) := by
    intro n
    induction n with
    | zero =>
      intro v3 x0_at_2 x0_number_1 H locs ls hf hP hD hS hl
      exact it3_0 hf
    | succ n20 ih20 =>
      intro v3 x0_at_2 x0_number_1 H locs ls hf hP hD hS hl
      obtain ⟨q20, hf, hk20⟩ := it3_e hf
      have hf := (el20 v3 x0_at_2 x0_number_1).symm.trans hf
      refine lv_iload_n (pc := 20) hexec hb dX5_takeNumber_20 rfl (lv_at hl 3 rfl) ?_
      refine lv_aload_n (pc := 21) hexec hb dX5_takeNumber_21 rfl (lv_at hl 0 rfl) ?_
      refine kg_get (pc := 22) hexec hb (own := RX5) hWX5 hown hG hP 0 rfl rfl 3 (nle rfl) (hts _ (List.mem_cons_of_mem _ (List.mem_append_left _ (List.mem_append_left _ (List.mem_of_getElem? (i := 3) rfl))))) rfl rfl dX5_takeNumber_22 ?_
      refine ki_ge (pc := 25) hexec hb dX5_takeNumber_25 (tgt := 87) rfl hf (fun hc hf => ?_) (fun hc hf => ?_)
      · cases sr3 hf hk20
        exact hE20 _ _ _ hP hD hS (lv_sub hl [0, 1, 2] rfl)
      · refine lv_aload_n (pc := 28) hexec hb dX5_takeNumber_28 rfl (lv_at hl 0 rfl) ?_
        refine lv_aload_n (pc := 29) hexec hb dX5_takeNumber_29 rfl (lv_at hl 0 rfl) ?_
        refine kg_get (pc := 30) hexec hb (own := RX5) hWX5 hown hG hP 0 rfl rfl 4 (nle rfl) (hts _ (List.mem_cons_of_mem _ (List.mem_append_left _ (List.mem_append_left _ (List.mem_of_getElem? (i := 0) rfl))))) rfl rfl dX5_takeNumber_30 ?_
        obtain ⟨r33, hc, hf⟩ := bd1_e hf
        refine kVp (pc := 33) (S := ⟨hexec, hb, hml, hown, hts⟩) hP hD hG hA hS [0, 1] [] [0, 1] (w2 := (w_X5_takeNumber g a0 a1 u0_0 u0_1 u0_5 u0_6 u0_7 u0_10 u0_11 x0_length x0_at_2 x0_at_1 x0_number_1 x0_error x0_errorAt y1_text)) rfl rfl rfl rfl rfl rfl (by decide) (c_X5_signAt l g a0 a1 _ u0_0 u0_1 (.int x0_at_2) u0_5 u0_6 u0_7 (.int x0_at_1) (.int x0_number_1) u0_10 u0_11 (.int x0_error) (.int x0_errorAt) x0_length y1_text x0_at_2 r33 hc) gX5_takeNumber_X5_signAt rfl hv_X5_signAt ⟨nle rfl, nle rfl⟩ 5 0 rfl rfl rfl (rest := []) rfl rfl hl.1 (nle rfl) dX5_takeNumber_33 (fun H locs hP hD hS => ?_)
        obtain ⟨r36, hc, hf⟩ := bd1_e hf
        refine kSp (pc := 36) (S := ⟨hexec, hb, hml, hown, hts⟩) hP hD hG hA hS [] [0, 1] [0, 1] (w2 := (w_X5_takeNumber g a0 a1 u0_0 u0_1 u0_5 u0_6 u0_7 u0_10 u0_11 x0_length x0_at_2 x0_at_1 x0_number_1 x0_error x0_errorAt y1_text)) rfl rfl rfl rfl rfl rfl (by decide) (c_X5_isDigit l g _ r33 r36 hc) gX5_takeNumber_X5_isDigit rfl hs_X5_isDigit ⟨nle rfl, nle rfl⟩ (rest := []) rfl rfl hl.1 (nle rfl) dX5_takeNumber_36 (fun H locs hP hD hS => ?_)
        refine kb_eq (pc := 39) hexec hb dX5_takeNumber_39 (tgt := 87) rfl hf (fun hc hf => ?_) (fun hc hf => ?_)
        · cases sr3 hf hk20
          exact hE20 _ _ _ hP hD hS (lv_sub hl [0, 1, 2] rfl)
        · refine lv_aload_n (pc := 42) hexec hb dX5_takeNumber_42 rfl (lv_at hl 0 rfl) ?_
          refine lv_aload_n (pc := 43) hexec hb dX5_takeNumber_43 rfl (lv_at hl 0 rfl) ?_
          refine kg_get (pc := 44) hexec hb (own := RX5) hWX5 hown hG hP 0 rfl rfl 9 (nle rfl) (hts _ (List.mem_cons_of_mem _ (List.mem_append_left _ (List.mem_append_left _ (List.mem_of_getElem? (i := 2) rfl))))) rfl rfl dX5_takeNumber_44 ?_
          refine lv_bipush (pc := 47) hexec hb dX5_takeNumber_47 kb_10 ?_
          refine lv_imul (pc := 49) hexec hb dX5_takeNumber_49 ?_
          refine lv_aload_n (pc := 50) hexec hb dX5_takeNumber_50 rfl (lv_at hl 0 rfl) ?_
          refine lv_aload_n (pc := 51) hexec hb dX5_takeNumber_51 rfl (lv_at hl 0 rfl) ?_
          refine kg_get (pc := 52) hexec hb (own := RX5) hWX5 hown hG hP 0 rfl rfl 4 (nle rfl) (hts _ (List.mem_cons_of_mem _ (List.mem_append_left _ (List.mem_append_left _ (List.mem_of_getElem? (i := 0) rfl))))) rfl rfl dX5_takeNumber_52 ?_
          obtain ⟨r55, hc, hf⟩ := bd1_e hf
          refine kVp (pc := 55) (S := ⟨hexec, hb, hml, hown, hts⟩) hP hD hG hA hS [0, 1] [] [0, 1] (w2 := (w_X5_takeNumber g a0 a1 u0_0 u0_1 u0_5 u0_6 u0_7 u0_10 u0_11 x0_length x0_at_2 x0_at_1 x0_number_1 x0_error x0_errorAt y1_text)) rfl rfl rfl rfl rfl rfl (by decide) (c_X5_signAt l g a0 a1 _ u0_0 u0_1 (.int x0_at_2) u0_5 u0_6 u0_7 (.int x0_at_1) (.int x0_number_1) u0_10 u0_11 (.int x0_error) (.int x0_errorAt) x0_length y1_text x0_at_2 r55 hc) gX5_takeNumber_X5_signAt rfl hv_X5_signAt ⟨nle rfl, nle rfl⟩ 5 0 rfl rfl rfl (rest := [.int (x0_number_1 * 10), .ref a0]) rfl rfl hl.1 (nle rfl) dX5_takeNumber_55 (fun H locs hP hD hS => ?_)
          refine lv_iadd (pc := 58) hexec hb dX5_takeNumber_58 ?_
          refine lv_bipush (pc := 59) hexec hb dX5_takeNumber_59 kb_48 ?_
          refine lv_isub (pc := 61) hexec hb dX5_takeNumber_61 ?_
          refine lv_sipush (pc := 62) hexec hb dX5_takeNumber_62 ks_1000 ?_
          refine va_mmin (pc := 65) hexec hb (hml.trans hl.1.symm) (own := RX5) hown (hts _ (List.mem_cons_of_mem _ (List.mem_append_left _ (List.mem_append_left _ (List.mem_of_getElem? (i := 4) rfl))))) (hts _ (List.mem_cons_of_mem _ (List.mem_append_left _ (List.mem_append_left _ (List.mem_of_getElem? (i := 5) rfl))))) (hts _ (List.mem_cons_of_mem _ (List.mem_append_left _ (List.mem_append_left _ (List.mem_of_getElem? (i := 6) rfl))))) (hts _ (List.mem_cons_of_mem _ (List.mem_append_left _ (List.mem_append_left _ (List.mem_of_getElem? (i := 7) rfl))))) (nle rfl) (nle rfl) (nle rfl) (nle rfl) dX5_takeNumber_65 ?_
          obtain ⟨x0_number_3, ex0_number_3, hf⟩ := bv_e hf
          refine kn_i ex0_number_3 ?_
          refine kp_put (pc := 68) hexec hb (own := RX5) hWX5 tyX5 tyX5_ok nmX5 hown hG hP hD hS 0 rfl rfl 9 (nle rfl) (hts _ (List.mem_cons_of_mem _ (List.mem_append_left _ (List.mem_append_left _ (List.mem_of_getElem? (i := 2) rfl))))) rfl rfl rfl rfl (nle rfl) dX5_takeNumber_68 (fun H locs (hP : va_P g.1 vwCl (w_X5_takeNumber g a0 a1 u0_0 u0_1 u0_5 u0_6 u0_7 u0_10 u0_11 x0_length x0_at_2 x0_at_1 x0_number_3 x0_error x0_errorAt y1_text) H) (hD : va_D A (w_X5_takeNumber g a0 a1 u0_0 u0_1 u0_5 u0_6 u0_7 u0_10 u0_11 x0_length x0_at_2 x0_at_1 x0_number_3 x0_error x0_errorAt y1_text)) hS => ?_)
          refine lv_aload_n (pc := 71) hexec hb dX5_takeNumber_71 rfl (lv_at hl 0 rfl) ?_
          refine lv_dup (pc := 72) hexec hb dX5_takeNumber_72 rfl ?_
          refine kg_get (pc := 73) hexec hb (own := RX5) hWX5 hown hG hP 0 rfl rfl 4 (nle rfl) (hts _ (List.mem_cons_of_mem _ (List.mem_append_left _ (List.mem_append_left _ (List.mem_of_getElem? (i := 0) rfl))))) rfl rfl dX5_takeNumber_73 ?_
          refine lv_iconst (pc := 76) hexec hb dX5_takeNumber_76 ki_1 ?_
          refine lv_iadd (pc := 77) hexec hb dX5_takeNumber_77 ?_
          obtain ⟨x0_at_4, ex0_at_4, hf⟩ := bv_e hf
          refine kn_i ex0_at_4 ?_
          refine kp_put (pc := 78) hexec hb (own := RX5) hWX5 tyX5 tyX5_ok nmX5 hown hG hP hD hS 0 rfl rfl 4 (nle rfl) (hts _ (List.mem_cons_of_mem _ (List.mem_append_left _ (List.mem_append_left _ (List.mem_of_getElem? (i := 0) rfl))))) rfl rfl rfl rfl (nle rfl) dX5_takeNumber_78 (fun H locs (hP : va_P g.1 vwCl (w_X5_takeNumber g a0 a1 u0_0 u0_1 u0_5 u0_6 u0_7 u0_10 u0_11 x0_length x0_at_4 x0_at_1 x0_number_3 x0_error x0_errorAt y1_text) H) (hD : va_D A (w_X5_takeNumber g a0 a1 u0_0 u0_1 u0_5 u0_6 u0_7 u0_10 u0_11 x0_length x0_at_4 x0_at_1 x0_number_3 x0_error x0_errorAt y1_text)) hS => ?_)
          obtain ⟨v3_1, ev3_1, hf⟩ := bv_e hf
          refine k_iinc (pc := 81) hexec hb dX5_takeNumber_81 kq_1 hl (k := 3) rfl ev3_1 (nle rfl) rfl (fun ls (hl : lv_has ls 4 [(3, .int v3_1), (0, .ref a0), (1, .int p1), (2, .int p2)]) => ?_)
          refine lv_goto (pc := 84) hexec hb dX5_takeNumber_84 (tgt := 20) rfl ?_
          exact ih20 _ _ _ _ _ _ (sl3 hf hk20) hP hD hS (lv_sub hl [1, 2, 3, 0] rfl)
  exact hL20 n _ _ _ _ _ _ hz hP hD hS (lv_sub hl [1, 2, 3, 0] rfl)
abbrev w_X5_readChart (g : GE) (a0 a1 a2 a3 a4 a5 a6 a7 a8 a9 a10 : Nat) (u0_1 u0_5 u0_10 u0_11 u4_2 u4_3 u4_4 u4_5 u5_4 : Value) (x0_length : Int32) (x0_at : Int32) (x0_wordStart : Int32) (x0_wordLength : Int32) (x0_numberStart : Int32) (x0_number : Int32) (x0_error : Int32) (x0_errorAt : Int32) (y2_text : Nat → Int32) (x3_rows : Int32) (x3_columns : Int32) (x3_rivers : Int32) (x4_count : Int32) (x4_reds : Int32) (x5_count : Int32) (x5_next : Int32) (x5_turn : Int32) (x5_quarters : Int32) (y6_letterOn : Nat → Int32) (y7_namesOn : Nat → Int32) (y8_land : Nat → Int32) (y9_riverOf : Nat → Int32) (y10_riverPlace : Nat → Int32) : va_W := [(a0, .inr (5, [.ref a1, u0_1, .ref a2, .int x0_length, .int x0_at, u0_5, .int x0_wordStart, .int x0_wordLength, .int x0_numberStart, .int x0_number, u0_10, u0_11, .int x0_error, .int x0_errorAt])), (a1, .inr (6, [.ref a3, .ref a4, .ref a5, .ref a7, .ref a6])), (a2, .inl (g.2.1 0, 500, .inl y2_text)), (a3, .inr (1, [.int x3_rows, .int x3_columns, .int x3_rivers, .ref a8, .ref a9, .ref a10])), (a4, .inr (2, [.int x4_count, .int x4_reds, u4_2, u4_3, u4_4, u4_5])), (a5, .inr (4, [.int x5_count, .int x5_next, .int x5_turn, .int x5_quarters, u5_4])), (a6, .inl (g.2.1 0, 144, .inl y6_letterOn)), (a7, .inl (g.2.1 0, 144, .inl y7_namesOn)), (a8, .inl (g.2.1 1, 144, .inl y8_land)), (a9, .inl (g.2.1 0, 144, .inl y9_riverOf)), (a10, .inl (g.2.1 0, 144, .inl y10_riverPlace))]
set_option maxRecDepth 20000 in
theorem c_X5_readChart (l : Launch) (g : GE) (a0 a1 a2 a3 a4 a5 a6 a7 a8 a9 a10 : Nat) (sz : Nat) (u0_1 u0_5 u0_10 u0_11 u4_2 u4_3 u4_4 u4_5 u5_4 : Value) (x0_length : Int32) (x0_at : Int32) (x0_wordStart : Int32) (x0_wordLength : Int32) (x0_numberStart : Int32) (x0_number : Int32) (x0_error : Int32) (x0_errorAt : Int32) (y2_text : Nat → Int32) (x3_rows : Int32) (x3_columns : Int32) (x3_rivers : Int32) (x4_count : Int32) (x4_reds : Int32) (x5_count : Int32) (x5_next : Int32) (x5_turn : Int32) (x5_quarters : Int32) (y6_letterOn : Nat → Int32) (y7_namesOn : Nat → Int32) (y8_land : Nat → Int32) (y9_riverOf : Nat → Int32) (y10_riverPlace : Nat → Int32)   (r : Int32) (o_x0_at : Int32) (o_x0_wordStart : Int32) (o_x0_wordLength : Int32) (o_x0_numberStart : Int32) (o_x0_number : Int32) (o_x0_error : Int32) (o_x0_errorAt : Int32) (o_x3_rows : Int32) (o_x3_columns : Int32) (o_x3_rivers : Int32) (o_x4_count : Int32) (o_x4_reds : Int32) (o_x5_count : Int32) (o_x5_next : Int32) (o_x5_turn : Int32) (o_x5_quarters : Int32) (o_y6_letterOn : Nat → Int32) (o_y7_namesOn : Nat → Int32) (o_y8_land : Nat → Int32) (o_y9_riverOf : Nat → Int32) (o_y10_riverPlace : Nat → Int32) (hf : f_X5_readChart x0_length x0_at x0_wordStart x0_wordLength x0_numberStart x0_number x0_error x0_errorAt y2_text x3_rows x3_columns x3_rivers x4_count x4_reds x5_count x5_next x5_turn x5_quarters y6_letterOn y7_namesOn y8_land y9_riverOf y10_riverPlace = some (r, o_x0_at, o_x0_wordStart, o_x0_wordLength, o_x0_numberStart, o_x0_number, o_x0_error, o_x0_errorAt, o_x3_rows, o_x3_columns, o_x3_rivers, o_x4_count, o_x4_reds, o_x5_count, o_x5_next, o_x5_turn, o_x5_quarters, o_y6_letterOn, o_y7_namesOn, o_y8_land, o_y9_riverOf, o_y10_riverPlace)) : MI l g yX5_readChart wsX5_readChart 6 133 [.ref a0] (w_X5_readChart g a0 a1 a2 a3 a4 a5 a6 a7 a8 a9 a10 u0_1 u0_5 u0_10 u0_11 u4_2 u4_3 u4_4 u4_5 u5_4 x0_length x0_at x0_wordStart x0_wordLength x0_numberStart x0_number x0_error x0_errorAt y2_text x3_rows x3_columns x3_rivers x4_count x4_reds x5_count x5_next x5_turn x5_quarters y6_letterOn y7_namesOn y8_land y9_riverOf y10_riverPlace) sz (some (.int r)) (w_X5_readChart g a0 a1 a2 a3 a4 a5 a6 a7 a8 a9 a10 u0_1 u0_5 u0_10 u0_11 u4_2 u4_3 u4_4 u4_5 u5_4 x0_length o_x0_at o_x0_wordStart o_x0_wordLength o_x0_numberStart o_x0_number o_x0_error o_x0_errorAt y2_text o_x3_rows o_x3_columns o_x3_rivers o_x4_count o_x4_reds o_x5_count o_x5_next o_x5_turn o_x5_quarters o_y6_letterOn o_y7_namesOn o_y8_land o_y9_riverOf o_y10_riverPlace) := by
  refine MI.start (cc := cX5_readChart) (maxL := 2) (ret := (some .boolean)) rfl rfl (nle rfl) ?_
  intro p e s m args below meth c A ls Q hQ hexec hb hr hts hown hlocks hml hA hP hD hG hS hl
  unfold f_X5_readChart at hf
  have hWX1 : ∀ w ∈ wsX10, w.before args s = true := fun w h => hts w (List.mem_cons_of_mem _ (List.mem_append_left _ (List.mem_append_left _ (List.mem_append_right _ h))))
  have hWX2 : ∀ w ∈ wsX20, w.before args s = true := fun w h => hts w (List.mem_cons_of_mem _ (List.mem_append_left _ (List.mem_append_right _ h)))
  have hWX4 : ∀ w ∈ wsX40, w.before args s = true := fun w h => hts w (List.mem_cons_of_mem _ (List.mem_append_right _ h))
  have hWX5 : ∀ w ∈ wsX50, w.before args s = true := fun w h => hts w (List.mem_cons_of_mem _ (List.mem_append_left _ (List.mem_append_left _ (List.mem_append_left _ (List.mem_append_left _ (List.mem_append_right _ h))))))
  have hWX6 : ∀ w ∈ wsX60, w.before args s = true := fun w h => hts w (List.mem_cons_of_mem _ (List.mem_append_left _ (List.mem_append_left _ (List.mem_append_left _ (List.mem_append_right _ h)))))
  have hS : va_S A s.heap s.heap [] := hS
  refine lv_aload_n (pc := 0) hexec hb dX5_readChart_0 rfl (lv_at hl 0 rfl) ?_
  obtain ⟨r1, x0_at_1, x0_wordStart_1, x0_wordLength_1, x0_error_1, x0_errorAt_1, hc, hf⟩ := bd6_e hf
  refine kVp (pc := 1) (S := ⟨hexec, hb, hml, hown, hts⟩) hP hD hG hA hS [0, 2] [1, 3, 4, 5, 6, 7, 8, 9, 10] [9, 0, 10, 1, 2, 3, 4, 5, 6, 7, 8] (w2 := (w_X5_readChart g a0 a1 a2 a3 a4 a5 a6 a7 a8 a9 a10 u0_1 u0_5 u0_10 u0_11 u4_2 u4_3 u4_4 u4_5 u5_4 x0_length x0_at_1 x0_wordStart_1 x0_wordLength_1 x0_numberStart x0_number x0_error_1 x0_errorAt_1 y2_text x3_rows x3_columns x3_rivers x4_count x4_reds x5_count x5_next x5_turn x5_quarters y6_letterOn y7_namesOn y8_land y9_riverOf y10_riverPlace)) rfl rfl rfl rfl rfl rfl (by decide) (c_X5_takeWord l g a0 a2 _ (.ref a1) u0_1 u0_5 (.int x0_numberStart) (.int x0_number) u0_10 u0_11 x0_length x0_at x0_wordStart x0_wordLength x0_error x0_errorAt y2_text r1 x0_at_1 x0_wordStart_1 x0_wordLength_1 x0_error_1 x0_errorAt_1 hc) gX5_readChart_X5_takeWord rfl hv_X5_takeWord ⟨nle rfl, nle rfl⟩ 5 0 rfl rfl rfl (rest := []) rfl rfl hl.1 (nle rfl) dX5_readChart_1 (fun H locs hP hD hS => ?_)
  refine kb_ne (pc := 4) hexec hb dX5_readChart_4 (tgt := 9) rfl hf (fun hc hf => ?_) (fun hc hf => ?_)
  · refine lv_aload_n (pc := 9) hexec hb dX5_readChart_9 rfl (lv_at hl 0 rfl) ?_
    refine k_lds (pc := 10) hexec hb (own := RX5) hown hG 0 rfl dX5_readChart_10 ?_
    obtain ⟨r12, hc, hf⟩ := bd1_e hf
    refine kVp (pc := 12) (S := ⟨hexec, hb, hml, hown, hts⟩) hP hD hG hA hS [0, 2] [1, 3, 4, 5, 6, 7, 8, 9, 10] [9, 0, 10, 1, 2, 3, 4, 5, 6, 7, 8] (w2 := (w_X5_readChart g a0 a1 a2 a3 a4 a5 a6 a7 a8 a9 a10 u0_1 u0_5 u0_10 u0_11 u4_2 u4_3 u4_4 u4_5 u5_4 x0_length x0_at_1 x0_wordStart_1 x0_wordLength_1 x0_numberStart x0_number x0_error_1 x0_errorAt_1 y2_text x3_rows x3_columns x3_rivers x4_count x4_reds x5_count x5_next x5_turn x5_quarters y6_letterOn y7_namesOn y8_land y9_riverOf y10_riverPlace)) rfl rfl rfl rfl rfl rfl (by decide) (c_X5_wordIs l g a0 a2 _ (.ref a1) u0_1 (.int x0_at_1) u0_5 (.int x0_numberStart) (.int x0_number) u0_10 u0_11 (.int x0_error_1) (.int x0_errorAt_1) x0_length x0_wordStart_1 x0_wordLength_1 y2_text 0 (nle rfl) r12 hc) gX5_readChart_X5_wordIs rfl hv_X5_wordIs ⟨nle rfl, nle rfl⟩ 5 0 rfl rfl rfl (rest := []) rfl rfl hl.1 (nle rfl) dX5_readChart_12 (fun H locs hP hD hS => ?_)
    refine kb_ne (pc := 15) hexec hb dX5_readChart_15 (tgt := 28) rfl hf (fun hc hf => ?_) (fun hc hf => ?_)
    · refine lv_aload_n (pc := 28) hexec hb dX5_readChart_28 rfl (lv_at hl 0 rfl) ?_
      refine lv_iconst (pc := 29) hexec hb dX5_readChart_29 ki_3 ?_
      refine lv_bipush (pc := 30) hexec hb dX5_readChart_30 kb_12 ?_
      obtain ⟨r32, x0_at_2, x0_numberStart_1, x0_number_1, x0_error_2, x0_errorAt_2, hc, hf⟩ := bd6_e hf
      refine kVp (pc := 32) (S := ⟨hexec, hb, hml, hown, hts⟩) hP hD hG hA hS [0, 2] [1, 3, 4, 5, 6, 7, 8, 9, 10] [9, 0, 10, 1, 2, 3, 4, 5, 6, 7, 8] (w2 := (w_X5_readChart g a0 a1 a2 a3 a4 a5 a6 a7 a8 a9 a10 u0_1 u0_5 u0_10 u0_11 u4_2 u4_3 u4_4 u4_5 u5_4 x0_length x0_at_2 x0_wordStart_1 x0_wordLength_1 x0_numberStart_1 x0_number_1 x0_error_2 x0_errorAt_2 y2_text x3_rows x3_columns x3_rivers x4_count x4_reds x5_count x5_next x5_turn x5_quarters y6_letterOn y7_namesOn y8_land y9_riverOf y10_riverPlace)) rfl rfl rfl rfl rfl rfl (by decide) (c_X5_takeNumber l g a0 a2 _ (.ref a1) u0_1 u0_5 (.int x0_wordStart_1) (.int x0_wordLength_1) u0_10 u0_11 x0_length x0_at_1 x0_numberStart x0_number x0_error_1 x0_errorAt_1 y2_text 3 12 r32 x0_at_2 x0_numberStart_1 x0_number_1 x0_error_2 x0_errorAt_2 hc) gX5_readChart_X5_takeNumber rfl hv_X5_takeNumber ⟨nle rfl, nle rfl⟩ 5 0 rfl rfl rfl (rest := []) rfl rfl hl.1 (nle rfl) dX5_readChart_32 (fun H locs hP hD hS => ?_)
      refine kb_ne (pc := 35) hexec hb dX5_readChart_35 (tgt := 40) rfl hf (fun hc hf => ?_) (fun hc hf => ?_)
      · refine lv_aload_n (pc := 40) hexec hb dX5_readChart_40 rfl (lv_at hl 0 rfl) ?_
        refine kg_get (pc := 41) hexec hb (own := RX5) hWX5 hown hG hP 0 rfl rfl 9 (nle rfl) (hts _ (List.mem_cons_of_mem _ (List.mem_append_left _ (List.mem_append_left _ (List.mem_append_left _ (List.mem_append_left _ (List.mem_append_left _ (List.mem_append_left _ (List.mem_of_getElem? (i := 1) rfl))))))))) rfl rfl dX5_readChart_41 ?_
        refine lv_istore_n (pc := 44) hexec hb dX5_readChart_44 rfl hl (nle rfl) rfl (fun ls (hl : lv_has ls 2 [(1, .int x0_number_1), (0, .ref a0)]) => ?_)
        refine lv_aload_n (pc := 45) hexec hb dX5_readChart_45 rfl (lv_at hl 1 rfl) ?_
        refine lv_iconst (pc := 46) hexec hb dX5_readChart_46 ki_3 ?_
        refine lv_bipush (pc := 47) hexec hb dX5_readChart_47 kb_12 ?_
        obtain ⟨r49, x0_at_3, x0_numberStart_2, x0_number_2, x0_error_3, x0_errorAt_3, hc, hf⟩ := bd6_e hf
        refine kVp (pc := 49) (S := ⟨hexec, hb, hml, hown, hts⟩) hP hD hG hA hS [0, 2] [1, 3, 4, 5, 6, 7, 8, 9, 10] [9, 0, 10, 1, 2, 3, 4, 5, 6, 7, 8] (w2 := (w_X5_readChart g a0 a1 a2 a3 a4 a5 a6 a7 a8 a9 a10 u0_1 u0_5 u0_10 u0_11 u4_2 u4_3 u4_4 u4_5 u5_4 x0_length x0_at_3 x0_wordStart_1 x0_wordLength_1 x0_numberStart_2 x0_number_2 x0_error_3 x0_errorAt_3 y2_text x3_rows x3_columns x3_rivers x4_count x4_reds x5_count x5_next x5_turn x5_quarters y6_letterOn y7_namesOn y8_land y9_riverOf y10_riverPlace)) rfl rfl rfl rfl rfl rfl (by decide) (c_X5_takeNumber l g a0 a2 _ (.ref a1) u0_1 u0_5 (.int x0_wordStart_1) (.int x0_wordLength_1) u0_10 u0_11 x0_length x0_at_2 x0_numberStart_1 x0_number_1 x0_error_2 x0_errorAt_2 y2_text 3 12 r49 x0_at_3 x0_numberStart_2 x0_number_2 x0_error_3 x0_errorAt_3 hc) gX5_readChart_X5_takeNumber rfl hv_X5_takeNumber ⟨nle rfl, nle rfl⟩ 5 0 rfl rfl rfl (rest := []) rfl rfl hl.1 (nle rfl) dX5_readChart_49 (fun H locs hP hD hS => ?_)
        refine kb_ne (pc := 52) hexec hb dX5_readChart_52 (tgt := 57) rfl hf (fun hc hf => ?_) (fun hc hf => ?_)
        · refine lv_aload_n (pc := 57) hexec hb dX5_readChart_57 rfl (lv_at hl 1 rfl) ?_
          refine kg_get (pc := 58) hexec hb (own := RX5) hWX5 hown hG hP 0 rfl rfl 0 (nle rfl) (hts _ (List.mem_cons_of_mem _ (List.mem_append_left _ (List.mem_append_left _ (List.mem_append_left _ (List.mem_append_left _ (List.mem_append_left _ (List.mem_append_left _ (List.mem_of_getElem? (i := 2) rfl))))))))) rfl rfl dX5_readChart_58 ?_
          refine lv_iload_n (pc := 61) hexec hb dX5_readChart_61 rfl (lv_at hl 0 rfl) ?_
          refine lv_aload_n (pc := 62) hexec hb dX5_readChart_62 rfl (lv_at hl 1 rfl) ?_
          refine kg_get (pc := 63) hexec hb (own := RX5) hWX5 hown hG hP 0 rfl rfl 9 (nle rfl) (hts _ (List.mem_cons_of_mem _ (List.mem_append_left _ (List.mem_append_left _ (List.mem_append_left _ (List.mem_append_left _ (List.mem_append_left _ (List.mem_append_left _ (List.mem_of_getElem? (i := 1) rfl))))))))) rfl rfl dX5_readChart_63 ?_
          obtain ⟨x3_rows_1, x3_columns_1, x3_rivers_1, x4_count_1, x4_reds_1, x5_count_1, x5_next_1, x5_turn_1, x5_quarters_1, y6_letterOn_1, y7_namesOn_1, y8_land_1, y9_riverOf_1, y10_riverPlace_1, hc, hf⟩ := bd14_e hf
          refine kVp (pc := 66) (S := ⟨hexec, hb, hml, hown, hts⟩) hP hD hG hA hS [1, 3, 4, 5, 6, 7, 8, 9, 10] [0, 2] [0, 2, 1, 3, 4, 5, 6, 7, 8, 9, 10] (w2 := (w_X5_readChart g a0 a1 a2 a3 a4 a5 a6 a7 a8 a9 a10 u0_1 u0_5 u0_10 u0_11 u4_2 u4_3 u4_4 u4_5 u5_4 x0_length x0_at_3 x0_wordStart_1 x0_wordLength_1 x0_numberStart_2 x0_number_2 x0_error_3 x0_errorAt_3 y2_text x3_rows_1 x3_columns_1 x3_rivers_1 x4_count_1 x4_reds_1 x5_count_1 x5_next_1 x5_turn_1 x5_quarters_1 y6_letterOn_1 y7_namesOn_1 y8_land_1 y9_riverOf_1 y10_riverPlace_1)) rfl rfl rfl rfl rfl rfl (by decide) (c_X6_beginSea l g a1 a3 a4 a5 a6 a7 a8 a9 a10 _ u4_2 u4_3 u4_4 u4_5 u5_4 x3_rows x3_columns x3_rivers x4_count x4_reds x5_count x5_next x5_turn x5_quarters y6_letterOn y7_namesOn y8_land y9_riverOf y10_riverPlace x0_number_1 x0_number_2 x3_rows_1 x3_columns_1 x3_rivers_1 x4_count_1 x4_reds_1 x5_count_1 x5_next_1 x5_turn_1 x5_quarters_1 y6_letterOn_1 y7_namesOn_1 y8_land_1 y9_riverOf_1 y10_riverPlace_1 hc) gX5_readChart_X6_beginSea rfl hv_X6_beginSea ⟨nle rfl, nle rfl⟩ 6 0 rfl rfl rfl (rest := []) rfl rfl hl.1 (nle rfl) dX5_readChart_66 (fun H locs hP hD hS => ?_)
          refine lv_iconst (pc := 69) hexec hb dX5_readChart_69 ki_1 ?_
          simp only [Option.some.injEq, Prod.mk.injEq] at hf
          obtain ⟨rfl, rfl, rfl, rfl, rfl, rfl, rfl, rfl, rfl, rfl, rfl, rfl, rfl, rfl, rfl, rfl, rfl, rfl, rfl, rfl, rfl, rfl⟩ := hf
          exact ke_z hQ hexec hb hr (.inr rfl) hP hD hS dX5_readChart_70 hlocks
        · refine lv_iconst (pc := 55) hexec hb dX5_readChart_55 ki_0 ?_
          simp only [Option.some.injEq, Prod.mk.injEq] at hf
          obtain ⟨rfl, rfl, rfl, rfl, rfl, rfl, rfl, rfl, rfl, rfl, rfl, rfl, rfl, rfl, rfl, rfl, rfl, rfl, rfl, rfl, rfl, rfl⟩ := hf
          exact ke_z hQ hexec hb hr (.inl rfl) hP hD hS dX5_readChart_56 hlocks
      · refine lv_iconst (pc := 38) hexec hb dX5_readChart_38 ki_0 ?_
        simp only [Option.some.injEq, Prod.mk.injEq] at hf
        obtain ⟨rfl, rfl, rfl, rfl, rfl, rfl, rfl, rfl, rfl, rfl, rfl, rfl, rfl, rfl, rfl, rfl, rfl, rfl, rfl, rfl, rfl, rfl⟩ := hf
        exact ke_z hQ hexec hb hr (.inl rfl) hP hD hS dX5_readChart_39 hlocks
    · refine lv_aload_n (pc := 18) hexec hb dX5_readChart_18 rfl (lv_at hl 0 rfl) ?_
      refine lv_iconst (pc := 19) hexec hb dX5_readChart_19 ki_1 ?_
      refine lv_aload_n (pc := 20) hexec hb dX5_readChart_20 rfl (lv_at hl 0 rfl) ?_
      refine kg_get (pc := 21) hexec hb (own := RX5) hWX5 hown hG hP 0 rfl rfl 6 (nle rfl) (hts _ (List.mem_cons_of_mem _ (List.mem_append_left _ (List.mem_append_left _ (List.mem_append_left _ (List.mem_append_left _ (List.mem_append_left _ (List.mem_append_left _ (List.mem_of_getElem? (i := 0) rfl))))))))) rfl rfl dX5_readChart_21 ?_
      obtain ⟨r24, x0_error_4, x0_errorAt_4, hc, hf⟩ := bd3_e hf
      refine kVp (pc := 24) (S := ⟨hexec, hb, hml, hown, hts⟩) hP hD hG hA hS [0] [1, 2, 3, 4, 5, 6, 7, 8, 9, 10] [10, 0, 1, 2, 3, 4, 5, 6, 7, 8, 9] (w2 := (w_X5_readChart g a0 a1 a2 a3 a4 a5 a6 a7 a8 a9 a10 u0_1 u0_5 u0_10 u0_11 u4_2 u4_3 u4_4 u4_5 u5_4 x0_length x0_at_1 x0_wordStart_1 x0_wordLength_1 x0_numberStart x0_number x0_error_4 x0_errorAt_4 y2_text x3_rows x3_columns x3_rivers x4_count x4_reds x5_count x5_next x5_turn x5_quarters y6_letterOn y7_namesOn y8_land y9_riverOf y10_riverPlace)) rfl rfl rfl rfl rfl rfl (by decide) (c_X5_fail l g a0 _ (.ref a1) u0_1 (.ref a2) (.int x0_length) (.int x0_at_1) u0_5 (.int x0_wordStart_1) (.int x0_wordLength_1) (.int x0_numberStart) (.int x0_number) u0_10 u0_11 x0_error_1 x0_errorAt_1 1 x0_wordStart_1 r24 x0_error_4 x0_errorAt_4 hc) gX5_readChart_X5_fail rfl hv_X5_fail ⟨nle rfl, nle rfl⟩ 5 0 rfl rfl rfl (rest := []) rfl rfl hl.1 (nle rfl) dX5_readChart_24 (fun H locs hP hD hS => ?_)
      obtain ⟨hx, hf⟩ := zb_e hf
      simp only [Option.some.injEq, Prod.mk.injEq] at hf
      obtain ⟨rfl, rfl, rfl, rfl, rfl, rfl, rfl, rfl, rfl, rfl, rfl, rfl, rfl, rfl, rfl, rfl, rfl, rfl, rfl, rfl, rfl, rfl⟩ := hf
      exact ke_z hQ hexec hb hr hx hP hD hS dX5_readChart_27 hlocks
  · refine lv_iconst (pc := 7) hexec hb dX5_readChart_7 ki_0 ?_
    simp only [Option.some.injEq, Prod.mk.injEq] at hf
    obtain ⟨rfl, rfl, rfl, rfl, rfl, rfl, rfl, rfl, rfl, rfl, rfl, rfl, rfl, rfl, rfl, rfl, rfl, rfl, rfl, rfl, rfl, rfl⟩ := hf
    exact ke_z hQ hexec hb hr (.inl rfl) hP hD hS dX5_readChart_8 hlocks
abbrev w_X5_takeSemicolon (g : GE) (a0 a1 : Nat) (u0_0 u0_1 u0_5 u0_6 u0_7 u0_8 u0_9 u0_10 : Value) (x0_length : Int32) (x0_at : Int32) (x0_statement : Int32) (x0_error : Int32) (x0_errorAt : Int32) (y1_text : Nat → Int32) : va_W := [(a0, .inr (5, [u0_0, u0_1, .ref a1, .int x0_length, .int x0_at, u0_5, u0_6, u0_7, u0_8, u0_9, u0_10, .int x0_statement, .int x0_error, .int x0_errorAt])), (a1, .inl (g.2.1 0, 500, .inl y1_text))]
set_option maxRecDepth 20000 in
theorem c_X5_takeSemicolon (l : Launch) (g : GE) (a0 a1 : Nat) (sz : Nat) (u0_0 u0_1 u0_5 u0_6 u0_7 u0_8 u0_9 u0_10 : Value) (x0_length : Int32) (x0_at : Int32) (x0_statement : Int32) (x0_error : Int32) (x0_errorAt : Int32) (y1_text : Nat → Int32)   (r : Int32) (o_x0_at : Int32) (o_x0_statement : Int32) (o_x0_error : Int32) (o_x0_errorAt : Int32) (hf : f_X5_takeSemicolon x0_length x0_at x0_statement x0_error x0_errorAt y1_text = some (r, o_x0_at, o_x0_statement, o_x0_error, o_x0_errorAt)) : MI l g yX5_takeSemicolon wsX5_takeSemicolon 3 66 [.ref a0] (w_X5_takeSemicolon g a0 a1 u0_0 u0_1 u0_5 u0_6 u0_7 u0_8 u0_9 u0_10 x0_length x0_at x0_statement x0_error x0_errorAt y1_text) sz (some (.int r)) (w_X5_takeSemicolon g a0 a1 u0_0 u0_1 u0_5 u0_6 u0_7 u0_8 u0_9 u0_10 x0_length o_x0_at o_x0_statement o_x0_error o_x0_errorAt y1_text) := by
  refine MI.start (cc := cX5_takeSemicolon) (maxL := 1) (ret := (some .boolean)) rfl rfl (nle rfl) ?_
  intro p e s m args below meth c A ls Q hQ hexec hb hr hts hown hlocks hml hA hP hD hG hS hl
  unfold f_X5_takeSemicolon at hf
  have hWX5 : ∀ w ∈ wsX50, w.before args s = true := fun w h => hts w (List.mem_cons_of_mem _ (List.mem_append_right _ h))
  have hS : va_S A s.heap s.heap [] := hS
  refine lv_aload_n (pc := 0) hexec hb dX5_takeSemicolon_0 rfl (lv_at hl 0 rfl) ?_
  obtain ⟨r1, x0_at_1, hc, hf⟩ := bd2_e hf
  refine kVp (pc := 1) (S := ⟨hexec, hb, hml, hown, hts⟩) hP hD hG hA hS [0, 1] [] [0, 1] (w2 := (w_X5_takeSemicolon g a0 a1 u0_0 u0_1 u0_5 u0_6 u0_7 u0_8 u0_9 u0_10 x0_length x0_at_1 x0_statement x0_error x0_errorAt y1_text)) rfl rfl rfl rfl rfl rfl (by decide) (c_X5_nextSign l g a0 a1 _ u0_0 u0_1 u0_5 u0_6 u0_7 u0_8 u0_9 u0_10 (.int x0_statement) (.int x0_error) (.int x0_errorAt) x0_length x0_at y1_text r1 x0_at_1 hc) gX5_takeSemicolon_X5_nextSign rfl hv_X5_nextSign ⟨nle rfl, nle rfl⟩ 5 0 rfl rfl rfl (rest := []) rfl rfl hl.1 (nle rfl) dX5_takeSemicolon_1 (fun H locs hP hD hS => ?_)
  refine lv_bipush (pc := 4) hexec hb dX5_takeSemicolon_4 kb_59 ?_
  refine ki_eq (pc := 6) hexec hb dX5_takeSemicolon_6 (tgt := 19) rfl hf (fun hc hf => ?_) (fun hc hf => ?_)
  · refine lv_aload_n (pc := 19) hexec hb dX5_takeSemicolon_19 rfl (lv_at hl 0 rfl) ?_
    refine lv_dup (pc := 20) hexec hb dX5_takeSemicolon_20 rfl ?_
    refine kg_get (pc := 21) hexec hb (own := RX5) hWX5 hown hG hP 0 rfl rfl 4 (nle rfl) (hts _ (List.mem_cons_of_mem _ (List.mem_append_left _ (List.mem_of_getElem? (i := 0) rfl)))) rfl rfl dX5_takeSemicolon_21 ?_
    refine lv_iconst (pc := 24) hexec hb dX5_takeSemicolon_24 ki_1 ?_
    refine lv_iadd (pc := 25) hexec hb dX5_takeSemicolon_25 ?_
    obtain ⟨x0_at_2, ex0_at_2, hf⟩ := bv_e hf
    refine kn_i ex0_at_2 ?_
    refine kp_put (pc := 26) hexec hb (own := RX5) hWX5 tyX5 tyX5_ok nmX5 hown hG hP hD hS 0 rfl rfl 4 (nle rfl) (hts _ (List.mem_cons_of_mem _ (List.mem_append_left _ (List.mem_of_getElem? (i := 0) rfl)))) rfl rfl rfl rfl (nle rfl) dX5_takeSemicolon_26 (fun H locs (hP : va_P g.1 vwCl (w_X5_takeSemicolon g a0 a1 u0_0 u0_1 u0_5 u0_6 u0_7 u0_8 u0_9 u0_10 x0_length x0_at_2 x0_statement x0_error x0_errorAt y1_text) H) (hD : va_D A (w_X5_takeSemicolon g a0 a1 u0_0 u0_1 u0_5 u0_6 u0_7 u0_8 u0_9 u0_10 x0_length x0_at_2 x0_statement x0_error x0_errorAt y1_text)) hS => ?_)
    refine lv_aload_n (pc := 29) hexec hb dX5_takeSemicolon_29 rfl (lv_at hl 0 rfl) ?_
    refine lv_dup (pc := 30) hexec hb dX5_takeSemicolon_30 rfl ?_
    refine kg_get (pc := 31) hexec hb (own := RX5) hWX5 hown hG hP 0 rfl rfl 11 (nle rfl) (hts _ (List.mem_cons_of_mem _ (List.mem_append_left _ (List.mem_of_getElem? (i := 1) rfl)))) rfl rfl dX5_takeSemicolon_31 ?_
    refine lv_iconst (pc := 34) hexec hb dX5_takeSemicolon_34 ki_1 ?_
    refine lv_iadd (pc := 35) hexec hb dX5_takeSemicolon_35 ?_
    obtain ⟨x0_statement_1, ex0_statement_1, hf⟩ := bv_e hf
    refine kn_i ex0_statement_1 ?_
    refine kp_put (pc := 36) hexec hb (own := RX5) hWX5 tyX5 tyX5_ok nmX5 hown hG hP hD hS 0 rfl rfl 11 (nle rfl) (hts _ (List.mem_cons_of_mem _ (List.mem_append_left _ (List.mem_of_getElem? (i := 1) rfl)))) rfl rfl rfl rfl (nle rfl) dX5_takeSemicolon_36 (fun H locs (hP : va_P g.1 vwCl (w_X5_takeSemicolon g a0 a1 u0_0 u0_1 u0_5 u0_6 u0_7 u0_8 u0_9 u0_10 x0_length x0_at_2 x0_statement_1 x0_error x0_errorAt y1_text) H) (hD : va_D A (w_X5_takeSemicolon g a0 a1 u0_0 u0_1 u0_5 u0_6 u0_7 u0_8 u0_9 u0_10 x0_length x0_at_2 x0_statement_1 x0_error x0_errorAt y1_text)) hS => ?_)
    refine lv_iconst (pc := 39) hexec hb dX5_takeSemicolon_39 ki_1 ?_
    cases hf
    exact ke_z hQ hexec hb hr (.inr rfl) hP hD hS dX5_takeSemicolon_40 hlocks
  · refine lv_aload_n (pc := 9) hexec hb dX5_takeSemicolon_9 rfl (lv_at hl 0 rfl) ?_
    refine lv_iconst (pc := 10) hexec hb dX5_takeSemicolon_10 ki_1 ?_
    refine lv_aload_n (pc := 11) hexec hb dX5_takeSemicolon_11 rfl (lv_at hl 0 rfl) ?_
    refine kg_get (pc := 12) hexec hb (own := RX5) hWX5 hown hG hP 0 rfl rfl 4 (nle rfl) (hts _ (List.mem_cons_of_mem _ (List.mem_append_left _ (List.mem_of_getElem? (i := 0) rfl)))) rfl rfl dX5_takeSemicolon_12 ?_
    obtain ⟨r15, x0_error_1, x0_errorAt_1, hc, hf⟩ := bd3_e hf
    refine kVp (pc := 15) (S := ⟨hexec, hb, hml, hown, hts⟩) hP hD hG hA hS [0] [1] [1, 0] (w2 := (w_X5_takeSemicolon g a0 a1 u0_0 u0_1 u0_5 u0_6 u0_7 u0_8 u0_9 u0_10 x0_length x0_at_1 x0_statement x0_error_1 x0_errorAt_1 y1_text)) rfl rfl rfl rfl rfl rfl (by decide) (c_X5_fail l g a0 _ u0_0 u0_1 (.ref a1) (.int x0_length) (.int x0_at_1) u0_5 u0_6 u0_7 u0_8 u0_9 u0_10 (.int x0_statement) x0_error x0_errorAt 1 x0_at_1 r15 x0_error_1 x0_errorAt_1 hc) gX5_takeSemicolon_X5_fail rfl hv_X5_fail ⟨nle rfl, nle rfl⟩ 5 0 rfl rfl rfl (rest := []) rfl rfl hl.1 (nle rfl) dX5_takeSemicolon_15 (fun H locs hP hD hS => ?_)
    obtain ⟨hx, hf⟩ := zb_e hf
    cases hf
    exact ke_z hQ hexec hb hr hx hP hD hS dX5_takeSemicolon_18 hlocks
abbrev w_X5_takeKeyword (g : GE) (a0 a1 : Nat) (u0_0 u0_1 u0_5 u0_8 u0_9 u0_10 u0_11 : Value) (x0_length : Int32) (x0_at : Int32) (x0_wordStart : Int32) (x0_wordLength : Int32) (x0_error : Int32) (x0_errorAt : Int32) (y1_text : Nat → Int32) : va_W := [(a0, .inr (5, [u0_0, u0_1, .ref a1, .int x0_length, .int x0_at, u0_5, .int x0_wordStart, .int x0_wordLength, u0_8, u0_9, u0_10, u0_11, .int x0_error, .int x0_errorAt])), (a1, .inl (g.2.1 0, 500, .inl y1_text))]
set_option maxRecDepth 20000 in
theorem c_X5_takeKeyword (l : Launch) (g : GE) (a0 a1 : Nat) (sz : Nat) (u0_0 u0_1 u0_5 u0_8 u0_9 u0_10 u0_11 : Value) (x0_length : Int32) (x0_at : Int32) (x0_wordStart : Int32) (x0_wordLength : Int32) (x0_error : Int32) (x0_errorAt : Int32) (y1_text : Nat → Int32)   (r : Int32) (o_x0_at : Int32) (o_x0_wordStart : Int32) (o_x0_wordLength : Int32) (o_x0_error : Int32) (o_x0_errorAt : Int32) (hf : f_X5_takeKeyword x0_length x0_at x0_wordStart x0_wordLength x0_error x0_errorAt y1_text = some (r, o_x0_at, o_x0_wordStart, o_x0_wordLength, o_x0_error, o_x0_errorAt)) : MI l g yX5_takeKeyword wsX5_takeKeyword 6 133 [.ref a0] (w_X5_takeKeyword g a0 a1 u0_0 u0_1 u0_5 u0_8 u0_9 u0_10 u0_11 x0_length x0_at x0_wordStart x0_wordLength x0_error x0_errorAt y1_text) sz (some (.int r)) (w_X5_takeKeyword g a0 a1 u0_0 u0_1 u0_5 u0_8 u0_9 u0_10 u0_11 x0_length o_x0_at o_x0_wordStart o_x0_wordLength o_x0_error o_x0_errorAt y1_text) := by
  refine MI.start (cc := cX5_takeKeyword) (maxL := 2) (ret := (some .int)) rfl rfl (nle rfl) ?_
  intro p e s m args below meth c A ls Q hQ hexec hb hr hts hown hlocks hml hA hP hD hG hS hl
  unfold f_X5_takeKeyword at hf
  have hWX5 : ∀ w ∈ wsX50, w.before args s = true := fun w h => hts w (List.mem_cons_of_mem _ (List.mem_append_right _ h))
  have hS : va_S A s.heap s.heap [] := hS
  refine lv_aload_n (pc := 0) hexec hb dX5_takeKeyword_0 rfl (lv_at hl 0 rfl) ?_
  obtain ⟨r1, x0_at_1, x0_wordStart_1, x0_wordLength_1, x0_error_1, x0_errorAt_1, hc, hf⟩ := bd6_e hf
  refine kVp (pc := 1) (S := ⟨hexec, hb, hml, hown, hts⟩) hP hD hG hA hS [0, 1] [] [0, 1] (w2 := (w_X5_takeKeyword g a0 a1 u0_0 u0_1 u0_5 u0_8 u0_9 u0_10 u0_11 x0_length x0_at_1 x0_wordStart_1 x0_wordLength_1 x0_error_1 x0_errorAt_1 y1_text)) rfl rfl rfl rfl rfl rfl (by decide) (c_X5_takeWord l g a0 a1 _ u0_0 u0_1 u0_5 u0_8 u0_9 u0_10 u0_11 x0_length x0_at x0_wordStart x0_wordLength x0_error x0_errorAt y1_text r1 x0_at_1 x0_wordStart_1 x0_wordLength_1 x0_error_1 x0_errorAt_1 hc) gX5_takeKeyword_X5_takeWord rfl hv_X5_takeWord ⟨nle rfl, nle rfl⟩ 5 0 rfl rfl rfl (rest := []) rfl rfl hl.1 (nle rfl) dX5_takeKeyword_1 (fun H locs hP hD hS => ?_)
  refine kb_ne (pc := 4) hexec hb dX5_takeKeyword_4 (tgt := 9) rfl hf (fun hc hf => ?_) (fun hc hf => ?_)
  · refine lv_aload_n (pc := 9) hexec hb dX5_takeKeyword_9 rfl (lv_at hl 0 rfl) ?_
    refine k_lds (pc := 10) hexec hb (own := RX5) hown hG 1 rfl dX5_takeKeyword_10 ?_
    obtain ⟨r12, hc, hf⟩ := bd1_e hf
    refine kVp (pc := 12) (S := ⟨hexec, hb, hml, hown, hts⟩) hP hD hG hA hS [0, 1] [] [0, 1] (w2 := (w_X5_takeKeyword g a0 a1 u0_0 u0_1 u0_5 u0_8 u0_9 u0_10 u0_11 x0_length x0_at_1 x0_wordStart_1 x0_wordLength_1 x0_error_1 x0_errorAt_1 y1_text)) rfl rfl rfl rfl rfl rfl (by decide) (c_X5_wordIs l g a0 a1 _ u0_0 u0_1 (.int x0_at_1) u0_5 u0_8 u0_9 u0_10 u0_11 (.int x0_error_1) (.int x0_errorAt_1) x0_length x0_wordStart_1 x0_wordLength_1 y1_text 1 (nle rfl) r12 hc) gX5_takeKeyword_X5_wordIs rfl hv_X5_wordIs ⟨nle rfl, nle rfl⟩ 5 0 rfl rfl rfl (rest := []) rfl rfl hl.1 (nle rfl) dX5_takeKeyword_12 (fun H locs hP hD hS => ?_)
    obtain ⟨j89, ej89, hf⟩ := bvf1 hf
    have hj89 : ∀ (t89 : Int32) (H : Heap) (locs : List Loc) (ls : Array Slot), j89 t89 = some (r, o_x0_at, o_x0_wordStart, o_x0_wordLength, o_x0_error, o_x0_errorAt) → va_P g.1 vwCl (w_X5_takeKeyword g a0 a1 u0_0 u0_1 u0_5 u0_8 u0_9 u0_10 u0_11 x0_length x0_at_1 x0_wordStart_1 x0_wordLength_1 x0_error_1 x0_errorAt_1 y1_text) H → va_D A (w_X5_takeKeyword g a0 a1 u0_0 u0_1 u0_5 u0_8 u0_9 u0_10 u0_11 x0_length x0_at_1 x0_wordStart_1 x0_wordLength_1 x0_error_1 x0_errorAt_1 y1_text) → va_S A s.heap H locs → lv_has ls 2 [(0, .ref a0)] → W p l e (RM 6 133) s m args below meth c H locs 0 0 Q (F0 m 89 ls [.int t89]) := by
      intro t89 H locs ls hf hP hD hS hl
      have hf := (ej89 t89).symm.trans hf
      refine lv_istore_n (pc := 89) hexec hb dX5_takeKeyword_89 rfl hl (nle rfl) rfl (fun ls (hl : lv_has ls 2 [(1, .int t89), (0, .ref a0)]) => ?_)
      refine lv_iload_n (pc := 90) hexec hb dX5_takeKeyword_90 rfl (lv_at hl 0 rfl) ?_
      refine lv_iconst (pc := 91) hexec hb dX5_takeKeyword_91 ki_m1 ?_
      refine ki_ne (pc := 92) hexec hb dX5_takeKeyword_92 (tgt := 105) rfl hf (fun hc hf => ?_) (fun hc hf => ?_)
      · refine lv_iload_n (pc := 105) hexec hb dX5_takeKeyword_105 rfl (lv_at hl 0 rfl) ?_
        cases hf
        exact ke_i hQ hexec hb hr hP hD hS dX5_takeKeyword_106 hlocks
      · refine lv_aload_n (pc := 95) hexec hb dX5_takeKeyword_95 rfl (lv_at hl 1 rfl) ?_
        refine lv_iconst (pc := 96) hexec hb dX5_takeKeyword_96 ki_1 ?_
        refine lv_aload_n (pc := 97) hexec hb dX5_takeKeyword_97 rfl (lv_at hl 1 rfl) ?_
        refine kg_get (pc := 98) hexec hb (own := RX5) hWX5 hown hG hP 0 rfl rfl 6 (nle rfl) (hts _ (List.mem_cons_of_mem _ (List.mem_append_left _ (List.mem_append_left _ (List.mem_of_getElem? (i := 0) rfl))))) rfl rfl dX5_takeKeyword_98 ?_
        obtain ⟨r101, x0_error_2, x0_errorAt_2, hc, hf⟩ := bd3_e hf
        refine kVp (pc := 101) (S := ⟨hexec, hb, hml, hown, hts⟩) hP hD hG hA hS [0] [1] [1, 0] (w2 := (w_X5_takeKeyword g a0 a1 u0_0 u0_1 u0_5 u0_8 u0_9 u0_10 u0_11 x0_length x0_at_1 x0_wordStart_1 x0_wordLength_1 x0_error_2 x0_errorAt_2 y1_text)) rfl rfl rfl rfl rfl rfl (by decide) (c_X5_fail l g a0 _ u0_0 u0_1 (.ref a1) (.int x0_length) (.int x0_at_1) u0_5 (.int x0_wordStart_1) (.int x0_wordLength_1) u0_8 u0_9 u0_10 u0_11 x0_error_1 x0_errorAt_1 1 x0_wordStart_1 r101 x0_error_2 x0_errorAt_2 hc) gX5_takeKeyword_X5_fail rfl hv_X5_fail ⟨nle rfl, nle rfl⟩ 5 0 rfl rfl rfl (rest := []) rfl rfl hl.1 (nle rfl) dX5_takeKeyword_101 (fun H locs hP hD hS => ?_)
        refine lv_pop (pc := 104) hexec hb dX5_takeKeyword_104 rfl ?_
        refine lv_iload_n (pc := 105) hexec hb dX5_takeKeyword_105 rfl (lv_at hl 0 rfl) ?_
        cases hf
        exact ke_i hQ hexec hb hr hP hD hS dX5_takeKeyword_106 hlocks
    refine kb_eq (pc := 15) hexec hb dX5_takeKeyword_15 (tgt := 22) rfl hf (fun hc hf => ?_) (fun hc hf => ?_)
    · refine lv_aload_n (pc := 22) hexec hb dX5_takeKeyword_22 rfl (lv_at hl 0 rfl) ?_
      refine k_lds (pc := 23) hexec hb (own := RX5) hown hG 2 rfl dX5_takeKeyword_23 ?_
      obtain ⟨r25, hc, hf⟩ := bd1_e hf
      refine kVp (pc := 25) (S := ⟨hexec, hb, hml, hown, hts⟩) hP hD hG hA hS [0, 1] [] [0, 1] (w2 := (w_X5_takeKeyword g a0 a1 u0_0 u0_1 u0_5 u0_8 u0_9 u0_10 u0_11 x0_length x0_at_1 x0_wordStart_1 x0_wordLength_1 x0_error_1 x0_errorAt_1 y1_text)) rfl rfl rfl rfl rfl rfl (by decide) (c_X5_wordIs l g a0 a1 _ u0_0 u0_1 (.int x0_at_1) u0_5 u0_8 u0_9 u0_10 u0_11 (.int x0_error_1) (.int x0_errorAt_1) x0_length x0_wordStart_1 x0_wordLength_1 y1_text 2 (nle rfl) r25 hc) gX5_takeKeyword_X5_wordIs rfl hv_X5_wordIs ⟨nle rfl, nle rfl⟩ 5 0 rfl rfl rfl (rest := []) rfl rfl hl.1 (nle rfl) dX5_takeKeyword_25 (fun H locs hP hD hS => ?_)
      refine kb_eq (pc := 28) hexec hb dX5_takeKeyword_28 (tgt := 35) rfl hf (fun hc hf => ?_) (fun hc hf => ?_)
      · refine lv_aload_n (pc := 35) hexec hb dX5_takeKeyword_35 rfl (lv_at hl 0 rfl) ?_
        refine k_lds (pc := 36) hexec hb (own := RX5) hown hG 3 rfl dX5_takeKeyword_36 ?_
        obtain ⟨r38, hc, hf⟩ := bd1_e hf
        refine kVp (pc := 38) (S := ⟨hexec, hb, hml, hown, hts⟩) hP hD hG hA hS [0, 1] [] [0, 1] (w2 := (w_X5_takeKeyword g a0 a1 u0_0 u0_1 u0_5 u0_8 u0_9 u0_10 u0_11 x0_length x0_at_1 x0_wordStart_1 x0_wordLength_1 x0_error_1 x0_errorAt_1 y1_text)) rfl rfl rfl rfl rfl rfl (by decide) (c_X5_wordIs l g a0 a1 _ u0_0 u0_1 (.int x0_at_1) u0_5 u0_8 u0_9 u0_10 u0_11 (.int x0_error_1) (.int x0_errorAt_1) x0_length x0_wordStart_1 x0_wordLength_1 y1_text 3 (nle rfl) r38 hc) gX5_takeKeyword_X5_wordIs rfl hv_X5_wordIs ⟨nle rfl, nle rfl⟩ 5 0 rfl rfl rfl (rest := []) rfl rfl hl.1 (nle rfl) dX5_takeKeyword_38 (fun H locs hP hD hS => ?_)
        refine kb_eq (pc := 41) hexec hb dX5_takeKeyword_41 (tgt := 48) rfl hf (fun hc hf => ?_) (fun hc hf => ?_)
        · refine lv_aload_n (pc := 48) hexec hb dX5_takeKeyword_48 rfl (lv_at hl 0 rfl) ?_
          refine k_lds (pc := 49) hexec hb (own := RX5) hown hG 4 rfl dX5_takeKeyword_49 ?_
          obtain ⟨r51, hc, hf⟩ := bd1_e hf
          refine kVp (pc := 51) (S := ⟨hexec, hb, hml, hown, hts⟩) hP hD hG hA hS [0, 1] [] [0, 1] (w2 := (w_X5_takeKeyword g a0 a1 u0_0 u0_1 u0_5 u0_8 u0_9 u0_10 u0_11 x0_length x0_at_1 x0_wordStart_1 x0_wordLength_1 x0_error_1 x0_errorAt_1 y1_text)) rfl rfl rfl rfl rfl rfl (by decide) (c_X5_wordIs l g a0 a1 _ u0_0 u0_1 (.int x0_at_1) u0_5 u0_8 u0_9 u0_10 u0_11 (.int x0_error_1) (.int x0_errorAt_1) x0_length x0_wordStart_1 x0_wordLength_1 y1_text 4 (nle rfl) r51 hc) gX5_takeKeyword_X5_wordIs rfl hv_X5_wordIs ⟨nle rfl, nle rfl⟩ 5 0 rfl rfl rfl (rest := []) rfl rfl hl.1 (nle rfl) dX5_takeKeyword_51 (fun H locs hP hD hS => ?_)
          refine kb_eq (pc := 54) hexec hb dX5_takeKeyword_54 (tgt := 61) rfl hf (fun hc hf => ?_) (fun hc hf => ?_)
          · refine lv_aload_n (pc := 61) hexec hb dX5_takeKeyword_61 rfl (lv_at hl 0 rfl) ?_
            refine k_lds (pc := 62) hexec hb (own := RX5) hown hG 5 rfl dX5_takeKeyword_62 ?_
            obtain ⟨r64, hc, hf⟩ := bd1_e hf
            refine kVp (pc := 64) (S := ⟨hexec, hb, hml, hown, hts⟩) hP hD hG hA hS [0, 1] [] [0, 1] (w2 := (w_X5_takeKeyword g a0 a1 u0_0 u0_1 u0_5 u0_8 u0_9 u0_10 u0_11 x0_length x0_at_1 x0_wordStart_1 x0_wordLength_1 x0_error_1 x0_errorAt_1 y1_text)) rfl rfl rfl rfl rfl rfl (by decide) (c_X5_wordIs l g a0 a1 _ u0_0 u0_1 (.int x0_at_1) u0_5 u0_8 u0_9 u0_10 u0_11 (.int x0_error_1) (.int x0_errorAt_1) x0_length x0_wordStart_1 x0_wordLength_1 y1_text 5 (nle rfl) r64 hc) gX5_takeKeyword_X5_wordIs rfl hv_X5_wordIs ⟨nle rfl, nle rfl⟩ 5 0 rfl rfl rfl (rest := []) rfl rfl hl.1 (nle rfl) dX5_takeKeyword_64 (fun H locs hP hD hS => ?_)
            refine kb_eq (pc := 67) hexec hb dX5_takeKeyword_67 (tgt := 74) rfl hf (fun hc hf => ?_) (fun hc hf => ?_)
            · refine lv_aload_n (pc := 74) hexec hb dX5_takeKeyword_74 rfl (lv_at hl 0 rfl) ?_
              refine k_lds (pc := 75) hexec hb (own := RX5) hown hG 6 rfl dX5_takeKeyword_75 ?_
              obtain ⟨r77, hc, hf⟩ := bd1_e hf
              refine kVp (pc := 77) (S := ⟨hexec, hb, hml, hown, hts⟩) hP hD hG hA hS [0, 1] [] [0, 1] (w2 := (w_X5_takeKeyword g a0 a1 u0_0 u0_1 u0_5 u0_8 u0_9 u0_10 u0_11 x0_length x0_at_1 x0_wordStart_1 x0_wordLength_1 x0_error_1 x0_errorAt_1 y1_text)) rfl rfl rfl rfl rfl rfl (by decide) (c_X5_wordIs l g a0 a1 _ u0_0 u0_1 (.int x0_at_1) u0_5 u0_8 u0_9 u0_10 u0_11 (.int x0_error_1) (.int x0_errorAt_1) x0_length x0_wordStart_1 x0_wordLength_1 y1_text 6 (nle rfl) r77 hc) gX5_takeKeyword_X5_wordIs rfl hv_X5_wordIs ⟨nle rfl, nle rfl⟩ 5 0 rfl rfl rfl (rest := []) rfl rfl hl.1 (nle rfl) dX5_takeKeyword_77 (fun H locs hP hD hS => ?_)
              refine kb_eq (pc := 80) hexec hb dX5_takeKeyword_80 (tgt := 88) rfl hf (fun hc hf => ?_) (fun hc hf => ?_)
              · refine lv_iconst (pc := 88) hexec hb dX5_takeKeyword_88 ki_m1 ?_
                exact hj89 _ _ _ _ hf hP hD hS (lv_sub hl [0] rfl)
              · refine lv_bipush (pc := 83) hexec hb dX5_takeKeyword_83 kb_6 ?_
                refine lv_goto (pc := 85) hexec hb dX5_takeKeyword_85 (tgt := 89) rfl ?_
                exact hj89 _ _ _ _ hf hP hD hS (lv_sub hl [0] rfl)
            · refine lv_iconst (pc := 70) hexec hb dX5_takeKeyword_70 ki_5 ?_
              refine lv_goto (pc := 71) hexec hb dX5_takeKeyword_71 (tgt := 89) rfl ?_
              exact hj89 _ _ _ _ hf hP hD hS (lv_sub hl [0] rfl)
          · refine lv_iconst (pc := 57) hexec hb dX5_takeKeyword_57 ki_4 ?_
            refine lv_goto (pc := 58) hexec hb dX5_takeKeyword_58 (tgt := 89) rfl ?_
            exact hj89 _ _ _ _ hf hP hD hS (lv_sub hl [0] rfl)
        · refine lv_iconst (pc := 44) hexec hb dX5_takeKeyword_44 ki_3 ?_
          refine lv_goto (pc := 45) hexec hb dX5_takeKeyword_45 (tgt := 89) rfl ?_
          exact hj89 _ _ _ _ hf hP hD hS (lv_sub hl [0] rfl)
      · refine lv_iconst (pc := 31) hexec hb dX5_takeKeyword_31 ki_2 ?_
        refine lv_goto (pc := 32) hexec hb dX5_takeKeyword_32 (tgt := 89) rfl ?_
        exact hj89 _ _ _ _ hf hP hD hS (lv_sub hl [0] rfl)
    · refine lv_iconst (pc := 18) hexec hb dX5_takeKeyword_18 ki_1 ?_
      refine lv_goto (pc := 19) hexec hb dX5_takeKeyword_19 (tgt := 89) rfl ?_
      exact hj89 _ _ _ _ hf hP hD hS (lv_sub hl [0] rfl)
  · refine lv_iconst (pc := 7) hexec hb dX5_takeKeyword_7 ki_m1 ?_
    cases hf
    exact ke_i hQ hexec hb hr hP hD hS dX5_takeKeyword_8 hlocks
abbrev w_X5_takeCell (g : GE) (a0 a1 a2 a3 : Nat) (u0_1 u0_5 u0_6 u0_7 u0_11 u1_1 u1_2 u1_3 u1_4 u3_2 u3_3 u3_4 u3_5 : Value) (x0_length : Int32) (x0_at : Int32) (x0_numberStart : Int32) (x0_number : Int32) (x0_cell : Int32) (x0_error : Int32) (x0_errorAt : Int32) (y2_text : Nat → Int32) (x3_rows : Int32) (x3_columns : Int32) : va_W := [(a0, .inr (5, [.ref a1, u0_1, .ref a2, .int x0_length, .int x0_at, u0_5, u0_6, u0_7, .int x0_numberStart, .int x0_number, .int x0_cell, u0_11, .int x0_error, .int x0_errorAt])), (a1, .inr (6, [.ref a3, u1_1, u1_2, u1_3, u1_4])), (a2, .inl (g.2.1 0, 500, .inl y2_text)), (a3, .inr (1, [.int x3_rows, .int x3_columns, u3_2, u3_3, u3_4, u3_5]))]
set_option maxRecDepth 20000 in
theorem c_X5_takeCell (l : Launch) (g : GE) (a0 a1 a2 a3 : Nat) (sz : Nat) (u0_1 u0_5 u0_6 u0_7 u0_11 u1_1 u1_2 u1_3 u1_4 u3_2 u3_3 u3_4 u3_5 : Value) (x0_length : Int32) (x0_at : Int32) (x0_numberStart : Int32) (x0_number : Int32) (x0_cell : Int32) (x0_error : Int32) (x0_errorAt : Int32) (y2_text : Nat → Int32) (x3_rows : Int32) (x3_columns : Int32)   (r : Int32) (o_x0_at : Int32) (o_x0_numberStart : Int32) (o_x0_number : Int32) (o_x0_cell : Int32) (o_x0_error : Int32) (o_x0_errorAt : Int32) (hf : f_X5_takeCell x0_length x0_at x0_numberStart x0_number x0_cell x0_error x0_errorAt y2_text x3_rows x3_columns = some (r, o_x0_at, o_x0_numberStart, o_x0_number, o_x0_cell, o_x0_error, o_x0_errorAt)) : MI l g yX5_takeCell wsX5_takeCell 4 89 [.ref a0] (w_X5_takeCell g a0 a1 a2 a3 u0_1 u0_5 u0_6 u0_7 u0_11 u1_1 u1_2 u1_3 u1_4 u3_2 u3_3 u3_4 u3_5 x0_length x0_at x0_numberStart x0_number x0_cell x0_error x0_errorAt y2_text x3_rows x3_columns) sz (some (.int r)) (w_X5_takeCell g a0 a1 a2 a3 u0_1 u0_5 u0_6 u0_7 u0_11 u1_1 u1_2 u1_3 u1_4 u3_2 u3_3 u3_4 u3_5 x0_length o_x0_at o_x0_numberStart o_x0_number o_x0_cell o_x0_error o_x0_errorAt y2_text x3_rows x3_columns) := by
  refine MI.start (cc := cX5_takeCell) (maxL := 2) (ret := (some .boolean)) rfl rfl (nle rfl) ?_
  intro p e s m args below meth c A ls Q hQ hexec hb hr hts hown hlocks hml hA hP hD hG hS hl
  unfold f_X5_takeCell at hf
  have hWX1 : ∀ w ∈ wsX10, w.before args s = true := fun w h => hts w (List.mem_cons_of_mem _ (List.mem_append_right _ h))
  have hWX5 : ∀ w ∈ wsX50, w.before args s = true := fun w h => hts w (List.mem_cons_of_mem _ (List.mem_append_left _ (List.mem_append_left _ (List.mem_append_right _ h))))
  have hWX6 : ∀ w ∈ wsX60, w.before args s = true := fun w h => hts w (List.mem_cons_of_mem _ (List.mem_append_left _ (List.mem_append_right _ h)))
  have hS : va_S A s.heap s.heap [] := hS
  refine lv_aload_n (pc := 0) hexec hb dX5_takeCell_0 rfl (lv_at hl 0 rfl) ?_
  refine lv_iconst (pc := 1) hexec hb dX5_takeCell_1 ki_0 ?_
  refine lv_aload_n (pc := 2) hexec hb dX5_takeCell_2 rfl (lv_at hl 0 rfl) ?_
  refine kg_get (pc := 3) hexec hb (own := RX5) hWX5 hown hG hP 0 rfl rfl 0 (nle rfl) (hts _ (List.mem_cons_of_mem _ (List.mem_append_left _ (List.mem_append_left _ (List.mem_append_left _ (List.mem_append_left _ (List.mem_of_getElem? (i := 0) rfl))))))) rfl rfl dX5_takeCell_3 ?_
  refine kg_getN (pc := 6) hexec hb (own := RX5) hWX6 hown hG hP 1 rfl rfl 0 (nle rfl) 23 rfl rfl rfl dX5_takeCell_6 ?_
  refine kg_getN (pc := 9) hexec hb (own := RX5) hWX1 hown hG hP 3 rfl rfl 0 (nle rfl) 1 rfl rfl rfl dX5_takeCell_9 ?_
  refine lv_iconst (pc := 12) hexec hb dX5_takeCell_12 ki_1 ?_
  refine lv_isub (pc := 13) hexec hb dX5_takeCell_13 ?_
  obtain ⟨r14, x0_at_1, x0_numberStart_1, x0_number_1, x0_error_1, x0_errorAt_1, hc, hf⟩ := bd6_e hf
  refine kVp (pc := 14) (S := ⟨hexec, hb, hml, hown, hts⟩) hP hD hG hA hS [0, 2] [1, 3] [2, 0, 3, 1] (w2 := (w_X5_takeCell g a0 a1 a2 a3 u0_1 u0_5 u0_6 u0_7 u0_11 u1_1 u1_2 u1_3 u1_4 u3_2 u3_3 u3_4 u3_5 x0_length x0_at_1 x0_numberStart_1 x0_number_1 x0_cell x0_error_1 x0_errorAt_1 y2_text x3_rows x3_columns)) rfl rfl rfl rfl rfl rfl (by decide) (c_X5_takeNumber l g a0 a2 _ (.ref a1) u0_1 u0_5 u0_6 u0_7 (.int x0_cell) u0_11 x0_length x0_at x0_numberStart x0_number x0_error x0_errorAt y2_text 0 (x3_rows - 1) r14 x0_at_1 x0_numberStart_1 x0_number_1 x0_error_1 x0_errorAt_1 hc) gX5_takeCell_X5_takeNumber rfl hv_X5_takeNumber ⟨nle rfl, nle rfl⟩ 5 0 rfl rfl rfl (rest := []) rfl rfl hl.1 (nle rfl) dX5_takeCell_14 (fun H locs hP hD hS => ?_)
  refine kb_ne (pc := 17) hexec hb dX5_takeCell_17 (tgt := 22) rfl hf (fun hc hf => ?_) (fun hc hf => ?_)
  · refine lv_aload_n (pc := 22) hexec hb dX5_takeCell_22 rfl (lv_at hl 0 rfl) ?_
    refine kg_get (pc := 23) hexec hb (own := RX5) hWX5 hown hG hP 0 rfl rfl 9 (nle rfl) (hts _ (List.mem_cons_of_mem _ (List.mem_append_left _ (List.mem_append_left _ (List.mem_append_left _ (List.mem_append_left _ (List.mem_of_getElem? (i := 1) rfl))))))) rfl rfl dX5_takeCell_23 ?_
    refine lv_istore_n (pc := 26) hexec hb dX5_takeCell_26 rfl hl (nle rfl) rfl (fun ls (hl : lv_has ls 2 [(1, .int x0_number_1), (0, .ref a0)]) => ?_)
    refine lv_aload_n (pc := 27) hexec hb dX5_takeCell_27 rfl (lv_at hl 1 rfl) ?_
    refine lv_iconst (pc := 28) hexec hb dX5_takeCell_28 ki_0 ?_
    refine lv_aload_n (pc := 29) hexec hb dX5_takeCell_29 rfl (lv_at hl 1 rfl) ?_
    refine kg_get (pc := 30) hexec hb (own := RX5) hWX5 hown hG hP 0 rfl rfl 0 (nle rfl) (hts _ (List.mem_cons_of_mem _ (List.mem_append_left _ (List.mem_append_left _ (List.mem_append_left _ (List.mem_append_left _ (List.mem_of_getElem? (i := 0) rfl))))))) rfl rfl dX5_takeCell_30 ?_
    refine kg_getN (pc := 33) hexec hb (own := RX5) hWX6 hown hG hP 1 rfl rfl 0 (nle rfl) 23 rfl rfl rfl dX5_takeCell_33 ?_
    refine kg_getN (pc := 36) hexec hb (own := RX5) hWX1 hown hG hP 3 rfl rfl 1 (nle rfl) 3 rfl rfl rfl dX5_takeCell_36 ?_
    refine lv_iconst (pc := 39) hexec hb dX5_takeCell_39 ki_1 ?_
    refine lv_isub (pc := 40) hexec hb dX5_takeCell_40 ?_
    obtain ⟨r41, x0_at_2, x0_numberStart_2, x0_number_2, x0_error_2, x0_errorAt_2, hc, hf⟩ := bd6_e hf
    refine kVp (pc := 41) (S := ⟨hexec, hb, hml, hown, hts⟩) hP hD hG hA hS [0, 2] [1, 3] [2, 0, 3, 1] (w2 := (w_X5_takeCell g a0 a1 a2 a3 u0_1 u0_5 u0_6 u0_7 u0_11 u1_1 u1_2 u1_3 u1_4 u3_2 u3_3 u3_4 u3_5 x0_length x0_at_2 x0_numberStart_2 x0_number_2 x0_cell x0_error_2 x0_errorAt_2 y2_text x3_rows x3_columns)) rfl rfl rfl rfl rfl rfl (by decide) (c_X5_takeNumber l g a0 a2 _ (.ref a1) u0_1 u0_5 u0_6 u0_7 (.int x0_cell) u0_11 x0_length x0_at_1 x0_numberStart_1 x0_number_1 x0_error_1 x0_errorAt_1 y2_text 0 (x3_columns - 1) r41 x0_at_2 x0_numberStart_2 x0_number_2 x0_error_2 x0_errorAt_2 hc) gX5_takeCell_X5_takeNumber rfl hv_X5_takeNumber ⟨nle rfl, nle rfl⟩ 5 0 rfl rfl rfl (rest := []) rfl rfl hl.1 (nle rfl) dX5_takeCell_41 (fun H locs hP hD hS => ?_)
    refine kb_ne (pc := 44) hexec hb dX5_takeCell_44 (tgt := 49) rfl hf (fun hc hf => ?_) (fun hc hf => ?_)
    · refine lv_aload_n (pc := 49) hexec hb dX5_takeCell_49 rfl (lv_at hl 1 rfl) ?_
      refine lv_iload_n (pc := 50) hexec hb dX5_takeCell_50 rfl (lv_at hl 0 rfl) ?_
      refine lv_aload_n (pc := 51) hexec hb dX5_takeCell_51 rfl (lv_at hl 1 rfl) ?_
      refine kg_get (pc := 52) hexec hb (own := RX5) hWX5 hown hG hP 0 rfl rfl 0 (nle rfl) (hts _ (List.mem_cons_of_mem _ (List.mem_append_left _ (List.mem_append_left _ (List.mem_append_left _ (List.mem_append_left _ (List.mem_of_getElem? (i := 0) rfl))))))) rfl rfl dX5_takeCell_52 ?_
      refine kg_getN (pc := 55) hexec hb (own := RX5) hWX6 hown hG hP 1 rfl rfl 0 (nle rfl) 23 rfl rfl rfl dX5_takeCell_55 ?_
      refine kg_getN (pc := 58) hexec hb (own := RX5) hWX1 hown hG hP 3 rfl rfl 1 (nle rfl) 3 rfl rfl rfl dX5_takeCell_58 ?_
      refine lv_imul (pc := 61) hexec hb dX5_takeCell_61 ?_
      refine lv_aload_n (pc := 62) hexec hb dX5_takeCell_62 rfl (lv_at hl 1 rfl) ?_
      refine kg_get (pc := 63) hexec hb (own := RX5) hWX5 hown hG hP 0 rfl rfl 9 (nle rfl) (hts _ (List.mem_cons_of_mem _ (List.mem_append_left _ (List.mem_append_left _ (List.mem_append_left _ (List.mem_append_left _ (List.mem_of_getElem? (i := 1) rfl))))))) rfl rfl dX5_takeCell_63 ?_
      refine lv_iadd (pc := 66) hexec hb dX5_takeCell_66 ?_
      obtain ⟨x0_cell_1, ex0_cell_1, hf⟩ := bv_e hf
      refine kn_i ex0_cell_1 ?_
      refine kp_put (pc := 67) hexec hb (own := RX5) hWX5 tyX5 tyX5_ok nmX5 hown hG hP hD hS 0 rfl rfl 10 (nle rfl) (hts _ (List.mem_cons_of_mem _ (List.mem_append_left _ (List.mem_append_left _ (List.mem_append_left _ (List.mem_append_left _ (List.mem_of_getElem? (i := 2) rfl))))))) rfl rfl rfl rfl (nle rfl) dX5_takeCell_67 (fun H locs (hP : va_P g.1 vwCl (w_X5_takeCell g a0 a1 a2 a3 u0_1 u0_5 u0_6 u0_7 u0_11 u1_1 u1_2 u1_3 u1_4 u3_2 u3_3 u3_4 u3_5 x0_length x0_at_2 x0_numberStart_2 x0_number_2 x0_cell_1 x0_error_2 x0_errorAt_2 y2_text x3_rows x3_columns) H) (hD : va_D A (w_X5_takeCell g a0 a1 a2 a3 u0_1 u0_5 u0_6 u0_7 u0_11 u1_1 u1_2 u1_3 u1_4 u3_2 u3_3 u3_4 u3_5 x0_length x0_at_2 x0_numberStart_2 x0_number_2 x0_cell_1 x0_error_2 x0_errorAt_2 y2_text x3_rows x3_columns)) hS => ?_)
      refine lv_iconst (pc := 70) hexec hb dX5_takeCell_70 ki_1 ?_
      cases hf
      exact ke_z hQ hexec hb hr (.inr rfl) hP hD hS dX5_takeCell_71 hlocks
    · refine lv_iconst (pc := 47) hexec hb dX5_takeCell_47 ki_0 ?_
      cases hf
      exact ke_z hQ hexec hb hr (.inl rfl) hP hD hS dX5_takeCell_48 hlocks
  · refine lv_iconst (pc := 20) hexec hb dX5_takeCell_20 ki_0 ?_
    cases hf
    exact ke_z hQ hexec hb hr (.inl rfl) hP hD hS dX5_takeCell_21 hlocks
abbrev w_X5_readLand (g : GE) (a0 a1 a2 a3 a4 a5 : Nat) (u0_1 u0_5 u0_7 u0_11 u1_2 u1_3 u1_4 u3_4 u3_5 u4_1 u4_2 u4_3 u4_4 u4_5 : Value) (x0_length : Int32) (x0_at : Int32) (x0_wordStart : Int32) (x0_numberStart : Int32) (x0_number : Int32) (x0_cell : Int32) (x0_error : Int32) (x0_errorAt : Int32) (y2_text : Nat → Int32) (x3_rows : Int32) (x3_columns : Int32) (x3_rivers : Int32) (x4_count : Int32) (y5_land : Nat → Int32) : va_W := [(a0, .inr (5, [.ref a1, u0_1, .ref a2, .int x0_length, .int x0_at, u0_5, .int x0_wordStart, u0_7, .int x0_numberStart, .int x0_number, .int x0_cell, u0_11, .int x0_error, .int x0_errorAt])), (a1, .inr (6, [.ref a3, .ref a4, u1_2, u1_3, u1_4])), (a2, .inl (g.2.1 0, 500, .inl y2_text)), (a3, .inr (1, [.int x3_rows, .int x3_columns, .int x3_rivers, .ref a5, u3_4, u3_5])), (a4, .inr (2, [.int x4_count, u4_1, u4_2, u4_3, u4_4, u4_5])), (a5, .inl (g.2.1 1, 144, .inl y5_land))]
set_option maxRecDepth 20000 in
theorem c_X5_readLand (l : Launch) (g : GE) (a0 a1 a2 a3 a4 a5 : Nat) (sz : Nat) (u0_1 u0_5 u0_7 u0_11 u1_2 u1_3 u1_4 u3_4 u3_5 u4_1 u4_2 u4_3 u4_4 u4_5 : Value) (x0_length : Int32) (x0_at : Int32) (x0_wordStart : Int32) (x0_numberStart : Int32) (x0_number : Int32) (x0_cell : Int32) (x0_error : Int32) (x0_errorAt : Int32) (y2_text : Nat → Int32) (x3_rows : Int32) (x3_columns : Int32) (x3_rivers : Int32) (x4_count : Int32) (y5_land : Nat → Int32)   (r : Int32) (o_x0_at : Int32) (o_x0_numberStart : Int32) (o_x0_number : Int32) (o_x0_cell : Int32) (o_x0_error : Int32) (o_x0_errorAt : Int32) (o_y5_land : Nat → Int32) (hf : f_X5_readLand x0_length x0_at x0_wordStart x0_numberStart x0_number x0_cell x0_error x0_errorAt y2_text x3_rows x3_columns x3_rivers x4_count y5_land = some (r, o_x0_at, o_x0_numberStart, o_x0_number, o_x0_cell, o_x0_error, o_x0_errorAt, o_y5_land)) : MI l g yX5_readLand wsX5_readLand 5 110 [.ref a0] (w_X5_readLand g a0 a1 a2 a3 a4 a5 u0_1 u0_5 u0_7 u0_11 u1_2 u1_3 u1_4 u3_4 u3_5 u4_1 u4_2 u4_3 u4_4 u4_5 x0_length x0_at x0_wordStart x0_numberStart x0_number x0_cell x0_error x0_errorAt y2_text x3_rows x3_columns x3_rivers x4_count y5_land) sz (some (.int r)) (w_X5_readLand g a0 a1 a2 a3 a4 a5 u0_1 u0_5 u0_7 u0_11 u1_2 u1_3 u1_4 u3_4 u3_5 u4_1 u4_2 u4_3 u4_4 u4_5 x0_length o_x0_at x0_wordStart o_x0_numberStart o_x0_number o_x0_cell o_x0_error o_x0_errorAt y2_text x3_rows x3_columns x3_rivers x4_count o_y5_land) := by
  refine MI.start (cc := cX5_readLand) (maxL := 4) (ret := (some .boolean)) rfl rfl (nle rfl) ?_
  intro p e s m args below meth c A ls Q hQ hexec hb hr hts hown hlocks hml hA hP hD hG hS hl
  unfold f_X5_readLand at hf
  have hWX1 : ∀ w ∈ wsX10, w.before args s = true := fun w h => hts w (List.mem_cons_of_mem _ (List.mem_append_right _ h))
  have hWX2 : ∀ w ∈ wsX20, w.before args s = true := fun w h => hts w (List.mem_cons_of_mem _ (List.mem_append_left _ (List.mem_append_right _ h)))
  have hWX5 : ∀ w ∈ wsX50, w.before args s = true := fun w h => hts w (List.mem_cons_of_mem _ (List.mem_append_left _ (List.mem_append_left _ (List.mem_append_left _ (List.mem_append_right _ h)))))
  have hWX6 : ∀ w ∈ wsX60, w.before args s = true := fun w h => hts w (List.mem_cons_of_mem _ (List.mem_append_left _ (List.mem_append_left _ (List.mem_append_right _ h))))
  have hS : va_S A s.heap s.heap [] := hS
  refine lv_aload_n (pc := 0) hexec hb dX5_readLand_0 rfl (lv_at hl 0 rfl) ?_
  refine kg_get (pc := 1) hexec hb (own := RX5) hWX5 hown hG hP 0 rfl rfl 0 (nle rfl) (hts _ (List.mem_cons_of_mem _ (List.mem_append_left _ (List.mem_append_left _ (List.mem_append_left _ (List.mem_append_left _ (List.mem_append_left _ (List.mem_of_getElem? (i := 0) rfl)))))))) rfl rfl dX5_readLand_1 ?_
  refine kg_getN (pc := 4) hexec hb (own := RX5) hWX6 hown hG hP 1 rfl rfl 1 (nle rfl) 26 rfl rfl rfl dX5_readLand_4 ?_
  refine kg_getN (pc := 7) hexec hb (own := RX5) hWX2 hown hG hP 4 rfl rfl 0 (nle rfl) 9 rfl rfl rfl dX5_readLand_7 ?_
  obtain ⟨j26, ej26, hf⟩ := bvf1 hf
  have hj26 : ∀ (u : Unit) (H : Heap) (locs : List Loc) (ls : Array Slot), j26 u = some (r, o_x0_at, o_x0_numberStart, o_x0_number, o_x0_cell, o_x0_error, o_x0_errorAt, o_y5_land) → va_P g.1 vwCl (w_X5_readLand g a0 a1 a2 a3 a4 a5 u0_1 u0_5 u0_7 u0_11 u1_2 u1_3 u1_4 u3_4 u3_5 u4_1 u4_2 u4_3 u4_4 u4_5 x0_length x0_at x0_wordStart x0_numberStart x0_number x0_cell x0_error x0_errorAt y2_text x3_rows x3_columns x3_rivers x4_count y5_land) H → va_D A (w_X5_readLand g a0 a1 a2 a3 a4 a5 u0_1 u0_5 u0_7 u0_11 u1_2 u1_3 u1_4 u3_4 u3_5 u4_1 u4_2 u4_3 u4_4 u4_5 x0_length x0_at x0_wordStart x0_numberStart x0_number x0_cell x0_error x0_errorAt y2_text x3_rows x3_columns x3_rivers x4_count y5_land) → va_S A s.heap H locs → lv_has ls 4 [(0, .ref a0)] → W p l e (RM 5 110) s m args below meth c H locs 0 0 Q (F0 m 26 ls []) := by
    intro u H locs ls hf hP hD hS hl
    have hf := (ej26 u).symm.trans hf
    refine lv_aload_n (pc := 26) hexec hb dX5_readLand_26 rfl (lv_at hl 0 rfl) ?_
    refine lv_iconst (pc := 27) hexec hb dX5_readLand_27 ki_3 ?_
    refine lv_aload_n (pc := 28) hexec hb dX5_readLand_28 rfl (lv_at hl 0 rfl) ?_
    refine kg_get (pc := 29) hexec hb (own := RX5) hWX5 hown hG hP 0 rfl rfl 6 (nle rfl) (hts _ (List.mem_cons_of_mem _ (List.mem_append_left _ (List.mem_append_left _ (List.mem_append_left _ (List.mem_append_left _ (List.mem_append_left _ (List.mem_of_getElem? (i := 1) rfl)))))))) rfl rfl dX5_readLand_29 ?_
    obtain ⟨r32, x0_error_1, x0_errorAt_1, hc, hf⟩ := bd3_e hf
    refine kVp (pc := 32) (S := ⟨hexec, hb, hml, hown, hts⟩) hP hD hG hA hS [0] [1, 2, 3, 4, 5] [5, 0, 1, 2, 3, 4] (w2 := (w_X5_readLand g a0 a1 a2 a3 a4 a5 u0_1 u0_5 u0_7 u0_11 u1_2 u1_3 u1_4 u3_4 u3_5 u4_1 u4_2 u4_3 u4_4 u4_5 x0_length x0_at x0_wordStart x0_numberStart x0_number x0_cell x0_error_1 x0_errorAt_1 y2_text x3_rows x3_columns x3_rivers x4_count y5_land)) rfl rfl rfl rfl rfl rfl (by decide) (c_X5_fail l g a0 _ (.ref a1) u0_1 (.ref a2) (.int x0_length) (.int x0_at) u0_5 (.int x0_wordStart) u0_7 (.int x0_numberStart) (.int x0_number) (.int x0_cell) u0_11 x0_error x0_errorAt 3 x0_wordStart r32 x0_error_1 x0_errorAt_1 hc) gX5_readLand_X5_fail rfl hv_X5_fail ⟨nle rfl, nle rfl⟩ 5 0 rfl rfl rfl (rest := []) rfl rfl hl.1 (nle rfl) dX5_readLand_32 (fun H locs hP hD hS => ?_)
    obtain ⟨hx, hf⟩ := zb_e hf
    cases hf
    exact ke_z hQ hexec hb hr hx hP hD hS dX5_readLand_35 hlocks
  refine kb_gt (pc := 10) hexec hb dX5_readLand_10 (tgt := 26) rfl hf (fun hc hf => ?_) (fun hc hf => ?_)
  · exact hj26 _ _ _ _ hf hP hD hS (lv_sub hl [0] rfl)
  · refine lv_aload_n (pc := 13) hexec hb dX5_readLand_13 rfl (lv_at hl 0 rfl) ?_
    refine kg_get (pc := 14) hexec hb (own := RX5) hWX5 hown hG hP 0 rfl rfl 0 (nle rfl) (hts _ (List.mem_cons_of_mem _ (List.mem_append_left _ (List.mem_append_left _ (List.mem_append_left _ (List.mem_append_left _ (List.mem_append_left _ (List.mem_of_getElem? (i := 0) rfl)))))))) rfl rfl dX5_readLand_14 ?_
    refine kg_getN (pc := 17) hexec hb (own := RX5) hWX6 hown hG hP 1 rfl rfl 0 (nle rfl) 23 rfl rfl rfl dX5_readLand_17 ?_
    refine kg_getN (pc := 20) hexec hb (own := RX5) hWX1 hown hG hP 3 rfl rfl 2 (nle rfl) 5 rfl rfl rfl dX5_readLand_20 ?_
    refine kb_le (pc := 23) hexec hb dX5_readLand_23 (tgt := 36) rfl hf (fun hc hf => ?_) (fun hc hf => ?_)
    · refine lv_aload_n (pc := 36) hexec hb dX5_readLand_36 rfl (lv_at hl 0 rfl) ?_
      obtain ⟨r37, x0_at_1, x0_numberStart_1, x0_number_1, x0_cell_1, x0_error_2, x0_errorAt_2, hc, hf⟩ := bd7_e hf
      refine kVp (pc := 37) (S := ⟨hexec, hb, hml, hown, hts⟩) hP hD hG hA hS [0, 1, 2, 3] [4, 5] [2, 3, 4, 5, 0, 1] (w2 := (w_X5_readLand g a0 a1 a2 a3 a4 a5 u0_1 u0_5 u0_7 u0_11 u1_2 u1_3 u1_4 u3_4 u3_5 u4_1 u4_2 u4_3 u4_4 u4_5 x0_length x0_at_1 x0_wordStart x0_numberStart_1 x0_number_1 x0_cell_1 x0_error_2 x0_errorAt_2 y2_text x3_rows x3_columns x3_rivers x4_count y5_land)) rfl rfl rfl rfl rfl rfl (by decide) (c_X5_takeCell l g a0 a1 a2 a3 _ u0_1 u0_5 (.int x0_wordStart) u0_7 u0_11 (.ref a4) u1_2 u1_3 u1_4 (.int x3_rivers) (.ref a5) u3_4 u3_5 x0_length x0_at x0_numberStart x0_number x0_cell x0_error x0_errorAt y2_text x3_rows x3_columns r37 x0_at_1 x0_numberStart_1 x0_number_1 x0_cell_1 x0_error_2 x0_errorAt_2 hc) gX5_readLand_X5_takeCell rfl hv_X5_takeCell ⟨nle rfl, nle rfl⟩ 5 0 rfl rfl rfl (rest := []) rfl rfl hl.1 (nle rfl) dX5_readLand_37 (fun H locs hP hD hS => ?_)
      refine kb_ne (pc := 40) hexec hb dX5_readLand_40 (tgt := 45) rfl hf (fun hc hf => ?_) (fun hc hf => ?_)
      · refine lv_aload_n (pc := 45) hexec hb dX5_readLand_45 rfl (lv_at hl 0 rfl) ?_
        refine kg_get (pc := 46) hexec hb (own := RX5) hWX5 hown hG hP 0 rfl rfl 10 (nle rfl) (hts _ (List.mem_cons_of_mem _ (List.mem_append_left _ (List.mem_append_left _ (List.mem_append_left _ (List.mem_append_left _ (List.mem_append_left _ (List.mem_of_getElem? (i := 2) rfl)))))))) rfl rfl dX5_readLand_46 ?_
        refine lv_istore_n (pc := 49) hexec hb dX5_readLand_49 rfl hl (nle rfl) rfl (fun ls (hl : lv_has ls 4 [(1, .int x0_cell_1), (0, .ref a0)]) => ?_)
        refine lv_aload_n (pc := 50) hexec hb dX5_readLand_50 rfl (lv_at hl 1 rfl) ?_
        refine lv_aload_n (pc := 51) hexec hb dX5_readLand_51 rfl (lv_at hl 1 rfl) ?_
        refine kg_get (pc := 52) hexec hb (own := RX5) hWX5 hown hG hP 0 rfl rfl 9 (nle rfl) (hts _ (List.mem_cons_of_mem _ (List.mem_append_left _ (List.mem_append_left _ (List.mem_append_left _ (List.mem_append_left _ (List.mem_append_left _ (List.mem_of_getElem? (i := 3) rfl)))))))) rfl rfl dX5_readLand_52 ?_
        refine lv_aload_n (pc := 55) hexec hb dX5_readLand_55 rfl (lv_at hl 1 rfl) ?_
        refine kg_get (pc := 56) hexec hb (own := RX5) hWX5 hown hG hP 0 rfl rfl 0 (nle rfl) (hts _ (List.mem_cons_of_mem _ (List.mem_append_left _ (List.mem_append_left _ (List.mem_append_left _ (List.mem_append_left _ (List.mem_append_left _ (List.mem_of_getElem? (i := 0) rfl)))))))) rfl rfl dX5_readLand_56 ?_
        refine kg_getN (pc := 59) hexec hb (own := RX5) hWX6 hown hG hP 1 rfl rfl 0 (nle rfl) 23 rfl rfl rfl dX5_readLand_59 ?_
        refine kg_getN (pc := 62) hexec hb (own := RX5) hWX1 hown hG hP 3 rfl rfl 1 (nle rfl) 3 rfl rfl rfl dX5_readLand_62 ?_
        refine lv_iconst (pc := 65) hexec hb dX5_readLand_65 ki_1 ?_
        refine lv_isub (pc := 66) hexec hb dX5_readLand_66 ?_
        obtain ⟨r67, x0_at_2, x0_numberStart_2, x0_number_2, x0_error_3, x0_errorAt_3, hc, hf⟩ := bd6_e hf
        refine kVp (pc := 67) (S := ⟨hexec, hb, hml, hown, hts⟩) hP hD hG hA hS [0, 2] [1, 3, 4, 5] [4, 0, 5, 1, 2, 3] (w2 := (w_X5_readLand g a0 a1 a2 a3 a4 a5 u0_1 u0_5 u0_7 u0_11 u1_2 u1_3 u1_4 u3_4 u3_5 u4_1 u4_2 u4_3 u4_4 u4_5 x0_length x0_at_2 x0_wordStart x0_numberStart_2 x0_number_2 x0_cell_1 x0_error_3 x0_errorAt_3 y2_text x3_rows x3_columns x3_rivers x4_count y5_land)) rfl rfl rfl rfl rfl rfl (by decide) (c_X5_takeNumber l g a0 a2 _ (.ref a1) u0_1 u0_5 (.int x0_wordStart) u0_7 (.int x0_cell_1) u0_11 x0_length x0_at_1 x0_numberStart_1 x0_number_1 x0_error_2 x0_errorAt_2 y2_text x0_number_1 (x3_columns - 1) r67 x0_at_2 x0_numberStart_2 x0_number_2 x0_error_3 x0_errorAt_3 hc) gX5_readLand_X5_takeNumber rfl hv_X5_takeNumber ⟨nle rfl, nle rfl⟩ 5 0 rfl rfl rfl (rest := []) rfl rfl hl.1 (nle rfl) dX5_readLand_67 (fun H locs hP hD hS => ?_)
        refine kb_ne (pc := 70) hexec hb dX5_readLand_70 (tgt := 75) rfl hf (fun hc hf => ?_) (fun hc hf => ?_)
        · refine lv_iload_n (pc := 75) hexec hb dX5_readLand_75 rfl (lv_at hl 0 rfl) ?_
          refine lv_iload_n (pc := 76) hexec hb dX5_readLand_76 rfl (lv_at hl 0 rfl) ?_
          refine lv_iconst (pc := 77) hexec hb dX5_readLand_77 ki_1 ?_
          refine lv_aload_n (pc := 78) hexec hb dX5_readLand_78 rfl (lv_at hl 1 rfl) ?_
          refine kg_get (pc := 79) hexec hb (own := RX5) hWX5 hown hG hP 0 rfl rfl 0 (nle rfl) (hts _ (List.mem_cons_of_mem _ (List.mem_append_left _ (List.mem_append_left _ (List.mem_append_left _ (List.mem_append_left _ (List.mem_append_left _ (List.mem_of_getElem? (i := 0) rfl)))))))) rfl rfl dX5_readLand_79 ?_
          refine kg_getN (pc := 82) hexec hb (own := RX5) hWX6 hown hG hP 1 rfl rfl 0 (nle rfl) 23 rfl rfl rfl dX5_readLand_82 ?_
          refine kg_getN (pc := 85) hexec hb (own := RX5) hWX1 hown hG hP 3 rfl rfl 1 (nle rfl) 3 rfl rfl rfl dX5_readLand_85 ?_
          refine va_mmax (pc := 88) hexec hb (hml.trans hl.1.symm) (own := RX5) hown (hts _ (List.mem_cons_of_mem _ (List.mem_append_left _ (List.mem_append_left _ (List.mem_append_left _ (List.mem_append_left _ (List.mem_append_left _ (List.mem_of_getElem? (i := 4) rfl)))))))) (hts _ (List.mem_cons_of_mem _ (List.mem_append_left _ (List.mem_append_left _ (List.mem_append_left _ (List.mem_append_left _ (List.mem_append_left _ (List.mem_of_getElem? (i := 5) rfl)))))))) (hts _ (List.mem_cons_of_mem _ (List.mem_append_left _ (List.mem_append_left _ (List.mem_append_left _ (List.mem_append_left _ (List.mem_append_left _ (List.mem_of_getElem? (i := 6) rfl)))))))) (hts _ (List.mem_cons_of_mem _ (List.mem_append_left _ (List.mem_append_left _ (List.mem_append_left _ (List.mem_append_left _ (List.mem_append_left _ (List.mem_of_getElem? (i := 7) rfl)))))))) (nle rfl) (nle rfl) (nle rfl) (nle rfl) dX5_readLand_88 ?_
          refine kd_irem (pc := 91) hexec hb dX5_readLand_91 hf (fun hf => ?_)
          refine lv_isub (pc := 92) hexec hb dX5_readLand_92 ?_
          refine lv_aload_n (pc := 93) hexec hb dX5_readLand_93 rfl (lv_at hl 1 rfl) ?_
          refine kg_get (pc := 94) hexec hb (own := RX5) hWX5 hown hG hP 0 rfl rfl 9 (nle rfl) (hts _ (List.mem_cons_of_mem _ (List.mem_append_left _ (List.mem_append_left _ (List.mem_append_left _ (List.mem_append_left _ (List.mem_append_left _ (List.mem_of_getElem? (i := 3) rfl)))))))) rfl rfl dX5_readLand_94 ?_
          refine lv_iadd (pc := 97) hexec hb dX5_readLand_97 ?_
          obtain ⟨v2, ev2, hf⟩ := bv_e hf
          refine kn_i ev2 ?_
          refine lv_istore_n (pc := 98) hexec hb dX5_readLand_98 rfl hl (nle rfl) rfl (fun ls (hl : lv_has ls 4 [(2, .int v2), (1, .int x0_cell_1), (0, .ref a0)]) => ?_)
          refine lv_iload_n (pc := 99) hexec hb dX5_readLand_99 rfl (lv_at hl 1 rfl) ?_
          refine lv_istore_n (pc := 100) hexec hb dX5_readLand_100 rfl hl (nle rfl) rfl (fun ls (hl : lv_has ls 4 [(3, .int x0_cell_1), (2, .int v2), (1, .int x0_cell_1), (0, .ref a0)]) => ?_)
          obtain ⟨l101, el101, hf⟩ := bvf2 hf
          obtain ⟨y5_land_2, hz, hf⟩ := bd1_e hf
          have hE101 : ∀ (H : Heap) (locs : List Loc) (ls : Array Slot), va_P g.1 vwCl (w_X5_readLand g a0 a1 a2 a3 a4 a5 u0_1 u0_5 u0_7 u0_11 u1_2 u1_3 u1_4 u3_4 u3_5 u4_1 u4_2 u4_3 u4_4 u4_5 x0_length x0_at_2 x0_wordStart x0_numberStart_2 x0_number_2 x0_cell_1 x0_error_3 x0_errorAt_3 y2_text x3_rows x3_columns x3_rivers x4_count y5_land_2) H → va_D A (w_X5_readLand g a0 a1 a2 a3 a4 a5 u0_1 u0_5 u0_7 u0_11 u1_2 u1_3 u1_4 u3_4 u3_5 u4_1 u4_2 u4_3 u4_4 u4_5 x0_length x0_at_2 x0_wordStart x0_numberStart_2 x0_number_2 x0_cell_1 x0_error_3 x0_errorAt_3 y2_text x3_rows x3_columns x3_rivers x4_count y5_land_2) → va_S A s.heap H locs → lv_has ls 4 [] → W p l e (RM 5 110) s m args below meth c H locs 0 0 Q (F0 m 124 ls []) := by
            intro H locs ls hP hD hS hl
            refine lv_iconst (pc := 124) hexec hb dX5_readLand_124 ki_1 ?_
            cases hf
            exact ke_z hQ hexec hb hr (.inr rfl) hP hD hS dX5_readLand_125 hlocks
          obtain ⟨n, hz⟩ := lq2_e hz
          have hL101 : ∀ (n : Nat) (v3 : Int32) (y5_land_1 : Nat → Int32) (H : Heap) (locs : List Loc) (ls : Array Slot), it2 l101 n v3 y5_land_1 = some y5_land_2 → va_P g.1 vwCl (w_X5_readLand g a0 a1 a2 a3 a4 a5 u0_1 u0_5 u0_7 u0_11 u1_2 u1_3 u1_4 u3_4 u3_5 u4_1 u4_2 u4_3 u4_4 u4_5 x0_length x0_at_2 x0_wordStart x0_numberStart_2 x0_number_2 x0_cell_1 x0_error_3 x0_errorAt_3 y2_text x3_rows x3_columns x3_rivers x4_count y5_land_1) H → va_D A (w_X5_readLand g a0 a1 a2 a3 a4 a5 u0_1 u0_5 u0_7 u0_11 u1_2 u1_3 u1_4 u3_4 u3_5 u4_1 u4_2 u4_3 u4_4 u4_5 x0_length x0_at_2 x0_wordStart x0_numberStart_2 x0_number_2 x0_cell_1 x0_error_3 x0_errorAt_3 y2_text x3_rows x3_columns x3_rivers x4_count y5_land_1) → va_S A s.heap H locs → lv_has ls 4 [(0, .ref a0), (2, .int v2), (3, .int v3)] → W p l e (RM 5 110) s m args below meth c H locs 0 0 Q (F0 m 101 ls []) := by
            intro n
            induction n with
            | zero =>
              intro v3 y5_land_1 H locs ls hf hP hD hS hl
              exact it2_0 hf
            | succ n101 ih101 =>
              intro v3 y5_land_1 H locs ls hf hP hD hS hl
              obtain ⟨q101, hf, hk101⟩ := it2_e hf
              have hf := (el101 v3 y5_land_1).symm.trans hf
              refine lv_iload_n (pc := 101) hexec hb dX5_readLand_101 rfl (lv_at hl 2 rfl) ?_
              refine lv_iload_n (pc := 102) hexec hb dX5_readLand_102 rfl (lv_at hl 1 rfl) ?_
              refine ki_gt (pc := 103) hexec hb dX5_readLand_103 (tgt := 124) rfl hf (fun hc hf => ?_) (fun hc hf => ?_)
              · cases sr2 hf hk101
                exact hE101 _ _ _ hP hD hS (lv_sub hl [] rfl)
              · refine lv_aload_n (pc := 106) hexec hb dX5_readLand_106 rfl (lv_at hl 0 rfl) ?_
                refine kg_get (pc := 107) hexec hb (own := RX5) hWX5 hown hG hP 0 rfl rfl 0 (nle rfl) (hts _ (List.mem_cons_of_mem _ (List.mem_append_left _ (List.mem_append_left _ (List.mem_append_left _ (List.mem_append_left _ (List.mem_append_left _ (List.mem_of_getElem? (i := 0) rfl)))))))) rfl rfl dX5_readLand_107 ?_
                refine kg_getN (pc := 110) hexec hb (own := RX5) hWX6 hown hG hP 1 rfl rfl 0 (nle rfl) 23 rfl rfl rfl dX5_readLand_110 ?_
                refine lv_iload_n (pc := 113) hexec hb dX5_readLand_113 rfl (lv_at hl 2 rfl) ?_
                refine lv_iconst (pc := 114) hexec hb dX5_readLand_114 ki_1 ?_
                obtain ⟨y5_land_3, hc, hf⟩ := bd1_e hf
                refine kVp (pc := 115) (S := ⟨hexec, hb, hml, hown, hts⟩) hP hD hG hA hS [3, 5] [0, 1, 2, 4] [0, 1, 2, 4, 3, 5] (w2 := (w_X5_readLand g a0 a1 a2 a3 a4 a5 u0_1 u0_5 u0_7 u0_11 u1_2 u1_3 u1_4 u3_4 u3_5 u4_1 u4_2 u4_3 u4_4 u4_5 x0_length x0_at_2 x0_wordStart x0_numberStart_2 x0_number_2 x0_cell_1 x0_error_3 x0_errorAt_3 y2_text x3_rows x3_columns x3_rivers x4_count y5_land_3)) rfl rfl rfl rfl rfl rfl (by decide) (c_X1_setLand l g a3 a5 _ (.int x3_rows) (.int x3_columns) (.int x3_rivers) u3_4 u3_5 y5_land_1 v3 1 y5_land_3 hc) gX5_readLand_X1_setLand rfl hv_X1_setLand ⟨nle rfl, nle rfl⟩ 1 0 rfl rfl rfl (rest := []) rfl rfl hl.1 (nle rfl) dX5_readLand_115 (fun H locs hP hD hS => ?_)
                obtain ⟨v3_1, ev3_1, hf⟩ := bv_e hf
                refine k_iinc (pc := 118) hexec hb dX5_readLand_118 kq_1 hl (k := 2) rfl ev3_1 (nle rfl) rfl (fun ls (hl : lv_has ls 4 [(3, .int v3_1), (0, .ref a0), (2, .int v2)]) => ?_)
                refine lv_goto (pc := 121) hexec hb dX5_readLand_121 (tgt := 101) rfl ?_
                exact ih101 _ _ _ _ _ (sl2 hf hk101) hP hD hS (lv_sub hl [1, 2, 0] rfl)
          exact hL101 n _ _ _ _ _ hz hP hD hS (lv_sub hl [3, 1, 0] rfl)
        · refine lv_iconst (pc := 73) hexec hb dX5_readLand_73 ki_0 ?_
          cases hf
          exact ke_z hQ hexec hb hr (.inl rfl) hP hD hS dX5_readLand_74 hlocks
      · refine lv_iconst (pc := 43) hexec hb dX5_readLand_43 ki_0 ?_
        cases hf
        exact ke_z hQ hexec hb hr (.inl rfl) hP hD hS dX5_readLand_44 hlocks
    · exact hj26 _ _ _ _ hf hP hD hS (lv_sub hl [0] rfl)
abbrev w_X5_takeName (g : GE) (a0 a1 : Nat) (u0_0 u0_1 u0_5 u0_8 u0_9 u0_10 u0_11 : Value) (x0_length : Int32) (x0_at : Int32) (x0_wordStart : Int32) (x0_wordLength : Int32) (x0_error : Int32) (x0_errorAt : Int32) (y1_text : Nat → Int32) : va_W := [(a0, .inr (5, [u0_0, u0_1, .ref a1, .int x0_length, .int x0_at, u0_5, .int x0_wordStart, .int x0_wordLength, u0_8, u0_9, u0_10, u0_11, .int x0_error, .int x0_errorAt])), (a1, .inl (g.2.1 0, 500, .inl y1_text))]
set_option maxRecDepth 20000 in
theorem c_X5_takeName (l : Launch) (g : GE) (a0 a1 : Nat) (sz : Nat) (u0_0 u0_1 u0_5 u0_8 u0_9 u0_10 u0_11 : Value) (x0_length : Int32) (x0_at : Int32) (x0_wordStart : Int32) (x0_wordLength : Int32) (x0_error : Int32) (x0_errorAt : Int32) (y1_text : Nat → Int32)   (r : Int32) (o_x0_at : Int32) (o_x0_wordStart : Int32) (o_x0_wordLength : Int32) (o_x0_error : Int32) (o_x0_errorAt : Int32) (hf : f_X5_takeName x0_length x0_at x0_wordStart x0_wordLength x0_error x0_errorAt y1_text = some (r, o_x0_at, o_x0_wordStart, o_x0_wordLength, o_x0_error, o_x0_errorAt)) : MI l g yX5_takeName wsX5_takeName 4 87 [.ref a0] (w_X5_takeName g a0 a1 u0_0 u0_1 u0_5 u0_8 u0_9 u0_10 u0_11 x0_length x0_at x0_wordStart x0_wordLength x0_error x0_errorAt y1_text) sz (some (.int r)) (w_X5_takeName g a0 a1 u0_0 u0_1 u0_5 u0_8 u0_9 u0_10 u0_11 x0_length o_x0_at o_x0_wordStart o_x0_wordLength o_x0_error o_x0_errorAt y1_text) := by
  refine MI.start (cc := cX5_takeName) (maxL := 1) (ret := (some .boolean)) rfl rfl (nle rfl) ?_
  intro p e s m args below meth c A ls Q hQ hexec hb hr hts hown hlocks hml hA hP hD hG hS hl
  unfold f_X5_takeName at hf
  have hWX5 : ∀ w ∈ wsX50, w.before args s = true := fun w h => hts w (List.mem_cons_of_mem _ (List.mem_append_right _ h))
  have hS : va_S A s.heap s.heap [] := hS
  refine lv_aload_n (pc := 0) hexec hb dX5_takeName_0 rfl (lv_at hl 0 rfl) ?_
  obtain ⟨r1, x0_at_1, x0_wordStart_1, x0_wordLength_1, x0_error_1, x0_errorAt_1, hc, hf⟩ := bd6_e hf
  refine kVp (pc := 1) (S := ⟨hexec, hb, hml, hown, hts⟩) hP hD hG hA hS [0, 1] [] [0, 1] (w2 := (w_X5_takeName g a0 a1 u0_0 u0_1 u0_5 u0_8 u0_9 u0_10 u0_11 x0_length x0_at_1 x0_wordStart_1 x0_wordLength_1 x0_error_1 x0_errorAt_1 y1_text)) rfl rfl rfl rfl rfl rfl (by decide) (c_X5_takeWord l g a0 a1 _ u0_0 u0_1 u0_5 u0_8 u0_9 u0_10 u0_11 x0_length x0_at x0_wordStart x0_wordLength x0_error x0_errorAt y1_text r1 x0_at_1 x0_wordStart_1 x0_wordLength_1 x0_error_1 x0_errorAt_1 hc) gX5_takeName_X5_takeWord rfl hv_X5_takeWord ⟨nle rfl, nle rfl⟩ 5 0 rfl rfl rfl (rest := []) rfl rfl hl.1 (nle rfl) dX5_takeName_1 (fun H locs hP hD hS => ?_)
  obtain ⟨j32, ej32, hf⟩ := bvf2 hf
  have hj32 : ∀ (x0_error_2 : Int32) (x0_errorAt_2 : Int32) (H : Heap) (locs : List Loc) (ls : Array Slot), j32 x0_error_2 x0_errorAt_2 = some (r, o_x0_at, o_x0_wordStart, o_x0_wordLength, o_x0_error, o_x0_errorAt) → va_P g.1 vwCl (w_X5_takeName g a0 a1 u0_0 u0_1 u0_5 u0_8 u0_9 u0_10 u0_11 x0_length x0_at_1 x0_wordStart_1 x0_wordLength_1 x0_error_2 x0_errorAt_2 y1_text) H → va_D A (w_X5_takeName g a0 a1 u0_0 u0_1 u0_5 u0_8 u0_9 u0_10 u0_11 x0_length x0_at_1 x0_wordStart_1 x0_wordLength_1 x0_error_2 x0_errorAt_2 y1_text) → va_S A s.heap H locs → lv_has ls 1 [] → W p l e (RM 4 87) s m args below meth c H locs 0 0 Q (F0 m 32 ls []) := by
    intro x0_error_2 x0_errorAt_2 H locs ls hf hP hD hS hl
    have hf := (ej32 x0_error_2 x0_errorAt_2).symm.trans hf
    refine lv_iconst (pc := 32) hexec hb dX5_takeName_32 ki_0 ?_
    cases hf
    exact ke_z hQ hexec hb hr (.inl rfl) hP hD hS dX5_takeName_33 hlocks
  refine kb_eq (pc := 4) hexec hb dX5_takeName_4 (tgt := 32) rfl hf (fun hc hf => ?_) (fun hc hf => ?_)
  · exact hj32 _ _ _ _ _ hf hP hD hS (lv_sub hl [] rfl)
  · refine lv_aload_n (pc := 7) hexec hb dX5_takeName_7 rfl (lv_at hl 0 rfl) ?_
    refine kg_get (pc := 8) hexec hb (own := RX5) hWX5 hown hG hP 0 rfl rfl 7 (nle rfl) (hts _ (List.mem_cons_of_mem _ (List.mem_append_left _ (List.mem_append_left _ (List.mem_of_getElem? (i := 0) rfl))))) rfl rfl dX5_takeName_8 ?_
    refine lv_bipush (pc := 11) hexec hb dX5_takeName_11 kb_8 ?_
    obtain ⟨j28, ej28, hf⟩ := bvf2 hf
    have hj28 : ∀ (x0_error_3 : Int32) (x0_errorAt_3 : Int32) (H : Heap) (locs : List Loc) (ls : Array Slot), j28 x0_error_3 x0_errorAt_3 = some (r, o_x0_at, o_x0_wordStart, o_x0_wordLength, o_x0_error, o_x0_errorAt) → va_P g.1 vwCl (w_X5_takeName g a0 a1 u0_0 u0_1 u0_5 u0_8 u0_9 u0_10 u0_11 x0_length x0_at_1 x0_wordStart_1 x0_wordLength_1 x0_error_3 x0_errorAt_3 y1_text) H → va_D A (w_X5_takeName g a0 a1 u0_0 u0_1 u0_5 u0_8 u0_9 u0_10 u0_11 x0_length x0_at_1 x0_wordStart_1 x0_wordLength_1 x0_error_3 x0_errorAt_3 y1_text) → va_S A s.heap H locs → lv_has ls 1 [] → W p l e (RM 4 87) s m args below meth c H locs 0 0 Q (F0 m 28 ls []) := by
      intro x0_error_3 x0_errorAt_3 H locs ls hf hP hD hS hl
      have hf := (ej28 x0_error_3 x0_errorAt_3).symm.trans hf
      refine lv_iconst (pc := 28) hexec hb dX5_takeName_28 ki_1 ?_
      refine lv_goto (pc := 29) hexec hb dX5_takeName_29 (tgt := 33) rfl ?_
      cases hf
      exact ke_z hQ hexec hb hr (.inr rfl) hP hD hS dX5_takeName_33 hlocks
    refine ki_le (pc := 13) hexec hb dX5_takeName_13 (tgt := 28) rfl hf (fun hc hf => ?_) (fun hc hf => ?_)
    · exact hj28 _ _ _ _ _ hf hP hD hS (lv_sub hl [] rfl)
    · refine lv_aload_n (pc := 16) hexec hb dX5_takeName_16 rfl (lv_at hl 0 rfl) ?_
      refine lv_iconst (pc := 17) hexec hb dX5_takeName_17 ki_1 ?_
      refine lv_aload_n (pc := 18) hexec hb dX5_takeName_18 rfl (lv_at hl 0 rfl) ?_
      refine kg_get (pc := 19) hexec hb (own := RX5) hWX5 hown hG hP 0 rfl rfl 6 (nle rfl) (hts _ (List.mem_cons_of_mem _ (List.mem_append_left _ (List.mem_append_left _ (List.mem_of_getElem? (i := 1) rfl))))) rfl rfl dX5_takeName_19 ?_
      obtain ⟨r22, x0_error_4, x0_errorAt_4, hc, hf⟩ := bd3_e hf
      refine kVp (pc := 22) (S := ⟨hexec, hb, hml, hown, hts⟩) hP hD hG hA hS [0] [1] [1, 0] (w2 := (w_X5_takeName g a0 a1 u0_0 u0_1 u0_5 u0_8 u0_9 u0_10 u0_11 x0_length x0_at_1 x0_wordStart_1 x0_wordLength_1 x0_error_4 x0_errorAt_4 y1_text)) rfl rfl rfl rfl rfl rfl (by decide) (c_X5_fail l g a0 _ u0_0 u0_1 (.ref a1) (.int x0_length) (.int x0_at_1) u0_5 (.int x0_wordStart_1) (.int x0_wordLength_1) u0_8 u0_9 u0_10 u0_11 x0_error_1 x0_errorAt_1 1 x0_wordStart_1 r22 x0_error_4 x0_errorAt_4 hc) gX5_takeName_X5_fail rfl hv_X5_fail ⟨nle rfl, nle rfl⟩ 5 0 rfl rfl rfl (rest := []) rfl rfl hl.1 (nle rfl) dX5_takeName_22 (fun H locs hP hD hS => ?_)
      refine kb_eq (pc := 25) hexec hb dX5_takeName_25 (tgt := 32) rfl hf (fun hc hf => ?_) (fun hc hf => ?_)
      · exact hj32 _ _ _ _ _ hf hP hD hS (lv_sub hl [] rfl)
      · exact hj28 _ _ _ _ _ hf hP hD hS (lv_sub hl [] rfl)
