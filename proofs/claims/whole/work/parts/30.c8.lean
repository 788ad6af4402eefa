abbrev w_X8_append (g : GE) (a0 a1 a2 : Nat) (u0_0 u0_1 u0_2 u0_3 u0_5 u0_6 u0_7 u0_8 u0_9 u1_0 u1_1 u1_4 u1_5 u1_6 u1_7 u1_8 u1_9 u1_10 u1_11 u1_12 u1_13 : Value) (x1_length : Int32) (y2_text : Nat → Int32) : va_W := [(a0, .inr (8, [u0_0, u0_1, u0_2, u0_3, .ref a1, u0_5, u0_6, u0_7, u0_8, u0_9])), (a1, .inr (5, [u1_0, u1_1, .ref a2, .int x1_length, u1_4, u1_5, u1_6, u1_7, u1_8, u1_9, u1_10, u1_11, u1_12, u1_13])), (a2, .inl (g.2.1 0, 500, .inl y2_text))]
noncomputable def f_X8_append (x1_length : Int32) (y2_text : Nat → Int32) (p1 : Int64) : Option (Int32 × Int32 × (Nat → Int32)) :=
  bv (fun (v3 : Int32) (v4 : Int32) => ((
    (if v4 < 0 then (
      some (.inr v3)
    ) else (
      bd1 (f_X8_byteOf p1 v4) fun (r14 : Int32) =>
      bv (fun (v3_2 : Int32) => ((
        bv (v4 + (-8)) fun v4_1 =>
        some (.inl (v3_2, v4_1))
        ) : Option ((Int32 × Int32) ⊕ (Int32)))) fun j23 =>
      (if r14 = 0 then (
        j23 v3
      ) else (
        bv (v3 + 1) fun v3_3 =>
        j23 v3_3
      ))
    ))
    ) : Option ((Int32 × Int32) ⊕ (Int32)))) fun l6 =>
  bd1 (lq2 l6 0 56) fun (v3_1 : Int32) =>
  (if (x1_length + v3_1) ≤ 500 then (
    bv (fun (v4_2 : Int32) (x1_length_1 : Int32) (y2_text_1 : Nat → Int32) => ((
      (if v4_2 < 0 then (
        some (.inr (x1_length_1, y2_text_1))
      ) else (
        bd1 (f_X8_byteOf p1 v4_2) fun (r59 : Int32) =>
        bv (fun (x1_length_3 : Int32) (y2_text_3 : Nat → Int32) => ((
          bv (v4_2 + (-8)) fun v4_3 =>
          some (.inl (v4_3, x1_length_3, y2_text_3))
          ) : Option ((Int32 × Int32 × (Nat → Int32)) ⊕ (Int32 × (Nat → Int32))))) fun j78 =>
        (if r59 = 0 then (
          j78 x1_length_1 y2_text_1
        ) else (
          bd1 (f_X8_byteOf p1 v4_2) fun (r72 : Int32) =>
          bd2 (f_X5_addByte x1_length_1 y2_text_1 r72) fun (x1_length_4 : Int32) (y2_text_4 : Nat → Int32) =>
          j78 x1_length_4 y2_text_4
        ))
      ))
      ) : Option ((Int32 × Int32 × (Nat → Int32)) ⊕ (Int32 × (Nat → Int32))))) fun l51 =>
    bd2 (lq3 l51 56 x1_length y2_text) fun (x1_length_2 : Int32) (y2_text_2 : Nat → Int32) =>
    some (x1_length_2, x1_length_2, y2_text_2)
  ) else (
    some ((-2), x1_length, y2_text)
  ))
set_option maxRecDepth 4000 in
theorem c_X8_append (l : Launch) (g : GE) (a0 a1 a2 : Nat) (sz : Nat) (u0_0 u0_1 u0_2 u0_3 u0_5 u0_6 u0_7 u0_8 u0_9 u1_0 u1_1 u1_4 u1_5 u1_6 u1_7 u1_8 u1_9 u1_10 u1_11 u1_12 u1_13 : Value) (x1_length : Int32) (y2_text : Nat → Int32) (p1 : Int64) (r : Int32) (o_x1_length : Int32) (o_y2_text : Nat → Int32) (hf : f_X8_append x1_length y2_text p1 = some (r, o_x1_length, o_y2_text)) : MI l g yX8_append wsX8_append 2 46 [.ref a0, .long p1] (w_X8_append g a0 a1 a2 u0_0 u0_1 u0_2 u0_3 u0_5 u0_6 u0_7 u0_8 u0_9 u1_0 u1_1 u1_4 u1_5 u1_6 u1_7 u1_8 u1_9 u1_10 u1_11 u1_12 u1_13 x1_length y2_text) sz (some (.int r)) (w_X8_append g a0 a1 a2 u0_0 u0_1 u0_2 u0_3 u0_5 u0_6 u0_7 u0_8 u0_9 u1_0 u1_1 u1_4 u1_5 u1_6 u1_7 u1_8 u1_9 u1_10 u1_11 u1_12 u1_13 o_x1_length o_y2_text) := by
  refine MI.start (cc := cX8_append) (maxL := 5) (ret := (some .int)) rfl rfl (nle rfl) ?_
  intro p e s m args below meth c A ls Q hQ hexec hb hr hts hown hlocks hml hA hP hD hG hS hl
  unfold f_X8_append at hf
  have hWX5 : ∀ w ∈ wsX50, w.before args s = true := fun w h => hts w (List.mem_cons_of_mem _ (List.mem_append_right _ h))
  have hWX8 : ∀ w ∈ wsX80, w.before args s = true := fun w h => hts w (List.mem_cons_of_mem _ (List.mem_append_left _ (List.mem_append_right _ h)))
  have hS : va_S A s.heap s.heap [] := hS
  refine lv_iconst (pc := 0) hexec hb dX8_append_0 ki_0 ?_
  refine lv_istore_n (pc := 1) hexec hb dX8_append_1 rfl hl (nle rfl) rfl (fun ls (hl : lv_has ls 5 [(3, .int 0), (0, .ref a0), (1, .long p1)]) => ?_)
  refine lv_bipush (pc := 2) hexec hb dX8_append_2 kb_56 ?_
  refine lv_istore (pc := 4) hexec hb dX8_append_4 hl (nle rfl) rfl (fun ls (hl : lv_has ls 5 [(4, .int 56), (3, .int 0), (0, .ref a0), (1, .long p1)]) => ?_)
  obtain ⟨l6, el6, hf⟩ := bvf2 hf
  obtain ⟨v3_1, hz, hf⟩ := bd1_e hf
  have hE6 : ∀ (H : Heap) (locs : List Loc) (ls : Array Slot), va_P g.1 vwCl (w_X8_append g a0 a1 a2 u0_0 u0_1 u0_2 u0_3 u0_5 u0_6 u0_7 u0_8 u0_9 u1_0 u1_1 u1_4 u1_5 u1_6 u1_7 u1_8 u1_9 u1_10 u1_11 u1_12 u1_13 x1_length y2_text) H → va_D A (w_X8_append g a0 a1 a2 u0_0 u0_1 u0_2 u0_3 u0_5 u0_6 u0_7 u0_8 u0_9 u1_0 u1_1 u1_4 u1_5 u1_6 u1_7 u1_8 u1_9 u1_10 u1_11 u1_12 u1_13 x1_length y2_text) → va_S A s.heap H locs → lv_has ls 5 [(0, .ref a0), (1, .long p1), (3, .int v3_1)] → W p l e (RM 2 46) s m args below meth c H locs 0 0 Q (F0 m 29 ls []) := by
    intro H locs ls hP hD hS hl
    refine lv_aload_n (pc := 29) hexec hb dX8_append_29 rfl (lv_at hl 0 rfl) ?_
    refine kg_get (pc := 30) hexec hb (own := RX8) hWX8 hown hG hP 0 rfl rfl 4 (nle rfl) (hts _ (List.mem_cons_of_mem _ (List.mem_append_left _ (List.mem_append_left _ (List.mem_of_getElem? (i := 0) rfl))))) rfl rfl dX8_append_30 ?_
    refine kg_getN (pc := 33) hexec hb (own := RX8) hWX5 hown hG hP 1 rfl rfl 3 (nle rfl) 38 rfl rfl rfl dX8_append_33 ?_
    refine lv_iload_n (pc := 36) hexec hb dX8_append_36 rfl (lv_at hl 2 rfl) ?_
    refine lv_iadd (pc := 37) hexec hb dX8_append_37 ?_
    refine lv_sipush (pc := 38) hexec hb dX8_append_38 ks_500 ?_
    refine ki_le (pc := 41) hexec hb dX8_append_41 (tgt := 47) rfl hf (fun hc hf => ?_) (fun hc hf => ?_)
    · refine lv_bipush (pc := 47) hexec hb dX8_append_47 kb_56 ?_
      refine lv_istore (pc := 49) hexec hb dX8_append_49 hl (nle rfl) rfl (fun ls (hl : lv_has ls 5 [(4, .int 56), (0, .ref a0), (1, .long p1), (3, .int v3_1)]) => ?_)
      obtain ⟨l51, el51, hf⟩ := bvf3 hf
      obtain ⟨x1_length_2, y2_text_2, hz, hf⟩ := bd2_e hf
      have hE51 : ∀ (H : Heap) (locs : List Loc) (ls : Array Slot), va_P g.1 vwCl (w_X8_append g a0 a1 a2 u0_0 u0_1 u0_2 u0_3 u0_5 u0_6 u0_7 u0_8 u0_9 u1_0 u1_1 u1_4 u1_5 u1_6 u1_7 u1_8 u1_9 u1_10 u1_11 u1_12 u1_13 x1_length_2 y2_text_2) H → va_D A (w_X8_append g a0 a1 a2 u0_0 u0_1 u0_2 u0_3 u0_5 u0_6 u0_7 u0_8 u0_9 u1_0 u1_1 u1_4 u1_5 u1_6 u1_7 u1_8 u1_9 u1_10 u1_11 u1_12 u1_13 x1_length_2 y2_text_2) → va_S A s.heap H locs → lv_has ls 5 [(0, .ref a0)] → W p l e (RM 2 46) s m args below meth c H locs 0 0 Q (F0 m 84 ls []) := by
        intro H locs ls hP hD hS hl
        refine lv_aload_n (pc := 84) hexec hb dX8_append_84 rfl (lv_at hl 0 rfl) ?_
        refine kg_get (pc := 85) hexec hb (own := RX8) hWX8 hown hG hP 0 rfl rfl 4 (nle rfl) (hts _ (List.mem_cons_of_mem _ (List.mem_append_left _ (List.mem_append_left _ (List.mem_of_getElem? (i := 0) rfl))))) rfl rfl dX8_append_85 ?_
        refine kg_getN (pc := 88) hexec hb (own := RX8) hWX5 hown hG hP 1 rfl rfl 3 (nle rfl) 38 rfl rfl rfl dX8_append_88 ?_
        cases hf
        exact ke_i hQ hexec hb hr hP hD hS dX8_append_91 hlocks
      obtain ⟨n, hz⟩ := lq3_e hz
      have hL51 : ∀ (n : Nat) (v4_2 : Int32) (x1_length_1 : Int32) (y2_text_1 : Nat → Int32) (H : Heap) (locs : List Loc) (ls : Array Slot), it3 l51 n v4_2 x1_length_1 y2_text_1 = some (x1_length_2, y2_text_2) → va_P g.1 vwCl (w_X8_append g a0 a1 a2 u0_0 u0_1 u0_2 u0_3 u0_5 u0_6 u0_7 u0_8 u0_9 u1_0 u1_1 u1_4 u1_5 u1_6 u1_7 u1_8 u1_9 u1_10 u1_11 u1_12 u1_13 x1_length_1 y2_text_1) H → va_D A (w_X8_append g a0 a1 a2 u0_0 u0_1 u0_2 u0_3 u0_5 u0_6 u0_7 u0_8 u0_9 u1_0 u1_1 u1_4 u1_5 u1_6 u1_7 u1_8 u1_9 u1_10 u1_11 u1_12 u1_13 x1_length_1 y2_text_1) → va_S A s.heap H locs → lv_has ls 5 [(0, .ref a0), (1, .long p1), (4, .int v4_2)] → W p l e (RM 2 46) s m args below meth c H locs 0 0 Q (F0 m 51 ls []) := by
        intro n
        induction n with
        | zero =>
          intro v4_2 x1_length_1 y2_text_1 H locs ls hf hP hD hS hl
          exact it3_0 hf
        | succ n51 ih51 =>
          intro v4_2 x1_length_1 y2_text_1 H locs ls hf hP hD hS hl
          obtain ⟨q51, hf, hk51⟩ := it3_e hf
          have hf := (el51 v4_2 x1_length_1 y2_text_1).symm.trans hf
          refine lv_iload (pc := 51) hexec hb dX8_append_51 (lv_at hl 2 rfl) ?_
          refine kb_lt (pc := 53) hexec hb dX8_append_53 (tgt := 84) rfl hf (fun hc hf => ?_) (fun hc hf => ?_)
          · cases sr3 hf hk51
            exact hE51 _ _ _ hP hD hS (lv_sub hl [0] rfl)
          · refine lv_lload_n (pc := 56) hexec hb dX8_append_56 rfl (lv_at hl 1 rfl) ?_
            refine lv_iload (pc := 57) hexec hb dX8_append_57 (lv_at hl 2 rfl) ?_
            obtain ⟨r59, hc, hf⟩ := bd1_e hf
            refine kSp (pc := 59) (S := ⟨hexec, hb, hml, hown, hts⟩) hP hD hG hA hS [] [0, 1, 2] [0, 1, 2] (w2 := (w_X8_append g a0 a1 a2 u0_0 u0_1 u0_2 u0_3 u0_5 u0_6 u0_7 u0_8 u0_9 u1_0 u1_1 u1_4 u1_5 u1_6 u1_7 u1_8 u1_9 u1_10 u1_11 u1_12 u1_13 x1_length_1 y2_text_1)) rfl rfl rfl rfl rfl rfl (by decide) (c_X8_byteOf l g _ p1 v4_2 r59 hc) gX8_append_X8_byteOf rfl hs_X8_byteOf ⟨nle rfl, nle rfl⟩ (rest := []) rfl rfl hl.1 (nle rfl) dX8_append_59 (fun H locs hP hD hS => ?_)
            obtain ⟨j78, ej78, hf⟩ := bvf2 hf
            have hj78 : ∀ (x1_length_3 : Int32) (y2_text_3 : Nat → Int32) (H : Heap) (locs : List Loc) (ls : Array Slot), j78 x1_length_3 y2_text_3 = some q51 → va_P g.1 vwCl (w_X8_append g a0 a1 a2 u0_0 u0_1 u0_2 u0_3 u0_5 u0_6 u0_7 u0_8 u0_9 u1_0 u1_1 u1_4 u1_5 u1_6 u1_7 u1_8 u1_9 u1_10 u1_11 u1_12 u1_13 x1_length_3 y2_text_3) H → va_D A (w_X8_append g a0 a1 a2 u0_0 u0_1 u0_2 u0_3 u0_5 u0_6 u0_7 u0_8 u0_9 u1_0 u1_1 u1_4 u1_5 u1_6 u1_7 u1_8 u1_9 u1_10 u1_11 u1_12 u1_13 x1_length_3 y2_text_3) → va_S A s.heap H locs → lv_has ls 5 [(0, .ref a0), (1, .long p1), (4, .int v4_2)] → W p l e (RM 2 46) s m args below meth c H locs 0 0 Q (F0 m 78 ls []) := by
              intro x1_length_3 y2_text_3 H locs ls hf hP hD hS hl
              have hf := (ej78 x1_length_3 y2_text_3).symm.trans hf
              obtain ⟨v4_3, ev4_3, hf⟩ := bv_e hf
              refine k_iinc (pc := 78) hexec hb dX8_append_78 kq_m8 hl (k := 2) rfl ev4_3 (nle rfl) rfl (fun ls (hl : lv_has ls 5 [(4, .int v4_3), (0, .ref a0), (1, .long p1)]) => ?_)
              refine lv_goto (pc := 81) hexec hb dX8_append_81 (tgt := 51) rfl ?_
              exact ih51 _ _ _ _ _ _ (sl3 hf hk51) hP hD hS (lv_sub hl [1, 2, 0] rfl)
            refine kb_eq (pc := 62) hexec hb dX8_append_62 (tgt := 78) rfl hf (fun hc hf => ?_) (fun hc hf => ?_)
            · exact hj78 _ _ _ _ _ hf hP hD hS (lv_sub hl [0, 1, 2] rfl)
            · refine lv_aload_n (pc := 65) hexec hb dX8_append_65 rfl (lv_at hl 0 rfl) ?_
              refine kg_get (pc := 66) hexec hb (own := RX8) hWX8 hown hG hP 0 rfl rfl 4 (nle rfl) (hts _ (List.mem_cons_of_mem _ (List.mem_append_left _ (List.mem_append_left _ (List.mem_of_getElem? (i := 0) rfl))))) rfl rfl dX8_append_66 ?_
              refine lv_lload_n (pc := 69) hexec hb dX8_append_69 rfl (lv_at hl 1 rfl) ?_
              refine lv_iload (pc := 70) hexec hb dX8_append_70 (lv_at hl 2 rfl) ?_
              obtain ⟨r72, hc, hf⟩ := bd1_e hf
              refine kSp (pc := 72) (S := ⟨hexec, hb, hml, hown, hts⟩) hP hD hG hA hS [] [0, 1, 2] [0, 1, 2] (w2 := (w_X8_append g a0 a1 a2 u0_0 u0_1 u0_2 u0_3 u0_5 u0_6 u0_7 u0_8 u0_9 u1_0 u1_1 u1_4 u1_5 u1_6 u1_7 u1_8 u1_9 u1_10 u1_11 u1_12 u1_13 x1_length_1 y2_text_1)) rfl rfl rfl rfl rfl rfl (by decide) (c_X8_byteOf l g _ p1 v4_2 r72 hc) gX8_append_X8_byteOf rfl hs_X8_byteOf ⟨nle rfl, nle rfl⟩ (rest := [.ref a1]) rfl rfl hl.1 (nle rfl) dX8_append_72 (fun H locs hP hD hS => ?_)
              obtain ⟨x1_length_4, y2_text_4, hc, hf⟩ := bd2_e hf
              refine kVp (pc := 75) (S := ⟨hexec, hb, hml, hown, hts⟩) hP hD hG hA hS [1, 2] [0] [0, 1, 2] (w2 := (w_X8_append g a0 a1 a2 u0_0 u0_1 u0_2 u0_3 u0_5 u0_6 u0_7 u0_8 u0_9 u1_0 u1_1 u1_4 u1_5 u1_6 u1_7 u1_8 u1_9 u1_10 u1_11 u1_12 u1_13 x1_length_4 y2_text_4)) rfl rfl rfl rfl rfl rfl (by decide) (c_X5_addByte l g a1 a2 _ u1_0 u1_1 u1_4 u1_5 u1_6 u1_7 u1_8 u1_9 u1_10 u1_11 u1_12 u1_13 x1_length_1 y2_text_1 r72 x1_length_4 y2_text_4 hc) gX8_append_X5_addByte rfl hv_X5_addByte ⟨nle rfl, nle rfl⟩ 5 0 rfl rfl rfl (rest := []) rfl rfl hl.1 (nle rfl) dX8_append_75 (fun H locs hP hD hS => ?_)
              exact hj78 _ _ _ _ _ hf hP hD hS (lv_sub hl [0, 1, 2] rfl)
      exact hL51 n _ _ _ _ _ _ hz hP hD hS (lv_sub hl [1, 2, 0] rfl)
    · refine lv_bipush (pc := 44) hexec hb dX8_append_44 kb_m2 ?_
      cases hf
      exact ke_i hQ hexec hb hr hP hD hS dX8_append_46 hlocks
  obtain ⟨n, hz⟩ := lq2_e hz
  have hL6 : ∀ (n : Nat) (v3 : Int32) (v4 : Int32) (H : Heap) (locs : List Loc) (ls : Array Slot), it2 l6 n v3 v4 = some v3_1 → va_P g.1 vwCl (w_X8_append g a0 a1 a2 u0_0 u0_1 u0_2 u0_3 u0_5 u0_6 u0_7 u0_8 u0_9 u1_0 u1_1 u1_4 u1_5 u1_6 u1_7 u1_8 u1_9 u1_10 u1_11 u1_12 u1_13 x1_length y2_text) H → va_D A (w_X8_append g a0 a1 a2 u0_0 u0_1 u0_2 u0_3 u0_5 u0_6 u0_7 u0_8 u0_9 u1_0 u1_1 u1_4 u1_5 u1_6 u1_7 u1_8 u1_9 u1_10 u1_11 u1_12 u1_13 x1_length y2_text) → va_S A s.heap H locs → lv_has ls 5 [(0, .ref a0), (1, .long p1), (3, .int v3), (4, .int v4)] → W p l e (RM 2 46) s m args below meth c H locs 0 0 Q (F0 m 6 ls []) := by
    intro n
    induction n with
    | zero =>
      intro v3 v4 H locs ls hf hP hD hS hl
      exact it2_0 hf
    | succ n6 ih6 =>
      intro v3 v4 H locs ls hf hP hD hS hl
      obtain ⟨q6, hf, hk6⟩ := it2_e hf
      have hf := (el6 v3 v4).symm.trans hf
      refine lv_iload (pc := 6) hexec hb dX8_append_6 (lv_at hl 3 rfl) ?_
      refine kb_lt (pc := 8) hexec hb dX8_append_8 (tgt := 29) rfl hf (fun hc hf => ?_) (fun hc hf => ?_)
      · cases sr2 hf hk6
        exact hE6 _ _ _ hP hD hS (lv_sub hl [0, 1, 2] rfl)
      · refine lv_lload_n (pc := 11) hexec hb dX8_append_11 rfl (lv_at hl 1 rfl) ?_
        refine lv_iload (pc := 12) hexec hb dX8_append_12 (lv_at hl 3 rfl) ?_
        obtain ⟨r14, hc, hf⟩ := bd1_e hf
        refine kSp (pc := 14) (S := ⟨hexec, hb, hml, hown, hts⟩) hP hD hG hA hS [] [0, 1, 2] [0, 1, 2] (w2 := (w_X8_append g a0 a1 a2 u0_0 u0_1 u0_2 u0_3 u0_5 u0_6 u0_7 u0_8 u0_9 u1_0 u1_1 u1_4 u1_5 u1_6 u1_7 u1_8 u1_9 u1_10 u1_11 u1_12 u1_13 x1_length y2_text)) rfl rfl rfl rfl rfl rfl (by decide) (c_X8_byteOf l g _ p1 v4 r14 hc) gX8_append_X8_byteOf rfl hs_X8_byteOf ⟨nle rfl, nle rfl⟩ (rest := []) rfl rfl hl.1 (nle rfl) dX8_append_14 (fun H locs hP hD hS => ?_)
        obtain ⟨j23, ej23, hf⟩ := bvf1 hf
        have hj23 : ∀ (v3_2 : Int32) (H : Heap) (locs : List Loc) (ls : Array Slot), j23 v3_2 = some q6 → va_P g.1 vwCl (w_X8_append g a0 a1 a2 u0_0 u0_1 u0_2 u0_3 u0_5 u0_6 u0_7 u0_8 u0_9 u1_0 u1_1 u1_4 u1_5 u1_6 u1_7 u1_8 u1_9 u1_10 u1_11 u1_12 u1_13 x1_length y2_text) H → va_D A (w_X8_append g a0 a1 a2 u0_0 u0_1 u0_2 u0_3 u0_5 u0_6 u0_7 u0_8 u0_9 u1_0 u1_1 u1_4 u1_5 u1_6 u1_7 u1_8 u1_9 u1_10 u1_11 u1_12 u1_13 x1_length y2_text) → va_S A s.heap H locs → lv_has ls 5 [(0, .ref a0), (1, .long p1), (3, .int v3_2), (4, .int v4)] → W p l e (RM 2 46) s m args below meth c H locs 0 0 Q (F0 m 23 ls []) := by
          intro v3_2 H locs ls hf hP hD hS hl
          have hf := (ej23 v3_2).symm.trans hf
          obtain ⟨v4_1, ev4_1, hf⟩ := bv_e hf
          refine k_iinc (pc := 23) hexec hb dX8_append_23 kq_m8 hl (k := 3) rfl ev4_1 (nle rfl) rfl (fun ls (hl : lv_has ls 5 [(4, .int v4_1), (0, .ref a0), (1, .long p1), (3, .int v3_2)]) => ?_)
          refine lv_goto (pc := 26) hexec hb dX8_append_26 (tgt := 6) rfl ?_
          exact ih6 _ _ _ _ _ (sl2 hf hk6) hP hD hS (lv_sub hl [1, 2, 3, 0] rfl)
        refine kb_eq (pc := 17) hexec hb dX8_append_17 (tgt := 23) rfl hf (fun hc hf => ?_) (fun hc hf => ?_)
        · exact hj23 _ _ _ _ hf hP hD hS (lv_sub hl [0, 1, 2, 3] rfl)
        · obtain ⟨v3_3, ev3_3, hf⟩ := bv_e hf
          refine k_iinc (pc := 20) hexec hb dX8_append_20 kq_1 hl (k := 2) rfl ev3_3 (nle rfl) rfl (fun ls (hl : lv_has ls 5 [(3, .int v3_3), (0, .ref a0), (1, .long p1), (4, .int v4)]) => ?_)
          exact hj23 _ _ _ _ hf hP hD hS (lv_sub hl [1, 2, 0, 3] rfl)
  exact hL6 n _ _ _ _ _ hz hP hD hS (lv_sub hl [2, 3, 1, 0] rfl)
abbrev w_X8_loadError (g : GE) (a0 : Nat) (u0_0 u0_1 u0_2 u0_3 u0_4 u0_6 u0_7 u0_8 u0_9 : Value) (x0_errorKind : Int32) : va_W := [(a0, .inr (8, [u0_0, u0_1, u0_2, u0_3, u0_4, .int x0_errorKind, u0_6, u0_7, u0_8, u0_9]))]
noncomputable def f_X8_loadError (x0_errorKind : Int32)  : Option (Int32) :=
  some x0_errorKind
set_option maxRecDepth 4000 in
theorem c_X8_loadError (l : Launch) (g : GE) (a0 : Nat) (sz : Nat) (u0_0 u0_1 u0_2 u0_3 u0_4 u0_6 u0_7 u0_8 u0_9 : Value) (x0_errorKind : Int32)  (r : Int32) (hf : f_X8_loadError x0_errorKind = some r) : MI l g yX8_loadError wsX8_loadError 1 24 [.ref a0] (w_X8_loadError g a0 u0_0 u0_1 u0_2 u0_3 u0_4 u0_6 u0_7 u0_8 u0_9 x0_errorKind) sz (some (.int r)) (w_X8_loadError g a0 u0_0 u0_1 u0_2 u0_3 u0_4 u0_6 u0_7 u0_8 u0_9 x0_errorKind) := by
  refine MI.start (cc := cX8_loadError) (maxL := 1) (ret := (some .int)) rfl rfl (nle rfl) ?_
  intro p e s m args below meth c A ls Q hQ hexec hb hr hts hown hlocks hml hA hP hD hG hS hl
  unfold f_X8_loadError at hf
  have hWX8 : ∀ w ∈ wsX80, w.before args s = true := fun w h => hts w (List.mem_cons_of_mem _ (List.mem_append_right _ h))
  have hS : va_S A s.heap s.heap [] := hS
  refine lv_aload_n (pc := 0) hexec hb dX8_loadError_0 rfl (lv_at hl 0 rfl) ?_
  refine kg_get (pc := 1) hexec hb (own := RX8) hWX8 hown hG hP 0 rfl rfl 5 (nle rfl) (hts _ (List.mem_cons_of_mem _ (List.mem_append_left _ (List.mem_of_getElem? (i := 0) rfl)))) rfl rfl dX8_loadError_1 ?_
  cases hf
  exact ke_i hQ hexec hb hr hP hD hS dX8_loadError_4 hlocks
abbrev w_X8_loadStatement (g : GE) (a0 : Nat) (u0_0 u0_1 u0_2 u0_3 u0_4 u0_5 u0_7 u0_8 u0_9 : Value) (x0_errorStatement : Int32) : va_W := [(a0, .inr (8, [u0_0, u0_1, u0_2, u0_3, u0_4, u0_5, .int x0_errorStatement, u0_7, u0_8, u0_9]))]
noncomputable def f_X8_loadStatement (x0_errorStatement : Int32)  : Option (Int32) :=
  some x0_errorStatement
set_option maxRecDepth 4000 in
theorem c_X8_loadStatement (l : Launch) (g : GE) (a0 : Nat) (sz : Nat) (u0_0 u0_1 u0_2 u0_3 u0_4 u0_5 u0_7 u0_8 u0_9 : Value) (x0_errorStatement : Int32)  (r : Int32) (hf : f_X8_loadStatement x0_errorStatement = some r) : MI l g yX8_loadStatement wsX8_loadStatement 1 24 [.ref a0] (w_X8_loadStatement g a0 u0_0 u0_1 u0_2 u0_3 u0_4 u0_5 u0_7 u0_8 u0_9 x0_errorStatement) sz (some (.int r)) (w_X8_loadStatement g a0 u0_0 u0_1 u0_2 u0_3 u0_4 u0_5 u0_7 u0_8 u0_9 x0_errorStatement) := by
  refine MI.start (cc := cX8_loadStatement) (maxL := 1) (ret := (some .int)) rfl rfl (nle rfl) ?_
  intro p e s m args below meth c A ls Q hQ hexec hb hr hts hown hlocks hml hA hP hD hG hS hl
  unfold f_X8_loadStatement at hf
  have hWX8 : ∀ w ∈ wsX80, w.before args s = true := fun w h => hts w (List.mem_cons_of_mem _ (List.mem_append_right _ h))
  have hS : va_S A s.heap s.heap [] := hS
  refine lv_aload_n (pc := 0) hexec hb dX8_loadStatement_0 rfl (lv_at hl 0 rfl) ?_
  refine kg_get (pc := 1) hexec hb (own := RX8) hWX8 hown hG hP 0 rfl rfl 6 (nle rfl) (hts _ (List.mem_cons_of_mem _ (List.mem_append_left _ (List.mem_of_getElem? (i := 0) rfl)))) rfl rfl dX8_loadStatement_1 ?_
  cases hf
  exact ke_i hQ hexec hb hr hP hD hS dX8_loadStatement_4 hlocks
abbrev w_X8_needCell (g : GE) (a0 a1 a2 : Nat) (u0_1 u0_2 u0_3 u0_4 u0_5 u0_6 u0_7 u0_8 u0_9 u1_1 u1_2 u1_3 u1_4 u2_2 u2_3 u2_4 u2_5 : Value) (x2_rows : Int32) (x2_columns : Int32) : va_W := [(a0, .inr (8, [.ref a1, u0_1, u0_2, u0_3, u0_4, u0_5, u0_6, u0_7, u0_8, u0_9])), (a1, .inr (6, [.ref a2, u1_1, u1_2, u1_3, u1_4])), (a2, .inr (1, [.int x2_rows, .int x2_columns, u2_2, u2_3, u2_4, u2_5]))]
noncomputable def f_X8_needCell (x2_rows : Int32) (x2_columns : Int32) (p1 : Int32) : Option (Unit) :=
  bv (fun (_ : Unit) => ((
    none
    ) : Option (Unit))) fun j18 =>
  (if p1 < 0 then (
    j18 ()
  ) else (
    bd1 (f_X1_cells x2_rows x2_columns) fun (r12 : Int32) =>
    (if p1 < r12 then (
      some ()
    ) else (
      j18 ()
    ))
  ))
set_option maxRecDepth 4000 in
theorem c_X8_needCell (l : Launch) (g : GE) (a0 a1 a2 : Nat) (sz : Nat) (u0_1 u0_2 u0_3 u0_4 u0_5 u0_6 u0_7 u0_8 u0_9 u1_1 u1_2 u1_3 u1_4 u2_2 u2_3 u2_4 u2_5 : Value) (x2_rows : Int32) (x2_columns : Int32) (p1 : Int32) (hf : f_X8_needCell x2_rows x2_columns p1 = some ()) : MI l g yX8_needCell wsX8_needCell 2 44 [.ref a0, .int p1] (w_X8_needCell g a0 a1 a2 u0_1 u0_2 u0_3 u0_4 u0_5 u0_6 u0_7 u0_8 u0_9 u1_1 u1_2 u1_3 u1_4 u2_2 u2_3 u2_4 u2_5 x2_rows x2_columns) sz none (w_X8_needCell g a0 a1 a2 u0_1 u0_2 u0_3 u0_4 u0_5 u0_6 u0_7 u0_8 u0_9 u1_1 u1_2 u1_3 u1_4 u2_2 u2_3 u2_4 u2_5 x2_rows x2_columns) := by
  refine MI.start (cc := cX8_needCell) (maxL := 2) (ret := none) rfl rfl (nle rfl) ?_
  intro p e s m args below meth c A ls Q hQ hexec hb hr hts hown hlocks hml hA hP hD hG hS hl
  unfold f_X8_needCell at hf
  have hWX1 : ∀ w ∈ wsX10, w.before args s = true := fun w h => hts w (List.mem_cons_of_mem _ (List.mem_append_left _ (List.mem_append_right _ h)))
  have hWX6 : ∀ w ∈ wsX60, w.before args s = true := fun w h => hts w (List.mem_cons_of_mem _ (List.mem_append_left _ (List.mem_append_left _ (List.mem_append_right _ h))))
  have hWX8 : ∀ w ∈ wsX80, w.before args s = true := fun w h => hts w (List.mem_cons_of_mem _ (List.mem_append_left _ (List.mem_append_left _ (List.mem_append_left _ (List.mem_append_right _ h)))))
  have hS : va_S A s.heap s.heap [] := hS
  refine lv_iload_n (pc := 0) hexec hb dX8_needCell_0 rfl (lv_at hl 1 rfl) ?_
  obtain ⟨j18, ej18, hf⟩ := bvf1 hf
  have hj18 : ∀ (u : Unit) (H : Heap) (locs : List Loc) (ls : Array Slot), j18 u = some () → va_P g.1 vwCl (w_X8_needCell g a0 a1 a2 u0_1 u0_2 u0_3 u0_4 u0_5 u0_6 u0_7 u0_8 u0_9 u1_1 u1_2 u1_3 u1_4 u2_2 u2_3 u2_4 u2_5 x2_rows x2_columns) H → va_D A (w_X8_needCell g a0 a1 a2 u0_1 u0_2 u0_3 u0_4 u0_5 u0_6 u0_7 u0_8 u0_9 u1_1 u1_2 u1_3 u1_4 u2_2 u2_3 u2_4 u2_5 x2_rows x2_columns) → va_S A s.heap H locs → lv_has ls 2 [] → W p l e (RM 2 44) s m args below meth c H locs 0 0 Q (F0 m 18 ls []) := by
    intro u H locs ls hf hP hD hS hl
    have hf := (ej18 u).symm.trans hf
    cases hf
  refine kb_lt (pc := 1) hexec hb dX8_needCell_1 (tgt := 18) rfl hf (fun hc hf => ?_) (fun hc hf => ?_)
  · exact hj18 _ _ _ _ hf hP hD hS (lv_sub hl [] rfl)
  · refine lv_iload_n (pc := 4) hexec hb dX8_needCell_4 rfl (lv_at hl 1 rfl) ?_
    refine lv_aload_n (pc := 5) hexec hb dX8_needCell_5 rfl (lv_at hl 0 rfl) ?_
    refine kg_get (pc := 6) hexec hb (own := RX8) hWX8 hown hG hP 0 rfl rfl 0 (nle rfl) (hts _ (List.mem_cons_of_mem _ (List.mem_append_left _ (List.mem_append_left _ (List.mem_append_left _ (List.mem_append_left _ (List.mem_of_getElem? (i := 2) rfl))))))) rfl rfl dX8_needCell_6 ?_
    refine kg_getN (pc := 9) hexec hb (own := RX8) hWX6 hown hG hP 1 rfl rfl 0 (nle rfl) 21 rfl rfl rfl dX8_needCell_9 ?_
    obtain ⟨r12, hc, hf⟩ := bd1_e hf
    refine kVp (pc := 12) (S := ⟨hexec, hb, hml, hown, hts⟩) hP hD hG hA hS [2] [0, 1] [0, 1, 2] (w2 := (w_X8_needCell g a0 a1 a2 u0_1 u0_2 u0_3 u0_4 u0_5 u0_6 u0_7 u0_8 u0_9 u1_1 u1_2 u1_3 u1_4 u2_2 u2_3 u2_4 u2_5 x2_rows x2_columns)) rfl rfl rfl rfl rfl rfl (by decide) (c_X1_cells l g a2 _ u2_2 u2_3 u2_4 u2_5 x2_rows x2_columns r12 hc) gX8_needCell_X1_cells rfl hv_X1_cells ⟨nle rfl, nle rfl⟩ 1 0 rfl rfl rfl (rest := [.int p1]) rfl rfl hl.1 (nle rfl) dX8_needCell_12 (fun H locs hP hD hS => ?_)
    refine ki_lt (pc := 15) hexec hb dX8_needCell_15 (tgt := 29) rfl hf (fun hc hf => ?_) (fun hc hf => ?_)
    · cases hf
      exact ke_v hQ hexec hb hr hP hD hS dX8_needCell_29 hlocks
    · exact hj18 _ _ _ _ hf hP hD hS (lv_sub hl [] rfl)
abbrev w_X8_cell (g : GE) (a0 a1 a2 a3 a4 a5 a6 a7 a8 : Nat) (u0_1 u0_2 u0_3 u0_4 u0_5 u0_6 u0_7 u0_8 u0_9 u1_2 u2_2 u2_5 u3_1 u3_3 u3_4 u3_5 : Value) (x2_rows : Int32) (x2_columns : Int32) (x3_count : Int32) (y4_letterOn : Nat → Int32) (y5_namesOn : Nat → Int32) (y6_land : Nat → Int32) (y7_riverOf : Nat → Int32) (y8_home : Nat → Int32) : va_W := [(a0, .inr (8, [.ref a1, u0_1, u0_2, u0_3, u0_4, u0_5, u0_6, u0_7, u0_8, u0_9])), (a1, .inr (6, [.ref a2, .ref a3, u1_2, .ref a5, .ref a4])), (a2, .inr (1, [.int x2_rows, .int x2_columns, u2_2, .ref a6, .ref a7, u2_5])), (a3, .inr (2, [.int x3_count, u3_1, .ref a8, u3_3, u3_4, u3_5])), (a4, .inl (g.2.1 0, 144, .inl y4_letterOn)), (a5, .inl (g.2.1 0, 144, .inl y5_namesOn)), (a6, .inl (g.2.1 1, 144, .inl y6_land)), (a7, .inl (g.2.1 0, 144, .inl y7_riverOf)), (a8, .inl (g.2.1 0, 8, .inl y8_home))]
noncomputable def f_X8_cell (x2_rows : Int32) (x2_columns : Int32) (x3_count : Int32) (y4_letterOn : Nat → Int32) (y5_namesOn : Nat → Int32) (y6_land : Nat → Int32) (y7_riverOf : Nat → Int32) (y8_home : Nat → Int32) (p1 : Int32) (p2 : Int32) : Option (Int32) :=
  bd1 (f_X8_needCell x2_rows x2_columns p1) fun (_ : Unit) =>
  (if p2 = 0 then (
    bd1 (f_X1_isRiver y7_riverOf p1) fun (r52 : Int32) =>
    (if r52 = 0 then (
      bd1 (f_X1_isLand y6_land p1) fun (r70 : Int32) =>
      (if r70 = 0 then (
        some 0
      ) else (
        some 1
      ))
    ) else (
      some 2
    ))
  ) else (
  (if p2 = 1 then (
    bd1 (f_X2_inCell x3_count y8_home p1) fun (r90 : Int32) =>
    some r90
  ) else (
  (if p2 = 2 then (
    bd1 (f_X1_riverIn y7_riverOf p1) fun (r102 : Int32) =>
    some r102
  ) else (
  (if p2 = 3 then (
    bd1 (f_X6_letterIn y4_letterOn y5_namesOn p1) fun (r111 : Int32) =>
    some r111
  ) else (
  (if p2 = 4 then (
    bd1 (f_X6_namesIn y5_namesOn p1) fun (r120 : Int32) =>
    some r120
  ) else (
  (if p2 = 5 then (
    bd1 (f_X1_depthOf x2_rows x2_columns y6_land p1) fun (r132 : Int32) =>
    some r132
  ) else (
  none
  ))
  ))
  ))
  ))
  ))
  ))
set_option maxRecDepth 4000 in
theorem c_X8_cell (l : Launch) (g : GE) (a0 a1 a2 a3 a4 a5 a6 a7 a8 : Nat) (sz : Nat) (u0_1 u0_2 u0_3 u0_4 u0_5 u0_6 u0_7 u0_8 u0_9 u1_2 u2_2 u2_5 u3_1 u3_3 u3_4 u3_5 : Value) (x2_rows : Int32) (x2_columns : Int32) (x3_count : Int32) (y4_letterOn : Nat → Int32) (y5_namesOn : Nat → Int32) (y6_land : Nat → Int32) (y7_riverOf : Nat → Int32) (y8_home : Nat → Int32) (p1 : Int32) (p2 : Int32) (r : Int32) (hf : f_X8_cell x2_rows x2_columns x3_count y4_letterOn y5_namesOn y6_land y7_riverOf y8_home p1 p2 = some r) : MI l g yX8_cell wsX8_cell 3 73 [.ref a0, .int p1, .int p2] (w_X8_cell g a0 a1 a2 a3 a4 a5 a6 a7 a8 u0_1 u0_2 u0_3 u0_4 u0_5 u0_6 u0_7 u0_8 u0_9 u1_2 u2_2 u2_5 u3_1 u3_3 u3_4 u3_5 x2_rows x2_columns x3_count y4_letterOn y5_namesOn y6_land y7_riverOf y8_home) sz (some (.int r)) (w_X8_cell g a0 a1 a2 a3 a4 a5 a6 a7 a8 u0_1 u0_2 u0_3 u0_4 u0_5 u0_6 u0_7 u0_8 u0_9 u1_2 u2_2 u2_5 u3_1 u3_3 u3_4 u3_5 x2_rows x2_columns x3_count y4_letterOn y5_namesOn y6_land y7_riverOf y8_home) := by
  refine MI.start (cc := cX8_cell) (maxL := 3) (ret := (some .int)) rfl rfl (nle rfl) ?_
  intro p e s m args below meth c A ls Q hQ hexec hb hr hts hown hlocks hml hA hP hD hG hS hl
  unfold f_X8_cell at hf
  have hWX1 : ∀ w ∈ wsX10, w.before args s = true := fun w h => hts w (List.mem_cons_of_mem _ (List.mem_append_left _ (List.mem_append_left _ (List.mem_append_left _ (List.mem_append_right _ h)))))
  have hWX2 : ∀ w ∈ wsX20, w.before args s = true := fun w h => hts w (List.mem_cons_of_mem _ (List.mem_append_left _ (List.mem_append_left _ (List.mem_append_right _ h))))
  have hWX6 : ∀ w ∈ wsX60, w.before args s = true := fun w h => hts w (List.mem_cons_of_mem _ (List.mem_append_left _ (List.mem_append_left _ (List.mem_append_left _ (List.mem_append_left _ (List.mem_append_right _ h))))))
  have hWX8 : ∀ w ∈ wsX80, w.before args s = true := fun w h => hts w (List.mem_cons_of_mem _ (List.mem_append_left _ (List.mem_append_left _ (List.mem_append_left _ (List.mem_append_left _ (List.mem_append_left _ (List.mem_append_right _ h)))))))
  have hS : va_S A s.heap s.heap [] := hS
  refine lv_aload_n (pc := 0) hexec hb dX8_cell_0 rfl (lv_at hl 0 rfl) ?_
  refine lv_iload_n (pc := 1) hexec hb dX8_cell_1 rfl (lv_at hl 1 rfl) ?_
  obtain ⟨_, hc, hf⟩ := bd1_e hf
  refine kVp (pc := 2) (S := ⟨hexec, hb, hml, hown, hts⟩) hP hD hG hA hS [0, 1, 2] [3, 4, 5, 6, 7, 8] [6, 7, 8, 0, 1, 2, 3, 4, 5] (w2 := (w_X8_cell g a0 a1 a2 a3 a4 a5 a6 a7 a8 u0_1 u0_2 u0_3 u0_4 u0_5 u0_6 u0_7 u0_8 u0_9 u1_2 u2_2 u2_5 u3_1 u3_3 u3_4 u3_5 x2_rows x2_columns x3_count y4_letterOn y5_namesOn y6_land y7_riverOf y8_home)) rfl rfl rfl rfl rfl rfl (by decide) (c_X8_needCell l g a0 a1 a2 _ u0_1 u0_2 u0_3 u0_4 u0_5 u0_6 u0_7 u0_8 u0_9 (.ref a3) u1_2 (.ref a5) (.ref a4) u2_2 (.ref a6) (.ref a7) u2_5 x2_rows x2_columns p1 hc) gX8_cell_X8_needCell rfl hv_X8_needCell ⟨nle rfl, nle rfl⟩ 8 0 rfl rfl rfl (rest := []) rfl rfl hl.1 (nle rfl) dX8_cell_2 (fun H locs hP hD hS => ?_)
  refine lv_iload_n (pc := 5) hexec hb dX8_cell_5 rfl (lv_at hl 2 rfl) ?_
  rcases ite_or hf with ⟨hc0, hf⟩ | ⟨hc0, hf⟩
  · refine lv_tableIn (pc := 6) hexec hb dX8_cell_6 (by rw [hc0]; decide) (by rw [hc0]; decide) (by rw [hc0]; rfl) (tgt := 44) rfl ?_
    refine lv_aload_n (pc := 44) hexec hb dX8_cell_44 rfl (lv_at hl 0 rfl) ?_
    refine kg_get (pc := 45) hexec hb (own := RX8) hWX8 hown hG hP 0 rfl rfl 0 (nle rfl) (hts _ (List.mem_cons_of_mem _ (List.mem_append_left _ (List.mem_append_left _ (List.mem_append_left _ (List.mem_append_left _ (List.mem_append_left _ (List.mem_append_left _ (List.mem_append_left _ (List.mem_of_getElem? (i := 2) rfl)))))))))) rfl rfl dX8_cell_45 ?_
    refine kg_getN (pc := 48) hexec hb (own := RX8) hWX6 hown hG hP 1 rfl rfl 0 (nle rfl) 21 rfl rfl rfl dX8_cell_48 ?_
    refine lv_iload_n (pc := 51) hexec hb dX8_cell_51 rfl (lv_at hl 1 rfl) ?_
    obtain ⟨r52, hc, hf⟩ := bd1_e hf
    refine kVp (pc := 52) (S := ⟨hexec, hb, hml, hown, hts⟩) hP hD hG hA hS [2, 7] [0, 1, 3, 4, 5, 6, 8] [0, 1, 7, 2, 3, 4, 5, 8, 6] (w2 := (w_X8_cell g a0 a1 a2 a3 a4 a5 a6 a7 a8 u0_1 u0_2 u0_3 u0_4 u0_5 u0_6 u0_7 u0_8 u0_9 u1_2 u2_2 u2_5 u3_1 u3_3 u3_4 u3_5 x2_rows x2_columns x3_count y4_letterOn y5_namesOn y6_land y7_riverOf y8_home)) rfl rfl rfl rfl rfl rfl (by decide) (c_X1_isRiver l g a2 a7 _ (.int x2_rows) (.int x2_columns) u2_2 (.ref a6) u2_5 y7_riverOf p1 r52 hc) gX8_cell_X1_isRiver rfl hv_X1_isRiver ⟨nle rfl, nle rfl⟩ 1 0 rfl rfl rfl (rest := []) rfl rfl hl.1 (nle rfl) dX8_cell_52 (fun H locs hP hD hS => ?_)
    refine kb_eq (pc := 55) hexec hb dX8_cell_55 (tgt := 62) rfl hf (fun hc hf => ?_) (fun hc hf => ?_)
    · refine lv_aload_n (pc := 62) hexec hb dX8_cell_62 rfl (lv_at hl 0 rfl) ?_
      refine kg_get (pc := 63) hexec hb (own := RX8) hWX8 hown hG hP 0 rfl rfl 0 (nle rfl) (hts _ (List.mem_cons_of_mem _ (List.mem_append_left _ (List.mem_append_left _ (List.mem_append_left _ (List.mem_append_left _ (List.mem_append_left _ (List.mem_append_left _ (List.mem_append_left _ (List.mem_of_getElem? (i := 2) rfl)))))))))) rfl rfl dX8_cell_63 ?_
      refine kg_getN (pc := 66) hexec hb (own := RX8) hWX6 hown hG hP 1 rfl rfl 0 (nle rfl) 21 rfl rfl rfl dX8_cell_66 ?_
      refine lv_iload_n (pc := 69) hexec hb dX8_cell_69 rfl (lv_at hl 1 rfl) ?_
      obtain ⟨r70, hc, hf⟩ := bd1_e hf
      refine kVp (pc := 70) (S := ⟨hexec, hb, hml, hown, hts⟩) hP hD hG hA hS [2, 6] [0, 1, 3, 4, 5, 7, 8] [0, 1, 7, 2, 3, 4, 8, 5, 6] (w2 := (w_X8_cell g a0 a1 a2 a3 a4 a5 a6 a7 a8 u0_1 u0_2 u0_3 u0_4 u0_5 u0_6 u0_7 u0_8 u0_9 u1_2 u2_2 u2_5 u3_1 u3_3 u3_4 u3_5 x2_rows x2_columns x3_count y4_letterOn y5_namesOn y6_land y7_riverOf y8_home)) rfl rfl rfl rfl rfl rfl (by decide) (c_X1_isLand l g a2 a6 _ (.int x2_rows) (.int x2_columns) u2_2 (.ref a7) u2_5 y6_land p1 r70 hc) gX8_cell_X1_isLand rfl hv_X1_isLand ⟨nle rfl, nle rfl⟩ 1 0 rfl rfl rfl (rest := []) rfl rfl hl.1 (nle rfl) dX8_cell_70 (fun H locs hP hD hS => ?_)
      refine kb_eq (pc := 73) hexec hb dX8_cell_73 (tgt := 80) rfl hf (fun hc hf => ?_) (fun hc hf => ?_)
      · refine lv_iconst (pc := 80) hexec hb dX8_cell_80 ki_0 ?_
        cases hf
        exact ke_i hQ hexec hb hr hP hD hS dX8_cell_81 hlocks
      · refine lv_iconst (pc := 76) hexec hb dX8_cell_76 ki_1 ?_
        refine lv_goto (pc := 77) hexec hb dX8_cell_77 (tgt := 81) rfl ?_
        cases hf
        exact ke_i hQ hexec hb hr hP hD hS dX8_cell_81 hlocks
    · refine lv_iconst (pc := 58) hexec hb dX8_cell_58 ki_2 ?_
      refine lv_goto (pc := 59) hexec hb dX8_cell_59 (tgt := 81) rfl ?_
      cases hf
      exact ke_i hQ hexec hb hr hP hD hS dX8_cell_81 hlocks
  rcases ite_or hf with ⟨hc1, hf⟩ | ⟨hc1, hf⟩
  · refine lv_tableIn (pc := 6) hexec hb dX8_cell_6 (by rw [hc1]; decide) (by rw [hc1]; decide) (by rw [hc1]; rfl) (tgt := 82) rfl ?_
    refine lv_aload_n (pc := 82) hexec hb dX8_cell_82 rfl (lv_at hl 0 rfl) ?_
    refine kg_get (pc := 83) hexec hb (own := RX8) hWX8 hown hG hP 0 rfl rfl 0 (nle rfl) (hts _ (List.mem_cons_of_mem _ (List.mem_append_left _ (List.mem_append_left _ (List.mem_append_left _ (List.mem_append_left _ (List.mem_append_left _ (List.mem_append_left _ (List.mem_append_left _ (List.mem_of_getElem? (i := 2) rfl)))))))))) rfl rfl dX8_cell_83 ?_
    refine kg_getN (pc := 86) hexec hb (own := RX8) hWX6 hown hG hP 1 rfl rfl 1 (nle rfl) 24 rfl rfl rfl dX8_cell_86 ?_
    refine lv_iload_n (pc := 89) hexec hb dX8_cell_89 rfl (lv_at hl 1 rfl) ?_
    obtain ⟨r90, hc, hf⟩ := bd1_e hf
    refine kVp (pc := 90) (S := ⟨hexec, hb, hml, hown, hts⟩) hP hD hG hA hS [3, 8] [0, 1, 2, 4, 5, 6, 7] [0, 1, 2, 7, 3, 4, 5, 6, 8] (w2 := (w_X8_cell g a0 a1 a2 a3 a4 a5 a6 a7 a8 u0_1 u0_2 u0_3 u0_4 u0_5 u0_6 u0_7 u0_8 u0_9 u1_2 u2_2 u2_5 u3_1 u3_3 u3_4 u3_5 x2_rows x2_columns x3_count y4_letterOn y5_namesOn y6_land y7_riverOf y8_home)) rfl rfl rfl rfl rfl rfl (by decide) (c_X2_inCell l g a3 a8 _ u3_1 u3_3 u3_4 u3_5 x3_count y8_home p1 r90 hc) gX8_cell_X2_inCell rfl hv_X2_inCell ⟨nle rfl, nle rfl⟩ 2 0 rfl rfl rfl (rest := []) rfl rfl hl.1 (nle rfl) dX8_cell_90 (fun H locs hP hD hS => ?_)
    cases hf
    exact ke_i hQ hexec hb hr hP hD hS dX8_cell_93 hlocks
  rcases ite_or hf with ⟨hc2, hf⟩ | ⟨hc2, hf⟩
  · refine lv_tableIn (pc := 6) hexec hb dX8_cell_6 (by rw [hc2]; decide) (by rw [hc2]; decide) (by rw [hc2]; rfl) (tgt := 94) rfl ?_
    refine lv_aload_n (pc := 94) hexec hb dX8_cell_94 rfl (lv_at hl 0 rfl) ?_
    refine kg_get (pc := 95) hexec hb (own := RX8) hWX8 hown hG hP 0 rfl rfl 0 (nle rfl) (hts _ (List.mem_cons_of_mem _ (List.mem_append_left _ (List.mem_append_left _ (List.mem_append_left _ (List.mem_append_left _ (List.mem_append_left _ (List.mem_append_left _ (List.mem_append_left _ (List.mem_of_getElem? (i := 2) rfl)))))))))) rfl rfl dX8_cell_95 ?_
    refine kg_getN (pc := 98) hexec hb (own := RX8) hWX6 hown hG hP 1 rfl rfl 0 (nle rfl) 21 rfl rfl rfl dX8_cell_98 ?_
    refine lv_iload_n (pc := 101) hexec hb dX8_cell_101 rfl (lv_at hl 1 rfl) ?_
    obtain ⟨r102, hc, hf⟩ := bd1_e hf
    refine kVp (pc := 102) (S := ⟨hexec, hb, hml, hown, hts⟩) hP hD hG hA hS [2, 7] [0, 1, 3, 4, 5, 6, 8] [0, 1, 7, 2, 3, 4, 5, 8, 6] (w2 := (w_X8_cell g a0 a1 a2 a3 a4 a5 a6 a7 a8 u0_1 u0_2 u0_3 u0_4 u0_5 u0_6 u0_7 u0_8 u0_9 u1_2 u2_2 u2_5 u3_1 u3_3 u3_4 u3_5 x2_rows x2_columns x3_count y4_letterOn y5_namesOn y6_land y7_riverOf y8_home)) rfl rfl rfl rfl rfl rfl (by decide) (c_X1_riverIn l g a2 a7 _ (.int x2_rows) (.int x2_columns) u2_2 (.ref a6) u2_5 y7_riverOf p1 r102 hc) gX8_cell_X1_riverIn rfl hv_X1_riverIn ⟨nle rfl, nle rfl⟩ 1 0 rfl rfl rfl (rest := []) rfl rfl hl.1 (nle rfl) dX8_cell_102 (fun H locs hP hD hS => ?_)
    cases hf
    exact ke_i hQ hexec hb hr hP hD hS dX8_cell_105 hlocks
  rcases ite_or hf with ⟨hc3, hf⟩ | ⟨hc3, hf⟩
  · refine lv_tableIn (pc := 6) hexec hb dX8_cell_6 (by rw [hc3]; decide) (by rw [hc3]; decide) (by rw [hc3]; rfl) (tgt := 106) rfl ?_
    refine lv_aload_n (pc := 106) hexec hb dX8_cell_106 rfl (lv_at hl 0 rfl) ?_
    refine kg_get (pc := 107) hexec hb (own := RX8) hWX8 hown hG hP 0 rfl rfl 0 (nle rfl) (hts _ (List.mem_cons_of_mem _ (List.mem_append_left _ (List.mem_append_left _ (List.mem_append_left _ (List.mem_append_left _ (List.mem_append_left _ (List.mem_append_left _ (List.mem_append_left _ (List.mem_of_getElem? (i := 2) rfl)))))))))) rfl rfl dX8_cell_107 ?_
    refine lv_iload_n (pc := 110) hexec hb dX8_cell_110 rfl (lv_at hl 1 rfl) ?_
    obtain ⟨r111, hc, hf⟩ := bd1_e hf
    refine kVp (pc := 111) (S := ⟨hexec, hb, hml, hown, hts⟩) hP hD hG hA hS [1, 4, 5] [0, 2, 3, 6, 7, 8] [0, 6, 1, 2, 7, 8, 3, 4, 5] (w2 := (w_X8_cell g a0 a1 a2 a3 a4 a5 a6 a7 a8 u0_1 u0_2 u0_3 u0_4 u0_5 u0_6 u0_7 u0_8 u0_9 u1_2 u2_2 u2_5 u3_1 u3_3 u3_4 u3_5 x2_rows x2_columns x3_count y4_letterOn y5_namesOn y6_land y7_riverOf y8_home)) rfl rfl rfl rfl rfl rfl (by decide) (c_X6_letterIn l g a1 a4 a5 _ (.ref a2) (.ref a3) u1_2 y4_letterOn y5_namesOn p1 r111 hc) gX8_cell_X6_letterIn rfl hv_X6_letterIn ⟨nle rfl, nle rfl⟩ 6 0 rfl rfl rfl (rest := []) rfl rfl hl.1 (nle rfl) dX8_cell_111 (fun H locs hP hD hS => ?_)
    cases hf
    exact ke_i hQ hexec hb hr hP hD hS dX8_cell_114 hlocks
  rcases ite_or hf with ⟨hc4, hf⟩ | ⟨hc4, hf⟩
  · refine lv_tableIn (pc := 6) hexec hb dX8_cell_6 (by rw [hc4]; decide) (by rw [hc4]; decide) (by rw [hc4]; rfl) (tgt := 115) rfl ?_
    refine lv_aload_n (pc := 115) hexec hb dX8_cell_115 rfl (lv_at hl 0 rfl) ?_
    refine kg_get (pc := 116) hexec hb (own := RX8) hWX8 hown hG hP 0 rfl rfl 0 (nle rfl) (hts _ (List.mem_cons_of_mem _ (List.mem_append_left _ (List.mem_append_left _ (List.mem_append_left _ (List.mem_append_left _ (List.mem_append_left _ (List.mem_append_left _ (List.mem_append_left _ (List.mem_of_getElem? (i := 2) rfl)))))))))) rfl rfl dX8_cell_116 ?_
    refine lv_iload_n (pc := 119) hexec hb dX8_cell_119 rfl (lv_at hl 1 rfl) ?_
    obtain ⟨r120, hc, hf⟩ := bd1_e hf
    refine kVp (pc := 120) (S := ⟨hexec, hb, hml, hown, hts⟩) hP hD hG hA hS [1, 5] [0, 2, 3, 4, 6, 7, 8] [0, 7, 1, 2, 3, 8, 4, 5, 6] (w2 := (w_X8_cell g a0 a1 a2 a3 a4 a5 a6 a7 a8 u0_1 u0_2 u0_3 u0_4 u0_5 u0_6 u0_7 u0_8 u0_9 u1_2 u2_2 u2_5 u3_1 u3_3 u3_4 u3_5 x2_rows x2_columns x3_count y4_letterOn y5_namesOn y6_land y7_riverOf y8_home)) rfl rfl rfl rfl rfl rfl (by decide) (c_X6_namesIn l g a1 a5 _ (.ref a2) (.ref a3) u1_2 (.ref a4) y5_namesOn p1 r120 hc) gX8_cell_X6_namesIn rfl hv_X6_namesIn ⟨nle rfl, nle rfl⟩ 6 0 rfl rfl rfl (rest := []) rfl rfl hl.1 (nle rfl) dX8_cell_120 (fun H locs hP hD hS => ?_)
    cases hf
    exact ke_i hQ hexec hb hr hP hD hS dX8_cell_123 hlocks
  rcases ite_or hf with ⟨hc5, hf⟩ | ⟨hc5, hf⟩
  · refine lv_tableIn (pc := 6) hexec hb dX8_cell_6 (by rw [hc5]; decide) (by rw [hc5]; decide) (by rw [hc5]; rfl) (tgt := 124) rfl ?_
    refine lv_aload_n (pc := 124) hexec hb dX8_cell_124 rfl (lv_at hl 0 rfl) ?_
    refine kg_get (pc := 125) hexec hb (own := RX8) hWX8 hown hG hP 0 rfl rfl 0 (nle rfl) (hts _ (List.mem_cons_of_mem _ (List.mem_append_left _ (List.mem_append_left _ (List.mem_append_left _ (List.mem_append_left _ (List.mem_append_left _ (List.mem_append_left _ (List.mem_append_left _ (List.mem_of_getElem? (i := 2) rfl)))))))))) rfl rfl dX8_cell_125 ?_
    refine kg_getN (pc := 128) hexec hb (own := RX8) hWX6 hown hG hP 1 rfl rfl 0 (nle rfl) 21 rfl rfl rfl dX8_cell_128 ?_
    refine lv_iload_n (pc := 131) hexec hb dX8_cell_131 rfl (lv_at hl 1 rfl) ?_
    obtain ⟨r132, hc, hf⟩ := bd1_e hf
    refine kVp (pc := 132) (S := ⟨hexec, hb, hml, hown, hts⟩) hP hD hG hA hS [2, 6] [0, 1, 3, 4, 5, 7, 8] [0, 1, 7, 2, 3, 4, 8, 5, 6] (w2 := (w_X8_cell g a0 a1 a2 a3 a4 a5 a6 a7 a8 u0_1 u0_2 u0_3 u0_4 u0_5 u0_6 u0_7 u0_8 u0_9 u1_2 u2_2 u2_5 u3_1 u3_3 u3_4 u3_5 x2_rows x2_columns x3_count y4_letterOn y5_namesOn y6_land y7_riverOf y8_home)) rfl rfl rfl rfl rfl rfl (by decide) (c_X1_depthOf l g a2 a6 _ u2_2 (.ref a7) u2_5 x2_rows x2_columns y6_land p1 r132 hc) gX8_cell_X1_depthOf rfl hv_X1_depthOf ⟨nle rfl, nle rfl⟩ 1 0 rfl rfl rfl (rest := []) rfl rfl hl.1 (nle rfl) dX8_cell_132 (fun H locs hP hD hS => ?_)
    cases hf
    exact ke_i hQ hexec hb hr hP hD hS dX8_cell_135 hlocks
  refine lv_tableOut (pc := 6) hexec hb dX8_cell_6 (by have z := fun k : Int32 => @Int32.toInt_inj p2 k; have h0 := fun h => hc0 ((z 0).mp h); have h1 := fun h => hc1 ((z 1).mp h); have h2 := fun h => hc2 ((z 2).mp h); have h3 := fun h => hc3 ((z 3).mp h); have h4 := fun h => hc4 ((z 4).mp h); have h5 := fun h => hc5 ((z 5).mp h); omega) (tgt := 136) rfl ?_
  cases hf
abbrev w_X8_needHarbour (g : GE) (a0 a1 a2 : Nat) (u0_1 u0_2 u0_3 u0_4 u0_5 u0_6 u0_7 u0_8 u0_9 u1_0 u1_2 u1_3 u1_4 u2_1 u2_2 u2_3 u2_4 u2_5 : Value) (x2_count : Int32) : va_W := [(a0, .inr (8, [.ref a1, u0_1, u0_2, u0_3, u0_4, u0_5, u0_6, u0_7, u0_8, u0_9])), (a1, .inr (6, [u1_0, .ref a2, u1_2, u1_3, u1_4])), (a2, .inr (2, [.int x2_count, u2_1, u2_2, u2_3, u2_4, u2_5]))]
noncomputable def f_X8_needHarbour (x2_count : Int32) (p1 : Int32) : Option (Unit) :=
  bv (fun (_ : Unit) => ((
    none
    ) : Option (Unit))) fun j18 =>
  (if p1 < 0 then (
    j18 ()
  ) else (
    (if p1 < x2_count then (
      some ()
    ) else (
      j18 ()
    ))
  ))
set_option maxRecDepth 4000 in
theorem c_X8_needHarbour (l : Launch) (g : GE) (a0 a1 a2 : Nat) (sz : Nat) (u0_1 u0_2 u0_3 u0_4 u0_5 u0_6 u0_7 u0_8 u0_9 u1_0 u1_2 u1_3 u1_4 u2_1 u2_2 u2_3 u2_4 u2_5 : Value) (x2_count : Int32) (p1 : Int32) (hf : f_X8_needHarbour x2_count p1 = some ()) : MI l g yX8_needHarbour wsX8_needHarbour 1 24 [.ref a0, .int p1] (w_X8_needHarbour g a0 a1 a2 u0_1 u0_2 u0_3 u0_4 u0_5 u0_6 u0_7 u0_8 u0_9 u1_0 u1_2 u1_3 u1_4 u2_1 u2_2 u2_3 u2_4 u2_5 x2_count) sz none (w_X8_needHarbour g a0 a1 a2 u0_1 u0_2 u0_3 u0_4 u0_5 u0_6 u0_7 u0_8 u0_9 u1_0 u1_2 u1_3 u1_4 u2_1 u2_2 u2_3 u2_4 u2_5 x2_count) := by
  refine MI.start (cc := cX8_needHarbour) (maxL := 2) (ret := none) rfl rfl (nle rfl) ?_
  intro p e s m args below meth c A ls Q hQ hexec hb hr hts hown hlocks hml hA hP hD hG hS hl
  unfold f_X8_needHarbour at hf
  have hWX2 : ∀ w ∈ wsX20, w.before args s = true := fun w h => hts w (List.mem_cons_of_mem _ (List.mem_append_left _ (List.mem_append_right _ h)))
  have hWX6 : ∀ w ∈ wsX60, w.before args s = true := fun w h => hts w (List.mem_cons_of_mem _ (List.mem_append_left _ (List.mem_append_left _ (List.mem_append_right _ h))))
  have hWX8 : ∀ w ∈ wsX80, w.before args s = true := fun w h => hts w (List.mem_cons_of_mem _ (List.mem_append_left _ (List.mem_append_left _ (List.mem_append_left _ (List.mem_append_right _ h)))))
  have hS : va_S A s.heap s.heap [] := hS
  refine lv_iload_n (pc := 0) hexec hb dX8_needHarbour_0 rfl (lv_at hl 1 rfl) ?_
  obtain ⟨j18, ej18, hf⟩ := bvf1 hf
  have hj18 : ∀ (u : Unit) (H : Heap) (locs : List Loc) (ls : Array Slot), j18 u = some () → va_P g.1 vwCl (w_X8_needHarbour g a0 a1 a2 u0_1 u0_2 u0_3 u0_4 u0_5 u0_6 u0_7 u0_8 u0_9 u1_0 u1_2 u1_3 u1_4 u2_1 u2_2 u2_3 u2_4 u2_5 x2_count) H → va_D A (w_X8_needHarbour g a0 a1 a2 u0_1 u0_2 u0_3 u0_4 u0_5 u0_6 u0_7 u0_8 u0_9 u1_0 u1_2 u1_3 u1_4 u2_1 u2_2 u2_3 u2_4 u2_5 x2_count) → va_S A s.heap H locs → lv_has ls 2 [] → W p l e (RM 1 24) s m args below meth c H locs 0 0 Q (F0 m 18 ls []) := by
    intro u H locs ls hf hP hD hS hl
    have hf := (ej18 u).symm.trans hf
    cases hf
  refine kb_lt (pc := 1) hexec hb dX8_needHarbour_1 (tgt := 18) rfl hf (fun hc hf => ?_) (fun hc hf => ?_)
  · exact hj18 _ _ _ _ hf hP hD hS (lv_sub hl [] rfl)
  · refine lv_iload_n (pc := 4) hexec hb dX8_needHarbour_4 rfl (lv_at hl 1 rfl) ?_
    refine lv_aload_n (pc := 5) hexec hb dX8_needHarbour_5 rfl (lv_at hl 0 rfl) ?_
    refine kg_get (pc := 6) hexec hb (own := RX8) hWX8 hown hG hP 0 rfl rfl 0 (nle rfl) (hts _ (List.mem_cons_of_mem _ (List.mem_append_left _ (List.mem_append_left _ (List.mem_append_left _ (List.mem_append_left _ (List.mem_of_getElem? (i := 2) rfl))))))) rfl rfl dX8_needHarbour_6 ?_
    refine kg_getN (pc := 9) hexec hb (own := RX8) hWX6 hown hG hP 1 rfl rfl 1 (nle rfl) 24 rfl rfl rfl dX8_needHarbour_9 ?_
    refine kg_getN (pc := 12) hexec hb (own := RX8) hWX2 hown hG hP 2 rfl rfl 0 (nle rfl) 6 rfl rfl rfl dX8_needHarbour_12 ?_
    refine ki_lt (pc := 15) hexec hb dX8_needHarbour_15 (tgt := 29) rfl hf (fun hc hf => ?_) (fun hc hf => ?_)
    · cases hf
      exact ke_v hQ hexec hb hr hP hD hS dX8_needHarbour_29 hlocks
    · exact hj18 _ _ _ _ hf hP hD hS (lv_sub hl [] rfl)
abbrev w_X8_harbour (g : GE) (a0 a1 a2 a3 a4 a5 a6 a7 : Nat) (u0_1 u0_2 u0_3 u0_4 u0_5 u0_6 u0_7 u0_8 u0_9 u1_0 u1_3 u1_4 u2_5 u3_1 u3_2 u3_3 : Value) (x2_count : Int32) (x2_reds : Int32) (x3_count : Int32) (y4_direction : Nat → Int32) (y5_home : Nat → Int32) (y6_length : Nat → Int32) (y7_stops : Nat → Int32) : va_W := [(a0, .inr (8, [.ref a1, u0_1, u0_2, u0_3, u0_4, u0_5, u0_6, u0_7, u0_8, u0_9])), (a1, .inr (6, [u1_0, .ref a2, .ref a3, u1_3, u1_4])), (a2, .inr (2, [.int x2_count, .int x2_reds, .ref a5, .ref a4, .ref a6, u2_5])), (a3, .inr (4, [.int x3_count, u3_1, u3_2, u3_3, .ref a7])), (a4, .inl (g.2.1 0, 8, .inl y4_direction)), (a5, .inl (g.2.1 0, 8, .inl y5_home)), (a6, .inl (g.2.1 0, 8, .inl y6_length)), (a7, .inl (g.2.1 0, 16, .inl y7_stops))]
noncomputable def f_X8_harbour (x2_count : Int32) (x2_reds : Int32) (x3_count : Int32) (y4_direction : Nat → Int32) (y5_home : Nat → Int32) (y6_length : Nat → Int32) (y7_stops : Nat → Int32) (p1 : Int32) (p2 : Int32) : Option (Int32) :=
  bd1 (f_X8_needHarbour x2_count p1) fun (_ : Unit) =>
  (if p2 = 0 then (
    bd1 (f_X2_homeOf x2_count y5_home p1) fun (r48 : Int32) =>
    some r48
  ) else (
  (if p2 = 1 then (
    bd1 (f_X2_isRed x2_reds p1) fun (r60 : Int32) =>
    (if r60 = 0 then (
      some 0
    ) else (
      some 1
    ))
  ) else (
  (if p2 = 2 then (
    bd1 (f_X2_directionOf x2_count y4_direction p1) fun (r80 : Int32) =>
    some r80
  ) else (
  (if p2 = 3 then (
    bd1 (f_X2_lengthOf x2_count y6_length p1) fun (r92 : Int32) =>
    some r92
  ) else (
  (if p2 = 4 then (
    bd1 (f_X4_timesOf x3_count y7_stops p1) fun (r104 : Int32) =>
    some r104
  ) else (
  none
  ))
  ))
  ))
  ))
  ))
set_option maxRecDepth 4000 in
theorem c_X8_harbour (l : Launch) (g : GE) (a0 a1 a2 a3 a4 a5 a6 a7 : Nat) (sz : Nat) (u0_1 u0_2 u0_3 u0_4 u0_5 u0_6 u0_7 u0_8 u0_9 u1_0 u1_3 u1_4 u2_5 u3_1 u3_2 u3_3 : Value) (x2_count : Int32) (x2_reds : Int32) (x3_count : Int32) (y4_direction : Nat → Int32) (y5_home : Nat → Int32) (y6_length : Nat → Int32) (y7_stops : Nat → Int32) (p1 : Int32) (p2 : Int32) (r : Int32) (hf : f_X8_harbour x2_count x2_reds x3_count y4_direction y5_home y6_length y7_stops p1 p2 = some r) : MI l g yX8_harbour wsX8_harbour 3 68 [.ref a0, .int p1, .int p2] (w_X8_harbour g a0 a1 a2 a3 a4 a5 a6 a7 u0_1 u0_2 u0_3 u0_4 u0_5 u0_6 u0_7 u0_8 u0_9 u1_0 u1_3 u1_4 u2_5 u3_1 u3_2 u3_3 x2_count x2_reds x3_count y4_direction y5_home y6_length y7_stops) sz (some (.int r)) (w_X8_harbour g a0 a1 a2 a3 a4 a5 a6 a7 u0_1 u0_2 u0_3 u0_4 u0_5 u0_6 u0_7 u0_8 u0_9 u1_0 u1_3 u1_4 u2_5 u3_1 u3_2 u3_3 x2_count x2_reds x3_count y4_direction y5_home y6_length y7_stops) := by
  refine MI.start (cc := cX8_harbour) (maxL := 3) (ret := (some .int)) rfl rfl (nle rfl) ?_
  intro p e s m args below meth c A ls Q hQ hexec hb hr hts hown hlocks hml hA hP hD hG hS hl
  unfold f_X8_harbour at hf
  have hWX2 : ∀ w ∈ wsX20, w.before args s = true := fun w h => hts w (List.mem_cons_of_mem _ (List.mem_append_left _ (List.mem_append_left _ (List.mem_append_left _ (List.mem_append_right _ h)))))
  have hWX4 : ∀ w ∈ wsX40, w.before args s = true := fun w h => hts w (List.mem_cons_of_mem _ (List.mem_append_left _ (List.mem_append_left _ (List.mem_append_right _ h))))
  have hWX6 : ∀ w ∈ wsX60, w.before args s = true := fun w h => hts w (List.mem_cons_of_mem _ (List.mem_append_left _ (List.mem_append_left _ (List.mem_append_left _ (List.mem_append_left _ (List.mem_append_right _ h))))))
  have hWX8 : ∀ w ∈ wsX80, w.before args s = true := fun w h => hts w (List.mem_cons_of_mem _ (List.mem_append_left _ (List.mem_append_left _ (List.mem_append_left _ (List.mem_append_left _ (List.mem_append_left _ (List.mem_append_right _ h)))))))
  have hS : va_S A s.heap s.heap [] := hS
  refine lv_aload_n (pc := 0) hexec hb dX8_harbour_0 rfl (lv_at hl 0 rfl) ?_
  refine lv_iload_n (pc := 1) hexec hb dX8_harbour_1 rfl (lv_at hl 1 rfl) ?_
  obtain ⟨_, hc, hf⟩ := bd1_e hf
  refine kVp (pc := 2) (S := ⟨hexec, hb, hml, hown, hts⟩) hP hD hG hA hS [0, 1, 2] [3, 4, 5, 6, 7] [5, 6, 7, 0, 1, 2, 3, 4] (w2 := (w_X8_harbour g a0 a1 a2 a3 a4 a5 a6 a7 u0_1 u0_2 u0_3 u0_4 u0_5 u0_6 u0_7 u0_8 u0_9 u1_0 u1_3 u1_4 u2_5 u3_1 u3_2 u3_3 x2_count x2_reds x3_count y4_direction y5_home y6_length y7_stops)) rfl rfl rfl rfl rfl rfl (by decide) (c_X8_needHarbour l g a0 a1 a2 _ u0_1 u0_2 u0_3 u0_4 u0_5 u0_6 u0_7 u0_8 u0_9 u1_0 (.ref a3) u1_3 u1_4 (.int x2_reds) (.ref a5) (.ref a4) (.ref a6) u2_5 x2_count p1 hc) gX8_harbour_X8_needHarbour rfl hv_X8_needHarbour ⟨nle rfl, nle rfl⟩ 8 0 rfl rfl rfl (rest := []) rfl rfl hl.1 (nle rfl) dX8_harbour_2 (fun H locs hP hD hS => ?_)
  refine lv_iload_n (pc := 5) hexec hb dX8_harbour_5 rfl (lv_at hl 2 rfl) ?_
  rcases ite_or hf with ⟨hc0, hf⟩ | ⟨hc0, hf⟩
  · refine lv_tableIn (pc := 6) hexec hb dX8_harbour_6 (by rw [hc0]; decide) (by rw [hc0]; decide) (by rw [hc0]; rfl) (tgt := 40) rfl ?_
    refine lv_aload_n (pc := 40) hexec hb dX8_harbour_40 rfl (lv_at hl 0 rfl) ?_
    refine kg_get (pc := 41) hexec hb (own := RX8) hWX8 hown hG hP 0 rfl rfl 0 (nle rfl) (hts _ (List.mem_cons_of_mem _ (List.mem_append_left _ (List.mem_append_left _ (List.mem_append_left _ (List.mem_append_left _ (List.mem_append_left _ (List.mem_append_left _ (List.mem_append_left _ (List.mem_of_getElem? (i := 2) rfl)))))))))) rfl rfl dX8_harbour_41 ?_
    refine kg_getN (pc := 44) hexec hb (own := RX8) hWX6 hown hG hP 1 rfl rfl 1 (nle rfl) 24 rfl rfl rfl dX8_harbour_44 ?_
    refine lv_iload_n (pc := 47) hexec hb dX8_harbour_47 rfl (lv_at hl 1 rfl) ?_
    obtain ⟨r48, hc, hf⟩ := bd1_e hf
    refine kVp (pc := 48) (S := ⟨hexec, hb, hml, hown, hts⟩) hP hD hG hA hS [2, 5] [0, 1, 3, 4, 6, 7] [0, 1, 6, 2, 3, 7, 4, 5] (w2 := (w_X8_harbour g a0 a1 a2 a3 a4 a5 a6 a7 u0_1 u0_2 u0_3 u0_4 u0_5 u0_6 u0_7 u0_8 u0_9 u1_0 u1_3 u1_4 u2_5 u3_1 u3_2 u3_3 x2_count x2_reds x3_count y4_direction y5_home y6_length y7_stops)) rfl rfl rfl rfl rfl rfl (by decide) (c_X2_homeOf l g a2 a5 _ (.int x2_reds) (.ref a4) (.ref a6) u2_5 x2_count y5_home p1 r48 hc) gX8_harbour_X2_homeOf rfl hv_X2_homeOf ⟨nle rfl, nle rfl⟩ 2 0 rfl rfl rfl (rest := []) rfl rfl hl.1 (nle rfl) dX8_harbour_48 (fun H locs hP hD hS => ?_)
    cases hf
    exact ke_i hQ hexec hb hr hP hD hS dX8_harbour_51 hlocks
  rcases ite_or hf with ⟨hc1, hf⟩ | ⟨hc1, hf⟩
  · refine lv_tableIn (pc := 6) hexec hb dX8_harbour_6 (by rw [hc1]; decide) (by rw [hc1]; decide) (by rw [hc1]; rfl) (tgt := 52) rfl ?_
    refine lv_aload_n (pc := 52) hexec hb dX8_harbour_52 rfl (lv_at hl 0 rfl) ?_
    refine kg_get (pc := 53) hexec hb (own := RX8) hWX8 hown hG hP 0 rfl rfl 0 (nle rfl) (hts _ (List.mem_cons_of_mem _ (List.mem_append_left _ (List.mem_append_left _ (List.mem_append_left _ (List.mem_append_left _ (List.mem_append_left _ (List.mem_append_left _ (List.mem_append_left _ (List.mem_of_getElem? (i := 2) rfl)))))))))) rfl rfl dX8_harbour_53 ?_
    refine kg_getN (pc := 56) hexec hb (own := RX8) hWX6 hown hG hP 1 rfl rfl 1 (nle rfl) 24 rfl rfl rfl dX8_harbour_56 ?_
    refine lv_iload_n (pc := 59) hexec hb dX8_harbour_59 rfl (lv_at hl 1 rfl) ?_
    obtain ⟨r60, hc, hf⟩ := bd1_e hf
    refine kVp (pc := 60) (S := ⟨hexec, hb, hml, hown, hts⟩) hP hD hG hA hS [2] [0, 1, 3, 4, 5, 6, 7] [0, 1, 7, 2, 3, 4, 5, 6] (w2 := (w_X8_harbour g a0 a1 a2 a3 a4 a5 a6 a7 u0_1 u0_2 u0_3 u0_4 u0_5 u0_6 u0_7 u0_8 u0_9 u1_0 u1_3 u1_4 u2_5 u3_1 u3_2 u3_3 x2_count x2_reds x3_count y4_direction y5_home y6_length y7_stops)) rfl rfl rfl rfl rfl rfl (by decide) (c_X2_isRed l g a2 _ (.int x2_count) (.ref a5) (.ref a4) (.ref a6) u2_5 x2_reds p1 r60 hc) gX8_harbour_X2_isRed rfl hv_X2_isRed ⟨nle rfl, nle rfl⟩ 2 0 rfl rfl rfl (rest := []) rfl rfl hl.1 (nle rfl) dX8_harbour_60 (fun H locs hP hD hS => ?_)
    refine kb_eq (pc := 63) hexec hb dX8_harbour_63 (tgt := 70) rfl hf (fun hc hf => ?_) (fun hc hf => ?_)
    · refine lv_iconst (pc := 70) hexec hb dX8_harbour_70 ki_0 ?_
      cases hf
      exact ke_i hQ hexec hb hr hP hD hS dX8_harbour_71 hlocks
    · refine lv_iconst (pc := 66) hexec hb dX8_harbour_66 ki_1 ?_
      refine lv_goto (pc := 67) hexec hb dX8_harbour_67 (tgt := 71) rfl ?_
      cases hf
      exact ke_i hQ hexec hb hr hP hD hS dX8_harbour_71 hlocks
  rcases ite_or hf with ⟨hc2, hf⟩ | ⟨hc2, hf⟩
  · refine lv_tableIn (pc := 6) hexec hb dX8_harbour_6 (by rw [hc2]; decide) (by rw [hc2]; decide) (by rw [hc2]; rfl) (tgt := 72) rfl ?_
    refine lv_aload_n (pc := 72) hexec hb dX8_harbour_72 rfl (lv_at hl 0 rfl) ?_
    refine kg_get (pc := 73) hexec hb (own := RX8) hWX8 hown hG hP 0 rfl rfl 0 (nle rfl) (hts _ (List.mem_cons_of_mem _ (List.mem_append_left _ (List.mem_append_left _ (List.mem_append_left _ (List.mem_append_left _ (List.mem_append_left _ (List.mem_append_left _ (List.mem_append_left _ (List.mem_of_getElem? (i := 2) rfl)))))))))) rfl rfl dX8_harbour_73 ?_
    refine kg_getN (pc := 76) hexec hb (own := RX8) hWX6 hown hG hP 1 rfl rfl 1 (nle rfl) 24 rfl rfl rfl dX8_harbour_76 ?_
    refine lv_iload_n (pc := 79) hexec hb dX8_harbour_79 rfl (lv_at hl 1 rfl) ?_
    obtain ⟨r80, hc, hf⟩ := bd1_e hf
    refine kVp (pc := 80) (S := ⟨hexec, hb, hml, hown, hts⟩) hP hD hG hA hS [2, 4] [0, 1, 3, 5, 6, 7] [0, 1, 6, 2, 7, 3, 4, 5] (w2 := (w_X8_harbour g a0 a1 a2 a3 a4 a5 a6 a7 u0_1 u0_2 u0_3 u0_4 u0_5 u0_6 u0_7 u0_8 u0_9 u1_0 u1_3 u1_4 u2_5 u3_1 u3_2 u3_3 x2_count x2_reds x3_count y4_direction y5_home y6_length y7_stops)) rfl rfl rfl rfl rfl rfl (by decide) (c_X2_directionOf l g a2 a4 _ (.int x2_reds) (.ref a5) (.ref a6) u2_5 x2_count y4_direction p1 r80 hc) gX8_harbour_X2_directionOf rfl hv_X2_directionOf ⟨nle rfl, nle rfl⟩ 2 0 rfl rfl rfl (rest := []) rfl rfl hl.1 (nle rfl) dX8_harbour_80 (fun H locs hP hD hS => ?_)
    cases hf
    exact ke_i hQ hexec hb hr hP hD hS dX8_harbour_83 hlocks
  rcases ite_or hf with ⟨hc3, hf⟩ | ⟨hc3, hf⟩
  · refine lv_tableIn (pc := 6) hexec hb dX8_harbour_6 (by rw [hc3]; decide) (by rw [hc3]; decide) (by rw [hc3]; rfl) (tgt := 84) rfl ?_
    refine lv_aload_n (pc := 84) hexec hb dX8_harbour_84 rfl (lv_at hl 0 rfl) ?_
    refine kg_get (pc := 85) hexec hb (own := RX8) hWX8 hown hG hP 0 rfl rfl 0 (nle rfl) (hts _ (List.mem_cons_of_mem _ (List.mem_append_left _ (List.mem_append_left _ (List.mem_append_left _ (List.mem_append_left _ (List.mem_append_left _ (List.mem_append_left _ (List.mem_append_left _ (List.mem_of_getElem? (i := 2) rfl)))))))))) rfl rfl dX8_harbour_85 ?_
    refine kg_getN (pc := 88) hexec hb (own := RX8) hWX6 hown hG hP 1 rfl rfl 1 (nle rfl) 24 rfl rfl rfl dX8_harbour_88 ?_
    refine lv_iload_n (pc := 91) hexec hb dX8_harbour_91 rfl (lv_at hl 1 rfl) ?_
    obtain ⟨r92, hc, hf⟩ := bd1_e hf
    refine kVp (pc := 92) (S := ⟨hexec, hb, hml, hown, hts⟩) hP hD hG hA hS [2, 6] [0, 1, 3, 4, 5, 7] [0, 1, 6, 2, 3, 4, 7, 5] (w2 := (w_X8_harbour g a0 a1 a2 a3 a4 a5 a6 a7 u0_1 u0_2 u0_3 u0_4 u0_5 u0_6 u0_7 u0_8 u0_9 u1_0 u1_3 u1_4 u2_5 u3_1 u3_2 u3_3 x2_count x2_reds x3_count y4_direction y5_home y6_length y7_stops)) rfl rfl rfl rfl rfl rfl (by decide) (c_X2_lengthOf l g a2 a6 _ (.int x2_reds) (.ref a5) (.ref a4) u2_5 x2_count y6_length p1 r92 hc) gX8_harbour_X2_lengthOf rfl hv_X2_lengthOf ⟨nle rfl, nle rfl⟩ 2 0 rfl rfl rfl (rest := []) rfl rfl hl.1 (nle rfl) dX8_harbour_92 (fun H locs hP hD hS => ?_)
    cases hf
    exact ke_i hQ hexec hb hr hP hD hS dX8_harbour_95 hlocks
  rcases ite_or hf with ⟨hc4, hf⟩ | ⟨hc4, hf⟩
  · refine lv_tableIn (pc := 6) hexec hb dX8_harbour_6 (by rw [hc4]; decide) (by rw [hc4]; decide) (by rw [hc4]; rfl) (tgt := 96) rfl ?_
    refine lv_aload_n (pc := 96) hexec hb dX8_harbour_96 rfl (lv_at hl 0 rfl) ?_
    refine kg_get (pc := 97) hexec hb (own := RX8) hWX8 hown hG hP 0 rfl rfl 0 (nle rfl) (hts _ (List.mem_cons_of_mem _ (List.mem_append_left _ (List.mem_append_left _ (List.mem_append_left _ (List.mem_append_left _ (List.mem_append_left _ (List.mem_append_left _ (List.mem_append_left _ (List.mem_of_getElem? (i := 2) rfl)))))))))) rfl rfl dX8_harbour_97 ?_
    refine kg_getN (pc := 100) hexec hb (own := RX8) hWX6 hown hG hP 1 rfl rfl 2 (nle rfl) 27 rfl rfl rfl dX8_harbour_100 ?_
    refine lv_iload_n (pc := 103) hexec hb dX8_harbour_103 rfl (lv_at hl 1 rfl) ?_
    obtain ⟨r104, hc, hf⟩ := bd1_e hf
    refine kVp (pc := 104) (S := ⟨hexec, hb, hml, hown, hts⟩) hP hD hG hA hS [3, 7] [0, 1, 2, 4, 5, 6] [0, 1, 2, 6, 3, 4, 5, 7] (w2 := (w_X8_harbour g a0 a1 a2 a3 a4 a5 a6 a7 u0_1 u0_2 u0_3 u0_4 u0_5 u0_6 u0_7 u0_8 u0_9 u1_0 u1_3 u1_4 u2_5 u3_1 u3_2 u3_3 x2_count x2_reds x3_count y4_direction y5_home y6_length y7_stops)) rfl rfl rfl rfl rfl rfl (by decide) (c_X4_timesOf l g a3 a7 _ u3_1 u3_2 u3_3 x3_count y7_stops p1 r104 hc) gX8_harbour_X4_timesOf rfl hv_X4_timesOf ⟨nle rfl, nle rfl⟩ 4 0 rfl rfl rfl (rest := []) rfl rfl hl.1 (nle rfl) dX8_harbour_104 (fun H locs hP hD hS => ?_)
    cases hf
    exact ke_i hQ hexec hb hr hP hD hS dX8_harbour_107 hlocks
  refine lv_tableOut (pc := 6) hexec hb dX8_harbour_6 (by have z := fun k : Int32 => @Int32.toInt_inj p2 k; have h0 := fun h => hc0 ((z 0).mp h); have h1 := fun h => hc1 ((z 1).mp h); have h2 := fun h => hc2 ((z 2).mp h); have h3 := fun h => hc3 ((z 3).mp h); have h4 := fun h => hc4 ((z 4).mp h); omega) (tgt := 108) rfl ?_
  cases hf
abbrev w_X8_letter (g : GE) (a0 a1 a2 a3 a4 : Nat) (u0_1 u0_2 u0_3 u0_4 u0_5 u0_6 u0_7 u0_8 u0_9 u1_0 u1_2 u1_3 u1_4 u2_1 u2_2 u2_3 : Value) (x2_count : Int32) (y3_length : Nat → Int32) (y4_letters : Nat → Int32) : va_W := [(a0, .inr (8, [.ref a1, u0_1, u0_2, u0_3, u0_4, u0_5, u0_6, u0_7, u0_8, u0_9])), (a1, .inr (6, [u1_0, .ref a2, u1_2, u1_3, u1_4])), (a2, .inr (2, [.int x2_count, u2_1, u2_2, u2_3, .ref a3, .ref a4])), (a3, .inl (g.2.1 0, 8, .inl y3_length)), (a4, .inl (g.2.1 0, 64, .inl y4_letters))]
noncomputable def f_X8_letter (x2_count : Int32) (y3_length : Nat → Int32) (y4_letters : Nat → Int32) (p1 : Int32) (p2 : Int32) : Option (Int32) :=
  bd1 (f_X8_needHarbour x2_count p1) fun (_ : Unit) =>
  bd1 (f_X2_letterOf x2_count y3_length y4_letters p1 p2) fun (r14 : Int32) =>
  some r14
set_option maxRecDepth 4000 in
theorem c_X8_letter (l : Launch) (g : GE) (a0 a1 a2 a3 a4 : Nat) (sz : Nat) (u0_1 u0_2 u0_3 u0_4 u0_5 u0_6 u0_7 u0_8 u0_9 u1_0 u1_2 u1_3 u1_4 u2_1 u2_2 u2_3 : Value) (x2_count : Int32) (y3_length : Nat → Int32) (y4_letters : Nat → Int32) (p1 : Int32) (p2 : Int32) (r : Int32) (hf : f_X8_letter x2_count y3_length y4_letters p1 p2 = some r) : MI l g yX8_letter wsX8_letter 3 68 [.ref a0, .int p1, .int p2] (w_X8_letter g a0 a1 a2 a3 a4 u0_1 u0_2 u0_3 u0_4 u0_5 u0_6 u0_7 u0_8 u0_9 u1_0 u1_2 u1_3 u1_4 u2_1 u2_2 u2_3 x2_count y3_length y4_letters) sz (some (.int r)) (w_X8_letter g a0 a1 a2 a3 a4 u0_1 u0_2 u0_3 u0_4 u0_5 u0_6 u0_7 u0_8 u0_9 u1_0 u1_2 u1_3 u1_4 u2_1 u2_2 u2_3 x2_count y3_length y4_letters) := by
  refine MI.start (cc := cX8_letter) (maxL := 3) (ret := (some .int)) rfl rfl (nle rfl) ?_
  intro p e s m args below meth c A ls Q hQ hexec hb hr hts hown hlocks hml hA hP hD hG hS hl
  unfold f_X8_letter at hf
  have hWX2 : ∀ w ∈ wsX20, w.before args s = true := fun w h => hts w (List.mem_cons_of_mem _ (List.mem_append_left _ (List.mem_append_right _ h)))
  have hWX6 : ∀ w ∈ wsX60, w.before args s = true := fun w h => hts w (List.mem_cons_of_mem _ (List.mem_append_left _ (List.mem_append_left _ (List.mem_append_right _ h))))
  have hWX8 : ∀ w ∈ wsX80, w.before args s = true := fun w h => hts w (List.mem_cons_of_mem _ (List.mem_append_left _ (List.mem_append_left _ (List.mem_append_left _ (List.mem_append_right _ h)))))
  have hS : va_S A s.heap s.heap [] := hS
  refine lv_aload_n (pc := 0) hexec hb dX8_letter_0 rfl (lv_at hl 0 rfl) ?_
  refine lv_iload_n (pc := 1) hexec hb dX8_letter_1 rfl (lv_at hl 1 rfl) ?_
  obtain ⟨_, hc, hf⟩ := bd1_e hf
  refine kVp (pc := 2) (S := ⟨hexec, hb, hml, hown, hts⟩) hP hD hG hA hS [0, 1, 2] [3, 4] [2, 3, 4, 0, 1] (w2 := (w_X8_letter g a0 a1 a2 a3 a4 u0_1 u0_2 u0_3 u0_4 u0_5 u0_6 u0_7 u0_8 u0_9 u1_0 u1_2 u1_3 u1_4 u2_1 u2_2 u2_3 x2_count y3_length y4_letters)) rfl rfl rfl rfl rfl rfl (by decide) (c_X8_needHarbour l g a0 a1 a2 _ u0_1 u0_2 u0_3 u0_4 u0_5 u0_6 u0_7 u0_8 u0_9 u1_0 u1_2 u1_3 u1_4 u2_1 u2_2 u2_3 (.ref a3) (.ref a4) x2_count p1 hc) gX8_letter_X8_needHarbour rfl hv_X8_needHarbour ⟨nle rfl, nle rfl⟩ 8 0 rfl rfl rfl (rest := []) rfl rfl hl.1 (nle rfl) dX8_letter_2 (fun H locs hP hD hS => ?_)
  refine lv_aload_n (pc := 5) hexec hb dX8_letter_5 rfl (lv_at hl 0 rfl) ?_
  refine kg_get (pc := 6) hexec hb (own := RX8) hWX8 hown hG hP 0 rfl rfl 0 (nle rfl) (hts _ (List.mem_cons_of_mem _ (List.mem_append_left _ (List.mem_append_left _ (List.mem_append_left _ (List.mem_append_left _ (List.mem_of_getElem? (i := 0) rfl))))))) rfl rfl dX8_letter_6 ?_
  refine kg_getN (pc := 9) hexec hb (own := RX8) hWX6 hown hG hP 1 rfl rfl 1 (nle rfl) 24 rfl rfl rfl dX8_letter_9 ?_
  refine lv_iload_n (pc := 12) hexec hb dX8_letter_12 rfl (lv_at hl 1 rfl) ?_
  refine lv_iload_n (pc := 13) hexec hb dX8_letter_13 rfl (lv_at hl 2 rfl) ?_
  obtain ⟨r14, hc, hf⟩ := bd1_e hf
  refine kVp (pc := 14) (S := ⟨hexec, hb, hml, hown, hts⟩) hP hD hG hA hS [2, 3, 4] [0, 1] [0, 1, 2, 3, 4] (w2 := (w_X8_letter g a0 a1 a2 a3 a4 u0_1 u0_2 u0_3 u0_4 u0_5 u0_6 u0_7 u0_8 u0_9 u1_0 u1_2 u1_3 u1_4 u2_1 u2_2 u2_3 x2_count y3_length y4_letters)) rfl rfl rfl rfl rfl rfl (by decide) (c_X2_letterOf l g a2 a3 a4 _ u2_1 u2_2 u2_3 x2_count y3_length y4_letters p1 p2 r14 hc) gX8_letter_X2_letterOf rfl hv_X2_letterOf ⟨nle rfl, nle rfl⟩ 2 0 rfl rfl rfl (rest := []) rfl rfl hl.1 (nle rfl) dX8_letter_14 (fun H locs hP hD hS => ?_)
  cases hf
  exact ke_i hQ hexec hb hr hP hD hS dX8_letter_17 hlocks
abbrev w_X8_needRiver (g : GE) (a0 a1 a2 : Nat) (u0_1 u0_2 u0_3 u0_4 u0_5 u0_6 u0_7 u0_8 u0_9 u1_1 u1_2 u1_3 u1_4 u2_0 u2_1 u2_3 u2_4 u2_5 : Value) (x2_rivers : Int32) : va_W := [(a0, .inr (8, [.ref a1, u0_1, u0_2, u0_3, u0_4, u0_5, u0_6, u0_7, u0_8, u0_9])), (a1, .inr (6, [.ref a2, u1_1, u1_2, u1_3, u1_4])), (a2, .inr (1, [u2_0, u2_1, .int x2_rivers, u2_3, u2_4, u2_5]))]
noncomputable def f_X8_needRiver (x2_rivers : Int32) (p1 : Int32) : Option (Unit) :=
  bv (fun (_ : Unit) => ((
    none
    ) : Option (Unit))) fun j18 =>
  (if p1 < 0 then (
    j18 ()
  ) else (
    (if p1 < x2_rivers then (
      some ()
    ) else (
      j18 ()
    ))
  ))
set_option maxRecDepth 4000 in
theorem c_X8_needRiver (l : Launch) (g : GE) (a0 a1 a2 : Nat) (sz : Nat) (u0_1 u0_2 u0_3 u0_4 u0_5 u0_6 u0_7 u0_8 u0_9 u1_1 u1_2 u1_3 u1_4 u2_0 u2_1 u2_3 u2_4 u2_5 : Value) (x2_rivers : Int32) (p1 : Int32) (hf : f_X8_needRiver x2_rivers p1 = some ()) : MI l g yX8_needRiver wsX8_needRiver 1 24 [.ref a0, .int p1] (w_X8_needRiver g a0 a1 a2 u0_1 u0_2 u0_3 u0_4 u0_5 u0_6 u0_7 u0_8 u0_9 u1_1 u1_2 u1_3 u1_4 u2_0 u2_1 u2_3 u2_4 u2_5 x2_rivers) sz none (w_X8_needRiver g a0 a1 a2 u0_1 u0_2 u0_3 u0_4 u0_5 u0_6 u0_7 u0_8 u0_9 u1_1 u1_2 u1_3 u1_4 u2_0 u2_1 u2_3 u2_4 u2_5 x2_rivers) := by
  refine MI.start (cc := cX8_needRiver) (maxL := 2) (ret := none) rfl rfl (nle rfl) ?_
  intro p e s m args below meth c A ls Q hQ hexec hb hr hts hown hlocks hml hA hP hD hG hS hl
  unfold f_X8_needRiver at hf
  have hWX1 : ∀ w ∈ wsX10, w.before args s = true := fun w h => hts w (List.mem_cons_of_mem _ (List.mem_append_left _ (List.mem_append_right _ h)))
  have hWX6 : ∀ w ∈ wsX60, w.before args s = true := fun w h => hts w (List.mem_cons_of_mem _ (List.mem_append_left _ (List.mem_append_left _ (List.mem_append_right _ h))))
  have hWX8 : ∀ w ∈ wsX80, w.before args s = true := fun w h => hts w (List.mem_cons_of_mem _ (List.mem_append_left _ (List.mem_append_left _ (List.mem_append_left _ (List.mem_append_right _ h)))))
  have hS : va_S A s.heap s.heap [] := hS
  refine lv_iload_n (pc := 0) hexec hb dX8_needRiver_0 rfl (lv_at hl 1 rfl) ?_
  obtain ⟨j18, ej18, hf⟩ := bvf1 hf
  have hj18 : ∀ (u : Unit) (H : Heap) (locs : List Loc) (ls : Array Slot), j18 u = some () → va_P g.1 vwCl (w_X8_needRiver g a0 a1 a2 u0_1 u0_2 u0_3 u0_4 u0_5 u0_6 u0_7 u0_8 u0_9 u1_1 u1_2 u1_3 u1_4 u2_0 u2_1 u2_3 u2_4 u2_5 x2_rivers) H → va_D A (w_X8_needRiver g a0 a1 a2 u0_1 u0_2 u0_3 u0_4 u0_5 u0_6 u0_7 u0_8 u0_9 u1_1 u1_2 u1_3 u1_4 u2_0 u2_1 u2_3 u2_4 u2_5 x2_rivers) → va_S A s.heap H locs → lv_has ls 2 [] → W p l e (RM 1 24) s m args below meth c H locs 0 0 Q (F0 m 18 ls []) := by
    intro u H locs ls hf hP hD hS hl
    have hf := (ej18 u).symm.trans hf
    cases hf
  refine kb_lt (pc := 1) hexec hb dX8_needRiver_1 (tgt := 18) rfl hf (fun hc hf => ?_) (fun hc hf => ?_)
  · exact hj18 _ _ _ _ hf hP hD hS (lv_sub hl [] rfl)
  · refine lv_iload_n (pc := 4) hexec hb dX8_needRiver_4 rfl (lv_at hl 1 rfl) ?_
    refine lv_aload_n (pc := 5) hexec hb dX8_needRiver_5 rfl (lv_at hl 0 rfl) ?_
    refine kg_get (pc := 6) hexec hb (own := RX8) hWX8 hown hG hP 0 rfl rfl 0 (nle rfl) (hts _ (List.mem_cons_of_mem _ (List.mem_append_left _ (List.mem_append_left _ (List.mem_append_left _ (List.mem_append_left _ (List.mem_of_getElem? (i := 2) rfl))))))) rfl rfl dX8_needRiver_6 ?_
    refine kg_getN (pc := 9) hexec hb (own := RX8) hWX6 hown hG hP 1 rfl rfl 0 (nle rfl) 21 rfl rfl rfl dX8_needRiver_9 ?_
    refine kg_getN (pc := 12) hexec hb (own := RX8) hWX1 hown hG hP 2 rfl rfl 2 (nle rfl) 4 rfl rfl rfl dX8_needRiver_12 ?_
    refine ki_lt (pc := 15) hexec hb dX8_needRiver_15 (tgt := 29) rfl hf (fun hc hf => ?_) (fun hc hf => ?_)
    · cases hf
      exact ke_v hQ hexec hb hr hP hD hS dX8_needRiver_29 hlocks
    · exact hj18 _ _ _ _ hf hP hD hS (lv_sub hl [] rfl)
abbrev w_X8_river (g : GE) (a0 a1 a2 a3 a4 : Nat) (u0_1 u0_2 u0_3 u0_4 u0_5 u0_6 u0_7 u0_8 u0_9 u1_1 u1_2 u1_3 u1_4 u2_0 u2_1 u2_3 : Value) (x2_rivers : Int32) (y3_riverOf : Nat → Int32) (y4_riverPlace : Nat → Int32) : va_W := [(a0, .inr (8, [.ref a1, u0_1, u0_2, u0_3, u0_4, u0_5, u0_6, u0_7, u0_8, u0_9])), (a1, .inr (6, [.ref a2, u1_1, u1_2, u1_3, u1_4])), (a2, .inr (1, [u2_0, u2_1, .int x2_rivers, u2_3, .ref a3, .ref a4])), (a3, .inl (g.2.1 0, 144, .inl y3_riverOf)), (a4, .inl (g.2.1 0, 144, .inl y4_riverPlace))]
noncomputable def f_X8_river (x2_rivers : Int32) (y3_riverOf : Nat → Int32) (y4_riverPlace : Nat → Int32) (p1 : Int32) (p2 : Int32) : Option (Int32) :=
  bd1 (f_X8_needRiver x2_rivers p1) fun (_ : Unit) =>
  bd1 (f_X1_riverCell y3_riverOf y4_riverPlace p1 p2) fun (r14 : Int32) =>
  some r14
set_option maxRecDepth 4000 in
theorem c_X8_river (l : Launch) (g : GE) (a0 a1 a2 a3 a4 : Nat) (sz : Nat) (u0_1 u0_2 u0_3 u0_4 u0_5 u0_6 u0_7 u0_8 u0_9 u1_1 u1_2 u1_3 u1_4 u2_0 u2_1 u2_3 : Value) (x2_rivers : Int32) (y3_riverOf : Nat → Int32) (y4_riverPlace : Nat → Int32) (p1 : Int32) (p2 : Int32) (r : Int32) (hf : f_X8_river x2_rivers y3_riverOf y4_riverPlace p1 p2 = some r) : MI l g yX8_river wsX8_river 2 47 [.ref a0, .int p1, .int p2] (w_X8_river g a0 a1 a2 a3 a4 u0_1 u0_2 u0_3 u0_4 u0_5 u0_6 u0_7 u0_8 u0_9 u1_1 u1_2 u1_3 u1_4 u2_0 u2_1 u2_3 x2_rivers y3_riverOf y4_riverPlace) sz (some (.int r)) (w_X8_river g a0 a1 a2 a3 a4 u0_1 u0_2 u0_3 u0_4 u0_5 u0_6 u0_7 u0_8 u0_9 u1_1 u1_2 u1_3 u1_4 u2_0 u2_1 u2_3 x2_rivers y3_riverOf y4_riverPlace) := by
  refine MI.start (cc := cX8_river) (maxL := 3) (ret := (some .int)) rfl rfl (nle rfl) ?_
  intro p e s m args below meth c A ls Q hQ hexec hb hr hts hown hlocks hml hA hP hD hG hS hl
  unfold f_X8_river at hf
  have hWX1 : ∀ w ∈ wsX10, w.before args s = true := fun w h => hts w (List.mem_cons_of_mem _ (List.mem_append_left _ (List.mem_append_right _ h)))
  have hWX6 : ∀ w ∈ wsX60, w.before args s = true := fun w h => hts w (List.mem_cons_of_mem _ (List.mem_append_left _ (List.mem_append_left _ (List.mem_append_right _ h))))
  have hWX8 : ∀ w ∈ wsX80, w.before args s = true := fun w h => hts w (List.mem_cons_of_mem _ (List.mem_append_left _ (List.mem_append_left _ (List.mem_append_left _ (List.mem_append_right _ h)))))
  have hS : va_S A s.heap s.heap [] := hS
  refine lv_aload_n (pc := 0) hexec hb dX8_river_0 rfl (lv_at hl 0 rfl) ?_
  refine lv_iload_n (pc := 1) hexec hb dX8_river_1 rfl (lv_at hl 1 rfl) ?_
  obtain ⟨_, hc, hf⟩ := bd1_e hf
  refine kVp (pc := 2) (S := ⟨hexec, hb, hml, hown, hts⟩) hP hD hG hA hS [0, 1, 2] [3, 4] [2, 3, 4, 0, 1] (w2 := (w_X8_river g a0 a1 a2 a3 a4 u0_1 u0_2 u0_3 u0_4 u0_5 u0_6 u0_7 u0_8 u0_9 u1_1 u1_2 u1_3 u1_4 u2_0 u2_1 u2_3 x2_rivers y3_riverOf y4_riverPlace)) rfl rfl rfl rfl rfl rfl (by decide) (c_X8_needRiver l g a0 a1 a2 _ u0_1 u0_2 u0_3 u0_4 u0_5 u0_6 u0_7 u0_8 u0_9 u1_1 u1_2 u1_3 u1_4 u2_0 u2_1 u2_3 (.ref a3) (.ref a4) x2_rivers p1 hc) gX8_river_X8_needRiver rfl hv_X8_needRiver ⟨nle rfl, nle rfl⟩ 8 0 rfl rfl rfl (rest := []) rfl rfl hl.1 (nle rfl) dX8_river_2 (fun H locs hP hD hS => ?_)
  refine lv_aload_n (pc := 5) hexec hb dX8_river_5 rfl (lv_at hl 0 rfl) ?_
  refine kg_get (pc := 6) hexec hb (own := RX8) hWX8 hown hG hP 0 rfl rfl 0 (nle rfl) (hts _ (List.mem_cons_of_mem _ (List.mem_append_left _ (List.mem_append_left _ (List.mem_append_left _ (List.mem_append_left _ (List.mem_of_getElem? (i := 0) rfl))))))) rfl rfl dX8_river_6 ?_
  refine kg_getN (pc := 9) hexec hb (own := RX8) hWX6 hown hG hP 1 rfl rfl 0 (nle rfl) 21 rfl rfl rfl dX8_river_9 ?_
  refine lv_iload_n (pc := 12) hexec hb dX8_river_12 rfl (lv_at hl 1 rfl) ?_
  refine lv_iload_n (pc := 13) hexec hb dX8_river_13 rfl (lv_at hl 2 rfl) ?_
  obtain ⟨r14, hc, hf⟩ := bd1_e hf
  refine kVp (pc := 14) (S := ⟨hexec, hb, hml, hown, hts⟩) hP hD hG hA hS [2, 3, 4] [0, 1] [0, 1, 2, 3, 4] (w2 := (w_X8_river g a0 a1 a2 a3 a4 u0_1 u0_2 u0_3 u0_4 u0_5 u0_6 u0_7 u0_8 u0_9 u1_1 u1_2 u1_3 u1_4 u2_0 u2_1 u2_3 x2_rivers y3_riverOf y4_riverPlace)) rfl rfl rfl rfl rfl rfl (by decide) (c_X1_riverCell l g a2 a3 a4 _ u2_0 u2_1 (.int x2_rivers) u2_3 y3_riverOf y4_riverPlace p1 p2 r14 hc) gX8_river_X1_riverCell rfl hv_X1_riverCell ⟨nle rfl, nle rfl⟩ 1 0 rfl rfl rfl (rest := []) rfl rfl hl.1 (nle rfl) dX8_river_14 (fun H locs hP hD hS => ?_)
  cases hf
  exact ke_i hQ hexec hb hr hP hD hS dX8_river_17 hlocks
abbrev w_X8_voyage (g : GE) (a0 a1 a2 a3 : Nat) (u0_1 u0_2 u0_3 u0_4 u0_5 u0_6 u0_7 u0_8 u0_9 u1_0 u1_1 u1_3 u1_4 u2_1 u2_2 u2_3 : Value) (x2_count : Int32) (y3_stops : Nat → Int32) : va_W := [(a0, .inr (8, [.ref a1, u0_1, u0_2, u0_3, u0_4, u0_5, u0_6, u0_7, u0_8, u0_9])), (a1, .inr (6, [u1_0, u1_1, .ref a2, u1_3, u1_4])), (a2, .inr (4, [.int x2_count, u2_1, u2_2, u2_3, .ref a3])), (a3, .inl (g.2.1 0, 16, .inl y3_stops))]
noncomputable def f_X8_voyage (x2_count : Int32) (y3_stops : Nat → Int32) (p1 : Int32) : Option (Int32) :=
  bd1 (f_X4_stopAt x2_count y3_stops p1) fun (r8 : Int32) =>
  some r8
set_option maxRecDepth 4000 in
theorem c_X8_voyage (l : Launch) (g : GE) (a0 a1 a2 a3 : Nat) (sz : Nat) (u0_1 u0_2 u0_3 u0_4 u0_5 u0_6 u0_7 u0_8 u0_9 u1_0 u1_1 u1_3 u1_4 u2_1 u2_2 u2_3 : Value) (x2_count : Int32) (y3_stops : Nat → Int32) (p1 : Int32) (r : Int32) (hf : f_X8_voyage x2_count y3_stops p1 = some r) : MI l g yX8_voyage wsX8_voyage 2 45 [.ref a0, .int p1] (w_X8_voyage g a0 a1 a2 a3 u0_1 u0_2 u0_3 u0_4 u0_5 u0_6 u0_7 u0_8 u0_9 u1_0 u1_1 u1_3 u1_4 u2_1 u2_2 u2_3 x2_count y3_stops) sz (some (.int r)) (w_X8_voyage g a0 a1 a2 a3 u0_1 u0_2 u0_3 u0_4 u0_5 u0_6 u0_7 u0_8 u0_9 u1_0 u1_1 u1_3 u1_4 u2_1 u2_2 u2_3 x2_count y3_stops) := by
  refine MI.start (cc := cX8_voyage) (maxL := 2) (ret := (some .int)) rfl rfl (nle rfl) ?_
  intro p e s m args below meth c A ls Q hQ hexec hb hr hts hown hlocks hml hA hP hD hG hS hl
  unfold f_X8_voyage at hf
  have hWX4 : ∀ w ∈ wsX40, w.before args s = true := fun w h => hts w (List.mem_cons_of_mem _ (List.mem_append_right _ h))
  have hWX6 : ∀ w ∈ wsX60, w.before args s = true := fun w h => hts w (List.mem_cons_of_mem _ (List.mem_append_left _ (List.mem_append_right _ h)))
  have hWX8 : ∀ w ∈ wsX80, w.before args s = true := fun w h => hts w (List.mem_cons_of_mem _ (List.mem_append_left _ (List.mem_append_left _ (List.mem_append_right _ h))))
  have hS : va_S A s.heap s.heap [] := hS
  refine lv_aload_n (pc := 0) hexec hb dX8_voyage_0 rfl (lv_at hl 0 rfl) ?_
  refine kg_get (pc := 1) hexec hb (own := RX8) hWX8 hown hG hP 0 rfl rfl 0 (nle rfl) (hts _ (List.mem_cons_of_mem _ (List.mem_append_left _ (List.mem_append_left _ (List.mem_append_left _ (List.mem_of_getElem? (i := 0) rfl)))))) rfl rfl dX8_voyage_1 ?_
  refine kg_getN (pc := 4) hexec hb (own := RX8) hWX6 hown hG hP 1 rfl rfl 2 (nle rfl) 27 rfl rfl rfl dX8_voyage_4 ?_
  refine lv_iload_n (pc := 7) hexec hb dX8_voyage_7 rfl (lv_at hl 1 rfl) ?_
  obtain ⟨r8, hc, hf⟩ := bd1_e hf
  refine kVp (pc := 8) (S := ⟨hexec, hb, hml, hown, hts⟩) hP hD hG hA hS [2, 3] [0, 1] [0, 1, 2, 3] (w2 := (w_X8_voyage g a0 a1 a2 a3 u0_1 u0_2 u0_3 u0_4 u0_5 u0_6 u0_7 u0_8 u0_9 u1_0 u1_1 u1_3 u1_4 u2_1 u2_2 u2_3 x2_count y3_stops)) rfl rfl rfl rfl rfl rfl (by decide) (c_X4_stopAt l g a2 a3 _ u2_1 u2_2 u2_3 x2_count y3_stops p1 r8 hc) gX8_voyage_X4_stopAt rfl hv_X4_stopAt ⟨nle rfl, nle rfl⟩ 4 0 rfl rfl rfl (rest := []) rfl rfl hl.1 (nle rfl) dX8_voyage_8 (fun H locs hP hD hS => ?_)
  cases hf
  exact ke_i hQ hexec hb hr hP hD hS dX8_voyage_11 hlocks
abbrev w_X8_needDirection (g : GE) : va_W := []
noncomputable def f_X8_needDirection  (p0 : Int32) : Option (Unit) :=
  bv (fun (_ : Unit) => ((
    none
    ) : Option (Unit))) fun j9 =>
  (if p0 < 0 then (
    j9 ()
  ) else (
    (if p0 < 4 then (
      some ()
    ) else (
      j9 ()
    ))
  ))
set_option maxRecDepth 4000 in
theorem c_X8_needDirection (l : Launch) (g : GE) (sz : Nat)  (p0 : Int32) (hf : f_X8_needDirection p0 = some ()) : MI l g yX8_needDirection wsX8_needDirection 1 24 [.int p0] (w_X8_needDirection g ) sz none (w_X8_needDirection g ) := by
  refine MI.start (cc := cX8_needDirection) (maxL := 1) (ret := none) rfl rfl (nle rfl) ?_
  intro p e s m args below meth c A ls Q hQ hexec hb hr hts hown hlocks hml hA hP hD hG hS hl
  unfold f_X8_needDirection at hf
  have hS : va_S A s.heap s.heap [] := hS
  refine lv_iload_n (pc := 0) hexec hb dX8_needDirection_0 rfl (lv_at hl 0 rfl) ?_
  obtain ⟨j9, ej9, hf⟩ := bvf1 hf
  have hj9 : ∀ (u : Unit) (H : Heap) (locs : List Loc) (ls : Array Slot), j9 u = some () → va_P g.1 vwCl (w_X8_needDirection g ) H → va_D A (w_X8_needDirection g ) → va_S A s.heap H locs → lv_has ls 1 [] → W p l e (RM 1 24) s m args below meth c H locs 0 0 Q (F0 m 9 ls []) := by
    intro u H locs ls hf hP hD hS hl
    have hf := (ej9 u).symm.trans hf
    cases hf
  refine kb_lt (pc := 1) hexec hb dX8_needDirection_1 (tgt := 9) rfl hf (fun hc hf => ?_) (fun hc hf => ?_)
  · exact hj9 _ _ _ _ hf hP hD hS (lv_sub hl [] rfl)
  · refine lv_iload_n (pc := 4) hexec hb dX8_needDirection_4 rfl (lv_at hl 0 rfl) ?_
    refine lv_iconst (pc := 5) hexec hb dX8_needDirection_5 ki_4 ?_
    refine ki_lt (pc := 6) hexec hb dX8_needDirection_6 (tgt := 20) rfl hf (fun hc hf => ?_) (fun hc hf => ?_)
    · cases hf
      exact ke_v hQ hexec hb hr hP hD hS dX8_needDirection_20 hlocks
    · exact hj9 _ _ _ _ hf hP hD hS (lv_sub hl [] rfl)
abbrev w_X8_why (g : GE) (a0 a1 a2 a3 a4 a5 a6 a7 a8 a9 a10 : Nat) (u0_1 u0_2 u0_3 u0_4 u0_5 u0_6 u0_7 u0_8 u0_9 u1_2 u2_2 u2_5 u3_3 : Value) (x2_rows : Int32) (x2_columns : Int32) (x3_count : Int32) (x3_reds : Int32) (y4_letterOn : Nat → Int32) (y5_namesOn : Nat → Int32) (y6_land : Nat → Int32) (y7_riverOf : Nat → Int32) (y8_home : Nat → Int32) (y9_length : Nat → Int32) (y10_letters : Nat → Int32) : va_W := [(a0, .inr (8, [.ref a1, u0_1, u0_2, u0_3, u0_4, u0_5, u0_6, u0_7, u0_8, u0_9])), (a1, .inr (6, [.ref a2, .ref a3, u1_2, .ref a5, .ref a4])), (a2, .inr (1, [.int x2_rows, .int x2_columns, u2_2, .ref a6, .ref a7, u2_5])), (a3, .inr (2, [.int x3_count, .int x3_reds, .ref a8, u3_3, .ref a9, .ref a10])), (a4, .inl (g.2.1 0, 144, .inl y4_letterOn)), (a5, .inl (g.2.1 0, 144, .inl y5_namesOn)), (a6, .inl (g.2.1 1, 144, .inl y6_land)), (a7, .inl (g.2.1 0, 144, .inl y7_riverOf)), (a8, .inl (g.2.1 0, 8, .inl y8_home)), (a9, .inl (g.2.1 0, 8, .inl y9_length)), (a10, .inl (g.2.1 0, 64, .inl y10_letters))]
noncomputable def f_X8_why (x2_rows : Int32) (x2_columns : Int32) (x3_count : Int32) (x3_reds : Int32) (y4_letterOn : Nat → Int32) (y5_namesOn : Nat → Int32) (y6_land : Nat → Int32) (y7_riverOf : Nat → Int32) (y8_home : Nat → Int32) (y9_length : Nat → Int32) (y10_letters : Nat → Int32) (p1 : Int32) (p2 : Int32) : Option (Int32) :=
  bd1 (f_X8_needHarbour x3_count p1) fun (_ : Unit) =>
  bd1 (f_X8_needDirection p2) fun (_ : Unit) =>
  bd1 (f_X6_reasonAgainst x2_rows x2_columns x3_count x3_reds y4_letterOn y5_namesOn y6_land y7_riverOf y8_home y9_length y10_letters p1 p2) fun (r15 : Int32) =>
  some r15
set_option maxRecDepth 4000 in
theorem c_X8_why (l : Launch) (g : GE) (a0 a1 a2 a3 a4 a5 a6 a7 a8 a9 a10 : Nat) (sz : Nat) (u0_1 u0_2 u0_3 u0_4 u0_5 u0_6 u0_7 u0_8 u0_9 u1_2 u2_2 u2_5 u3_3 : Value) (x2_rows : Int32) (x2_columns : Int32) (x3_count : Int32) (x3_reds : Int32) (y4_letterOn : Nat → Int32) (y5_namesOn : Nat → Int32) (y6_land : Nat → Int32) (y7_riverOf : Nat → Int32) (y8_home : Nat → Int32) (y9_length : Nat → Int32) (y10_letters : Nat → Int32) (p1 : Int32) (p2 : Int32) (r : Int32) (hf : f_X8_why x2_rows x2_columns x3_count x3_reds y4_letterOn y5_namesOn y6_land y7_riverOf y8_home y9_length y10_letters p1 p2 = some r) : MI l g yX8_why wsX8_why 5 119 [.ref a0, .int p1, .int p2] (w_X8_why g a0 a1 a2 a3 a4 a5 a6 a7 a8 a9 a10 u0_1 u0_2 u0_3 u0_4 u0_5 u0_6 u0_7 u0_8 u0_9 u1_2 u2_2 u2_5 u3_3 x2_rows x2_columns x3_count x3_reds y4_letterOn y5_namesOn y6_land y7_riverOf y8_home y9_length y10_letters) sz (some (.int r)) (w_X8_why g a0 a1 a2 a3 a4 a5 a6 a7 a8 a9 a10 u0_1 u0_2 u0_3 u0_4 u0_5 u0_6 u0_7 u0_8 u0_9 u1_2 u2_2 u2_5 u3_3 x2_rows x2_columns x3_count x3_reds y4_letterOn y5_namesOn y6_land y7_riverOf y8_home y9_length y10_letters) := by
  refine MI.start (cc := cX8_why) (maxL := 3) (ret := (some .int)) rfl rfl (nle rfl) ?_
  intro p e s m args below meth c A ls Q hQ hexec hb hr hts hown hlocks hml hA hP hD hG hS hl
  unfold f_X8_why at hf
  have hWX1 : ∀ w ∈ wsX10, w.before args s = true := fun w h => hts w (List.mem_cons_of_mem _ (List.mem_append_left _ (List.mem_append_left _ (List.mem_append_right _ h))))
  have hWX2 : ∀ w ∈ wsX20, w.before args s = true := fun w h => hts w (List.mem_cons_of_mem _ (List.mem_append_left _ (List.mem_append_left _ (List.mem_append_left _ (List.mem_append_right _ h)))))
  have hWX6 : ∀ w ∈ wsX60, w.before args s = true := fun w h => hts w (List.mem_cons_of_mem _ (List.mem_append_left _ (List.mem_append_left _ (List.mem_append_left _ (List.mem_append_left _ (List.mem_append_right _ h))))))
  have hWX8 : ∀ w ∈ wsX80, w.before args s = true := fun w h => hts w (List.mem_cons_of_mem _ (List.mem_append_left _ (List.mem_append_left _ (List.mem_append_left _ (List.mem_append_left _ (List.mem_append_left _ (List.mem_append_right _ h)))))))
  have hS : va_S A s.heap s.heap [] := hS
  refine lv_aload_n (pc := 0) hexec hb dX8_why_0 rfl (lv_at hl 0 rfl) ?_
  refine lv_iload_n (pc := 1) hexec hb dX8_why_1 rfl (lv_at hl 1 rfl) ?_
  obtain ⟨_, hc, hf⟩ := bd1_e hf
  refine kVp (pc := 2) (S := ⟨hexec, hb, hml, hown, hts⟩) hP hD hG hA hS [0, 1, 3] [2, 4, 5, 6, 7, 8, 9, 10] [8, 9, 0, 10, 1, 2, 3, 4, 5, 6, 7] (w2 := (w_X8_why g a0 a1 a2 a3 a4 a5 a6 a7 a8 a9 a10 u0_1 u0_2 u0_3 u0_4 u0_5 u0_6 u0_7 u0_8 u0_9 u1_2 u2_2 u2_5 u3_3 x2_rows x2_columns x3_count x3_reds y4_letterOn y5_namesOn y6_land y7_riverOf y8_home y9_length y10_letters)) rfl rfl rfl rfl rfl rfl (by decide) (c_X8_needHarbour l g a0 a1 a3 _ u0_1 u0_2 u0_3 u0_4 u0_5 u0_6 u0_7 u0_8 u0_9 (.ref a2) u1_2 (.ref a5) (.ref a4) (.int x3_reds) (.ref a8) u3_3 (.ref a9) (.ref a10) x3_count p1 hc) gX8_why_X8_needHarbour rfl hv_X8_needHarbour ⟨nle rfl, nle rfl⟩ 8 0 rfl rfl rfl (rest := []) rfl rfl hl.1 (nle rfl) dX8_why_2 (fun H locs hP hD hS => ?_)
  refine lv_iload_n (pc := 5) hexec hb dX8_why_5 rfl (lv_at hl 2 rfl) ?_
  obtain ⟨_, hc, hf⟩ := bd1_e hf
  refine kSp (pc := 6) (S := ⟨hexec, hb, hml, hown, hts⟩) hP hD hG hA hS [] [0, 1, 2, 3, 4, 5, 6, 7, 8, 9, 10] [0, 1, 2, 3, 4, 5, 6, 7, 8, 9, 10] (w2 := (w_X8_why g a0 a1 a2 a3 a4 a5 a6 a7 a8 a9 a10 u0_1 u0_2 u0_3 u0_4 u0_5 u0_6 u0_7 u0_8 u0_9 u1_2 u2_2 u2_5 u3_3 x2_rows x2_columns x3_count x3_reds y4_letterOn y5_namesOn y6_land y7_riverOf y8_home y9_length y10_letters)) rfl rfl rfl rfl rfl rfl (by decide) (c_X8_needDirection l g _ p2 hc) gX8_why_X8_needDirection rfl hs_X8_needDirection ⟨nle rfl, nle rfl⟩ (rest := []) rfl rfl hl.1 (nle rfl) dX8_why_6 (fun H locs hP hD hS => ?_)
  refine lv_aload_n (pc := 9) hexec hb dX8_why_9 rfl (lv_at hl 0 rfl) ?_
  refine kg_get (pc := 10) hexec hb (own := RX8) hWX8 hown hG hP 0 rfl rfl 0 (nle rfl) (hts _ (List.mem_cons_of_mem _ (List.mem_append_left _ (List.mem_append_left _ (List.mem_append_left _ (List.mem_append_left _ (List.mem_append_left _ (List.mem_append_left _ (List.mem_append_left _ (List.mem_of_getElem? (i := 0) rfl)))))))))) rfl rfl dX8_why_10 ?_
  refine lv_iload_n (pc := 13) hexec hb dX8_why_13 rfl (lv_at hl 1 rfl) ?_
  refine lv_iload_n (pc := 14) hexec hb dX8_why_14 rfl (lv_at hl 2 rfl) ?_
  obtain ⟨r15, hc, hf⟩ := bd1_e hf
  refine kVp (pc := 15) (S := ⟨hexec, hb, hml, hown, hts⟩) hP hD hG hA hS [1, 2, 3, 4, 5, 6, 7, 8, 9, 10] [0] [0, 1, 2, 3, 4, 5, 6, 7, 8, 9, 10] (w2 := (w_X8_why g a0 a1 a2 a3 a4 a5 a6 a7 a8 a9 a10 u0_1 u0_2 u0_3 u0_4 u0_5 u0_6 u0_7 u0_8 u0_9 u1_2 u2_2 u2_5 u3_3 x2_rows x2_columns x3_count x3_reds y4_letterOn y5_namesOn y6_land y7_riverOf y8_home y9_length y10_letters)) rfl rfl rfl rfl rfl rfl (by decide) (c_X6_reasonAgainst l g a1 a2 a3 a4 a5 a6 a7 a8 a9 a10 _ u1_2 u2_2 u2_5 u3_3 x2_rows x2_columns x3_count x3_reds y4_letterOn y5_namesOn y6_land y7_riverOf y8_home y9_length y10_letters p1 p2 r15 hc) gX8_why_X6_reasonAgainst rfl hv_X6_reasonAgainst ⟨nle rfl, nle rfl⟩ 6 0 rfl rfl rfl (rest := []) rfl rfl hl.1 (nle rfl) dX8_why_15 (fun H locs hP hD hS => ?_)
  cases hf
  exact ke_i hQ hexec hb hr hP hD hS dX8_why_18 hlocks
abbrev w_X8_ways (g : GE) (a0 a1 a2 a3 a4 a5 a6 a7 a8 a9 a10 : Nat) (u0_1 u0_2 u0_3 u0_4 u0_5 u0_6 u0_7 u0_8 u0_9 u1_2 u2_2 u2_5 u3_3 : Value) (x2_rows : Int32) (x2_columns : Int32) (x3_count : Int32) (x3_reds : Int32) (y4_letterOn : Nat → Int32) (y5_namesOn : Nat → Int32) (y6_land : Nat → Int32) (y7_riverOf : Nat → Int32) (y8_home : Nat → Int32) (y9_length : Nat → Int32) (y10_letters : Nat → Int32) : va_W := [(a0, .inr (8, [.ref a1, u0_1, u0_2, u0_3, u0_4, u0_5, u0_6, u0_7, u0_8, u0_9])), (a1, .inr (6, [.ref a2, .ref a3, u1_2, .ref a5, .ref a4])), (a2, .inr (1, [.int x2_rows, .int x2_columns, u2_2, .ref a6, .ref a7, u2_5])), (a3, .inr (2, [.int x3_count, .int x3_reds, .ref a8, u3_3, .ref a9, .ref a10])), (a4, .inl (g.2.1 0, 144, .inl y4_letterOn)), (a5, .inl (g.2.1 0, 144, .inl y5_namesOn)), (a6, .inl (g.2.1 1, 144, .inl y6_land)), (a7, .inl (g.2.1 0, 144, .inl y7_riverOf)), (a8, .inl (g.2.1 0, 8, .inl y8_home)), (a9, .inl (g.2.1 0, 8, .inl y9_length)), (a10, .inl (g.2.1 0, 64, .inl y10_letters))]
noncomputable def f_X8_ways (x2_rows : Int32) (x2_columns : Int32) (x3_count : Int32) (x3_reds : Int32) (y4_letterOn : Nat → Int32) (y5_namesOn : Nat → Int32) (y6_land : Nat → Int32) (y7_riverOf : Nat → Int32) (y8_home : Nat → Int32) (y9_length : Nat → Int32) (y10_letters : Nat → Int32) (p1 : Int32) : Option (Int32) :=
  bd1 (f_X8_needHarbour x3_count p1) fun (_ : Unit) =>
  bv (fun (v2 : Int32) (v3 : Int32) => ((
    (if 4 ≤ v3 then (
      some (.inr v2)
    ) else (
      bd1 (f_X6_reasonAgainst x2_rows x2_columns x3_count x3_reds y4_letterOn y5_namesOn y6_land y7_riverOf y8_home y9_length y10_letters p1 v3) fun (r20 : Int32) =>
      bv (fun (v2_2 : Int32) => ((
        bv (v3 + 1) fun v3_1 =>
        some (.inl (v2_2, v3_1))
        ) : Option ((Int32 × Int32) ⊕ (Int32)))) fun j32 =>
      (if r20 = 0 then (
        bv (v2 ||| (1 <<< (v3 &&& 31))) fun v2_3 =>
        j32 v2_3
      ) else (
        j32 v2
      ))
    ))
    ) : Option ((Int32 × Int32) ⊕ (Int32)))) fun l9 =>
  bd1 (lq2 l9 0 0) fun (v2_1 : Int32) =>
  some v2_1
set_option maxRecDepth 4000 in
theorem c_X8_ways (l : Launch) (g : GE) (a0 a1 a2 a3 a4 a5 a6 a7 a8 a9 a10 : Nat) (sz : Nat) (u0_1 u0_2 u0_3 u0_4 u0_5 u0_6 u0_7 u0_8 u0_9 u1_2 u2_2 u2_5 u3_3 : Value) (x2_rows : Int32) (x2_columns : Int32) (x3_count : Int32) (x3_reds : Int32) (y4_letterOn : Nat → Int32) (y5_namesOn : Nat → Int32) (y6_land : Nat → Int32) (y7_riverOf : Nat → Int32) (y8_home : Nat → Int32) (y9_length : Nat → Int32) (y10_letters : Nat → Int32) (p1 : Int32) (r : Int32) (hf : f_X8_ways x2_rows x2_columns x3_count x3_reds y4_letterOn y5_namesOn y6_land y7_riverOf y8_home y9_length y10_letters p1 = some r) : MI l g yX8_ways wsX8_ways 5 119 [.ref a0, .int p1] (w_X8_ways g a0 a1 a2 a3 a4 a5 a6 a7 a8 a9 a10 u0_1 u0_2 u0_3 u0_4 u0_5 u0_6 u0_7 u0_8 u0_9 u1_2 u2_2 u2_5 u3_3 x2_rows x2_columns x3_count x3_reds y4_letterOn y5_namesOn y6_land y7_riverOf y8_home y9_length y10_letters) sz (some (.int r)) (w_X8_ways g a0 a1 a2 a3 a4 a5 a6 a7 a8 a9 a10 u0_1 u0_2 u0_3 u0_4 u0_5 u0_6 u0_7 u0_8 u0_9 u1_2 u2_2 u2_5 u3_3 x2_rows x2_columns x3_count x3_reds y4_letterOn y5_namesOn y6_land y7_riverOf y8_home y9_length y10_letters) := by
  refine MI.start (cc := cX8_ways) (maxL := 4) (ret := (some .int)) rfl rfl (nle rfl) ?_
  intro p e s m args below meth c A ls Q hQ hexec hb hr hts hown hlocks hml hA hP hD hG hS hl
  unfold f_X8_ways at hf
  have hWX1 : ∀ w ∈ wsX10, w.before args s = true := fun w h => hts w (List.mem_cons_of_mem _ (List.mem_append_left _ (List.mem_append_right _ h)))
  have hWX2 : ∀ w ∈ wsX20, w.before args s = true := fun w h => hts w (List.mem_cons_of_mem _ (List.mem_append_left _ (List.mem_append_left _ (List.mem_append_right _ h))))
  have hWX6 : ∀ w ∈ wsX60, w.before args s = true := fun w h => hts w (List.mem_cons_of_mem _ (List.mem_append_left _ (List.mem_append_left _ (List.mem_append_left _ (List.mem_append_right _ h)))))
  have hWX8 : ∀ w ∈ wsX80, w.before args s = true := fun w h => hts w (List.mem_cons_of_mem _ (List.mem_append_left _ (List.mem_append_left _ (List.mem_append_left _ (List.mem_append_left _ (List.mem_append_right _ h))))))
  have hS : va_S A s.heap s.heap [] := hS
  refine lv_aload_n (pc := 0) hexec hb dX8_ways_0 rfl (lv_at hl 0 rfl) ?_
  refine lv_iload_n (pc := 1) hexec hb dX8_ways_1 rfl (lv_at hl 1 rfl) ?_
  obtain ⟨_, hc, hf⟩ := bd1_e hf
  refine kVp (pc := 2) (S := ⟨hexec, hb, hml, hown, hts⟩) hP hD hG hA hS [0, 1, 3] [2, 4, 5, 6, 7, 8, 9, 10] [8, 9, 0, 10, 1, 2, 3, 4, 5, 6, 7] (w2 := (w_X8_ways g a0 a1 a2 a3 a4 a5 a6 a7 a8 a9 a10 u0_1 u0_2 u0_3 u0_4 u0_5 u0_6 u0_7 u0_8 u0_9 u1_2 u2_2 u2_5 u3_3 x2_rows x2_columns x3_count x3_reds y4_letterOn y5_namesOn y6_land y7_riverOf y8_home y9_length y10_letters)) rfl rfl rfl rfl rfl rfl (by decide) (c_X8_needHarbour l g a0 a1 a3 _ u0_1 u0_2 u0_3 u0_4 u0_5 u0_6 u0_7 u0_8 u0_9 (.ref a2) u1_2 (.ref a5) (.ref a4) (.int x3_reds) (.ref a8) u3_3 (.ref a9) (.ref a10) x3_count p1 hc) gX8_ways_X8_needHarbour rfl hv_X8_needHarbour ⟨nle rfl, nle rfl⟩ 8 0 rfl rfl rfl (rest := []) rfl rfl hl.1 (nle rfl) dX8_ways_2 (fun H locs hP hD hS => ?_)
  refine lv_iconst (pc := 5) hexec hb dX8_ways_5 ki_0 ?_
  refine lv_istore_n (pc := 6) hexec hb dX8_ways_6 rfl hl (nle rfl) rfl (fun ls (hl : lv_has ls 4 [(2, .int 0), (0, .ref a0), (1, .int p1)]) => ?_)
  refine lv_iconst (pc := 7) hexec hb dX8_ways_7 ki_0 ?_
  refine lv_istore_n (pc := 8) hexec hb dX8_ways_8 rfl hl (nle rfl) rfl (fun ls (hl : lv_has ls 4 [(3, .int 0), (2, .int 0), (0, .ref a0), (1, .int p1)]) => ?_)
  obtain ⟨l9, el9, hf⟩ := bvf2 hf
  obtain ⟨v2_1, hz, hf⟩ := bd1_e hf
  have hE9 : ∀ (H : Heap) (locs : List Loc) (ls : Array Slot), va_P g.1 vwCl (w_X8_ways g a0 a1 a2 a3 a4 a5 a6 a7 a8 a9 a10 u0_1 u0_2 u0_3 u0_4 u0_5 u0_6 u0_7 u0_8 u0_9 u1_2 u2_2 u2_5 u3_3 x2_rows x2_columns x3_count x3_reds y4_letterOn y5_namesOn y6_land y7_riverOf y8_home y9_length y10_letters) H → va_D A (w_X8_ways g a0 a1 a2 a3 a4 a5 a6 a7 a8 a9 a10 u0_1 u0_2 u0_3 u0_4 u0_5 u0_6 u0_7 u0_8 u0_9 u1_2 u2_2 u2_5 u3_3 x2_rows x2_columns x3_count x3_reds y4_letterOn y5_namesOn y6_land y7_riverOf y8_home y9_length y10_letters) → va_S A s.heap H locs → lv_has ls 4 [(2, .int v2_1)] → W p l e (RM 5 119) s m args below meth c H locs 0 0 Q (F0 m 38 ls []) := by
    intro H locs ls hP hD hS hl
    refine lv_iload_n (pc := 38) hexec hb dX8_ways_38 rfl (lv_at hl 0 rfl) ?_
    cases hf
    exact ke_i hQ hexec hb hr hP hD hS dX8_ways_39 hlocks
  obtain ⟨n, hz⟩ := lq2_e hz
  have hL9 : ∀ (n : Nat) (v2 : Int32) (v3 : Int32) (H : Heap) (locs : List Loc) (ls : Array Slot), it2 l9 n v2 v3 = some v2_1 → va_P g.1 vwCl (w_X8_ways g a0 a1 a2 a3 a4 a5 a6 a7 a8 a9 a10 u0_1 u0_2 u0_3 u0_4 u0_5 u0_6 u0_7 u0_8 u0_9 u1_2 u2_2 u2_5 u3_3 x2_rows x2_columns x3_count x3_reds y4_letterOn y5_namesOn y6_land y7_riverOf y8_home y9_length y10_letters) H → va_D A (w_X8_ways g a0 a1 a2 a3 a4 a5 a6 a7 a8 a9 a10 u0_1 u0_2 u0_3 u0_4 u0_5 u0_6 u0_7 u0_8 u0_9 u1_2 u2_2 u2_5 u3_3 x2_rows x2_columns x3_count x3_reds y4_letterOn y5_namesOn y6_land y7_riverOf y8_home y9_length y10_letters) → va_S A s.heap H locs → lv_has ls 4 [(0, .ref a0), (1, .int p1), (2, .int v2), (3, .int v3)] → W p l e (RM 5 119) s m args below meth c H locs 0 0 Q (F0 m 9 ls []) := by
    intro n
    induction n with
    | zero =>
      intro v2 v3 H locs ls hf hP hD hS hl
      exact it2_0 hf
    | succ n9 ih9 =>
      intro v2 v3 H locs ls hf hP hD hS hl
      obtain ⟨q9, hf, hk9⟩ := it2_e hf
      have hf := (el9 v2 v3).symm.trans hf
      refine lv_iload_n (pc := 9) hexec hb dX8_ways_9 rfl (lv_at hl 3 rfl) ?_
      refine lv_iconst (pc := 10) hexec hb dX8_ways_10 ki_4 ?_
      refine ki_ge (pc := 11) hexec hb dX8_ways_11 (tgt := 38) rfl hf (fun hc hf => ?_) (fun hc hf => ?_)
      · cases sr2 hf hk9
        exact hE9 _ _ _ hP hD hS (lv_sub hl [2] rfl)
      · refine lv_aload_n (pc := 14) hexec hb dX8_ways_14 rfl (lv_at hl 0 rfl) ?_
        refine kg_get (pc := 15) hexec hb (own := RX8) hWX8 hown hG hP 0 rfl rfl 0 (nle rfl) (hts _ (List.mem_cons_of_mem _ (List.mem_append_left _ (List.mem_append_left _ (List.mem_append_left _ (List.mem_append_left _ (List.mem_append_left _ (List.mem_append_left _ (List.mem_of_getElem? (i := 0) rfl))))))))) rfl rfl dX8_ways_15 ?_
        refine lv_iload_n (pc := 18) hexec hb dX8_ways_18 rfl (lv_at hl 1 rfl) ?_
        refine lv_iload_n (pc := 19) hexec hb dX8_ways_19 rfl (lv_at hl 3 rfl) ?_
        obtain ⟨r20, hc, hf⟩ := bd1_e hf
        refine kVp (pc := 20) (S := ⟨hexec, hb, hml, hown, hts⟩) hP hD hG hA hS [1, 2, 3, 4, 5, 6, 7, 8, 9, 10] [0] [0, 1, 2, 3, 4, 5, 6, 7, 8, 9, 10] (w2 := (w_X8_ways g a0 a1 a2 a3 a4 a5 a6 a7 a8 a9 a10 u0_1 u0_2 u0_3 u0_4 u0_5 u0_6 u0_7 u0_8 u0_9 u1_2 u2_2 u2_5 u3_3 x2_rows x2_columns x3_count x3_reds y4_letterOn y5_namesOn y6_land y7_riverOf y8_home y9_length y10_letters)) rfl rfl rfl rfl rfl rfl (by decide) (c_X6_reasonAgainst l g a1 a2 a3 a4 a5 a6 a7 a8 a9 a10 _ u1_2 u2_2 u2_5 u3_3 x2_rows x2_columns x3_count x3_reds y4_letterOn y5_namesOn y6_land y7_riverOf y8_home y9_length y10_letters p1 v3 r20 hc) gX8_ways_X6_reasonAgainst rfl hv_X6_reasonAgainst ⟨nle rfl, nle rfl⟩ 6 0 rfl rfl rfl (rest := []) rfl rfl hl.1 (nle rfl) dX8_ways_20 (fun H locs hP hD hS => ?_)
        obtain ⟨j32, ej32, hf⟩ := bvf1 hf
        have hj32 : ∀ (v2_2 : Int32) (H : Heap) (locs : List Loc) (ls : Array Slot), j32 v2_2 = some q9 → va_P g.1 vwCl (w_X8_ways g a0 a1 a2 a3 a4 a5 a6 a7 a8 a9 a10 u0_1 u0_2 u0_3 u0_4 u0_5 u0_6 u0_7 u0_8 u0_9 u1_2 u2_2 u2_5 u3_3 x2_rows x2_columns x3_count x3_reds y4_letterOn y5_namesOn y6_land y7_riverOf y8_home y9_length y10_letters) H → va_D A (w_X8_ways g a0 a1 a2 a3 a4 a5 a6 a7 a8 a9 a10 u0_1 u0_2 u0_3 u0_4 u0_5 u0_6 u0_7 u0_8 u0_9 u1_2 u2_2 u2_5 u3_3 x2_rows x2_columns x3_count x3_reds y4_letterOn y5_namesOn y6_land y7_riverOf y8_home y9_length y10_letters) → va_S A s.heap H locs → lv_has ls 4 [(0, .ref a0), (1, .int p1), (2, .int v2_2), (3, .int v3)] → W p l e (RM 5 119) s m args below meth c H locs 0 0 Q (F0 m 32 ls []) := by
          intro v2_2 H locs ls hf hP hD hS hl
          have hf := (ej32 v2_2).symm.trans hf
          obtain ⟨v3_1, ev3_1, hf⟩ := bv_e hf
          refine k_iinc (pc := 32) hexec hb dX8_ways_32 kq_1 hl (k := 3) rfl ev3_1 (nle rfl) rfl (fun ls (hl : lv_has ls 4 [(3, .int v3_1), (0, .ref a0), (1, .int p1), (2, .int v2_2)]) => ?_)
          refine lv_goto (pc := 35) hexec hb dX8_ways_35 (tgt := 9) rfl ?_
          exact ih9 _ _ _ _ _ (sl2 hf hk9) hP hD hS (lv_sub hl [1, 2, 3, 0] rfl)
        refine kb_ne (pc := 23) hexec hb dX8_ways_23 (tgt := 32) rfl hf (fun hc hf => ?_) (fun hc hf => ?_)
        · exact hj32 _ _ _ _ hf hP hD hS (lv_sub hl [0, 1, 2, 3] rfl)
        · refine lv_iload_n (pc := 26) hexec hb dX8_ways_26 rfl (lv_at hl 2 rfl) ?_
          refine lv_iconst (pc := 27) hexec hb dX8_ways_27 ki_1 ?_
          refine lv_iload_n (pc := 28) hexec hb dX8_ways_28 rfl (lv_at hl 3 rfl) ?_
          refine lv_ishl (pc := 29) hexec hb dX8_ways_29 ?_
          refine lv_ior (pc := 30) hexec hb dX8_ways_30 ?_
          obtain ⟨v2_3, ev2_3, hf⟩ := bv_e hf
          refine kn_i ev2_3 ?_
          refine lv_istore_n (pc := 31) hexec hb dX8_ways_31 rfl hl (nle rfl) rfl (fun ls (hl : lv_has ls 4 [(2, .int v2_3), (0, .ref a0), (1, .int p1), (3, .int v3)]) => ?_)
          exact hj32 _ _ _ _ hf hP hD hS (lv_sub hl [1, 2, 0, 3] rfl)
  exact hL9 n _ _ _ _ _ hz hP hD hS (lv_sub hl [2, 3, 1, 0] rfl)
abbrev w_X8_room (g : GE) (a0 a1 a2 a3 a4 a5 a6 : Nat) (u0_1 u0_2 u0_3 u0_4 u0_5 u0_6 u0_7 u0_8 u0_9 u1_2 u1_3 u1_4 u2_2 u2_5 u3_1 u3_3 u3_4 u3_5 : Value) (x2_rows : Int32) (x2_columns : Int32) (x3_count : Int32) (y4_land : Nat → Int32) (y5_riverOf : Nat → Int32) (y6_home : Nat → Int32) : va_W := [(a0, .inr (8, [.ref a1, u0_1, u0_2, u0_3, u0_4, u0_5, u0_6, u0_7, u0_8, u0_9])), (a1, .inr (6, [.ref a2, .ref a3, u1_2, u1_3, u1_4])), (a2, .inr (1, [.int x2_rows, .int x2_columns, u2_2, .ref a4, .ref a5, u2_5])), (a3, .inr (2, [.int x3_count, u3_1, .ref a6, u3_3, u3_4, u3_5])), (a4, .inl (g.2.1 1, 144, .inl y4_land)), (a5, .inl (g.2.1 0, 144, .inl y5_riverOf)), (a6, .inl (g.2.1 0, 8, .inl y6_home))]
noncomputable def f_X8_room (x2_rows : Int32) (x2_columns : Int32) (x3_count : Int32) (y4_land : Nat → Int32) (y5_riverOf : Nat → Int32) (y6_home : Nat → Int32) (p1 : Int32) (p2 : Int32) : Option (Int32) :=
  bd1 (f_X8_needHarbour x3_count p1) fun (_ : Unit) =>
  bd1 (f_X8_needDirection p2) fun (_ : Unit) =>
  bd1 (f_X2_homeOf x3_count y6_home p1) fun (r17 : Int32) =>
  bv (fun (v4 : Int32) => ((
    (if 12 ≤ v4 then (
      mr (some 11)
    ) else (
      bd1 (f_X1_ahead x2_rows x2_columns r17 p2 v4) fun (r46 : Int32) =>
      bd1 (f_X6_isOpen x3_count y4_land y5_riverOf y6_home r46) fun (r49 : Int32) =>
      (if r49 = 0 then (
        mr (some (v4 - 1))
      ) else (
        bv (v4 + 1) fun v4_1 =>
        some (.inl v4_1)
      ))
    ))
    ) : Option ((Int32) ⊕ (Int32)))) fun l24 =>
  lq1 l24 1
set_option maxRecDepth 4000 in
theorem c_X8_room (l : Launch) (g : GE) (a0 a1 a2 a3 a4 a5 a6 : Nat) (sz : Nat) (u0_1 u0_2 u0_3 u0_4 u0_5 u0_6 u0_7 u0_8 u0_9 u1_2 u1_3 u1_4 u2_2 u2_5 u3_1 u3_3 u3_4 u3_5 : Value) (x2_rows : Int32) (x2_columns : Int32) (x3_count : Int32) (y4_land : Nat → Int32) (y5_riverOf : Nat → Int32) (y6_home : Nat → Int32) (p1 : Int32) (p2 : Int32) (r : Int32) (hf : f_X8_room x2_rows x2_columns x3_count y4_land y5_riverOf y6_home p1 p2 = some r) : MI l g yX8_room wsX8_room 3 67 [.ref a0, .int p1, .int p2] (w_X8_room g a0 a1 a2 a3 a4 a5 a6 u0_1 u0_2 u0_3 u0_4 u0_5 u0_6 u0_7 u0_8 u0_9 u1_2 u1_3 u1_4 u2_2 u2_5 u3_1 u3_3 u3_4 u3_5 x2_rows x2_columns x3_count y4_land y5_riverOf y6_home) sz (some (.int r)) (w_X8_room g a0 a1 a2 a3 a4 a5 a6 u0_1 u0_2 u0_3 u0_4 u0_5 u0_6 u0_7 u0_8 u0_9 u1_2 u1_3 u1_4 u2_2 u2_5 u3_1 u3_3 u3_4 u3_5 x2_rows x2_columns x3_count y4_land y5_riverOf y6_home) := by
  refine MI.start (cc := cX8_room) (maxL := 5) (ret := (some .int)) rfl rfl (nle rfl) ?_
  intro p e s m args below meth c A ls Q hQ hexec hb hr hts hown hlocks hml hA hP hD hG hS hl
  unfold f_X8_room at hf
  have hWX1 : ∀ w ∈ wsX10, w.before args s = true := fun w h => hts w (List.mem_cons_of_mem _ (List.mem_append_left _ (List.mem_append_left _ (List.mem_append_right _ h))))
  have hWX2 : ∀ w ∈ wsX20, w.before args s = true := fun w h => hts w (List.mem_cons_of_mem _ (List.mem_append_left _ (List.mem_append_left _ (List.mem_append_left _ (List.mem_append_right _ h)))))
  have hWX6 : ∀ w ∈ wsX60, w.before args s = true := fun w h => hts w (List.mem_cons_of_mem _ (List.mem_append_left _ (List.mem_append_left _ (List.mem_append_left _ (List.mem_append_left _ (List.mem_append_right _ h))))))
  have hWX8 : ∀ w ∈ wsX80, w.before args s = true := fun w h => hts w (List.mem_cons_of_mem _ (List.mem_append_left _ (List.mem_append_left _ (List.mem_append_left _ (List.mem_append_left _ (List.mem_append_left _ (List.mem_append_right _ h)))))))
  have hS : va_S A s.heap s.heap [] := hS
  refine lv_aload_n (pc := 0) hexec hb dX8_room_0 rfl (lv_at hl 0 rfl) ?_
  refine lv_iload_n (pc := 1) hexec hb dX8_room_1 rfl (lv_at hl 1 rfl) ?_
  obtain ⟨_, hc, hf⟩ := bd1_e hf
  refine kVp (pc := 2) (S := ⟨hexec, hb, hml, hown, hts⟩) hP hD hG hA hS [0, 1, 3] [2, 4, 5, 6] [4, 5, 0, 6, 1, 2, 3] (w2 := (w_X8_room g a0 a1 a2 a3 a4 a5 a6 u0_1 u0_2 u0_3 u0_4 u0_5 u0_6 u0_7 u0_8 u0_9 u1_2 u1_3 u1_4 u2_2 u2_5 u3_1 u3_3 u3_4 u3_5 x2_rows x2_columns x3_count y4_land y5_riverOf y6_home)) rfl rfl rfl rfl rfl rfl (by decide) (c_X8_needHarbour l g a0 a1 a3 _ u0_1 u0_2 u0_3 u0_4 u0_5 u0_6 u0_7 u0_8 u0_9 (.ref a2) u1_2 u1_3 u1_4 u3_1 (.ref a6) u3_3 u3_4 u3_5 x3_count p1 hc) gX8_room_X8_needHarbour rfl hv_X8_needHarbour ⟨nle rfl, nle rfl⟩ 8 0 rfl rfl rfl (rest := []) rfl rfl hl.1 (nle rfl) dX8_room_2 (fun H locs hP hD hS => ?_)
  refine lv_iload_n (pc := 5) hexec hb dX8_room_5 rfl (lv_at hl 2 rfl) ?_
  obtain ⟨_, hc, hf⟩ := bd1_e hf
  refine kSp (pc := 6) (S := ⟨hexec, hb, hml, hown, hts⟩) hP hD hG hA hS [] [0, 1, 2, 3, 4, 5, 6] [0, 1, 2, 3, 4, 5, 6] (w2 := (w_X8_room g a0 a1 a2 a3 a4 a5 a6 u0_1 u0_2 u0_3 u0_4 u0_5 u0_6 u0_7 u0_8 u0_9 u1_2 u1_3 u1_4 u2_2 u2_5 u3_1 u3_3 u3_4 u3_5 x2_rows x2_columns x3_count y4_land y5_riverOf y6_home)) rfl rfl rfl rfl rfl rfl (by decide) (c_X8_needDirection l g _ p2 hc) gX8_room_X8_needDirection rfl hs_X8_needDirection ⟨nle rfl, nle rfl⟩ (rest := []) rfl rfl hl.1 (nle rfl) dX8_room_6 (fun H locs hP hD hS => ?_)
  refine lv_aload_n (pc := 9) hexec hb dX8_room_9 rfl (lv_at hl 0 rfl) ?_
  refine kg_get (pc := 10) hexec hb (own := RX8) hWX8 hown hG hP 0 rfl rfl 0 (nle rfl) (hts _ (List.mem_cons_of_mem _ (List.mem_append_left _ (List.mem_append_left _ (List.mem_append_left _ (List.mem_append_left _ (List.mem_append_left _ (List.mem_append_left _ (List.mem_append_left _ (List.mem_of_getElem? (i := 0) rfl)))))))))) rfl rfl dX8_room_10 ?_
  refine kg_getN (pc := 13) hexec hb (own := RX8) hWX6 hown hG hP 1 rfl rfl 1 (nle rfl) 24 rfl rfl rfl dX8_room_13 ?_
  refine lv_iload_n (pc := 16) hexec hb dX8_room_16 rfl (lv_at hl 1 rfl) ?_
  obtain ⟨r17, hc, hf⟩ := bd1_e hf
  refine kVp (pc := 17) (S := ⟨hexec, hb, hml, hown, hts⟩) hP hD hG hA hS [3, 6] [0, 1, 2, 4, 5] [0, 1, 2, 5, 3, 4, 6] (w2 := (w_X8_room g a0 a1 a2 a3 a4 a5 a6 u0_1 u0_2 u0_3 u0_4 u0_5 u0_6 u0_7 u0_8 u0_9 u1_2 u1_3 u1_4 u2_2 u2_5 u3_1 u3_3 u3_4 u3_5 x2_rows x2_columns x3_count y4_land y5_riverOf y6_home)) rfl rfl rfl rfl rfl rfl (by decide) (c_X2_homeOf l g a3 a6 _ u3_1 u3_3 u3_4 u3_5 x3_count y6_home p1 r17 hc) gX8_room_X2_homeOf rfl hv_X2_homeOf ⟨nle rfl, nle rfl⟩ 2 0 rfl rfl rfl (rest := []) rfl rfl hl.1 (nle rfl) dX8_room_17 (fun H locs hP hD hS => ?_)
  refine lv_istore_n (pc := 20) hexec hb dX8_room_20 rfl hl (nle rfl) rfl (fun ls (hl : lv_has ls 5 [(3, .int r17), (0, .ref a0), (1, .int p1), (2, .int p2)]) => ?_)
  refine lv_iconst (pc := 21) hexec hb dX8_room_21 ki_1 ?_
  refine lv_istore (pc := 22) hexec hb dX8_room_22 hl (nle rfl) rfl (fun ls (hl : lv_has ls 5 [(4, .int 1), (3, .int r17), (0, .ref a0), (1, .int p1), (2, .int p2)]) => ?_)
  obtain ⟨l24, el24, hf⟩ := bvf1 hf
  obtain ⟨n, hz⟩ := lq1_e hf
  have hL24 : ∀ (n : Nat) (v4 : Int32) (H : Heap) (locs : List Loc) (ls : Array Slot), it1 l24 n v4 = some r → va_P g.1 vwCl (w_X8_room g a0 a1 a2 a3 a4 a5 a6 u0_1 u0_2 u0_3 u0_4 u0_5 u0_6 u0_7 u0_8 u0_9 u1_2 u1_3 u1_4 u2_2 u2_5 u3_1 u3_3 u3_4 u3_5 x2_rows x2_columns x3_count y4_land y5_riverOf y6_home) H → va_D A (w_X8_room g a0 a1 a2 a3 a4 a5 a6 u0_1 u0_2 u0_3 u0_4 u0_5 u0_6 u0_7 u0_8 u0_9 u1_2 u1_3 u1_4 u2_2 u2_5 u3_1 u3_3 u3_4 u3_5 x2_rows x2_columns x3_count y4_land y5_riverOf y6_home) → va_S A s.heap H locs → lv_has ls 5 [(0, .ref a0), (2, .int p2), (3, .int r17), (4, .int v4)] → W p l e (RM 3 67) s m args below meth c H locs 0 0 Q (F0 m 24 ls []) := by
    intro n
    induction n with
    | zero =>
      intro v4 H locs ls hf hP hD hS hl
      exact it1_0 hf
    | succ n24 ih24 =>
      intro v4 H locs ls hf hP hD hS hl
      obtain ⟨q24, hf, hk24⟩ := it1_e hf
      have hf := (el24 v4).symm.trans hf
      refine lv_iload (pc := 24) hexec hb dX8_room_24 (lv_at hl 3 rfl) ?_
      refine lv_bipush (pc := 26) hexec hb dX8_room_26 kb_12 ?_
      refine ki_ge (pc := 28) hexec hb dX8_room_28 (tgt := 66) rfl hf (fun hc hf => ?_) (fun hc hf => ?_)
      · have hf := mk1 hf hk24
        refine lv_bipush (pc := 66) hexec hb dX8_room_66 kb_11 ?_
        cases hf
        exact ke_i hQ hexec hb hr hP hD hS dX8_room_68 hlocks
      · refine lv_aload_n (pc := 31) hexec hb dX8_room_31 rfl (lv_at hl 0 rfl) ?_
        refine kg_get (pc := 32) hexec hb (own := RX8) hWX8 hown hG hP 0 rfl rfl 0 (nle rfl) (hts _ (List.mem_cons_of_mem _ (List.mem_append_left _ (List.mem_append_left _ (List.mem_append_left _ (List.mem_append_left _ (List.mem_append_left _ (List.mem_append_left _ (List.mem_append_left _ (List.mem_of_getElem? (i := 0) rfl)))))))))) rfl rfl dX8_room_32 ?_
        refine lv_aload_n (pc := 35) hexec hb dX8_room_35 rfl (lv_at hl 0 rfl) ?_
        refine kg_get (pc := 36) hexec hb (own := RX8) hWX8 hown hG hP 0 rfl rfl 0 (nle rfl) (hts _ (List.mem_cons_of_mem _ (List.mem_append_left _ (List.mem_append_left _ (List.mem_append_left _ (List.mem_append_left _ (List.mem_append_left _ (List.mem_append_left _ (List.mem_append_left _ (List.mem_of_getElem? (i := 0) rfl)))))))))) rfl rfl dX8_room_36 ?_
        refine kg_getN (pc := 39) hexec hb (own := RX8) hWX6 hown hG hP 1 rfl rfl 0 (nle rfl) 21 rfl rfl rfl dX8_room_39 ?_
        refine lv_iload_n (pc := 42) hexec hb dX8_room_42 rfl (lv_at hl 2 rfl) ?_
        refine lv_iload_n (pc := 43) hexec hb dX8_room_43 rfl (lv_at hl 1 rfl) ?_
        refine lv_iload (pc := 44) hexec hb dX8_room_44 (lv_at hl 3 rfl) ?_
        obtain ⟨r46, hc, hf⟩ := bd1_e hf
        refine kVp (pc := 46) (S := ⟨hexec, hb, hml, hown, hts⟩) hP hD hG hA hS [2] [0, 1, 3, 4, 5, 6] [0, 1, 6, 2, 3, 4, 5] (w2 := (w_X8_room g a0 a1 a2 a3 a4 a5 a6 u0_1 u0_2 u0_3 u0_4 u0_5 u0_6 u0_7 u0_8 u0_9 u1_2 u1_3 u1_4 u2_2 u2_5 u3_1 u3_3 u3_4 u3_5 x2_rows x2_columns x3_count y4_land y5_riverOf y6_home)) rfl rfl rfl rfl rfl rfl (by decide) (c_X1_ahead l g a2 _ u2_2 (.ref a4) (.ref a5) u2_5 x2_rows x2_columns r17 p2 v4 r46 hc) gX8_room_X1_ahead rfl hv_X1_ahead ⟨nle rfl, nle rfl⟩ 1 0 rfl rfl rfl (rest := [.ref a1]) rfl rfl hl.1 (nle rfl) dX8_room_46 (fun H locs hP hD hS => ?_)
        obtain ⟨r49, hc, hf⟩ := bd1_e hf
        refine kVp (pc := 49) (S := ⟨hexec, hb, hml, hown, hts⟩) hP hD hG hA hS [1, 2, 3, 4, 5, 6] [0] [0, 1, 2, 3, 4, 5, 6] (w2 := (w_X8_room g a0 a1 a2 a3 a4 a5 a6 u0_1 u0_2 u0_3 u0_4 u0_5 u0_6 u0_7 u0_8 u0_9 u1_2 u1_3 u1_4 u2_2 u2_5 u3_1 u3_3 u3_4 u3_5 x2_rows x2_columns x3_count y4_land y5_riverOf y6_home)) rfl rfl rfl rfl rfl rfl (by decide) (c_X6_isOpen l g a1 a2 a3 a4 a5 a6 _ u1_2 u1_3 u1_4 (.int x2_rows) (.int x2_columns) u2_2 u2_5 u3_1 u3_3 u3_4 u3_5 x3_count y4_land y5_riverOf y6_home r46 r49 hc) gX8_room_X6_isOpen rfl hv_X6_isOpen ⟨nle rfl, nle rfl⟩ 6 0 rfl rfl rfl (rest := []) rfl rfl hl.1 (nle rfl) dX8_room_49 (fun H locs hP hD hS => ?_)
        refine kb_ne (pc := 52) hexec hb dX8_room_52 (tgt := 60) rfl hf (fun hc hf => ?_) (fun hc hf => ?_)
        · obtain ⟨v4_1, ev4_1, hf⟩ := bv_e hf
          refine k_iinc (pc := 60) hexec hb dX8_room_60 kq_1 hl (k := 3) rfl ev4_1 (nle rfl) rfl (fun ls (hl : lv_has ls 5 [(4, .int v4_1), (0, .ref a0), (2, .int p2), (3, .int r17)]) => ?_)
          refine lv_goto (pc := 63) hexec hb dX8_room_63 (tgt := 24) rfl ?_
          exact ih24 _ _ _ _ (sl1 hf hk24) hP hD hS (lv_sub hl [1, 2, 3, 0] rfl)
        · have hf := mk1 hf hk24
          refine lv_iload (pc := 55) hexec hb dX8_room_55 (lv_at hl 3 rfl) ?_
          refine lv_iconst (pc := 57) hexec hb dX8_room_57 ki_1 ?_
          refine lv_isub (pc := 58) hexec hb dX8_room_58 ?_
          cases hf
          exact ke_i hQ hexec hb hr hP hD hS dX8_room_59 hlocks
  exact hL24 n _ _ _ _ hz hP hD hS (lv_sub hl [2, 4, 1, 0] rfl)
abbrev w_X8_crossed (g : GE) (a0 a1 a2 a3 a4 a5 a6 a7 : Nat) (u0_1 u0_2 u0_3 u0_4 u0_5 u0_6 u0_7 u0_8 u0_9 u1_2 u1_4 u2_2 u2_3 u2_4 u2_5 u3_1 u3_5 : Value) (x2_rows : Int32) (x2_columns : Int32) (x3_count : Int32) (y4_namesOn : Nat → Int32) (y5_direction : Nat → Int32) (y6_home : Nat → Int32) (y7_length : Nat → Int32) : va_W := [(a0, .inr (8, [.ref a1, u0_1, u0_2, u0_3, u0_4, u0_5, u0_6, u0_7, u0_8, u0_9])), (a1, .inr (6, [.ref a2, .ref a3, u1_2, .ref a4, u1_4])), (a2, .inr (1, [.int x2_rows, .int x2_columns, u2_2, u2_3, u2_4, u2_5])), (a3, .inr (2, [.int x3_count, u3_1, .ref a6, .ref a5, .ref a7, u3_5])), (a4, .inl (g.2.1 0, 144, .inl y4_namesOn)), (a5, .inl (g.2.1 0, 8, .inl y5_direction)), (a6, .inl (g.2.1 0, 8, .inl y6_home)), (a7, .inl (g.2.1 0, 8, .inl y7_length))]
noncomputable def f_X8_crossed (x2_rows : Int32) (x2_columns : Int32) (x3_count : Int32) (y4_namesOn : Nat → Int32) (y5_direction : Nat → Int32) (y6_home : Nat → Int32) (y7_length : Nat → Int32) (p1 : Int32) : Option (Int32) :=
  bd1 (f_X8_needHarbour x3_count p1) fun (_ : Unit) =>
  bd1 (f_X6_crossedBy x2_rows x2_columns x3_count y4_namesOn y5_direction y6_home y7_length p1) fun (r10 : Int32) =>
  some r10
set_option maxRecDepth 4000 in
theorem c_X8_crossed (l : Launch) (g : GE) (a0 a1 a2 a3 a4 a5 a6 a7 : Nat) (sz : Nat) (u0_1 u0_2 u0_3 u0_4 u0_5 u0_6 u0_7 u0_8 u0_9 u1_2 u1_4 u2_2 u2_3 u2_4 u2_5 u3_1 u3_5 : Value) (x2_rows : Int32) (x2_columns : Int32) (x3_count : Int32) (y4_namesOn : Nat → Int32) (y5_direction : Nat → Int32) (y6_home : Nat → Int32) (y7_length : Nat → Int32) (p1 : Int32) (r : Int32) (hf : f_X8_crossed x2_rows x2_columns x3_count y4_namesOn y5_direction y6_home y7_length p1 = some r) : MI l g yX8_crossed wsX8_crossed 3 75 [.ref a0, .int p1] (w_X8_crossed g a0 a1 a2 a3 a4 a5 a6 a7 u0_1 u0_2 u0_3 u0_4 u0_5 u0_6 u0_7 u0_8 u0_9 u1_2 u1_4 u2_2 u2_3 u2_4 u2_5 u3_1 u3_5 x2_rows x2_columns x3_count y4_namesOn y5_direction y6_home y7_length) sz (some (.int r)) (w_X8_crossed g a0 a1 a2 a3 a4 a5 a6 a7 u0_1 u0_2 u0_3 u0_4 u0_5 u0_6 u0_7 u0_8 u0_9 u1_2 u1_4 u2_2 u2_3 u2_4 u2_5 u3_1 u3_5 x2_rows x2_columns x3_count y4_namesOn y5_direction y6_home y7_length) := by
  refine MI.start (cc := cX8_crossed) (maxL := 2) (ret := (some .int)) rfl rfl (nle rfl) ?_
  intro p e s m args below meth c A ls Q hQ hexec hb hr hts hown hlocks hml hA hP hD hG hS hl
  unfold f_X8_crossed at hf
  have hWX1 : ∀ w ∈ wsX10, w.before args s = true := fun w h => hts w (List.mem_cons_of_mem _ (List.mem_append_left _ (List.mem_append_right _ h)))
  have hWX2 : ∀ w ∈ wsX20, w.before args s = true := fun w h => hts w (List.mem_cons_of_mem _ (List.mem_append_left _ (List.mem_append_left _ (List.mem_append_right _ h))))
  have hWX6 : ∀ w ∈ wsX60, w.before args s = true := fun w h => hts w (List.mem_cons_of_mem _ (List.mem_append_left _ (List.mem_append_left _ (List.mem_append_left _ (List.mem_append_right _ h)))))
  have hWX8 : ∀ w ∈ wsX80, w.before args s = true := fun w h => hts w (List.mem_cons_of_mem _ (List.mem_append_left _ (List.mem_append_left _ (List.mem_append_left _ (List.mem_append_left _ (List.mem_append_right _ h))))))
  have hS : va_S A s.heap s.heap [] := hS
  refine lv_aload_n (pc := 0) hexec hb dX8_crossed_0 rfl (lv_at hl 0 rfl) ?_
  refine lv_iload_n (pc := 1) hexec hb dX8_crossed_1 rfl (lv_at hl 1 rfl) ?_
  obtain ⟨_, hc, hf⟩ := bd1_e hf
  refine kVp (pc := 2) (S := ⟨hexec, hb, hml, hown, hts⟩) hP hD hG hA hS [0, 1, 3] [2, 4, 5, 6, 7] [5, 6, 0, 7, 1, 2, 3, 4] (w2 := (w_X8_crossed g a0 a1 a2 a3 a4 a5 a6 a7 u0_1 u0_2 u0_3 u0_4 u0_5 u0_6 u0_7 u0_8 u0_9 u1_2 u1_4 u2_2 u2_3 u2_4 u2_5 u3_1 u3_5 x2_rows x2_columns x3_count y4_namesOn y5_direction y6_home y7_length)) rfl rfl rfl rfl rfl rfl (by decide) (c_X8_needHarbour l g a0 a1 a3 _ u0_1 u0_2 u0_3 u0_4 u0_5 u0_6 u0_7 u0_8 u0_9 (.ref a2) u1_2 (.ref a4) u1_4 u3_1 (.ref a6) (.ref a5) (.ref a7) u3_5 x3_count p1 hc) gX8_crossed_X8_needHarbour rfl hv_X8_needHarbour ⟨nle rfl, nle rfl⟩ 8 0 rfl rfl rfl (rest := []) rfl rfl hl.1 (nle rfl) dX8_crossed_2 (fun H locs hP hD hS => ?_)
  refine lv_aload_n (pc := 5) hexec hb dX8_crossed_5 rfl (lv_at hl 0 rfl) ?_
  refine kg_get (pc := 6) hexec hb (own := RX8) hWX8 hown hG hP 0 rfl rfl 0 (nle rfl) (hts _ (List.mem_cons_of_mem _ (List.mem_append_left _ (List.mem_append_left _ (List.mem_append_left _ (List.mem_append_left _ (List.mem_append_left _ (List.mem_append_left _ (List.mem_of_getElem? (i := 0) rfl))))))))) rfl rfl dX8_crossed_6 ?_
  refine lv_iload_n (pc := 9) hexec hb dX8_crossed_9 rfl (lv_at hl 1 rfl) ?_
  obtain ⟨r10, hc, hf⟩ := bd1_e hf
  refine kVp (pc := 10) (S := ⟨hexec, hb, hml, hown, hts⟩) hP hD hG hA hS [1, 2, 3, 4, 5, 6, 7] [0] [0, 1, 2, 3, 4, 5, 6, 7] (w2 := (w_X8_crossed g a0 a1 a2 a3 a4 a5 a6 a7 u0_1 u0_2 u0_3 u0_4 u0_5 u0_6 u0_7 u0_8 u0_9 u1_2 u1_4 u2_2 u2_3 u2_4 u2_5 u3_1 u3_5 x2_rows x2_columns x3_count y4_namesOn y5_direction y6_home y7_length)) rfl rfl rfl rfl rfl rfl (by decide) (c_X6_crossedBy l g a1 a2 a3 a4 a5 a6 a7 _ u1_2 u1_4 u2_2 u2_3 u2_4 u2_5 u3_1 u3_5 x2_rows x2_columns x3_count y4_namesOn y5_direction y6_home y7_length p1 r10 hc) gX8_crossed_X6_crossedBy rfl hv_X6_crossedBy ⟨nle rfl, nle rfl⟩ 6 0 rfl rfl rfl (rest := []) rfl rfl hl.1 (nle rfl) dX8_crossed_10 (fun H locs hP hD hS => ?_)
  cases hf
  exact ke_i hQ hexec hb hr hP hD hS dX8_crossed_13 hlocks
abbrev w_X8_free (g : GE) (a0 a1 a2 a3 a4 a5 a6 a7 : Nat) (u0_1 u0_2 u0_3 u0_4 u0_5 u0_6 u0_7 u0_8 u0_9 u1_2 u1_4 u2_2 u2_5 u3_1 u3_3 u3_4 u3_5 : Value) (x2_rows : Int32) (x2_columns : Int32) (x3_count : Int32) (y4_namesOn : Nat → Int32) (y5_land : Nat → Int32) (y6_riverOf : Nat → Int32) (y7_home : Nat → Int32) : va_W := [(a0, .inr (8, [.ref a1, u0_1, u0_2, u0_3, u0_4, u0_5, u0_6, u0_7, u0_8, u0_9])), (a1, .inr (6, [.ref a2, .ref a3, u1_2, .ref a4, u1_4])), (a2, .inr (1, [.int x2_rows, .int x2_columns, u2_2, .ref a5, .ref a6, u2_5])), (a3, .inr (2, [.int x3_count, u3_1, .ref a7, u3_3, u3_4, u3_5])), (a4, .inl (g.2.1 0, 144, .inl y4_namesOn)), (a5, .inl (g.2.1 1, 144, .inl y5_land)), (a6, .inl (g.2.1 0, 144, .inl y6_riverOf)), (a7, .inl (g.2.1 0, 8, .inl y7_home))]
noncomputable def f_X8_free (x2_rows : Int32) (x2_columns : Int32) (x3_count : Int32) (y4_namesOn : Nat → Int32) (y5_land : Nat → Int32) (y6_riverOf : Nat → Int32) (y7_home : Nat → Int32)  : Option (Int32) :=
  bd1 (f_X1_cells x2_rows x2_columns) fun (r7 : Int32) =>
  bv (fun (v2 : Int32) (v3 : Int32) => ((
    (if r7 ≤ v3 then (
      some (.inr v2)
    ) else (
      bd1 (f_X6_isOpen x3_count y5_land y6_riverOf y7_home v3) fun (r25 : Int32) =>
      bv (fun (v2_2 : Int32) => ((
        bv (v3 + 1) fun v3_1 =>
        some (.inl (v2_2, v3_1))
        ) : Option ((Int32 × Int32) ⊕ (Int32)))) fun j45 =>
      (if r25 = 0 then (
        j45 v2
      ) else (
        bd1 (f_X6_namesIn y4_namesOn v3) fun (r36 : Int32) =>
        (if r36 = 0 then (
          bv (v2 + 1) fun v2_3 =>
          j45 v2_3
        ) else (
          j45 v2
        ))
      ))
    ))
    ) : Option ((Int32 × Int32) ⊕ (Int32)))) fun l15 =>
  bd1 (lq2 l15 0 0) fun (v2_1 : Int32) =>
  some v2_1
set_option maxRecDepth 4000 in
theorem c_X8_free (l : Launch) (g : GE) (a0 a1 a2 a3 a4 a5 a6 a7 : Nat) (sz : Nat) (u0_1 u0_2 u0_3 u0_4 u0_5 u0_6 u0_7 u0_8 u0_9 u1_2 u1_4 u2_2 u2_5 u3_1 u3_3 u3_4 u3_5 : Value) (x2_rows : Int32) (x2_columns : Int32) (x3_count : Int32) (y4_namesOn : Nat → Int32) (y5_land : Nat → Int32) (y6_riverOf : Nat → Int32) (y7_home : Nat → Int32)  (r : Int32) (hf : f_X8_free x2_rows x2_columns x3_count y4_namesOn y5_land y6_riverOf y7_home = some r) : MI l g yX8_free wsX8_free 3 67 [.ref a0] (w_X8_free g a0 a1 a2 a3 a4 a5 a6 a7 u0_1 u0_2 u0_3 u0_4 u0_5 u0_6 u0_7 u0_8 u0_9 u1_2 u1_4 u2_2 u2_5 u3_1 u3_3 u3_4 u3_5 x2_rows x2_columns x3_count y4_namesOn y5_land y6_riverOf y7_home) sz (some (.int r)) (w_X8_free g a0 a1 a2 a3 a4 a5 a6 a7 u0_1 u0_2 u0_3 u0_4 u0_5 u0_6 u0_7 u0_8 u0_9 u1_2 u1_4 u2_2 u2_5 u3_1 u3_3 u3_4 u3_5 x2_rows x2_columns x3_count y4_namesOn y5_land y6_riverOf y7_home) := by
  refine MI.start (cc := cX8_free) (maxL := 4) (ret := (some .int)) rfl rfl (nle rfl) ?_
  intro p e s m args below meth c A ls Q hQ hexec hb hr hts hown hlocks hml hA hP hD hG hS hl
  unfold f_X8_free at hf
  have hWX1 : ∀ w ∈ wsX10, w.before args s = true := fun w h => hts w (List.mem_cons_of_mem _ (List.mem_append_left _ (List.mem_append_right _ h)))
  have hWX2 : ∀ w ∈ wsX20, w.before args s = true := fun w h => hts w (List.mem_cons_of_mem _ (List.mem_append_right _ h))
  have hWX6 : ∀ w ∈ wsX60, w.before args s = true := fun w h => hts w (List.mem_cons_of_mem _ (List.mem_append_left _ (List.mem_append_left _ (List.mem_append_right _ h))))
  have hWX8 : ∀ w ∈ wsX80, w.before args s = true := fun w h => hts w (List.mem_cons_of_mem _ (List.mem_append_left _ (List.mem_append_left _ (List.mem_append_left _ (List.mem_append_right _ h)))))
  have hS : va_S A s.heap s.heap [] := hS
  refine lv_aload_n (pc := 0) hexec hb dX8_free_0 rfl (lv_at hl 0 rfl) ?_
  refine kg_get (pc := 1) hexec hb (own := RX8) hWX8 hown hG hP 0 rfl rfl 0 (nle rfl) (hts _ (List.mem_cons_of_mem _ (List.mem_append_left _ (List.mem_append_left _ (List.mem_append_left _ (List.mem_append_left _ (List.mem_append_left _ (List.mem_of_getElem? (i := 0) rfl)))))))) rfl rfl dX8_free_1 ?_
  refine kg_getN (pc := 4) hexec hb (own := RX8) hWX6 hown hG hP 1 rfl rfl 0 (nle rfl) 21 rfl rfl rfl dX8_free_4 ?_
  obtain ⟨r7, hc, hf⟩ := bd1_e hf
  refine kVp (pc := 7) (S := ⟨hexec, hb, hml, hown, hts⟩) hP hD hG hA hS [2] [0, 1, 3, 4, 5, 6, 7] [0, 1, 7, 2, 3, 4, 5, 6] (w2 := (w_X8_free g a0 a1 a2 a3 a4 a5 a6 a7 u0_1 u0_2 u0_3 u0_4 u0_5 u0_6 u0_7 u0_8 u0_9 u1_2 u1_4 u2_2 u2_5 u3_1 u3_3 u3_4 u3_5 x2_rows x2_columns x3_count y4_namesOn y5_land y6_riverOf y7_home)) rfl rfl rfl rfl rfl rfl (by decide) (c_X1_cells l g a2 _ u2_2 (.ref a5) (.ref a6) u2_5 x2_rows x2_columns r7 hc) gX8_free_X1_cells rfl hv_X1_cells ⟨nle rfl, nle rfl⟩ 1 0 rfl rfl rfl (rest := []) rfl rfl hl.1 (nle rfl) dX8_free_7 (fun H locs hP hD hS => ?_)
  refine lv_istore_n (pc := 10) hexec hb dX8_free_10 rfl hl (nle rfl) rfl (fun ls (hl : lv_has ls 4 [(1, .int r7), (0, .ref a0)]) => ?_)
  refine lv_iconst (pc := 11) hexec hb dX8_free_11 ki_0 ?_
  refine lv_istore_n (pc := 12) hexec hb dX8_free_12 rfl hl (nle rfl) rfl (fun ls (hl : lv_has ls 4 [(2, .int 0), (1, .int r7), (0, .ref a0)]) => ?_)
  refine lv_iconst (pc := 13) hexec hb dX8_free_13 ki_0 ?_
  refine lv_istore_n (pc := 14) hexec hb dX8_free_14 rfl hl (nle rfl) rfl (fun ls (hl : lv_has ls 4 [(3, .int 0), (2, .int 0), (1, .int r7), (0, .ref a0)]) => ?_)
  obtain ⟨l15, el15, hf⟩ := bvf2 hf
  obtain ⟨v2_1, hz, hf⟩ := bd1_e hf
  have hE15 : ∀ (H : Heap) (locs : List Loc) (ls : Array Slot), va_P g.1 vwCl (w_X8_free g a0 a1 a2 a3 a4 a5 a6 a7 u0_1 u0_2 u0_3 u0_4 u0_5 u0_6 u0_7 u0_8 u0_9 u1_2 u1_4 u2_2 u2_5 u3_1 u3_3 u3_4 u3_5 x2_rows x2_columns x3_count y4_namesOn y5_land y6_riverOf y7_home) H → va_D A (w_X8_free g a0 a1 a2 a3 a4 a5 a6 a7 u0_1 u0_2 u0_3 u0_4 u0_5 u0_6 u0_7 u0_8 u0_9 u1_2 u1_4 u2_2 u2_5 u3_1 u3_3 u3_4 u3_5 x2_rows x2_columns x3_count y4_namesOn y5_land y6_riverOf y7_home) → va_S A s.heap H locs → lv_has ls 4 [(2, .int v2_1)] → W p l e (RM 3 67) s m args below meth c H locs 0 0 Q (F0 m 51 ls []) := by
    intro H locs ls hP hD hS hl
    refine lv_iload_n (pc := 51) hexec hb dX8_free_51 rfl (lv_at hl 0 rfl) ?_
    cases hf
    exact ke_i hQ hexec hb hr hP hD hS dX8_free_52 hlocks
  obtain ⟨n, hz⟩ := lq2_e hz
  have hL15 : ∀ (n : Nat) (v2 : Int32) (v3 : Int32) (H : Heap) (locs : List Loc) (ls : Array Slot), it2 l15 n v2 v3 = some v2_1 → va_P g.1 vwCl (w_X8_free g a0 a1 a2 a3 a4 a5 a6 a7 u0_1 u0_2 u0_3 u0_4 u0_5 u0_6 u0_7 u0_8 u0_9 u1_2 u1_4 u2_2 u2_5 u3_1 u3_3 u3_4 u3_5 x2_rows x2_columns x3_count y4_namesOn y5_land y6_riverOf y7_home) H → va_D A (w_X8_free g a0 a1 a2 a3 a4 a5 a6 a7 u0_1 u0_2 u0_3 u0_4 u0_5 u0_6 u0_7 u0_8 u0_9 u1_2 u1_4 u2_2 u2_5 u3_1 u3_3 u3_4 u3_5 x2_rows x2_columns x3_count y4_namesOn y5_land y6_riverOf y7_home) → va_S A s.heap H locs → lv_has ls 4 [(0, .ref a0), (1, .int r7), (2, .int v2), (3, .int v3)] → W p l e (RM 3 67) s m args below meth c H locs 0 0 Q (F0 m 15 ls []) := by
    intro n
    induction n with
    | zero =>
      intro v2 v3 H locs ls hf hP hD hS hl
      exact it2_0 hf
    | succ n15 ih15 =>
      intro v2 v3 H locs ls hf hP hD hS hl
      obtain ⟨q15, hf, hk15⟩ := it2_e hf
      have hf := (el15 v2 v3).symm.trans hf
      refine lv_iload_n (pc := 15) hexec hb dX8_free_15 rfl (lv_at hl 3 rfl) ?_
      refine lv_iload_n (pc := 16) hexec hb dX8_free_16 rfl (lv_at hl 1 rfl) ?_
      refine ki_ge (pc := 17) hexec hb dX8_free_17 (tgt := 51) rfl hf (fun hc hf => ?_) (fun hc hf => ?_)
      · cases sr2 hf hk15
        exact hE15 _ _ _ hP hD hS (lv_sub hl [2] rfl)
      · refine lv_aload_n (pc := 20) hexec hb dX8_free_20 rfl (lv_at hl 0 rfl) ?_
        refine kg_get (pc := 21) hexec hb (own := RX8) hWX8 hown hG hP 0 rfl rfl 0 (nle rfl) (hts _ (List.mem_cons_of_mem _ (List.mem_append_left _ (List.mem_append_left _ (List.mem_append_left _ (List.mem_append_left _ (List.mem_append_left _ (List.mem_of_getElem? (i := 0) rfl)))))))) rfl rfl dX8_free_21 ?_
        refine lv_iload_n (pc := 24) hexec hb dX8_free_24 rfl (lv_at hl 3 rfl) ?_
        obtain ⟨r25, hc, hf⟩ := bd1_e hf
        refine kVp (pc := 25) (S := ⟨hexec, hb, hml, hown, hts⟩) hP hD hG hA hS [1, 2, 3, 5, 6, 7] [0, 4] [0, 2, 3, 4, 1, 5, 6, 7] (w2 := (w_X8_free g a0 a1 a2 a3 a4 a5 a6 a7 u0_1 u0_2 u0_3 u0_4 u0_5 u0_6 u0_7 u0_8 u0_9 u1_2 u1_4 u2_2 u2_5 u3_1 u3_3 u3_4 u3_5 x2_rows x2_columns x3_count y4_namesOn y5_land y6_riverOf y7_home)) rfl rfl rfl rfl rfl rfl (by decide) (c_X6_isOpen l g a1 a2 a3 a5 a6 a7 _ u1_2 (.ref a4) u1_4 (.int x2_rows) (.int x2_columns) u2_2 u2_5 u3_1 u3_3 u3_4 u3_5 x3_count y5_land y6_riverOf y7_home v3 r25 hc) gX8_free_X6_isOpen rfl hv_X6_isOpen ⟨nle rfl, nle rfl⟩ 6 0 rfl rfl rfl (rest := []) rfl rfl hl.1 (nle rfl) dX8_free_25 (fun H locs hP hD hS => ?_)
        obtain ⟨j45, ej45, hf⟩ := bvf1 hf
        have hj45 : ∀ (v2_2 : Int32) (H : Heap) (locs : List Loc) (ls : Array Slot), j45 v2_2 = some q15 → va_P g.1 vwCl (w_X8_free g a0 a1 a2 a3 a4 a5 a6 a7 u0_1 u0_2 u0_3 u0_4 u0_5 u0_6 u0_7 u0_8 u0_9 u1_2 u1_4 u2_2 u2_5 u3_1 u3_3 u3_4 u3_5 x2_rows x2_columns x3_count y4_namesOn y5_land y6_riverOf y7_home) H → va_D A (w_X8_free g a0 a1 a2 a3 a4 a5 a6 a7 u0_1 u0_2 u0_3 u0_4 u0_5 u0_6 u0_7 u0_8 u0_9 u1_2 u1_4 u2_2 u2_5 u3_1 u3_3 u3_4 u3_5 x2_rows x2_columns x3_count y4_namesOn y5_land y6_riverOf y7_home) → va_S A s.heap H locs → lv_has ls 4 [(0, .ref a0), (1, .int r7), (2, .int v2_2), (3, .int v3)] → W p l e (RM 3 67) s m args below meth c H locs 0 0 Q (F0 m 45 ls []) := by
          intro v2_2 H locs ls hf hP hD hS hl
          have hf := (ej45 v2_2).symm.trans hf
          obtain ⟨v3_1, ev3_1, hf⟩ := bv_e hf
          refine k_iinc (pc := 45) hexec hb dX8_free_45 kq_1 hl (k := 3) rfl ev3_1 (nle rfl) rfl (fun ls (hl : lv_has ls 4 [(3, .int v3_1), (0, .ref a0), (1, .int r7), (2, .int v2_2)]) => ?_)
          refine lv_goto (pc := 48) hexec hb dX8_free_48 (tgt := 15) rfl ?_
          exact ih15 _ _ _ _ _ (sl2 hf hk15) hP hD hS (lv_sub hl [1, 2, 3, 0] rfl)
        refine kb_eq (pc := 28) hexec hb dX8_free_28 (tgt := 45) rfl hf (fun hc hf => ?_) (fun hc hf => ?_)
        · exact hj45 _ _ _ _ hf hP hD hS (lv_sub hl [0, 1, 2, 3] rfl)
        · refine lv_aload_n (pc := 31) hexec hb dX8_free_31 rfl (lv_at hl 0 rfl) ?_
          refine kg_get (pc := 32) hexec hb (own := RX8) hWX8 hown hG hP 0 rfl rfl 0 (nle rfl) (hts _ (List.mem_cons_of_mem _ (List.mem_append_left _ (List.mem_append_left _ (List.mem_append_left _ (List.mem_append_left _ (List.mem_append_left _ (List.mem_of_getElem? (i := 0) rfl)))))))) rfl rfl dX8_free_32 ?_
          refine lv_iload_n (pc := 35) hexec hb dX8_free_35 rfl (lv_at hl 3 rfl) ?_
          obtain ⟨r36, hc, hf⟩ := bd1_e hf
          refine kVp (pc := 36) (S := ⟨hexec, hb, hml, hown, hts⟩) hP hD hG hA hS [1, 4] [0, 2, 3, 5, 6, 7] [0, 6, 1, 2, 7, 3, 4, 5] (w2 := (w_X8_free g a0 a1 a2 a3 a4 a5 a6 a7 u0_1 u0_2 u0_3 u0_4 u0_5 u0_6 u0_7 u0_8 u0_9 u1_2 u1_4 u2_2 u2_5 u3_1 u3_3 u3_4 u3_5 x2_rows x2_columns x3_count y4_namesOn y5_land y6_riverOf y7_home)) rfl rfl rfl rfl rfl rfl (by decide) (c_X6_namesIn l g a1 a4 _ (.ref a2) (.ref a3) u1_2 u1_4 y4_namesOn v3 r36 hc) gX8_free_X6_namesIn rfl hv_X6_namesIn ⟨nle rfl, nle rfl⟩ 6 0 rfl rfl rfl (rest := []) rfl rfl hl.1 (nle rfl) dX8_free_36 (fun H locs hP hD hS => ?_)
          refine kb_ne (pc := 39) hexec hb dX8_free_39 (tgt := 45) rfl hf (fun hc hf => ?_) (fun hc hf => ?_)
          · exact hj45 _ _ _ _ hf hP hD hS (lv_sub hl [0, 1, 2, 3] rfl)
          · obtain ⟨v2_3, ev2_3, hf⟩ := bv_e hf
            refine k_iinc (pc := 42) hexec hb dX8_free_42 kq_1 hl (k := 2) rfl ev2_3 (nle rfl) rfl (fun ls (hl : lv_has ls 4 [(2, .int v2_3), (0, .ref a0), (1, .int r7), (3, .int v3)]) => ?_)
            exact hj45 _ _ _ _ hf hP hD hS (lv_sub hl [1, 2, 0, 3] rfl)
  exact hL15 n _ _ _ _ _ hz hP hD hS (lv_sub hl [3, 2, 1, 0] rfl)
abbrev w_X8_needTurn (g : GE) : va_W := []
noncomputable def f_X8_needTurn  (p0 : Int32) : Option (Unit) :=
  bv (fun (_ : Unit) => ((
    none
    ) : Option (Unit))) fun j9 =>
  (if p0 < 0 then (
    j9 ()
  ) else (
    (if p0 < 4 then (
      some ()
    ) else (
      j9 ()
    ))
  ))
set_option maxRecDepth 4000 in
theorem c_X8_needTurn (l : Launch) (g : GE) (sz : Nat)  (p0 : Int32) (hf : f_X8_needTurn p0 = some ()) : MI l g yX8_needTurn wsX8_needTurn 1 24 [.int p0] (w_X8_needTurn g ) sz none (w_X8_needTurn g ) := by
  refine MI.start (cc := cX8_needTurn) (maxL := 1) (ret := none) rfl rfl (nle rfl) ?_
  intro p e s m args below meth c A ls Q hQ hexec hb hr hts hown hlocks hml hA hP hD hG hS hl
  unfold f_X8_needTurn at hf
  have hS : va_S A s.heap s.heap [] := hS
  refine lv_iload_n (pc := 0) hexec hb dX8_needTurn_0 rfl (lv_at hl 0 rfl) ?_
  obtain ⟨j9, ej9, hf⟩ := bvf1 hf
  have hj9 : ∀ (u : Unit) (H : Heap) (locs : List Loc) (ls : Array Slot), j9 u = some () → va_P g.1 vwCl (w_X8_needTurn g ) H → va_D A (w_X8_needTurn g ) → va_S A s.heap H locs → lv_has ls 1 [] → W p l e (RM 1 24) s m args below meth c H locs 0 0 Q (F0 m 9 ls []) := by
    intro u H locs ls hf hP hD hS hl
    have hf := (ej9 u).symm.trans hf
    cases hf
  refine kb_lt (pc := 1) hexec hb dX8_needTurn_1 (tgt := 9) rfl hf (fun hc hf => ?_) (fun hc hf => ?_)
  · exact hj9 _ _ _ _ hf hP hD hS (lv_sub hl [] rfl)
  · refine lv_iload_n (pc := 4) hexec hb dX8_needTurn_4 rfl (lv_at hl 0 rfl) ?_
    refine lv_iconst (pc := 5) hexec hb dX8_needTurn_5 ki_4 ?_
    refine ki_lt (pc := 6) hexec hb dX8_needTurn_6 (tgt := 20) rfl hf (fun hc hf => ?_) (fun hc hf => ?_)
    · cases hf
      exact ke_v hQ hexec hb hr hP hD hS dX8_needTurn_20 hlocks
    · exact hj9 _ _ _ _ hf hP hD hS (lv_sub hl [] rfl)
abbrev w_X8_upright (g : GE) (a0 a1 a2 a3 : Nat) (u0_1 u0_2 u0_3 u0_4 u0_5 u0_6 u0_7 u0_8 u0_9 u1_0 u1_2 u1_3 u1_4 u2_1 u2_2 u2_4 u2_5 : Value) (x2_count : Int32) (y3_direction : Nat → Int32) : va_W := [(a0, .inr (8, [.ref a1, u0_1, u0_2, u0_3, u0_4, u0_5, u0_6, u0_7, u0_8, u0_9])), (a1, .inr (6, [u1_0, .ref a2, u1_2, u1_3, u1_4])), (a2, .inr (2, [.int x2_count, u2_1, u2_2, .ref a3, u2_4, u2_5])), (a3, .inl (g.2.1 0, 8, .inl y3_direction))]
noncomputable def f_X8_upright (x2_count : Int32) (y3_direction : Nat → Int32) (p1 : Int32) : Option (Int32) :=
  bd1 (f_X8_needTurn p1) fun (_ : Unit) =>
  bv (fun (v2 : Int32) (v3 : Int32) => ((
    (if x2_count ≤ v3 then (
      some (.inr v2)
    ) else (
      bd1 (f_X2_directionOf x2_count y3_direction v3) fun (r30 : Int32) =>
      bv (fun (v2_2 : Int32) => ((
        bv (v3 + 1) fun v3_1 =>
        some (.inl (v2_2, v3_1))
        ) : Option ((Int32 × Int32) ⊕ (Int32)))) fun j56 =>
      (if r30 = (-1) then (
        j56 v2
      ) else (
        bd1 (f_X8_uprightTurn r30) fun (r43 : Int32) =>
        (if r43 = p1 then (
          bv (v2 ||| (1 <<< (v3 &&& 31))) fun v2_3 =>
          j56 v2_3
        ) else (
          j56 v2
        ))
      ))
    ))
    ) : Option ((Int32 × Int32) ⊕ (Int32)))) fun l8 =>
  bd1 (lq2 l8 0 0) fun (v2_1 : Int32) =>
  some v2_1
set_option maxRecDepth 4000 in
theorem c_X8_upright (l : Launch) (g : GE) (a0 a1 a2 a3 : Nat) (sz : Nat) (u0_1 u0_2 u0_3 u0_4 u0_5 u0_6 u0_7 u0_8 u0_9 u1_0 u1_2 u1_3 u1_4 u2_1 u2_2 u2_4 u2_5 : Value) (x2_count : Int32) (y3_direction : Nat → Int32) (p1 : Int32) (r : Int32) (hf : f_X8_upright x2_count y3_direction p1 = some r) : MI l g yX8_upright wsX8_upright 2 45 [.ref a0, .int p1] (w_X8_upright g a0 a1 a2 a3 u0_1 u0_2 u0_3 u0_4 u0_5 u0_6 u0_7 u0_8 u0_9 u1_0 u1_2 u1_3 u1_4 u2_1 u2_2 u2_4 u2_5 x2_count y3_direction) sz (some (.int r)) (w_X8_upright g a0 a1 a2 a3 u0_1 u0_2 u0_3 u0_4 u0_5 u0_6 u0_7 u0_8 u0_9 u1_0 u1_2 u1_3 u1_4 u2_1 u2_2 u2_4 u2_5 x2_count y3_direction) := by
  refine MI.start (cc := cX8_upright) (maxL := 5) (ret := (some .int)) rfl rfl (nle rfl) ?_
  intro p e s m args below meth c A ls Q hQ hexec hb hr hts hown hlocks hml hA hP hD hG hS hl
  unfold f_X8_upright at hf
  have hWX2 : ∀ w ∈ wsX20, w.before args s = true := fun w h => hts w (List.mem_cons_of_mem _ (List.mem_append_left _ (List.mem_append_right _ h)))
  have hWX6 : ∀ w ∈ wsX60, w.before args s = true := fun w h => hts w (List.mem_cons_of_mem _ (List.mem_append_left _ (List.mem_append_left _ (List.mem_append_right _ h))))
  have hWX8 : ∀ w ∈ wsX80, w.before args s = true := fun w h => hts w (List.mem_cons_of_mem _ (List.mem_append_left _ (List.mem_append_left _ (List.mem_append_left _ (List.mem_append_right _ h)))))
  have hS : va_S A s.heap s.heap [] := hS
  refine lv_iload_n (pc := 0) hexec hb dX8_upright_0 rfl (lv_at hl 1 rfl) ?_
  obtain ⟨_, hc, hf⟩ := bd1_e hf
  refine kSp (pc := 1) (S := ⟨hexec, hb, hml, hown, hts⟩) hP hD hG hA hS [] [0, 1, 2, 3] [0, 1, 2, 3] (w2 := (w_X8_upright g a0 a1 a2 a3 u0_1 u0_2 u0_3 u0_4 u0_5 u0_6 u0_7 u0_8 u0_9 u1_0 u1_2 u1_3 u1_4 u2_1 u2_2 u2_4 u2_5 x2_count y3_direction)) rfl rfl rfl rfl rfl rfl (by decide) (c_X8_needTurn l g _ p1 hc) gX8_upright_X8_needTurn rfl hs_X8_needTurn ⟨nle rfl, nle rfl⟩ (rest := []) rfl rfl hl.1 (nle rfl) dX8_upright_1 (fun H locs hP hD hS => ?_)
  refine lv_iconst (pc := 4) hexec hb dX8_upright_4 ki_0 ?_
  refine lv_istore_n (pc := 5) hexec hb dX8_upright_5 rfl hl (nle rfl) rfl (fun ls (hl : lv_has ls 5 [(2, .int 0), (0, .ref a0), (1, .int p1)]) => ?_)
  refine lv_iconst (pc := 6) hexec hb dX8_upright_6 ki_0 ?_
  refine lv_istore_n (pc := 7) hexec hb dX8_upright_7 rfl hl (nle rfl) rfl (fun ls (hl : lv_has ls 5 [(3, .int 0), (2, .int 0), (0, .ref a0), (1, .int p1)]) => ?_)
  obtain ⟨l8, el8, hf⟩ := bvf2 hf
  obtain ⟨v2_1, hz, hf⟩ := bd1_e hf
  have hE8 : ∀ (H : Heap) (locs : List Loc) (ls : Array Slot), va_P g.1 vwCl (w_X8_upright g a0 a1 a2 a3 u0_1 u0_2 u0_3 u0_4 u0_5 u0_6 u0_7 u0_8 u0_9 u1_0 u1_2 u1_3 u1_4 u2_1 u2_2 u2_4 u2_5 x2_count y3_direction) H → va_D A (w_X8_upright g a0 a1 a2 a3 u0_1 u0_2 u0_3 u0_4 u0_5 u0_6 u0_7 u0_8 u0_9 u1_0 u1_2 u1_3 u1_4 u2_1 u2_2 u2_4 u2_5 x2_count y3_direction) → va_S A s.heap H locs → lv_has ls 5 [(2, .int v2_1)] → W p l e (RM 2 45) s m args below meth c H locs 0 0 Q (F0 m 62 ls []) := by
    intro H locs ls hP hD hS hl
    refine lv_iload_n (pc := 62) hexec hb dX8_upright_62 rfl (lv_at hl 0 rfl) ?_
    cases hf
    exact ke_i hQ hexec hb hr hP hD hS dX8_upright_63 hlocks
  obtain ⟨n, hz⟩ := lq2_e hz
  have hL8 : ∀ (n : Nat) (v2 : Int32) (v3 : Int32) (H : Heap) (locs : List Loc) (ls : Array Slot), it2 l8 n v2 v3 = some v2_1 → va_P g.1 vwCl (w_X8_upright g a0 a1 a2 a3 u0_1 u0_2 u0_3 u0_4 u0_5 u0_6 u0_7 u0_8 u0_9 u1_0 u1_2 u1_3 u1_4 u2_1 u2_2 u2_4 u2_5 x2_count y3_direction) H → va_D A (w_X8_upright g a0 a1 a2 a3 u0_1 u0_2 u0_3 u0_4 u0_5 u0_6 u0_7 u0_8 u0_9 u1_0 u1_2 u1_3 u1_4 u2_1 u2_2 u2_4 u2_5 x2_count y3_direction) → va_S A s.heap H locs → lv_has ls 5 [(0, .ref a0), (1, .int p1), (2, .int v2), (3, .int v3)] → W p l e (RM 2 45) s m args below meth c H locs 0 0 Q (F0 m 8 ls []) := by
    intro n
    induction n with
    | zero =>
      intro v2 v3 H locs ls hf hP hD hS hl
      exact it2_0 hf
    | succ n8 ih8 =>
      intro v2 v3 H locs ls hf hP hD hS hl
      obtain ⟨q8, hf, hk8⟩ := it2_e hf
      have hf := (el8 v2 v3).symm.trans hf
      refine lv_iload_n (pc := 8) hexec hb dX8_upright_8 rfl (lv_at hl 3 rfl) ?_
      refine lv_aload_n (pc := 9) hexec hb dX8_upright_9 rfl (lv_at hl 0 rfl) ?_
      refine kg_get (pc := 10) hexec hb (own := RX8) hWX8 hown hG hP 0 rfl rfl 0 (nle rfl) (hts _ (List.mem_cons_of_mem _ (List.mem_append_left _ (List.mem_append_left _ (List.mem_append_left _ (List.mem_append_left _ (List.mem_of_getElem? (i := 0) rfl))))))) rfl rfl dX8_upright_10 ?_
      refine kg_getN (pc := 13) hexec hb (own := RX8) hWX6 hown hG hP 1 rfl rfl 1 (nle rfl) 24 rfl rfl rfl dX8_upright_13 ?_
      refine kg_getN (pc := 16) hexec hb (own := RX8) hWX2 hown hG hP 2 rfl rfl 0 (nle rfl) 6 rfl rfl rfl dX8_upright_16 ?_
      refine ki_ge (pc := 19) hexec hb dX8_upright_19 (tgt := 62) rfl hf (fun hc hf => ?_) (fun hc hf => ?_)
      · cases sr2 hf hk8
        exact hE8 _ _ _ hP hD hS (lv_sub hl [2] rfl)
      · refine lv_aload_n (pc := 22) hexec hb dX8_upright_22 rfl (lv_at hl 0 rfl) ?_
        refine kg_get (pc := 23) hexec hb (own := RX8) hWX8 hown hG hP 0 rfl rfl 0 (nle rfl) (hts _ (List.mem_cons_of_mem _ (List.mem_append_left _ (List.mem_append_left _ (List.mem_append_left _ (List.mem_append_left _ (List.mem_of_getElem? (i := 0) rfl))))))) rfl rfl dX8_upright_23 ?_
        refine kg_getN (pc := 26) hexec hb (own := RX8) hWX6 hown hG hP 1 rfl rfl 1 (nle rfl) 24 rfl rfl rfl dX8_upright_26 ?_
        refine lv_iload_n (pc := 29) hexec hb dX8_upright_29 rfl (lv_at hl 3 rfl) ?_
        obtain ⟨r30, hc, hf⟩ := bd1_e hf
        refine kVp (pc := 30) (S := ⟨hexec, hb, hml, hown, hts⟩) hP hD hG hA hS [2, 3] [0, 1] [0, 1, 2, 3] (w2 := (w_X8_upright g a0 a1 a2 a3 u0_1 u0_2 u0_3 u0_4 u0_5 u0_6 u0_7 u0_8 u0_9 u1_0 u1_2 u1_3 u1_4 u2_1 u2_2 u2_4 u2_5 x2_count y3_direction)) rfl rfl rfl rfl rfl rfl (by decide) (c_X2_directionOf l g a2 a3 _ u2_1 u2_2 u2_4 u2_5 x2_count y3_direction v3 r30 hc) gX8_upright_X2_directionOf rfl hv_X2_directionOf ⟨nle rfl, nle rfl⟩ 2 0 rfl rfl rfl (rest := []) rfl rfl hl.1 (nle rfl) dX8_upright_30 (fun H locs hP hD hS => ?_)
        refine lv_istore (pc := 33) hexec hb dX8_upright_33 hl (nle rfl) rfl (fun ls (hl : lv_has ls 5 [(4, .int r30), (0, .ref a0), (1, .int p1), (2, .int v2), (3, .int v3)]) => ?_)
        refine lv_iload (pc := 35) hexec hb dX8_upright_35 (lv_at hl 0 rfl) ?_
        refine lv_iconst (pc := 37) hexec hb dX8_upright_37 ki_m1 ?_
        obtain ⟨j56, ej56, hf⟩ := bvf1 hf
        have hj56 : ∀ (v2_2 : Int32) (H : Heap) (locs : List Loc) (ls : Array Slot), j56 v2_2 = some q8 → va_P g.1 vwCl (w_X8_upright g a0 a1 a2 a3 u0_1 u0_2 u0_3 u0_4 u0_5 u0_6 u0_7 u0_8 u0_9 u1_0 u1_2 u1_3 u1_4 u2_1 u2_2 u2_4 u2_5 x2_count y3_direction) H → va_D A (w_X8_upright g a0 a1 a2 a3 u0_1 u0_2 u0_3 u0_4 u0_5 u0_6 u0_7 u0_8 u0_9 u1_0 u1_2 u1_3 u1_4 u2_1 u2_2 u2_4 u2_5 x2_count y3_direction) → va_S A s.heap H locs → lv_has ls 5 [(0, .ref a0), (1, .int p1), (2, .int v2_2), (3, .int v3)] → W p l e (RM 2 45) s m args below meth c H locs 0 0 Q (F0 m 56 ls []) := by
          intro v2_2 H locs ls hf hP hD hS hl
          have hf := (ej56 v2_2).symm.trans hf
          obtain ⟨v3_1, ev3_1, hf⟩ := bv_e hf
          refine k_iinc (pc := 56) hexec hb dX8_upright_56 kq_1 hl (k := 3) rfl ev3_1 (nle rfl) rfl (fun ls (hl : lv_has ls 5 [(3, .int v3_1), (0, .ref a0), (1, .int p1), (2, .int v2_2)]) => ?_)
          refine lv_goto (pc := 59) hexec hb dX8_upright_59 (tgt := 8) rfl ?_
          exact ih8 _ _ _ _ _ (sl2 hf hk8) hP hD hS (lv_sub hl [1, 2, 3, 0] rfl)
        refine ki_eq (pc := 38) hexec hb dX8_upright_38 (tgt := 56) rfl hf (fun hc hf => ?_) (fun hc hf => ?_)
        · exact hj56 _ _ _ _ hf hP hD hS (lv_sub hl [1, 2, 3, 4] rfl)
        · refine lv_iload (pc := 41) hexec hb dX8_upright_41 (lv_at hl 0 rfl) ?_
          obtain ⟨r43, hc, hf⟩ := bd1_e hf
          refine kSp (pc := 43) (S := ⟨hexec, hb, hml, hown, hts⟩) hP hD hG hA hS [] [0, 1, 2, 3] [0, 1, 2, 3] (w2 := (w_X8_upright g a0 a1 a2 a3 u0_1 u0_2 u0_3 u0_4 u0_5 u0_6 u0_7 u0_8 u0_9 u1_0 u1_2 u1_3 u1_4 u2_1 u2_2 u2_4 u2_5 x2_count y3_direction)) rfl rfl rfl rfl rfl rfl (by decide) (c_X8_uprightTurn l g _ r30 r43 hc) gX8_upright_X8_uprightTurn rfl hs_X8_uprightTurn ⟨nle rfl, nle rfl⟩ (rest := []) rfl rfl hl.1 (nle rfl) dX8_upright_43 (fun H locs hP hD hS => ?_)
          refine lv_iload_n (pc := 46) hexec hb dX8_upright_46 rfl (lv_at hl 2 rfl) ?_
          refine ki_ne (pc := 47) hexec hb dX8_upright_47 (tgt := 56) rfl hf (fun hc hf => ?_) (fun hc hf => ?_)
          · exact hj56 _ _ _ _ hf hP hD hS (lv_sub hl [1, 2, 3, 4] rfl)
          · refine lv_iload_n (pc := 50) hexec hb dX8_upright_50 rfl (lv_at hl 3 rfl) ?_
            refine lv_iconst (pc := 51) hexec hb dX8_upright_51 ki_1 ?_
            refine lv_iload_n (pc := 52) hexec hb dX8_upright_52 rfl (lv_at hl 4 rfl) ?_
            refine lv_ishl (pc := 53) hexec hb dX8_upright_53 ?_
            refine lv_ior (pc := 54) hexec hb dX8_upright_54 ?_
            obtain ⟨v2_3, ev2_3, hf⟩ := bv_e hf
            refine kn_i ev2_3 ?_
            refine lv_istore_n (pc := 55) hexec hb dX8_upright_55 rfl hl (nle rfl) rfl (fun ls (hl : lv_has ls 5 [(2, .int v2_3), (4, .int r30), (0, .ref a0), (1, .int p1), (3, .int v3)]) => ?_)
            exact hj56 _ _ _ _ hf hP hD hS (lv_sub hl [2, 3, 0, 4] rfl)
  exact hL8 n _ _ _ _ _ hz hP hD hS (lv_sub hl [2, 3, 1, 0] rfl)
abbrev w_X8_turning (g : GE) (a0 a1 a2 a3 a4 a5 : Nat) (u0_1 u0_2 u0_3 u0_4 u0_5 u0_6 u0_7 u0_8 u0_9 u1_0 u1_3 u1_4 u2_0 u2_1 u2_2 u2_4 u2_5 u3_1 u3_3 : Value) (x3_count : Int32) (x3_turn : Int32) (y4_direction : Nat → Int32) (y5_stops : Nat → Int32) : va_W := [(a0, .inr (8, [.ref a1, u0_1, u0_2, u0_3, u0_4, u0_5, u0_6, u0_7, u0_8, u0_9])), (a1, .inr (6, [u1_0, .ref a2, .ref a3, u1_3, u1_4])), (a2, .inr (2, [u2_0, u2_1, u2_2, .ref a4, u2_4, u2_5])), (a3, .inr (4, [.int x3_count, u3_1, .int x3_turn, u3_3, .ref a5])), (a4, .inl (g.2.1 0, 8, .inl y4_direction)), (a5, .inl (g.2.1 0, 16, .inl y5_stops))]
noncomputable def f_X8_turning (x3_count : Int32) (x3_turn : Int32) (y4_direction : Nat → Int32) (y5_stops : Nat → Int32)  : Option (Int32) :=
  bd1 (f_X6_turningNow x3_count y4_direction y5_stops x3_turn) fun (r14 : Int32) =>
  some r14
set_option maxRecDepth 4000 in
theorem c_X8_turning (l : Launch) (g : GE) (a0 a1 a2 a3 a4 a5 : Nat) (sz : Nat) (u0_1 u0_2 u0_3 u0_4 u0_5 u0_6 u0_7 u0_8 u0_9 u1_0 u1_3 u1_4 u2_0 u2_1 u2_2 u2_4 u2_5 u3_1 u3_3 : Value) (x3_count : Int32) (x3_turn : Int32) (y4_direction : Nat → Int32) (y5_stops : Nat → Int32)  (r : Int32) (hf : f_X8_turning x3_count x3_turn y4_direction y5_stops = some r) : MI l g yX8_turning wsX8_turning 4 94 [.ref a0] (w_X8_turning g a0 a1 a2 a3 a4 a5 u0_1 u0_2 u0_3 u0_4 u0_5 u0_6 u0_7 u0_8 u0_9 u1_0 u1_3 u1_4 u2_0 u2_1 u2_2 u2_4 u2_5 u3_1 u3_3 x3_count x3_turn y4_direction y5_stops) sz (some (.int r)) (w_X8_turning g a0 a1 a2 a3 a4 a5 u0_1 u0_2 u0_3 u0_4 u0_5 u0_6 u0_7 u0_8 u0_9 u1_0 u1_3 u1_4 u2_0 u2_1 u2_2 u2_4 u2_5 u3_1 u3_3 x3_count x3_turn y4_direction y5_stops) := by
  refine MI.start (cc := cX8_turning) (maxL := 1) (ret := (some .int)) rfl rfl (nle rfl) ?_
  intro p e s m args below meth c A ls Q hQ hexec hb hr hts hown hlocks hml hA hP hD hG hS hl
  unfold f_X8_turning at hf
  have hWX2 : ∀ w ∈ wsX20, w.before args s = true := fun w h => hts w (List.mem_cons_of_mem _ (List.mem_append_right _ h))
  have hWX4 : ∀ w ∈ wsX40, w.before args s = true := fun w h => hts w (List.mem_cons_of_mem _ (List.mem_append_left _ (List.mem_append_right _ h)))
  have hWX6 : ∀ w ∈ wsX60, w.before args s = true := fun w h => hts w (List.mem_cons_of_mem _ (List.mem_append_left _ (List.mem_append_left _ (List.mem_append_right _ h))))
  have hWX8 : ∀ w ∈ wsX80, w.before args s = true := fun w h => hts w (List.mem_cons_of_mem _ (List.mem_append_left _ (List.mem_append_left _ (List.mem_append_left _ (List.mem_append_right _ h)))))
  have hS : va_S A s.heap s.heap [] := hS
  refine lv_aload_n (pc := 0) hexec hb dX8_turning_0 rfl (lv_at hl 0 rfl) ?_
  refine kg_get (pc := 1) hexec hb (own := RX8) hWX8 hown hG hP 0 rfl rfl 0 (nle rfl) (hts _ (List.mem_cons_of_mem _ (List.mem_append_left _ (List.mem_append_left _ (List.mem_append_left _ (List.mem_append_left _ (List.mem_append_left _ (List.mem_of_getElem? (i := 0) rfl)))))))) rfl rfl dX8_turning_1 ?_
  refine lv_aload_n (pc := 4) hexec hb dX8_turning_4 rfl (lv_at hl 0 rfl) ?_
  refine kg_get (pc := 5) hexec hb (own := RX8) hWX8 hown hG hP 0 rfl rfl 0 (nle rfl) (hts _ (List.mem_cons_of_mem _ (List.mem_append_left _ (List.mem_append_left _ (List.mem_append_left _ (List.mem_append_left _ (List.mem_append_left _ (List.mem_of_getElem? (i := 0) rfl)))))))) rfl rfl dX8_turning_5 ?_
  refine kg_getN (pc := 8) hexec hb (own := RX8) hWX6 hown hG hP 1 rfl rfl 2 (nle rfl) 27 rfl rfl rfl dX8_turning_8 ?_
  refine kg_getN (pc := 11) hexec hb (own := RX8) hWX4 hown hG hP 3 rfl rfl 2 (nle rfl) 16 rfl rfl rfl dX8_turning_11 ?_
  obtain ⟨r14, hc, hf⟩ := bd1_e hf
  refine kVp (pc := 14) (S := ⟨hexec, hb, hml, hown, hts⟩) hP hD hG hA hS [1, 2, 3, 4, 5] [0] [0, 1, 2, 3, 4, 5] (w2 := (w_X8_turning g a0 a1 a2 a3 a4 a5 u0_1 u0_2 u0_3 u0_4 u0_5 u0_6 u0_7 u0_8 u0_9 u1_0 u1_3 u1_4 u2_0 u2_1 u2_2 u2_4 u2_5 u3_1 u3_3 x3_count x3_turn y4_direction y5_stops)) rfl rfl rfl rfl rfl rfl (by decide) (c_X6_turningNow l g a1 a2 a3 a4 a5 _ u1_0 u1_3 u1_4 u2_0 u2_1 u2_2 u2_4 u2_5 u3_1 (.int x3_turn) u3_3 x3_count y4_direction y5_stops x3_turn r14 hc) gX8_turning_X6_turningNow rfl hv_X6_turningNow ⟨nle rfl, nle rfl⟩ 6 0 rfl rfl rfl (rest := []) rfl rfl hl.1 (nle rfl) dX8_turning_14 (fun H locs hP hD hS => ?_)
  cases hf
  exact ke_i hQ hexec hb hr hP hD hS dX8_turning_17 hlocks
abbrev w_X8_turningFrom (g : GE) (a0 a1 a2 a3 a4 a5 : Nat) (u0_1 u0_2 u0_3 u0_4 u0_5 u0_6 u0_7 u0_8 u0_9 u1_0 u1_3 u1_4 u2_0 u2_1 u2_2 u2_4 u2_5 u3_1 u3_2 u3_3 : Value) (x3_count : Int32) (y4_direction : Nat → Int32) (y5_stops : Nat → Int32) : va_W := [(a0, .inr (8, [.ref a1, u0_1, u0_2, u0_3, u0_4, u0_5, u0_6, u0_7, u0_8, u0_9])), (a1, .inr (6, [u1_0, .ref a2, .ref a3, u1_3, u1_4])), (a2, .inr (2, [u2_0, u2_1, u2_2, .ref a4, u2_4, u2_5])), (a3, .inr (4, [.int x3_count, u3_1, u3_2, u3_3, .ref a5])), (a4, .inl (g.2.1 0, 8, .inl y4_direction)), (a5, .inl (g.2.1 0, 16, .inl y5_stops))]
noncomputable def f_X8_turningFrom (x3_count : Int32) (y4_direction : Nat → Int32) (y5_stops : Nat → Int32) (p1 : Int32) : Option (Int32) :=
  bd1 (f_X8_needTurn p1) fun (_ : Unit) =>
  bd1 (f_X6_turningNow x3_count y4_direction y5_stops p1) fun (r9 : Int32) =>
  some r9
set_option maxRecDepth 4000 in
theorem c_X8_turningFrom (l : Launch) (g : GE) (a0 a1 a2 a3 a4 a5 : Nat) (sz : Nat) (u0_1 u0_2 u0_3 u0_4 u0_5 u0_6 u0_7 u0_8 u0_9 u1_0 u1_3 u1_4 u2_0 u2_1 u2_2 u2_4 u2_5 u3_1 u3_2 u3_3 : Value) (x3_count : Int32) (y4_direction : Nat → Int32) (y5_stops : Nat → Int32) (p1 : Int32) (r : Int32) (hf : f_X8_turningFrom x3_count y4_direction y5_stops p1 = some r) : MI l g yX8_turningFrom wsX8_turningFrom 4 94 [.ref a0, .int p1] (w_X8_turningFrom g a0 a1 a2 a3 a4 a5 u0_1 u0_2 u0_3 u0_4 u0_5 u0_6 u0_7 u0_8 u0_9 u1_0 u1_3 u1_4 u2_0 u2_1 u2_2 u2_4 u2_5 u3_1 u3_2 u3_3 x3_count y4_direction y5_stops) sz (some (.int r)) (w_X8_turningFrom g a0 a1 a2 a3 a4 a5 u0_1 u0_2 u0_3 u0_4 u0_5 u0_6 u0_7 u0_8 u0_9 u1_0 u1_3 u1_4 u2_0 u2_1 u2_2 u2_4 u2_5 u3_1 u3_2 u3_3 x3_count y4_direction y5_stops) := by
  refine MI.start (cc := cX8_turningFrom) (maxL := 2) (ret := (some .int)) rfl rfl (nle rfl) ?_
  intro p e s m args below meth c A ls Q hQ hexec hb hr hts hown hlocks hml hA hP hD hG hS hl
  unfold f_X8_turningFrom at hf
  have hWX2 : ∀ w ∈ wsX20, w.before args s = true := fun w h => hts w (List.mem_cons_of_mem _ (List.mem_append_left _ (List.mem_append_left _ (List.mem_append_right _ h))))
  have hWX4 : ∀ w ∈ wsX40, w.before args s = true := fun w h => hts w (List.mem_cons_of_mem _ (List.mem_append_left _ (List.mem_append_right _ h)))
  have hWX6 : ∀ w ∈ wsX60, w.before args s = true := fun w h => hts w (List.mem_cons_of_mem _ (List.mem_append_left _ (List.mem_append_left _ (List.mem_append_left _ (List.mem_append_right _ h)))))
  have hWX8 : ∀ w ∈ wsX80, w.before args s = true := fun w h => hts w (List.mem_cons_of_mem _ (List.mem_append_left _ (List.mem_append_left _ (List.mem_append_left _ (List.mem_append_left _ (List.mem_append_right _ h))))))
  have hS : va_S A s.heap s.heap [] := hS
  refine lv_iload_n (pc := 0) hexec hb dX8_turningFrom_0 rfl (lv_at hl 1 rfl) ?_
  obtain ⟨_, hc, hf⟩ := bd1_e hf
  refine kSp (pc := 1) (S := ⟨hexec, hb, hml, hown, hts⟩) hP hD hG hA hS [] [0, 1, 2, 3, 4, 5] [0, 1, 2, 3, 4, 5] (w2 := (w_X8_turningFrom g a0 a1 a2 a3 a4 a5 u0_1 u0_2 u0_3 u0_4 u0_5 u0_6 u0_7 u0_8 u0_9 u1_0 u1_3 u1_4 u2_0 u2_1 u2_2 u2_4 u2_5 u3_1 u3_2 u3_3 x3_count y4_direction y5_stops)) rfl rfl rfl rfl rfl rfl (by decide) (c_X8_needTurn l g _ p1 hc) gX8_turningFrom_X8_needTurn rfl hs_X8_needTurn ⟨nle rfl, nle rfl⟩ (rest := []) rfl rfl hl.1 (nle rfl) dX8_turningFrom_1 (fun H locs hP hD hS => ?_)
  refine lv_aload_n (pc := 4) hexec hb dX8_turningFrom_4 rfl (lv_at hl 0 rfl) ?_
  refine kg_get (pc := 5) hexec hb (own := RX8) hWX8 hown hG hP 0 rfl rfl 0 (nle rfl) (hts _ (List.mem_cons_of_mem _ (List.mem_append_left _ (List.mem_append_left _ (List.mem_append_left _ (List.mem_append_left _ (List.mem_append_left _ (List.mem_append_left _ (List.mem_of_getElem? (i := 0) rfl))))))))) rfl rfl dX8_turningFrom_5 ?_
  refine lv_iload_n (pc := 8) hexec hb dX8_turningFrom_8 rfl (lv_at hl 1 rfl) ?_
  obtain ⟨r9, hc, hf⟩ := bd1_e hf
  refine kVp (pc := 9) (S := ⟨hexec, hb, hml, hown, hts⟩) hP hD hG hA hS [1, 2, 3, 4, 5] [0] [0, 1, 2, 3, 4, 5] (w2 := (w_X8_turningFrom g a0 a1 a2 a3 a4 a5 u0_1 u0_2 u0_3 u0_4 u0_5 u0_6 u0_7 u0_8 u0_9 u1_0 u1_3 u1_4 u2_0 u2_1 u2_2 u2_4 u2_5 u3_1 u3_2 u3_3 x3_count y4_direction y5_stops)) rfl rfl rfl rfl rfl rfl (by decide) (c_X6_turningNow l g a1 a2 a3 a4 a5 _ u1_0 u1_3 u1_4 u2_0 u2_1 u2_2 u2_4 u2_5 u3_1 u3_2 u3_3 x3_count y4_direction y5_stops p1 r9 hc) gX8_turningFrom_X6_turningNow rfl hv_X6_turningNow ⟨nle rfl, nle rfl⟩ 6 0 rfl rfl rfl (rest := []) rfl rfl hl.1 (nle rfl) dX8_turningFrom_9 (fun H locs hP hD hS => ?_)
  cases hf
  exact ke_i hQ hexec hb hr hP hD hS dX8_turningFrom_12 hlocks
abbrev w_X8_bestTurn (g : GE) (a0 a1 a2 a3 a4 a5 : Nat) (u0_1 u0_2 u0_3 u0_4 u0_5 u0_6 u0_7 u0_8 u0_9 u1_0 u1_3 u1_4 u2_0 u2_1 u2_2 u2_4 u2_5 u3_1 u3_2 u3_3 : Value) (x3_count : Int32) (y4_direction : Nat → Int32) (y5_stops : Nat → Int32) : va_W := [(a0, .inr (8, [.ref a1, u0_1, u0_2, u0_3, u0_4, u0_5, u0_6, u0_7, u0_8, u0_9])), (a1, .inr (6, [u1_0, .ref a2, .ref a3, u1_3, u1_4])), (a2, .inr (2, [u2_0, u2_1, u2_2, .ref a4, u2_4, u2_5])), (a3, .inr (4, [.int x3_count, u3_1, u3_2, u3_3, .ref a5])), (a4, .inl (g.2.1 0, 8, .inl y4_direction)), (a5, .inl (g.2.1 0, 16, .inl y5_stops))]
noncomputable def f_X8_bestTurn (x3_count : Int32) (y4_direction : Nat → Int32) (y5_stops : Nat → Int32)  : Option (Int32) :=
  bd1 (f_X6_turningNow x3_count y4_direction y5_stops 0) fun (r7 : Int32) =>
  bv (fun (v1 : Int32) (v2 : Int32) (v3 : Int32) => ((
    (if 4 ≤ v3 then (
      some (.inr v1)
    ) else (
      bd1 (f_X6_turningNow x3_count y4_direction y5_stops v3) fun (r23 : Int32) =>
      bv (fun (v1_2 : Int32) (v2_1 : Int32) => ((
        bv (v3 + 1) fun v3_1 =>
        some (.inl (v1_2, v2_1, v3_1))
        ) : Option ((Int32 × Int32 × Int32) ⊕ (Int32)))) fun j39 =>
      (if v2 ≤ r23 then (
        j39 v1 v2
      ) else (
        j39 v3 r23
      ))
    ))
    ) : Option ((Int32 × Int32 × Int32) ⊕ (Int32)))) fun l13 =>
  bd1 (lq3 l13 0 r7 1) fun (v1_1 : Int32) =>
  some v1_1
set_option maxRecDepth 4000 in
theorem c_X8_bestTurn (l : Launch) (g : GE) (a0 a1 a2 a3 a4 a5 : Nat) (sz : Nat) (u0_1 u0_2 u0_3 u0_4 u0_5 u0_6 u0_7 u0_8 u0_9 u1_0 u1_3 u1_4 u2_0 u2_1 u2_2 u2_4 u2_5 u3_1 u3_2 u3_3 : Value) (x3_count : Int32) (y4_direction : Nat → Int32) (y5_stops : Nat → Int32)  (r : Int32) (hf : f_X8_bestTurn x3_count y4_direction y5_stops = some r) : MI l g yX8_bestTurn wsX8_bestTurn 4 94 [.ref a0] (w_X8_bestTurn g a0 a1 a2 a3 a4 a5 u0_1 u0_2 u0_3 u0_4 u0_5 u0_6 u0_7 u0_8 u0_9 u1_0 u1_3 u1_4 u2_0 u2_1 u2_2 u2_4 u2_5 u3_1 u3_2 u3_3 x3_count y4_direction y5_stops) sz (some (.int r)) (w_X8_bestTurn g a0 a1 a2 a3 a4 a5 u0_1 u0_2 u0_3 u0_4 u0_5 u0_6 u0_7 u0_8 u0_9 u1_0 u1_3 u1_4 u2_0 u2_1 u2_2 u2_4 u2_5 u3_1 u3_2 u3_3 x3_count y4_direction y5_stops) := by
  refine MI.start (cc := cX8_bestTurn) (maxL := 5) (ret := (some .int)) rfl rfl (nle rfl) ?_
  intro p e s m args below meth c A ls Q hQ hexec hb hr hts hown hlocks hml hA hP hD hG hS hl
  unfold f_X8_bestTurn at hf
  have hWX2 : ∀ w ∈ wsX20, w.before args s = true := fun w h => hts w (List.mem_cons_of_mem _ (List.mem_append_left _ (List.mem_append_right _ h)))
  have hWX4 : ∀ w ∈ wsX40, w.before args s = true := fun w h => hts w (List.mem_cons_of_mem _ (List.mem_append_right _ h))
  have hWX6 : ∀ w ∈ wsX60, w.before args s = true := fun w h => hts w (List.mem_cons_of_mem _ (List.mem_append_left _ (List.mem_append_left _ (List.mem_append_right _ h))))
  have hWX8 : ∀ w ∈ wsX80, w.before args s = true := fun w h => hts w (List.mem_cons_of_mem _ (List.mem_append_left _ (List.mem_append_left _ (List.mem_append_left _ (List.mem_append_right _ h)))))
  have hS : va_S A s.heap s.heap [] := hS
  refine lv_iconst (pc := 0) hexec hb dX8_bestTurn_0 ki_0 ?_
  refine lv_istore_n (pc := 1) hexec hb dX8_bestTurn_1 rfl hl (nle rfl) rfl (fun ls (hl : lv_has ls 5 [(1, .int 0), (0, .ref a0)]) => ?_)
  refine lv_aload_n (pc := 2) hexec hb dX8_bestTurn_2 rfl (lv_at hl 1 rfl) ?_
  refine kg_get (pc := 3) hexec hb (own := RX8) hWX8 hown hG hP 0 rfl rfl 0 (nle rfl) (hts _ (List.mem_cons_of_mem _ (List.mem_append_left _ (List.mem_append_left _ (List.mem_append_left _ (List.mem_append_left _ (List.mem_append_left _ (List.mem_of_getElem? (i := 0) rfl)))))))) rfl rfl dX8_bestTurn_3 ?_
  refine lv_iconst (pc := 6) hexec hb dX8_bestTurn_6 ki_0 ?_
  obtain ⟨r7, hc, hf⟩ := bd1_e hf
  refine kVp (pc := 7) (S := ⟨hexec, hb, hml, hown, hts⟩) hP hD hG hA hS [1, 2, 3, 4, 5] [0] [0, 1, 2, 3, 4, 5] (w2 := (w_X8_bestTurn g a0 a1 a2 a3 a4 a5 u0_1 u0_2 u0_3 u0_4 u0_5 u0_6 u0_7 u0_8 u0_9 u1_0 u1_3 u1_4 u2_0 u2_1 u2_2 u2_4 u2_5 u3_1 u3_2 u3_3 x3_count y4_direction y5_stops)) rfl rfl rfl rfl rfl rfl (by decide) (c_X6_turningNow l g a1 a2 a3 a4 a5 _ u1_0 u1_3 u1_4 u2_0 u2_1 u2_2 u2_4 u2_5 u3_1 u3_2 u3_3 x3_count y4_direction y5_stops 0 r7 hc) gX8_bestTurn_X6_turningNow rfl hv_X6_turningNow ⟨nle rfl, nle rfl⟩ 6 0 rfl rfl rfl (rest := []) rfl rfl hl.1 (nle rfl) dX8_bestTurn_7 (fun H locs hP hD hS => ?_)
  refine lv_istore_n (pc := 10) hexec hb dX8_bestTurn_10 rfl hl (nle rfl) rfl (fun ls (hl : lv_has ls 5 [(2, .int r7), (1, .int 0), (0, .ref a0)]) => ?_)
  refine lv_iconst (pc := 11) hexec hb dX8_bestTurn_11 ki_1 ?_
  refine lv_istore_n (pc := 12) hexec hb dX8_bestTurn_12 rfl hl (nle rfl) rfl (fun ls (hl : lv_has ls 5 [(3, .int 1), (2, .int r7), (1, .int 0), (0, .ref a0)]) => ?_)
  obtain ⟨l13, el13, hf⟩ := bvf3 hf
  obtain ⟨v1_1, hz, hf⟩ := bd1_e hf
  have hE13 : ∀ (H : Heap) (locs : List Loc) (ls : Array Slot), va_P g.1 vwCl (w_X8_bestTurn g a0 a1 a2 a3 a4 a5 u0_1 u0_2 u0_3 u0_4 u0_5 u0_6 u0_7 u0_8 u0_9 u1_0 u1_3 u1_4 u2_0 u2_1 u2_2 u2_4 u2_5 u3_1 u3_2 u3_3 x3_count y4_direction y5_stops) H → va_D A (w_X8_bestTurn g a0 a1 a2 a3 a4 a5 u0_1 u0_2 u0_3 u0_4 u0_5 u0_6 u0_7 u0_8 u0_9 u1_0 u1_3 u1_4 u2_0 u2_1 u2_2 u2_4 u2_5 u3_1 u3_2 u3_3 x3_count y4_direction y5_stops) → va_S A s.heap H locs → lv_has ls 5 [(1, .int v1_1)] → W p l e (RM 4 94) s m args below meth c H locs 0 0 Q (F0 m 45 ls []) := by
    intro H locs ls hP hD hS hl
    refine lv_iload_n (pc := 45) hexec hb dX8_bestTurn_45 rfl (lv_at hl 0 rfl) ?_
    cases hf
    exact ke_i hQ hexec hb hr hP hD hS dX8_bestTurn_46 hlocks
  obtain ⟨n, hz⟩ := lq3_e hz
  have hL13 : ∀ (n : Nat) (v1 : Int32) (v2 : Int32) (v3 : Int32) (H : Heap) (locs : List Loc) (ls : Array Slot), it3 l13 n v1 v2 v3 = some v1_1 → va_P g.1 vwCl (w_X8_bestTurn g a0 a1 a2 a3 a4 a5 u0_1 u0_2 u0_3 u0_4 u0_5 u0_6 u0_7 u0_8 u0_9 u1_0 u1_3 u1_4 u2_0 u2_1 u2_2 u2_4 u2_5 u3_1 u3_2 u3_3 x3_count y4_direction y5_stops) H → va_D A (w_X8_bestTurn g a0 a1 a2 a3 a4 a5 u0_1 u0_2 u0_3 u0_4 u0_5 u0_6 u0_7 u0_8 u0_9 u1_0 u1_3 u1_4 u2_0 u2_1 u2_2 u2_4 u2_5 u3_1 u3_2 u3_3 x3_count y4_direction y5_stops) → va_S A s.heap H locs → lv_has ls 5 [(0, .ref a0), (1, .int v1), (2, .int v2), (3, .int v3)] → W p l e (RM 4 94) s m args below meth c H locs 0 0 Q (F0 m 13 ls []) := by
    intro n
    induction n with
    | zero =>
      intro v1 v2 v3 H locs ls hf hP hD hS hl
      exact it3_0 hf
    | succ n13 ih13 =>
      intro v1 v2 v3 H locs ls hf hP hD hS hl
      obtain ⟨q13, hf, hk13⟩ := it3_e hf
      have hf := (el13 v1 v2 v3).symm.trans hf
      refine lv_iload_n (pc := 13) hexec hb dX8_bestTurn_13 rfl (lv_at hl 3 rfl) ?_
      refine lv_iconst (pc := 14) hexec hb dX8_bestTurn_14 ki_4 ?_
      refine ki_ge (pc := 15) hexec hb dX8_bestTurn_15 (tgt := 45) rfl hf (fun hc hf => ?_) (fun hc hf => ?_)
      · cases sr3 hf hk13
        exact hE13 _ _ _ hP hD hS (lv_sub hl [1] rfl)
      · refine lv_aload_n (pc := 18) hexec hb dX8_bestTurn_18 rfl (lv_at hl 0 rfl) ?_
        refine kg_get (pc := 19) hexec hb (own := RX8) hWX8 hown hG hP 0 rfl rfl 0 (nle rfl) (hts _ (List.mem_cons_of_mem _ (List.mem_append_left _ (List.mem_append_left _ (List.mem_append_left _ (List.mem_append_left _ (List.mem_append_left _ (List.mem_of_getElem? (i := 0) rfl)))))))) rfl rfl dX8_bestTurn_19 ?_
        refine lv_iload_n (pc := 22) hexec hb dX8_bestTurn_22 rfl (lv_at hl 3 rfl) ?_
        obtain ⟨r23, hc, hf⟩ := bd1_e hf
        refine kVp (pc := 23) (S := ⟨hexec, hb, hml, hown, hts⟩) hP hD hG hA hS [1, 2, 3, 4, 5] [0] [0, 1, 2, 3, 4, 5] (w2 := (w_X8_bestTurn g a0 a1 a2 a3 a4 a5 u0_1 u0_2 u0_3 u0_4 u0_5 u0_6 u0_7 u0_8 u0_9 u1_0 u1_3 u1_4 u2_0 u2_1 u2_2 u2_4 u2_5 u3_1 u3_2 u3_3 x3_count y4_direction y5_stops)) rfl rfl rfl rfl rfl rfl (by decide) (c_X6_turningNow l g a1 a2 a3 a4 a5 _ u1_0 u1_3 u1_4 u2_0 u2_1 u2_2 u2_4 u2_5 u3_1 u3_2 u3_3 x3_count y4_direction y5_stops v3 r23 hc) gX8_bestTurn_X6_turningNow rfl hv_X6_turningNow ⟨nle rfl, nle rfl⟩ 6 0 rfl rfl rfl (rest := []) rfl rfl hl.1 (nle rfl) dX8_bestTurn_23 (fun H locs hP hD hS => ?_)
        refine lv_istore (pc := 26) hexec hb dX8_bestTurn_26 hl (nle rfl) rfl (fun ls (hl : lv_has ls 5 [(4, .int r23), (0, .ref a0), (1, .int v1), (2, .int v2), (3, .int v3)]) => ?_)
        refine lv_iload (pc := 28) hexec hb dX8_bestTurn_28 (lv_at hl 0 rfl) ?_
        refine lv_iload_n (pc := 30) hexec hb dX8_bestTurn_30 rfl (lv_at hl 3 rfl) ?_
        obtain ⟨j39, ej39, hf⟩ := bvf2 hf
        have hj39 : ∀ (v1_2 : Int32) (v2_1 : Int32) (H : Heap) (locs : List Loc) (ls : Array Slot), j39 v1_2 v2_1 = some q13 → va_P g.1 vwCl (w_X8_bestTurn g a0 a1 a2 a3 a4 a5 u0_1 u0_2 u0_3 u0_4 u0_5 u0_6 u0_7 u0_8 u0_9 u1_0 u1_3 u1_4 u2_0 u2_1 u2_2 u2_4 u2_5 u3_1 u3_2 u3_3 x3_count y4_direction y5_stops) H → va_D A (w_X8_bestTurn g a0 a1 a2 a3 a4 a5 u0_1 u0_2 u0_3 u0_4 u0_5 u0_6 u0_7 u0_8 u0_9 u1_0 u1_3 u1_4 u2_0 u2_1 u2_2 u2_4 u2_5 u3_1 u3_2 u3_3 x3_count y4_direction y5_stops) → va_S A s.heap H locs → lv_has ls 5 [(0, .ref a0), (1, .int v1_2), (2, .int v2_1), (3, .int v3)] → W p l e (RM 4 94) s m args below meth c H locs 0 0 Q (F0 m 39 ls []) := by
          intro v1_2 v2_1 H locs ls hf hP hD hS hl
          have hf := (ej39 v1_2 v2_1).symm.trans hf
          obtain ⟨v3_1, ev3_1, hf⟩ := bv_e hf
          refine k_iinc (pc := 39) hexec hb dX8_bestTurn_39 kq_1 hl (k := 3) rfl ev3_1 (nle rfl) rfl (fun ls (hl : lv_has ls 5 [(3, .int v3_1), (0, .ref a0), (1, .int v1_2), (2, .int v2_1)]) => ?_)
          refine lv_goto (pc := 42) hexec hb dX8_bestTurn_42 (tgt := 13) rfl ?_
          exact ih13 _ _ _ _ _ _ (sl3 hf hk13) hP hD hS (lv_sub hl [1, 2, 3, 0] rfl)
        refine ki_ge (pc := 31) hexec hb dX8_bestTurn_31 (tgt := 39) rfl hf (fun hc hf => ?_) (fun hc hf => ?_)
        · exact hj39 _ _ _ _ _ hf hP hD hS (lv_sub hl [1, 2, 3, 4] rfl)
        · refine lv_iload_n (pc := 34) hexec hb dX8_bestTurn_34 rfl (lv_at hl 4 rfl) ?_
          refine lv_istore_n (pc := 35) hexec hb dX8_bestTurn_35 rfl hl (nle rfl) rfl (fun ls (hl : lv_has ls 5 [(1, .int v3), (4, .int r23), (0, .ref a0), (2, .int v2), (3, .int v3)]) => ?_)
          refine lv_iload (pc := 36) hexec hb dX8_bestTurn_36 (lv_at hl 1 rfl) ?_
          refine lv_istore_n (pc := 38) hexec hb dX8_bestTurn_38 rfl hl (nle rfl) rfl (fun ls (hl : lv_has ls 5 [(2, .int r23), (1, .int v3), (4, .int r23), (0, .ref a0), (3, .int v3)]) => ?_)
          exact hj39 _ _ _ _ _ hf hP hD hS (lv_sub hl [3, 1, 0, 4] rfl)
  exact hL13 n _ _ _ _ _ _ hz hP hD hS (lv_sub hl [3, 2, 1, 0] rfl)
abbrev w_X8_hardest (g : GE) (a0 a1 a2 a3 a4 a5 : Nat) (u0_1 u0_2 u0_3 u0_4 u0_5 u0_6 u0_7 u0_8 u0_9 u1_0 u1_3 u1_4 u2_1 u2_2 u2_4 u2_5 u3_1 u3_3 : Value) (x2_count : Int32) (x3_count : Int32) (x3_turn : Int32) (y4_direction : Nat → Int32) (y5_stops : Nat → Int32) : va_W := [(a0, .inr (8, [.ref a1, u0_1, u0_2, u0_3, u0_4, u0_5, u0_6, u0_7, u0_8, u0_9])), (a1, .inr (6, [u1_0, .ref a2, .ref a3, u1_3, u1_4])), (a2, .inr (2, [.int x2_count, u2_1, u2_2, .ref a4, u2_4, u2_5])), (a3, .inr (4, [.int x3_count, u3_1, .int x3_turn, u3_3, .ref a5])), (a4, .inl (g.2.1 0, 8, .inl y4_direction)), (a5, .inl (g.2.1 0, 16, .inl y5_stops))]
noncomputable def f_X8_hardest (x2_count : Int32) (x3_count : Int32) (x3_turn : Int32) (y4_direction : Nat → Int32) (y5_stops : Nat → Int32)  : Option (Int32) :=
  bv (fun (v1 : Int32) (v2 : Int32) (v3 : Int32) (v4 : Int32) => ((
    (if x3_count ≤ v4 then (
      some (.inr v1)
    ) else (
      bd1 (f_X4_stopAt x3_count y5_stops v4) fun (r49 : Int32) =>
      bd1 (f_X2_directionOf x2_count y4_direction r49) fun (r52 : Int32) =>
      bv (fun (v1_2 : Int32) (v2_1 : Int32) (v3_1 : Int32) => ((
        bv (v4 + 1) fun v4_1 =>
        some (.inl (v1_2, v2_1, v3_1, v4_1))
        ) : Option ((Int32 × Int32 × Int32 × Int32) ⊕ (Int32)))) fun j92 =>
      (if r52 = (-1) then (
        j92 v1 v2 v3
      ) else (
        bd1 (f_X8_uprightTurn r52) fun (r66 : Int32) =>
        bd1 (f_X8_quartersBetween v3 r66) fun (r69 : Int32) =>
        bd1 (f_X8_uprightTurn r52) fun (r76 : Int32) =>
        (if r69 ≤ v2 then (
          j92 v1 v2 r76
        ) else (
          j92 v4 r69 r76
        ))
      ))
    ))
    ) : Option ((Int32 × Int32 × Int32 × Int32) ⊕ (Int32)))) fun l18 =>
  bd1 (lq4 l18 (-1) 0 x3_turn 0) fun (v1_1 : Int32) =>
  some v1_1
set_option maxRecDepth 4000 in
theorem c_X8_hardest (l : Launch) (g : GE) (a0 a1 a2 a3 a4 a5 : Nat) (sz : Nat) (u0_1 u0_2 u0_3 u0_4 u0_5 u0_6 u0_7 u0_8 u0_9 u1_0 u1_3 u1_4 u2_1 u2_2 u2_4 u2_5 u3_1 u3_3 : Value) (x2_count : Int32) (x3_count : Int32) (x3_turn : Int32) (y4_direction : Nat → Int32) (y5_stops : Nat → Int32)  (r : Int32) (hf : f_X8_hardest x2_count x3_count x3_turn y4_direction y5_stops = some r) : MI l g yX8_hardest wsX8_hardest 2 46 [.ref a0] (w_X8_hardest g a0 a1 a2 a3 a4 a5 u0_1 u0_2 u0_3 u0_4 u0_5 u0_6 u0_7 u0_8 u0_9 u1_0 u1_3 u1_4 u2_1 u2_2 u2_4 u2_5 u3_1 u3_3 x2_count x3_count x3_turn y4_direction y5_stops) sz (some (.int r)) (w_X8_hardest g a0 a1 a2 a3 a4 a5 u0_1 u0_2 u0_3 u0_4 u0_5 u0_6 u0_7 u0_8 u0_9 u1_0 u1_3 u1_4 u2_1 u2_2 u2_4 u2_5 u3_1 u3_3 x2_count x3_count x3_turn y4_direction y5_stops) := by
  refine MI.start (cc := cX8_hardest) (maxL := 7) (ret := (some .int)) rfl rfl (nle rfl) ?_
  intro p e s m args below meth c A ls Q hQ hexec hb hr hts hown hlocks hml hA hP hD hG hS hl
  unfold f_X8_hardest at hf
  have hWX2 : ∀ w ∈ wsX20, w.before args s = true := fun w h => hts w (List.mem_cons_of_mem _ (List.mem_append_right _ h))
  have hWX4 : ∀ w ∈ wsX40, w.before args s = true := fun w h => hts w (List.mem_cons_of_mem _ (List.mem_append_left _ (List.mem_append_right _ h)))
  have hWX6 : ∀ w ∈ wsX60, w.before args s = true := fun w h => hts w (List.mem_cons_of_mem _ (List.mem_append_left _ (List.mem_append_left _ (List.mem_append_right _ h))))
  have hWX8 : ∀ w ∈ wsX80, w.before args s = true := fun w h => hts w (List.mem_cons_of_mem _ (List.mem_append_left _ (List.mem_append_left _ (List.mem_append_left _ (List.mem_append_right _ h)))))
  have hS : va_S A s.heap s.heap [] := hS
  refine lv_iconst (pc := 0) hexec hb dX8_hardest_0 ki_m1 ?_
  refine lv_istore_n (pc := 1) hexec hb dX8_hardest_1 rfl hl (nle rfl) rfl (fun ls (hl : lv_has ls 7 [(1, .int (-1)), (0, .ref a0)]) => ?_)
  refine lv_iconst (pc := 2) hexec hb dX8_hardest_2 ki_0 ?_
  refine lv_istore_n (pc := 3) hexec hb dX8_hardest_3 rfl hl (nle rfl) rfl (fun ls (hl : lv_has ls 7 [(2, .int 0), (1, .int (-1)), (0, .ref a0)]) => ?_)
  refine lv_aload_n (pc := 4) hexec hb dX8_hardest_4 rfl (lv_at hl 2 rfl) ?_
  refine kg_get (pc := 5) hexec hb (own := RX8) hWX8 hown hG hP 0 rfl rfl 0 (nle rfl) (hts _ (List.mem_cons_of_mem _ (List.mem_append_left _ (List.mem_append_left _ (List.mem_append_left _ (List.mem_append_left _ (List.mem_append_left _ (List.mem_of_getElem? (i := 0) rfl)))))))) rfl rfl dX8_hardest_5 ?_
  refine kg_getN (pc := 8) hexec hb (own := RX8) hWX6 hown hG hP 1 rfl rfl 2 (nle rfl) 27 rfl rfl rfl dX8_hardest_8 ?_
  refine kg_getN (pc := 11) hexec hb (own := RX8) hWX4 hown hG hP 3 rfl rfl 2 (nle rfl) 16 rfl rfl rfl dX8_hardest_11 ?_
  refine lv_istore_n (pc := 14) hexec hb dX8_hardest_14 rfl hl (nle rfl) rfl (fun ls (hl : lv_has ls 7 [(3, .int x3_turn), (2, .int 0), (1, .int (-1)), (0, .ref a0)]) => ?_)
  refine lv_iconst (pc := 15) hexec hb dX8_hardest_15 ki_0 ?_
  refine lv_istore (pc := 16) hexec hb dX8_hardest_16 hl (nle rfl) rfl (fun ls (hl : lv_has ls 7 [(4, .int 0), (3, .int x3_turn), (2, .int 0), (1, .int (-1)), (0, .ref a0)]) => ?_)
  obtain ⟨l18, el18, hf⟩ := bvf4 hf
  obtain ⟨v1_1, hz, hf⟩ := bd1_e hf
  have hE18 : ∀ (H : Heap) (locs : List Loc) (ls : Array Slot), va_P g.1 vwCl (w_X8_hardest g a0 a1 a2 a3 a4 a5 u0_1 u0_2 u0_3 u0_4 u0_5 u0_6 u0_7 u0_8 u0_9 u1_0 u1_3 u1_4 u2_1 u2_2 u2_4 u2_5 u3_1 u3_3 x2_count x3_count x3_turn y4_direction y5_stops) H → va_D A (w_X8_hardest g a0 a1 a2 a3 a4 a5 u0_1 u0_2 u0_3 u0_4 u0_5 u0_6 u0_7 u0_8 u0_9 u1_0 u1_3 u1_4 u2_1 u2_2 u2_4 u2_5 u3_1 u3_3 x2_count x3_count x3_turn y4_direction y5_stops) → va_S A s.heap H locs → lv_has ls 7 [(1, .int v1_1)] → W p l e (RM 2 46) s m args below meth c H locs 0 0 Q (F0 m 98 ls []) := by
    intro H locs ls hP hD hS hl
    refine lv_iload_n (pc := 98) hexec hb dX8_hardest_98 rfl (lv_at hl 0 rfl) ?_
    cases hf
    exact ke_i hQ hexec hb hr hP hD hS dX8_hardest_99 hlocks
  obtain ⟨n, hz⟩ := lq4_e hz
  have hL18 : ∀ (n : Nat) (v1 : Int32) (v2 : Int32) (v3 : Int32) (v4 : Int32) (H : Heap) (locs : List Loc) (ls : Array Slot), it4 l18 n v1 v2 v3 v4 = some v1_1 → va_P g.1 vwCl (w_X8_hardest g a0 a1 a2 a3 a4 a5 u0_1 u0_2 u0_3 u0_4 u0_5 u0_6 u0_7 u0_8 u0_9 u1_0 u1_3 u1_4 u2_1 u2_2 u2_4 u2_5 u3_1 u3_3 x2_count x3_count x3_turn y4_direction y5_stops) H → va_D A (w_X8_hardest g a0 a1 a2 a3 a4 a5 u0_1 u0_2 u0_3 u0_4 u0_5 u0_6 u0_7 u0_8 u0_9 u1_0 u1_3 u1_4 u2_1 u2_2 u2_4 u2_5 u3_1 u3_3 x2_count x3_count x3_turn y4_direction y5_stops) → va_S A s.heap H locs → lv_has ls 7 [(0, .ref a0), (1, .int v1), (2, .int v2), (3, .int v3), (4, .int v4)] → W p l e (RM 2 46) s m args below meth c H locs 0 0 Q (F0 m 18 ls []) := by
    intro n
    induction n with
    | zero =>
      intro v1 v2 v3 v4 H locs ls hf hP hD hS hl
      exact it4_0 hf
    | succ n18 ih18 =>
      intro v1 v2 v3 v4 H locs ls hf hP hD hS hl
      obtain ⟨q18, hf, hk18⟩ := it4_e hf
      have hf := (el18 v1 v2 v3 v4).symm.trans hf
      refine lv_iload (pc := 18) hexec hb dX8_hardest_18 (lv_at hl 4 rfl) ?_
      refine lv_aload_n (pc := 20) hexec hb dX8_hardest_20 rfl (lv_at hl 0 rfl) ?_
      refine kg_get (pc := 21) hexec hb (own := RX8) hWX8 hown hG hP 0 rfl rfl 0 (nle rfl) (hts _ (List.mem_cons_of_mem _ (List.mem_append_left _ (List.mem_append_left _ (List.mem_append_left _ (List.mem_append_left _ (List.mem_append_left _ (List.mem_of_getElem? (i := 0) rfl)))))))) rfl rfl dX8_hardest_21 ?_
      refine kg_getN (pc := 24) hexec hb (own := RX8) hWX6 hown hG hP 1 rfl rfl 2 (nle rfl) 27 rfl rfl rfl dX8_hardest_24 ?_
      refine kg_getN (pc := 27) hexec hb (own := RX8) hWX4 hown hG hP 3 rfl rfl 0 (nle rfl) 14 rfl rfl rfl dX8_hardest_27 ?_
      refine ki_ge (pc := 30) hexec hb dX8_hardest_30 (tgt := 98) rfl hf (fun hc hf => ?_) (fun hc hf => ?_)
      · cases sr4 hf hk18
        exact hE18 _ _ _ hP hD hS (lv_sub hl [1] rfl)
      · refine lv_aload_n (pc := 33) hexec hb dX8_hardest_33 rfl (lv_at hl 0 rfl) ?_
        refine kg_get (pc := 34) hexec hb (own := RX8) hWX8 hown hG hP 0 rfl rfl 0 (nle rfl) (hts _ (List.mem_cons_of_mem _ (List.mem_append_left _ (List.mem_append_left _ (List.mem_append_left _ (List.mem_append_left _ (List.mem_append_left _ (List.mem_of_getElem? (i := 0) rfl)))))))) rfl rfl dX8_hardest_34 ?_
        refine kg_getN (pc := 37) hexec hb (own := RX8) hWX6 hown hG hP 1 rfl rfl 1 (nle rfl) 24 rfl rfl rfl dX8_hardest_37 ?_
        refine lv_aload_n (pc := 40) hexec hb dX8_hardest_40 rfl (lv_at hl 0 rfl) ?_
        refine kg_get (pc := 41) hexec hb (own := RX8) hWX8 hown hG hP 0 rfl rfl 0 (nle rfl) (hts _ (List.mem_cons_of_mem _ (List.mem_append_left _ (List.mem_append_left _ (List.mem_append_left _ (List.mem_append_left _ (List.mem_append_left _ (List.mem_of_getElem? (i := 0) rfl)))))))) rfl rfl dX8_hardest_41 ?_
        refine kg_getN (pc := 44) hexec hb (own := RX8) hWX6 hown hG hP 1 rfl rfl 2 (nle rfl) 27 rfl rfl rfl dX8_hardest_44 ?_
        refine lv_iload (pc := 47) hexec hb dX8_hardest_47 (lv_at hl 4 rfl) ?_
        obtain ⟨r49, hc, hf⟩ := bd1_e hf
        refine kVp (pc := 49) (S := ⟨hexec, hb, hml, hown, hts⟩) hP hD hG hA hS [3, 5] [0, 1, 2, 4] [0, 1, 2, 4, 3, 5] (w2 := (w_X8_hardest g a0 a1 a2 a3 a4 a5 u0_1 u0_2 u0_3 u0_4 u0_5 u0_6 u0_7 u0_8 u0_9 u1_0 u1_3 u1_4 u2_1 u2_2 u2_4 u2_5 u3_1 u3_3 x2_count x3_count x3_turn y4_direction y5_stops)) rfl rfl rfl rfl rfl rfl (by decide) (c_X4_stopAt l g a3 a5 _ u3_1 (.int x3_turn) u3_3 x3_count y5_stops v4 r49 hc) gX8_hardest_X4_stopAt rfl hv_X4_stopAt ⟨nle rfl, nle rfl⟩ 4 0 rfl rfl rfl (rest := [.ref a2]) rfl rfl hl.1 (nle rfl) dX8_hardest_49 (fun H locs hP hD hS => ?_)
        obtain ⟨r52, hc, hf⟩ := bd1_e hf
        refine kVp (pc := 52) (S := ⟨hexec, hb, hml, hown, hts⟩) hP hD hG hA hS [2, 4] [0, 1, 3, 5] [0, 1, 4, 2, 5, 3] (w2 := (w_X8_hardest g a0 a1 a2 a3 a4 a5 u0_1 u0_2 u0_3 u0_4 u0_5 u0_6 u0_7 u0_8 u0_9 u1_0 u1_3 u1_4 u2_1 u2_2 u2_4 u2_5 u3_1 u3_3 x2_count x3_count x3_turn y4_direction y5_stops)) rfl rfl rfl rfl rfl rfl (by decide) (c_X2_directionOf l g a2 a4 _ u2_1 u2_2 u2_4 u2_5 x2_count y4_direction r49 r52 hc) gX8_hardest_X2_directionOf rfl hv_X2_directionOf ⟨nle rfl, nle rfl⟩ 2 0 rfl rfl rfl (rest := []) rfl rfl hl.1 (nle rfl) dX8_hardest_52 (fun H locs hP hD hS => ?_)
        refine lv_istore (pc := 55) hexec hb dX8_hardest_55 hl (nle rfl) rfl (fun ls (hl : lv_has ls 7 [(5, .int r52), (0, .ref a0), (1, .int v1), (2, .int v2), (3, .int v3), (4, .int v4)]) => ?_)
        refine lv_iload (pc := 57) hexec hb dX8_hardest_57 (lv_at hl 0 rfl) ?_
        refine lv_iconst (pc := 59) hexec hb dX8_hardest_59 ki_m1 ?_
        obtain ⟨j92, ej92, hf⟩ := bvf3 hf
        have hj92 : ∀ (v1_2 : Int32) (v2_1 : Int32) (v3_1 : Int32) (H : Heap) (locs : List Loc) (ls : Array Slot), j92 v1_2 v2_1 v3_1 = some q18 → va_P g.1 vwCl (w_X8_hardest g a0 a1 a2 a3 a4 a5 u0_1 u0_2 u0_3 u0_4 u0_5 u0_6 u0_7 u0_8 u0_9 u1_0 u1_3 u1_4 u2_1 u2_2 u2_4 u2_5 u3_1 u3_3 x2_count x3_count x3_turn y4_direction y5_stops) H → va_D A (w_X8_hardest g a0 a1 a2 a3 a4 a5 u0_1 u0_2 u0_3 u0_4 u0_5 u0_6 u0_7 u0_8 u0_9 u1_0 u1_3 u1_4 u2_1 u2_2 u2_4 u2_5 u3_1 u3_3 x2_count x3_count x3_turn y4_direction y5_stops) → va_S A s.heap H locs → lv_has ls 7 [(0, .ref a0), (1, .int v1_2), (2, .int v2_1), (3, .int v3_1), (4, .int v4)] → W p l e (RM 2 46) s m args below meth c H locs 0 0 Q (F0 m 92 ls []) := by
          intro v1_2 v2_1 v3_1 H locs ls hf hP hD hS hl
          have hf := (ej92 v1_2 v2_1 v3_1).symm.trans hf
          obtain ⟨v4_1, ev4_1, hf⟩ := bv_e hf
          refine k_iinc (pc := 92) hexec hb dX8_hardest_92 kq_1 hl (k := 4) rfl ev4_1 (nle rfl) rfl (fun ls (hl : lv_has ls 7 [(4, .int v4_1), (0, .ref a0), (1, .int v1_2), (2, .int v2_1), (3, .int v3_1)]) => ?_)
          refine lv_goto (pc := 95) hexec hb dX8_hardest_95 (tgt := 18) rfl ?_
          exact ih18 _ _ _ _ _ _ _ (sl4 hf hk18) hP hD hS (lv_sub hl [1, 2, 3, 4, 0] rfl)
        refine ki_eq (pc := 60) hexec hb dX8_hardest_60 (tgt := 92) rfl hf (fun hc hf => ?_) (fun hc hf => ?_)
        · exact hj92 _ _ _ _ _ _ hf hP hD hS (lv_sub hl [1, 2, 3, 4, 5] rfl)
        · refine lv_iload_n (pc := 63) hexec hb dX8_hardest_63 rfl (lv_at hl 4 rfl) ?_
          refine lv_iload (pc := 64) hexec hb dX8_hardest_64 (lv_at hl 0 rfl) ?_
          obtain ⟨r66, hc, hf⟩ := bd1_e hf
          refine kSp (pc := 66) (S := ⟨hexec, hb, hml, hown, hts⟩) hP hD hG hA hS [] [0, 1, 2, 3, 4, 5] [0, 1, 2, 3, 4, 5] (w2 := (w_X8_hardest g a0 a1 a2 a3 a4 a5 u0_1 u0_2 u0_3 u0_4 u0_5 u0_6 u0_7 u0_8 u0_9 u1_0 u1_3 u1_4 u2_1 u2_2 u2_4 u2_5 u3_1 u3_3 x2_count x3_count x3_turn y4_direction y5_stops)) rfl rfl rfl rfl rfl rfl (by decide) (c_X8_uprightTurn l g _ r52 r66 hc) gX8_hardest_X8_uprightTurn rfl hs_X8_uprightTurn ⟨nle rfl, nle rfl⟩ (rest := [.int v3]) rfl rfl hl.1 (nle rfl) dX8_hardest_66 (fun H locs hP hD hS => ?_)
          obtain ⟨r69, hc, hf⟩ := bd1_e hf
          refine kSp (pc := 69) (S := ⟨hexec, hb, hml, hown, hts⟩) hP hD hG hA hS [] [0, 1, 2, 3, 4, 5] [0, 1, 2, 3, 4, 5] (w2 := (w_X8_hardest g a0 a1 a2 a3 a4 a5 u0_1 u0_2 u0_3 u0_4 u0_5 u0_6 u0_7 u0_8 u0_9 u1_0 u1_3 u1_4 u2_1 u2_2 u2_4 u2_5 u3_1 u3_3 x2_count x3_count x3_turn y4_direction y5_stops)) rfl rfl rfl rfl rfl rfl (by decide) (c_X8_quartersBetween l g _ v3 r66 r69 hc) gX8_hardest_X8_quartersBetween rfl hs_X8_quartersBetween ⟨nle rfl, nle rfl⟩ (rest := []) rfl rfl hl.1 (nle rfl) dX8_hardest_69 (fun H locs hP hD hS => ?_)
          refine lv_istore (pc := 72) hexec hb dX8_hardest_72 hl (nle rfl) rfl (fun ls (hl : lv_has ls 7 [(6, .int r69), (5, .int r52), (0, .ref a0), (1, .int v1), (2, .int v2), (3, .int v3), (4, .int v4)]) => ?_)
          refine lv_iload (pc := 74) hexec hb dX8_hardest_74 (lv_at hl 1 rfl) ?_
          obtain ⟨r76, hc, hf⟩ := bd1_e hf
          refine kSp (pc := 76) (S := ⟨hexec, hb, hml, hown, hts⟩) hP hD hG hA hS [] [0, 1, 2, 3, 4, 5] [0, 1, 2, 3, 4, 5] (w2 := (w_X8_hardest g a0 a1 a2 a3 a4 a5 u0_1 u0_2 u0_3 u0_4 u0_5 u0_6 u0_7 u0_8 u0_9 u1_0 u1_3 u1_4 u2_1 u2_2 u2_4 u2_5 u3_1 u3_3 x2_count x3_count x3_turn y4_direction y5_stops)) rfl rfl rfl rfl rfl rfl (by decide) (c_X8_uprightTurn l g _ r52 r76 hc) gX8_hardest_X8_uprightTurn rfl hs_X8_uprightTurn ⟨nle rfl, nle rfl⟩ (rest := []) rfl rfl hl.1 (nle rfl) dX8_hardest_76 (fun H locs hP hD hS => ?_)
          refine lv_istore_n (pc := 79) hexec hb dX8_hardest_79 rfl hl (nle rfl) rfl (fun ls (hl : lv_has ls 7 [(3, .int r76), (6, .int r69), (5, .int r52), (0, .ref a0), (1, .int v1), (2, .int v2), (4, .int v4)]) => ?_)
          refine lv_iload (pc := 80) hexec hb dX8_hardest_80 (lv_at hl 1 rfl) ?_
          refine lv_iload_n (pc := 82) hexec hb dX8_hardest_82 rfl (lv_at hl 5 rfl) ?_
          refine ki_le (pc := 83) hexec hb dX8_hardest_83 (tgt := 92) rfl hf (fun hc hf => ?_) (fun hc hf => ?_)
          · exact hj92 _ _ _ _ _ _ hf hP hD hS (lv_sub hl [3, 4, 5, 0, 6] rfl)
          · refine lv_iload (pc := 86) hexec hb dX8_hardest_86 (lv_at hl 6 rfl) ?_
            refine lv_istore_n (pc := 88) hexec hb dX8_hardest_88 rfl hl (nle rfl) rfl (fun ls (hl : lv_has ls 7 [(1, .int v4), (3, .int r76), (6, .int r69), (5, .int r52), (0, .ref a0), (2, .int v2), (4, .int v4)]) => ?_)
            refine lv_iload (pc := 89) hexec hb dX8_hardest_89 (lv_at hl 2 rfl) ?_
            refine lv_istore_n (pc := 91) hexec hb dX8_hardest_91 rfl hl (nle rfl) rfl (fun ls (hl : lv_has ls 7 [(2, .int r69), (1, .int v4), (3, .int r76), (6, .int r69), (5, .int r52), (0, .ref a0), (4, .int v4)]) => ?_)
            exact hj92 _ _ _ _ _ _ hf hP hD hS (lv_sub hl [5, 1, 0, 2, 6] rfl)
  exact hL18 n _ _ _ _ _ _ _ hz hP hD hS (lv_sub hl [4, 3, 2, 1, 0] rfl)
abbrev w_X8_wayFrom (g : GE) (a0 a1 a2 a3 a4 a5 a6 a7 a8 a9 a10 a11 : Nat) (u0_1 u0_3 u0_4 u0_5 u0_6 u0_7 u0_8 u0_9 u1_2 u1_4 u3_2 u3_5 u4_1 u4_3 u4_4 u4_5 : Value) (x2_length : Int32) (x3_rows : Int32) (x3_columns : Int32) (x4_count : Int32) (y5_namesOn : Nat → Int32) (y6_costs : Nat → Int32) (y7_sums : Nat → Int32) (y8_way : Nat → Int32) (y9_land : Nat → Int32) (y10_riverOf : Nat → Int32) (y11_home : Nat → Int32) : va_W := [(a0, .inr (8, [.ref a1, u0_1, .ref a2, u0_3, u0_4, u0_5, u0_6, u0_7, u0_8, u0_9])), (a1, .inr (6, [.ref a3, .ref a4, u1_2, .ref a5, u1_4])), (a2, .inr (7, [.ref a6, .ref a7, .ref a8, .int x2_length])), (a3, .inr (1, [.int x3_rows, .int x3_columns, u3_2, .ref a9, .ref a10, u3_5])), (a4, .inr (2, [.int x4_count, u4_1, .ref a11, u4_3, u4_4, u4_5])), (a5, .inl (g.2.1 0, 144, .inl y5_namesOn)), (a6, .inl (g.2.1 0, 144, .inl y6_costs)), (a7, .inl (g.2.1 0, 144, .inl y7_sums)), (a8, .inl (g.2.1 0, 144, .inl y8_way)), (a9, .inl (g.2.1 1, 144, .inl y9_land)), (a10, .inl (g.2.1 0, 144, .inl y10_riverOf)), (a11, .inl (g.2.1 0, 8, .inl y11_home))]
noncomputable def f_X8_wayFrom (x2_length : Int32) (x3_rows : Int32) (x3_columns : Int32) (x4_count : Int32) (y5_namesOn : Nat → Int32) (y6_costs : Nat → Int32) (y7_sums : Nat → Int32) (y8_way : Nat → Int32) (y9_land : Nat → Int32) (y10_riverOf : Nat → Int32) (y11_home : Nat → Int32) (p1 : Int32) : Option (Int32 × Int32 × (Nat → Int32) × (Nat → Int32) × (Nat → Int32)) :=
  bd2 (f_X7_survey y6_costs y7_sums x3_rows x3_columns x4_count y5_namesOn y9_land y10_riverOf y11_home) fun (y6_costs_1 : Nat → Int32) (y7_sums_1 : Nat → Int32) =>
  bd3 (f_X7_trace x2_length y6_costs_1 y7_sums_1 y8_way x3_rows x3_columns p1) fun (r23 : Int32) (x2_length_1 : Int32) (y8_way_1 : Nat → Int32) =>
  some (r23, x2_length_1, y6_costs_1, y7_sums_1, y8_way_1)
set_option maxRecDepth 4000 in
theorem c_X8_wayFrom (l : Launch) (g : GE) (a0 a1 a2 a3 a4 a5 a6 a7 a8 a9 a10 a11 : Nat) (sz : Nat) (u0_1 u0_3 u0_4 u0_5 u0_6 u0_7 u0_8 u0_9 u1_2 u1_4 u3_2 u3_5 u4_1 u4_3 u4_4 u4_5 : Value) (x2_length : Int32) (x3_rows : Int32) (x3_columns : Int32) (x4_count : Int32) (y5_namesOn : Nat → Int32) (y6_costs : Nat → Int32) (y7_sums : Nat → Int32) (y8_way : Nat → Int32) (y9_land : Nat → Int32) (y10_riverOf : Nat → Int32) (y11_home : Nat → Int32) (p1 : Int32) (r : Int32) (o_x2_length : Int32) (o_y6_costs : Nat → Int32) (o_y7_sums : Nat → Int32) (o_y8_way : Nat → Int32) (hf : f_X8_wayFrom x2_length x3_rows x3_columns x4_count y5_namesOn y6_costs y7_sums y8_way y9_land y10_riverOf y11_home p1 = some (r, o_x2_length, o_y6_costs, o_y7_sums, o_y8_way)) : MI l g yX8_wayFrom wsX8_wayFrom 4 100 [.ref a0, .int p1] (w_X8_wayFrom g a0 a1 a2 a3 a4 a5 a6 a7 a8 a9 a10 a11 u0_1 u0_3 u0_4 u0_5 u0_6 u0_7 u0_8 u0_9 u1_2 u1_4 u3_2 u3_5 u4_1 u4_3 u4_4 u4_5 x2_length x3_rows x3_columns x4_count y5_namesOn y6_costs y7_sums y8_way y9_land y10_riverOf y11_home) sz (some (.int r)) (w_X8_wayFrom g a0 a1 a2 a3 a4 a5 a6 a7 a8 a9 a10 a11 u0_1 u0_3 u0_4 u0_5 u0_6 u0_7 u0_8 u0_9 u1_2 u1_4 u3_2 u3_5 u4_1 u4_3 u4_4 u4_5 o_x2_length x3_rows x3_columns x4_count y5_namesOn o_y6_costs o_y7_sums o_y8_way y9_land y10_riverOf y11_home) := by
  refine MI.start (cc := cX8_wayFrom) (maxL := 2) (ret := (some .int)) rfl rfl (nle rfl) ?_
  intro p e s m args below meth c A ls Q hQ hexec hb hr hts hown hlocks hml hA hP hD hG hS hl
  unfold f_X8_wayFrom at hf
  have hWX1 : ∀ w ∈ wsX10, w.before args s = true := fun w h => hts w (List.mem_cons_of_mem _ (List.mem_append_left _ (List.mem_append_right _ h)))
  have hWX2 : ∀ w ∈ wsX20, w.before args s = true := fun w h => hts w (List.mem_cons_of_mem _ (List.mem_append_right _ h))
  have hWX6 : ∀ w ∈ wsX60, w.before args s = true := fun w h => hts w (List.mem_cons_of_mem _ (List.mem_append_left _ (List.mem_append_left _ (List.mem_append_left _ (List.mem_append_right _ h)))))
  have hWX7 : ∀ w ∈ wsX70, w.before args s = true := fun w h => hts w (List.mem_cons_of_mem _ (List.mem_append_left _ (List.mem_append_left _ (List.mem_append_right _ h))))
  have hWX8 : ∀ w ∈ wsX80, w.before args s = true := fun w h => hts w (List.mem_cons_of_mem _ (List.mem_append_left _ (List.mem_append_left _ (List.mem_append_left _ (List.mem_append_left _ (List.mem_append_right _ h))))))
  have hS : va_S A s.heap s.heap [] := hS
  refine lv_aload_n (pc := 0) hexec hb dX8_wayFrom_0 rfl (lv_at hl 0 rfl) ?_
  refine kg_get (pc := 1) hexec hb (own := RX8) hWX8 hown hG hP 0 rfl rfl 2 (nle rfl) (hts _ (List.mem_cons_of_mem _ (List.mem_append_left _ (List.mem_append_left _ (List.mem_append_left _ (List.mem_append_left _ (List.mem_append_left _ (List.mem_append_left _ (List.mem_of_getElem? (i := 0) rfl))))))))) rfl rfl dX8_wayFrom_1 ?_
  refine lv_aload_n (pc := 4) hexec hb dX8_wayFrom_4 rfl (lv_at hl 0 rfl) ?_
  refine kg_get (pc := 5) hexec hb (own := RX8) hWX8 hown hG hP 0 rfl rfl 0 (nle rfl) (hts _ (List.mem_cons_of_mem _ (List.mem_append_left _ (List.mem_append_left _ (List.mem_append_left _ (List.mem_append_left _ (List.mem_append_left _ (List.mem_append_left _ (List.mem_of_getElem? (i := 1) rfl))))))))) rfl rfl dX8_wayFrom_5 ?_
  obtain ⟨y6_costs_1, y7_sums_1, hc, hf⟩ := bd2_e hf
  refine kVp (pc := 8) (S := ⟨hexec, hb, hml, hown, hts⟩) hP hD hG hA hS [2, 6, 7, 1, 3, 4, 5, 9, 10, 11] [0, 8] [0, 5, 2, 6, 7, 8, 3, 4, 1, 9, 10, 11] (w2 := (w_X8_wayFrom g a0 a1 a2 a3 a4 a5 a6 a7 a8 a9 a10 a11 u0_1 u0_3 u0_4 u0_5 u0_6 u0_7 u0_8 u0_9 u1_2 u1_4 u3_2 u3_5 u4_1 u4_3 u4_4 u4_5 x2_length x3_rows x3_columns x4_count y5_namesOn y6_costs_1 y7_sums_1 y8_way y9_land y10_riverOf y11_home)) rfl rfl rfl rfl rfl rfl (by decide) (c_X7_survey l g a2 a6 a7 a1 a3 a4 a5 a9 a10 a11 _ (.ref a8) (.int x2_length) u1_2 u1_4 u3_2 u3_5 u4_1 u4_3 u4_4 u4_5 y6_costs y7_sums x3_rows x3_columns x4_count y5_namesOn y9_land y10_riverOf y11_home y6_costs_1 y7_sums_1 hc) gX8_wayFrom_X7_survey rfl hv_X7_survey ⟨nle rfl, nle rfl⟩ 7 0 rfl rfl rfl (rest := []) rfl rfl hl.1 (nle rfl) dX8_wayFrom_8 (fun H locs hP hD hS => ?_)
  refine lv_aload_n (pc := 11) hexec hb dX8_wayFrom_11 rfl (lv_at hl 0 rfl) ?_
  refine kg_get (pc := 12) hexec hb (own := RX8) hWX8 hown hG hP 0 rfl rfl 2 (nle rfl) (hts _ (List.mem_cons_of_mem _ (List.mem_append_left _ (List.mem_append_left _ (List.mem_append_left _ (List.mem_append_left _ (List.mem_append_left _ (List.mem_append_left _ (List.mem_of_getElem? (i := 0) rfl))))))))) rfl rfl dX8_wayFrom_12 ?_
  refine lv_aload_n (pc := 15) hexec hb dX8_wayFrom_15 rfl (lv_at hl 0 rfl) ?_
  refine kg_get (pc := 16) hexec hb (own := RX8) hWX8 hown hG hP 0 rfl rfl 0 (nle rfl) (hts _ (List.mem_cons_of_mem _ (List.mem_append_left _ (List.mem_append_left _ (List.mem_append_left _ (List.mem_append_left _ (List.mem_append_left _ (List.mem_append_left _ (List.mem_of_getElem? (i := 1) rfl))))))))) rfl rfl dX8_wayFrom_16 ?_
  refine kg_getN (pc := 19) hexec hb (own := RX8) hWX6 hown hG hP 1 rfl rfl 0 (nle rfl) 21 rfl rfl rfl dX8_wayFrom_19 ?_
  refine lv_iload_n (pc := 22) hexec hb dX8_wayFrom_22 rfl (lv_at hl 1 rfl) ?_
  obtain ⟨r23, x2_length_1, y8_way_1, hc, hf⟩ := bd3_e hf
  refine kVp (pc := 23) (S := ⟨hexec, hb, hml, hown, hts⟩) hP hD hG hA hS [2, 6, 7, 8, 3] [0, 1, 4, 5, 9, 10, 11] [0, 1, 7, 11, 2, 3, 8, 9, 10, 4, 5, 6] (w2 := (w_X8_wayFrom g a0 a1 a2 a3 a4 a5 a6 a7 a8 a9 a10 a11 u0_1 u0_3 u0_4 u0_5 u0_6 u0_7 u0_8 u0_9 u1_2 u1_4 u3_2 u3_5 u4_1 u4_3 u4_4 u4_5 x2_length_1 x3_rows x3_columns x4_count y5_namesOn y6_costs_1 y7_sums_1 y8_way_1 y9_land y10_riverOf y11_home)) rfl rfl rfl rfl rfl rfl (by decide) (c_X7_trace l g a2 a6 a7 a8 a3 _ u3_2 (.ref a9) (.ref a10) u3_5 x2_length y6_costs_1 y7_sums_1 y8_way x3_rows x3_columns p1 r23 x2_length_1 y8_way_1 hc) gX8_wayFrom_X7_trace rfl hv_X7_trace ⟨nle rfl, nle rfl⟩ 7 0 rfl rfl rfl (rest := []) rfl rfl hl.1 (nle rfl) dX8_wayFrom_23 (fun H locs hP hD hS => ?_)
  cases hf
  exact ke_i hQ hexec hb hr hP hD hS dX8_wayFrom_26 hlocks
abbrev w_X8_wayLength (g : GE) (a0 a1 a2 a3 a4 a5 a6 a7 a8 a9 a10 a11 : Nat) (u0_1 u0_3 u0_4 u0_5 u0_6 u0_7 u0_8 u0_9 u1_2 u1_4 u3_2 u3_5 u4_1 u4_3 u4_4 u4_5 : Value) (x2_length : Int32) (x3_rows : Int32) (x3_columns : Int32) (x4_count : Int32) (y5_namesOn : Nat → Int32) (y6_costs : Nat → Int32) (y7_sums : Nat → Int32) (y8_way : Nat → Int32) (y9_land : Nat → Int32) (y10_riverOf : Nat → Int32) (y11_home : Nat → Int32) : va_W := [(a0, .inr (8, [.ref a1, u0_1, .ref a2, u0_3, u0_4, u0_5, u0_6, u0_7, u0_8, u0_9])), (a1, .inr (6, [.ref a3, .ref a4, u1_2, .ref a5, u1_4])), (a2, .inr (7, [.ref a6, .ref a7, .ref a8, .int x2_length])), (a3, .inr (1, [.int x3_rows, .int x3_columns, u3_2, .ref a9, .ref a10, u3_5])), (a4, .inr (2, [.int x4_count, u4_1, .ref a11, u4_3, u4_4, u4_5])), (a5, .inl (g.2.1 0, 144, .inl y5_namesOn)), (a6, .inl (g.2.1 0, 144, .inl y6_costs)), (a7, .inl (g.2.1 0, 144, .inl y7_sums)), (a8, .inl (g.2.1 0, 144, .inl y8_way)), (a9, .inl (g.2.1 1, 144, .inl y9_land)), (a10, .inl (g.2.1 0, 144, .inl y10_riverOf)), (a11, .inl (g.2.1 0, 8, .inl y11_home))]
noncomputable def f_X8_wayLength (x2_length : Int32) (x3_rows : Int32) (x3_columns : Int32) (x4_count : Int32) (y5_namesOn : Nat → Int32) (y6_costs : Nat → Int32) (y7_sums : Nat → Int32) (y8_way : Nat → Int32) (y9_land : Nat → Int32) (y10_riverOf : Nat → Int32) (y11_home : Nat → Int32) (p1 : Int32) : Option (Int32 × Int32 × (Nat → Int32) × (Nat → Int32) × (Nat → Int32)) :=
  bd1 (f_X8_needCell x3_rows x3_columns p1) fun (_ : Unit) =>
  bd5 (f_X8_wayFrom x2_length x3_rows x3_columns x4_count y5_namesOn y6_costs y7_sums y8_way y9_land y10_riverOf y11_home p1) fun (r7 : Int32) (x2_length_1 : Int32) (y6_costs_1 : Nat → Int32) (y7_sums_1 : Nat → Int32) (y8_way_1 : Nat → Int32) =>
  (if r7 = 0 then (
    some ((-3), x2_length_1, y6_costs_1, y7_sums_1, y8_way_1)
  ) else (
    some (r7, x2_length_1, y6_costs_1, y7_sums_1, y8_way_1)
  ))
set_option maxRecDepth 4000 in
theorem c_X8_wayLength (l : Launch) (g : GE) (a0 a1 a2 a3 a4 a5 a6 a7 a8 a9 a10 a11 : Nat) (sz : Nat) (u0_1 u0_3 u0_4 u0_5 u0_6 u0_7 u0_8 u0_9 u1_2 u1_4 u3_2 u3_5 u4_1 u4_3 u4_4 u4_5 : Value) (x2_length : Int32) (x3_rows : Int32) (x3_columns : Int32) (x4_count : Int32) (y5_namesOn : Nat → Int32) (y6_costs : Nat → Int32) (y7_sums : Nat → Int32) (y8_way : Nat → Int32) (y9_land : Nat → Int32) (y10_riverOf : Nat → Int32) (y11_home : Nat → Int32) (p1 : Int32) (r : Int32) (o_x2_length : Int32) (o_y6_costs : Nat → Int32) (o_y7_sums : Nat → Int32) (o_y8_way : Nat → Int32) (hf : f_X8_wayLength x2_length x3_rows x3_columns x4_count y5_namesOn y6_costs y7_sums y8_way y9_land y10_riverOf y11_home p1 = some (r, o_x2_length, o_y6_costs, o_y7_sums, o_y8_way)) : MI l g yX8_wayLength wsX8_wayLength 5 121 [.ref a0, .int p1] (w_X8_wayLength g a0 a1 a2 a3 a4 a5 a6 a7 a8 a9 a10 a11 u0_1 u0_3 u0_4 u0_5 u0_6 u0_7 u0_8 u0_9 u1_2 u1_4 u3_2 u3_5 u4_1 u4_3 u4_4 u4_5 x2_length x3_rows x3_columns x4_count y5_namesOn y6_costs y7_sums y8_way y9_land y10_riverOf y11_home) sz (some (.int r)) (w_X8_wayLength g a0 a1 a2 a3 a4 a5 a6 a7 a8 a9 a10 a11 u0_1 u0_3 u0_4 u0_5 u0_6 u0_7 u0_8 u0_9 u1_2 u1_4 u3_2 u3_5 u4_1 u4_3 u4_4 u4_5 o_x2_length x3_rows x3_columns x4_count y5_namesOn o_y6_costs o_y7_sums o_y8_way y9_land y10_riverOf y11_home) := by
  refine MI.start (cc := cX8_wayLength) (maxL := 3) (ret := (some .int)) rfl rfl (nle rfl) ?_
  intro p e s m args below meth c A ls Q hQ hexec hb hr hts hown hlocks hml hA hP hD hG hS hl
  unfold f_X8_wayLength at hf
  have hWX1 : ∀ w ∈ wsX10, w.before args s = true := fun w h => hts w (List.mem_cons_of_mem _ (List.mem_append_left _ (List.mem_append_left _ (List.mem_append_left _ (List.mem_append_right _ h)))))
  have hWX2 : ∀ w ∈ wsX20, w.before args s = true := fun w h => hts w (List.mem_cons_of_mem _ (List.mem_append_left _ (List.mem_append_right _ h)))
  have hWX6 : ∀ w ∈ wsX60, w.before args s = true := fun w h => hts w (List.mem_cons_of_mem _ (List.mem_append_left _ (List.mem_append_left _ (List.mem_append_left _ (List.mem_append_left _ (List.mem_append_right _ h))))))
  have hWX7 : ∀ w ∈ wsX70, w.before args s = true := fun w h => hts w (List.mem_cons_of_mem _ (List.mem_append_left _ (List.mem_append_left _ (List.mem_append_right _ h))))
  have hWX8 : ∀ w ∈ wsX80, w.before args s = true := fun w h => hts w (List.mem_cons_of_mem _ (List.mem_append_left _ (List.mem_append_left _ (List.mem_append_left _ (List.mem_append_left _ (List.mem_append_left _ (List.mem_append_right _ h)))))))
  have hS : va_S A s.heap s.heap [] := hS
  refine lv_aload_n (pc := 0) hexec hb dX8_wayLength_0 rfl (lv_at hl 0 rfl) ?_
  refine lv_iload_n (pc := 1) hexec hb dX8_wayLength_1 rfl (lv_at hl 1 rfl) ?_
  obtain ⟨_, hc, hf⟩ := bd1_e hf
  refine kVp (pc := 2) (S := ⟨hexec, hb, hml, hown, hts⟩) hP hD hG hA hS [0, 1, 3] [2, 4, 5, 6, 7, 8, 9, 10, 11] [9, 10, 0, 11, 1, 2, 3, 4, 5, 6, 7, 8] (w2 := (w_X8_wayLength g a0 a1 a2 a3 a4 a5 a6 a7 a8 a9 a10 a11 u0_1 u0_3 u0_4 u0_5 u0_6 u0_7 u0_8 u0_9 u1_2 u1_4 u3_2 u3_5 u4_1 u4_3 u4_4 u4_5 x2_length x3_rows x3_columns x4_count y5_namesOn y6_costs y7_sums y8_way y9_land y10_riverOf y11_home)) rfl rfl rfl rfl rfl rfl (by decide) (c_X8_needCell l g a0 a1 a3 _ u0_1 (.ref a2) u0_3 u0_4 u0_5 u0_6 u0_7 u0_8 u0_9 (.ref a4) u1_2 (.ref a5) u1_4 u3_2 (.ref a9) (.ref a10) u3_5 x3_rows x3_columns p1 hc) gX8_wayLength_X8_needCell rfl hv_X8_needCell ⟨nle rfl, nle rfl⟩ 8 0 rfl rfl rfl (rest := []) rfl rfl hl.1 (nle rfl) dX8_wayLength_2 (fun H locs hP hD hS => ?_)
  refine lv_aload_n (pc := 5) hexec hb dX8_wayLength_5 rfl (lv_at hl 0 rfl) ?_
  refine lv_iload_n (pc := 6) hexec hb dX8_wayLength_6 rfl (lv_at hl 1 rfl) ?_
  obtain ⟨r7, x2_length_1, y6_costs_1, y7_sums_1, y8_way_1, hc, hf⟩ := bd5_e hf
  refine kVp (pc := 7) (S := ⟨hexec, hb, hml, hown, hts⟩) hP hD hG hA hS [0, 1, 2, 3, 4, 5, 6, 7, 8, 9, 10, 11] [] [0, 1, 2, 3, 4, 5, 6, 7, 8, 9, 10, 11] (w2 := (w_X8_wayLength g a0 a1 a2 a3 a4 a5 a6 a7 a8 a9 a10 a11 u0_1 u0_3 u0_4 u0_5 u0_6 u0_7 u0_8 u0_9 u1_2 u1_4 u3_2 u3_5 u4_1 u4_3 u4_4 u4_5 x2_length_1 x3_rows x3_columns x4_count y5_namesOn y6_costs_1 y7_sums_1 y8_way_1 y9_land y10_riverOf y11_home)) rfl rfl rfl rfl rfl rfl (by decide) (c_X8_wayFrom l g a0 a1 a2 a3 a4 a5 a6 a7 a8 a9 a10 a11 _ u0_1 u0_3 u0_4 u0_5 u0_6 u0_7 u0_8 u0_9 u1_2 u1_4 u3_2 u3_5 u4_1 u4_3 u4_4 u4_5 x2_length x3_rows x3_columns x4_count y5_namesOn y6_costs y7_sums y8_way y9_land y10_riverOf y11_home p1 r7 x2_length_1 y6_costs_1 y7_sums_1 y8_way_1 hc) gX8_wayLength_X8_wayFrom rfl hv_X8_wayFrom ⟨nle rfl, nle rfl⟩ 8 0 rfl rfl rfl (rest := []) rfl rfl hl.1 (nle rfl) dX8_wayLength_7 (fun H locs hP hD hS => ?_)
  refine lv_istore_n (pc := 10) hexec hb dX8_wayLength_10 rfl hl (nle rfl) rfl (fun ls (hl : lv_has ls 3 [(2, .int r7), (0, .ref a0), (1, .int p1)]) => ?_)
  refine lv_iload_n (pc := 11) hexec hb dX8_wayLength_11 rfl (lv_at hl 0 rfl) ?_
  refine kb_ne (pc := 12) hexec hb dX8_wayLength_12 (tgt := 20) rfl hf (fun hc hf => ?_) (fun hc hf => ?_)
  · refine lv_iload_n (pc := 20) hexec hb dX8_wayLength_20 rfl (lv_at hl 0 rfl) ?_
    cases hf
    exact ke_i hQ hexec hb hr hP hD hS dX8_wayLength_21 hlocks
  · refine lv_bipush (pc := 15) hexec hb dX8_wayLength_15 kb_m3 ?_
    refine lv_goto (pc := 17) hexec hb dX8_wayLength_17 (tgt := 21) rfl ?_
    cases hf
    exact ke_i hQ hexec hb hr hP hD hS dX8_wayLength_21 hlocks
abbrev w_X8_wayCell (g : GE) (a0 a1 a2 a3 a4 a5 a6 a7 a8 a9 a10 a11 : Nat) (u0_1 u0_3 u0_4 u0_5 u0_6 u0_7 u0_8 u0_9 u1_2 u1_4 u3_2 u3_5 u4_1 u4_3 u4_4 u4_5 : Value) (x2_length : Int32) (x3_rows : Int32) (x3_columns : Int32) (x4_count : Int32) (y5_namesOn : Nat → Int32) (y6_costs : Nat → Int32) (y7_sums : Nat → Int32) (y8_way : Nat → Int32) (y9_land : Nat → Int32) (y10_riverOf : Nat → Int32) (y11_home : Nat → Int32) : va_W := [(a0, .inr (8, [.ref a1, u0_1, .ref a2, u0_3, u0_4, u0_5, u0_6, u0_7, u0_8, u0_9])), (a1, .inr (6, [.ref a3, .ref a4, u1_2, .ref a5, u1_4])), (a2, .inr (7, [.ref a6, .ref a7, .ref a8, .int x2_length])), (a3, .inr (1, [.int x3_rows, .int x3_columns, u3_2, .ref a9, .ref a10, u3_5])), (a4, .inr (2, [.int x4_count, u4_1, .ref a11, u4_3, u4_4, u4_5])), (a5, .inl (g.2.1 0, 144, .inl y5_namesOn)), (a6, .inl (g.2.1 0, 144, .inl y6_costs)), (a7, .inl (g.2.1 0, 144, .inl y7_sums)), (a8, .inl (g.2.1 0, 144, .inl y8_way)), (a9, .inl (g.2.1 1, 144, .inl y9_land)), (a10, .inl (g.2.1 0, 144, .inl y10_riverOf)), (a11, .inl (g.2.1 0, 8, .inl y11_home))]
noncomputable def f_X8_wayCell (x2_length : Int32) (x3_rows : Int32) (x3_columns : Int32) (x4_count : Int32) (y5_namesOn : Nat → Int32) (y6_costs : Nat → Int32) (y7_sums : Nat → Int32) (y8_way : Nat → Int32) (y9_land : Nat → Int32) (y10_riverOf : Nat → Int32) (y11_home : Nat → Int32) (p1 : Int32) (p2 : Int32) : Option (Int32 × Int32 × (Nat → Int32) × (Nat → Int32) × (Nat → Int32)) :=
  bd1 (f_X8_needCell x3_rows x3_columns p1) fun (_ : Unit) =>
  bd5 (f_X8_wayFrom x2_length x3_rows x3_columns x4_count y5_namesOn y6_costs y7_sums y8_way y9_land y10_riverOf y11_home p1) fun (r7 : Int32) (x2_length_1 : Int32) (y6_costs_1 : Nat → Int32) (y7_sums_1 : Nat → Int32) (y8_way_1 : Nat → Int32) =>
  bd1 (f_X7_wayAt x2_length_1 y8_way_1 p2) fun (r16 : Int32) =>
  some (r16, x2_length_1, y6_costs_1, y7_sums_1, y8_way_1)
set_option maxRecDepth 4000 in
theorem c_X8_wayCell (l : Launch) (g : GE) (a0 a1 a2 a3 a4 a5 a6 a7 a8 a9 a10 a11 : Nat) (sz : Nat) (u0_1 u0_3 u0_4 u0_5 u0_6 u0_7 u0_8 u0_9 u1_2 u1_4 u3_2 u3_5 u4_1 u4_3 u4_4 u4_5 : Value) (x2_length : Int32) (x3_rows : Int32) (x3_columns : Int32) (x4_count : Int32) (y5_namesOn : Nat → Int32) (y6_costs : Nat → Int32) (y7_sums : Nat → Int32) (y8_way : Nat → Int32) (y9_land : Nat → Int32) (y10_riverOf : Nat → Int32) (y11_home : Nat → Int32) (p1 : Int32) (p2 : Int32) (r : Int32) (o_x2_length : Int32) (o_y6_costs : Nat → Int32) (o_y7_sums : Nat → Int32) (o_y8_way : Nat → Int32) (hf : f_X8_wayCell x2_length x3_rows x3_columns x4_count y5_namesOn y6_costs y7_sums y8_way y9_land y10_riverOf y11_home p1 p2 = some (r, o_x2_length, o_y6_costs, o_y7_sums, o_y8_way)) : MI l g yX8_wayCell wsX8_wayCell 5 121 [.ref a0, .int p1, .int p2] (w_X8_wayCell g a0 a1 a2 a3 a4 a5 a6 a7 a8 a9 a10 a11 u0_1 u0_3 u0_4 u0_5 u0_6 u0_7 u0_8 u0_9 u1_2 u1_4 u3_2 u3_5 u4_1 u4_3 u4_4 u4_5 x2_length x3_rows x3_columns x4_count y5_namesOn y6_costs y7_sums y8_way y9_land y10_riverOf y11_home) sz (some (.int r)) (w_X8_wayCell g a0 a1 a2 a3 a4 a5 a6 a7 a8 a9 a10 a11 u0_1 u0_3 u0_4 u0_5 u0_6 u0_7 u0_8 u0_9 u1_2 u1_4 u3_2 u3_5 u4_1 u4_3 u4_4 u4_5 o_x2_length x3_rows x3_columns x4_count y5_namesOn o_y6_costs o_y7_sums o_y8_way y9_land y10_riverOf y11_home) := by
  refine MI.start (cc := cX8_wayCell) (maxL := 3) (ret := (some .int)) rfl rfl (nle rfl) ?_
  intro p e s m args below meth c A ls Q hQ hexec hb hr hts hown hlocks hml hA hP hD hG hS hl
  unfold f_X8_wayCell at hf
  have hWX1 : ∀ w ∈ wsX10, w.before args s = true := fun w h => hts w (List.mem_cons_of_mem _ (List.mem_append_left _ (List.mem_append_left _ (List.mem_append_left _ (List.mem_append_right _ h)))))
  have hWX2 : ∀ w ∈ wsX20, w.before args s = true := fun w h => hts w (List.mem_cons_of_mem _ (List.mem_append_left _ (List.mem_append_right _ h)))
  have hWX6 : ∀ w ∈ wsX60, w.before args s = true := fun w h => hts w (List.mem_cons_of_mem _ (List.mem_append_left _ (List.mem_append_left _ (List.mem_append_left _ (List.mem_append_left _ (List.mem_append_right _ h))))))
  have hWX7 : ∀ w ∈ wsX70, w.before args s = true := fun w h => hts w (List.mem_cons_of_mem _ (List.mem_append_left _ (List.mem_append_left _ (List.mem_append_right _ h))))
  have hWX8 : ∀ w ∈ wsX80, w.before args s = true := fun w h => hts w (List.mem_cons_of_mem _ (List.mem_append_left _ (List.mem_append_left _ (List.mem_append_left _ (List.mem_append_left _ (List.mem_append_left _ (List.mem_append_right _ h)))))))
  have hS : va_S A s.heap s.heap [] := hS
  refine lv_aload_n (pc := 0) hexec hb dX8_wayCell_0 rfl (lv_at hl 0 rfl) ?_
  refine lv_iload_n (pc := 1) hexec hb dX8_wayCell_1 rfl (lv_at hl 1 rfl) ?_
  obtain ⟨_, hc, hf⟩ := bd1_e hf
  refine kVp (pc := 2) (S := ⟨hexec, hb, hml, hown, hts⟩) hP hD hG hA hS [0, 1, 3] [2, 4, 5, 6, 7, 8, 9, 10, 11] [9, 10, 0, 11, 1, 2, 3, 4, 5, 6, 7, 8] (w2 := (w_X8_wayCell g a0 a1 a2 a3 a4 a5 a6 a7 a8 a9 a10 a11 u0_1 u0_3 u0_4 u0_5 u0_6 u0_7 u0_8 u0_9 u1_2 u1_4 u3_2 u3_5 u4_1 u4_3 u4_4 u4_5 x2_length x3_rows x3_columns x4_count y5_namesOn y6_costs y7_sums y8_way y9_land y10_riverOf y11_home)) rfl rfl rfl rfl rfl rfl (by decide) (c_X8_needCell l g a0 a1 a3 _ u0_1 (.ref a2) u0_3 u0_4 u0_5 u0_6 u0_7 u0_8 u0_9 (.ref a4) u1_2 (.ref a5) u1_4 u3_2 (.ref a9) (.ref a10) u3_5 x3_rows x3_columns p1 hc) gX8_wayCell_X8_needCell rfl hv_X8_needCell ⟨nle rfl, nle rfl⟩ 8 0 rfl rfl rfl (rest := []) rfl rfl hl.1 (nle rfl) dX8_wayCell_2 (fun H locs hP hD hS => ?_)
  refine lv_aload_n (pc := 5) hexec hb dX8_wayCell_5 rfl (lv_at hl 0 rfl) ?_
  refine lv_iload_n (pc := 6) hexec hb dX8_wayCell_6 rfl (lv_at hl 1 rfl) ?_
  obtain ⟨r7, x2_length_1, y6_costs_1, y7_sums_1, y8_way_1, hc, hf⟩ := bd5_e hf
  refine kVp (pc := 7) (S := ⟨hexec, hb, hml, hown, hts⟩) hP hD hG hA hS [0, 1, 2, 3, 4, 5, 6, 7, 8, 9, 10, 11] [] [0, 1, 2, 3, 4, 5, 6, 7, 8, 9, 10, 11] (w2 := (w_X8_wayCell g a0 a1 a2 a3 a4 a5 a6 a7 a8 a9 a10 a11 u0_1 u0_3 u0_4 u0_5 u0_6 u0_7 u0_8 u0_9 u1_2 u1_4 u3_2 u3_5 u4_1 u4_3 u4_4 u4_5 x2_length_1 x3_rows x3_columns x4_count y5_namesOn y6_costs_1 y7_sums_1 y8_way_1 y9_land y10_riverOf y11_home)) rfl rfl rfl rfl rfl rfl (by decide) (c_X8_wayFrom l g a0 a1 a2 a3 a4 a5 a6 a7 a8 a9 a10 a11 _ u0_1 u0_3 u0_4 u0_5 u0_6 u0_7 u0_8 u0_9 u1_2 u1_4 u3_2 u3_5 u4_1 u4_3 u4_4 u4_5 x2_length x3_rows x3_columns x4_count y5_namesOn y6_costs y7_sums y8_way y9_land y10_riverOf y11_home p1 r7 x2_length_1 y6_costs_1 y7_sums_1 y8_way_1 hc) gX8_wayCell_X8_wayFrom rfl hv_X8_wayFrom ⟨nle rfl, nle rfl⟩ 8 0 rfl rfl rfl (rest := []) rfl rfl hl.1 (nle rfl) dX8_wayCell_7 (fun H locs hP hD hS => ?_)
  refine lv_pop (pc := 10) hexec hb dX8_wayCell_10 rfl ?_
  refine lv_aload_n (pc := 11) hexec hb dX8_wayCell_11 rfl (lv_at hl 0 rfl) ?_
  refine kg_get (pc := 12) hexec hb (own := RX8) hWX8 hown hG hP 0 rfl rfl 2 (nle rfl) (hts _ (List.mem_cons_of_mem _ (List.mem_append_left _ (List.mem_append_left _ (List.mem_append_left _ (List.mem_append_left _ (List.mem_append_left _ (List.mem_append_left _ (List.mem_append_left _ (List.mem_of_getElem? (i := 0) rfl)))))))))) rfl rfl dX8_wayCell_12 ?_
  refine lv_iload_n (pc := 15) hexec hb dX8_wayCell_15 rfl (lv_at hl 2 rfl) ?_
  obtain ⟨r16, hc, hf⟩ := bd1_e hf
  refine kVp (pc := 16) (S := ⟨hexec, hb, hml, hown, hts⟩) hP hD hG hA hS [2, 8] [0, 1, 3, 4, 5, 6, 7, 9, 10, 11] [0, 1, 10, 2, 3, 4, 5, 6, 11, 7, 8, 9] (w2 := (w_X8_wayCell g a0 a1 a2 a3 a4 a5 a6 a7 a8 a9 a10 a11 u0_1 u0_3 u0_4 u0_5 u0_6 u0_7 u0_8 u0_9 u1_2 u1_4 u3_2 u3_5 u4_1 u4_3 u4_4 u4_5 x2_length_1 x3_rows x3_columns x4_count y5_namesOn y6_costs_1 y7_sums_1 y8_way_1 y9_land y10_riverOf y11_home)) rfl rfl rfl rfl rfl rfl (by decide) (c_X7_wayAt l g a2 a8 _ (.ref a6) (.ref a7) x2_length_1 y8_way_1 p2 r16 hc) gX8_wayCell_X7_wayAt rfl hv_X7_wayAt ⟨nle rfl, nle rfl⟩ 7 0 rfl rfl rfl (rest := []) rfl rfl hl.1 (nle rfl) dX8_wayCell_16 (fun H locs hP hD hS => ?_)
  cases hf
  exact ke_i hQ hexec hb hr hP hD hS dX8_wayCell_19 hlocks
abbrev w_X8_washes (g : GE) (a0 a1 a2 a3 a4 a5 a6 a7 a8 a9 a10 a11 : Nat) (u0_1 u0_3 u0_4 u0_5 u0_6 u0_7 u0_8 u0_9 u1_2 u1_4 u3_2 u3_5 u4_1 u4_3 u4_4 u4_5 : Value) (x2_length : Int32) (x3_rows : Int32) (x3_columns : Int32) (x4_count : Int32) (y5_namesOn : Nat → Int32) (y6_costs : Nat → Int32) (y7_sums : Nat → Int32) (y8_way : Nat → Int32) (y9_land : Nat → Int32) (y10_riverOf : Nat → Int32) (y11_home : Nat → Int32) : va_W := [(a0, .inr (8, [.ref a1, u0_1, .ref a2, u0_3, u0_4, u0_5, u0_6, u0_7, u0_8, u0_9])), (a1, .inr (6, [.ref a3, .ref a4, u1_2, .ref a5, u1_4])), (a2, .inr (7, [.ref a6, .ref a7, .ref a8, .int x2_length])), (a3, .inr (1, [.int x3_rows, .int x3_columns, u3_2, .ref a9, .ref a10, u3_5])), (a4, .inr (2, [.int x4_count, u4_1, .ref a11, u4_3, u4_4, u4_5])), (a5, .inl (g.2.1 0, 144, .inl y5_namesOn)), (a6, .inl (g.2.1 0, 144, .inl y6_costs)), (a7, .inl (g.2.1 0, 144, .inl y7_sums)), (a8, .inl (g.2.1 0, 144, .inl y8_way)), (a9, .inl (g.2.1 1, 144, .inl y9_land)), (a10, .inl (g.2.1 0, 144, .inl y10_riverOf)), (a11, .inl (g.2.1 0, 8, .inl y11_home))]
noncomputable def f_X8_washes (x2_length : Int32) (x3_rows : Int32) (x3_columns : Int32) (x4_count : Int32) (y5_namesOn : Nat → Int32) (y6_costs : Nat → Int32) (y7_sums : Nat → Int32) (y8_way : Nat → Int32) (y9_land : Nat → Int32) (y10_riverOf : Nat → Int32) (y11_home : Nat → Int32) (p1 : Int32) : Option (Int32 × Int32 × (Nat → Int32) × (Nat → Int32) × (Nat → Int32)) :=
  bd1 (f_X8_needCell x3_rows x3_columns p1) fun (_ : Unit) =>
  bd5 (f_X8_wayFrom x2_length x3_rows x3_columns x4_count y5_namesOn y6_costs y7_sums y8_way y9_land y10_riverOf y11_home p1) fun (r7 : Int32) (x2_length_1 : Int32) (y6_costs_1 : Nat → Int32) (y7_sums_1 : Nat → Int32) (y8_way_1 : Nat → Int32) =>
  bd1 (f_X7_namesOnWay x2_length_1 y8_way_1 y5_namesOn) fun (r19 : Int32) =>
  some (r19, x2_length_1, y6_costs_1, y7_sums_1, y8_way_1)
set_option maxRecDepth 4000 in
theorem c_X8_washes (l : Launch) (g : GE) (a0 a1 a2 a3 a4 a5 a6 a7 a8 a9 a10 a11 : Nat) (sz : Nat) (u0_1 u0_3 u0_4 u0_5 u0_6 u0_7 u0_8 u0_9 u1_2 u1_4 u3_2 u3_5 u4_1 u4_3 u4_4 u4_5 : Value) (x2_length : Int32) (x3_rows : Int32) (x3_columns : Int32) (x4_count : Int32) (y5_namesOn : Nat → Int32) (y6_costs : Nat → Int32) (y7_sums : Nat → Int32) (y8_way : Nat → Int32) (y9_land : Nat → Int32) (y10_riverOf : Nat → Int32) (y11_home : Nat → Int32) (p1 : Int32) (r : Int32) (o_x2_length : Int32) (o_y6_costs : Nat → Int32) (o_y7_sums : Nat → Int32) (o_y8_way : Nat → Int32) (hf : f_X8_washes x2_length x3_rows x3_columns x4_count y5_namesOn y6_costs y7_sums y8_way y9_land y10_riverOf y11_home p1 = some (r, o_x2_length, o_y6_costs, o_y7_sums, o_y8_way)) : MI l g yX8_washes wsX8_washes 5 121 [.ref a0, .int p1] (w_X8_washes g a0 a1 a2 a3 a4 a5 a6 a7 a8 a9 a10 a11 u0_1 u0_3 u0_4 u0_5 u0_6 u0_7 u0_8 u0_9 u1_2 u1_4 u3_2 u3_5 u4_1 u4_3 u4_4 u4_5 x2_length x3_rows x3_columns x4_count y5_namesOn y6_costs y7_sums y8_way y9_land y10_riverOf y11_home) sz (some (.int r)) (w_X8_washes g a0 a1 a2 a3 a4 a5 a6 a7 a8 a9 a10 a11 u0_1 u0_3 u0_4 u0_5 u0_6 u0_7 u0_8 u0_9 u1_2 u1_4 u3_2 u3_5 u4_1 u4_3 u4_4 u4_5 o_x2_length x3_rows x3_columns x4_count y5_namesOn o_y6_costs o_y7_sums o_y8_way y9_land y10_riverOf y11_home) := by
  refine MI.start (cc := cX8_washes) (maxL := 2) (ret := (some .int)) rfl rfl (nle rfl) ?_
  intro p e s m args below meth c A ls Q hQ hexec hb hr hts hown hlocks hml hA hP hD hG hS hl
  unfold f_X8_washes at hf
  have hWX1 : ∀ w ∈ wsX10, w.before args s = true := fun w h => hts w (List.mem_cons_of_mem _ (List.mem_append_left _ (List.mem_append_left _ (List.mem_append_left _ (List.mem_append_right _ h)))))
  have hWX2 : ∀ w ∈ wsX20, w.before args s = true := fun w h => hts w (List.mem_cons_of_mem _ (List.mem_append_left _ (List.mem_append_right _ h)))
  have hWX6 : ∀ w ∈ wsX60, w.before args s = true := fun w h => hts w (List.mem_cons_of_mem _ (List.mem_append_left _ (List.mem_append_left _ (List.mem_append_left _ (List.mem_append_left _ (List.mem_append_right _ h))))))
  have hWX7 : ∀ w ∈ wsX70, w.before args s = true := fun w h => hts w (List.mem_cons_of_mem _ (List.mem_append_left _ (List.mem_append_left _ (List.mem_append_right _ h))))
  have hWX8 : ∀ w ∈ wsX80, w.before args s = true := fun w h => hts w (List.mem_cons_of_mem _ (List.mem_append_left _ (List.mem_append_left _ (List.mem_append_left _ (List.mem_append_left _ (List.mem_append_left _ (List.mem_append_right _ h)))))))
  have hS : va_S A s.heap s.heap [] := hS
  refine lv_aload_n (pc := 0) hexec hb dX8_washes_0 rfl (lv_at hl 0 rfl) ?_
  refine lv_iload_n (pc := 1) hexec hb dX8_washes_1 rfl (lv_at hl 1 rfl) ?_
  obtain ⟨_, hc, hf⟩ := bd1_e hf
  refine kVp (pc := 2) (S := ⟨hexec, hb, hml, hown, hts⟩) hP hD hG hA hS [0, 1, 3] [2, 4, 5, 6, 7, 8, 9, 10, 11] [9, 10, 0, 11, 1, 2, 3, 4, 5, 6, 7, 8] (w2 := (w_X8_washes g a0 a1 a2 a3 a4 a5 a6 a7 a8 a9 a10 a11 u0_1 u0_3 u0_4 u0_5 u0_6 u0_7 u0_8 u0_9 u1_2 u1_4 u3_2 u3_5 u4_1 u4_3 u4_4 u4_5 x2_length x3_rows x3_columns x4_count y5_namesOn y6_costs y7_sums y8_way y9_land y10_riverOf y11_home)) rfl rfl rfl rfl rfl rfl (by decide) (c_X8_needCell l g a0 a1 a3 _ u0_1 (.ref a2) u0_3 u0_4 u0_5 u0_6 u0_7 u0_8 u0_9 (.ref a4) u1_2 (.ref a5) u1_4 u3_2 (.ref a9) (.ref a10) u3_5 x3_rows x3_columns p1 hc) gX8_washes_X8_needCell rfl hv_X8_needCell ⟨nle rfl, nle rfl⟩ 8 0 rfl rfl rfl (rest := []) rfl rfl hl.1 (nle rfl) dX8_washes_2 (fun H locs hP hD hS => ?_)
  refine lv_aload_n (pc := 5) hexec hb dX8_washes_5 rfl (lv_at hl 0 rfl) ?_
  refine lv_iload_n (pc := 6) hexec hb dX8_washes_6 rfl (lv_at hl 1 rfl) ?_
  obtain ⟨r7, x2_length_1, y6_costs_1, y7_sums_1, y8_way_1, hc, hf⟩ := bd5_e hf
  refine kVp (pc := 7) (S := ⟨hexec, hb, hml, hown, hts⟩) hP hD hG hA hS [0, 1, 2, 3, 4, 5, 6, 7, 8, 9, 10, 11] [] [0, 1, 2, 3, 4, 5, 6, 7, 8, 9, 10, 11] (w2 := (w_X8_washes g a0 a1 a2 a3 a4 a5 a6 a7 a8 a9 a10 a11 u0_1 u0_3 u0_4 u0_5 u0_6 u0_7 u0_8 u0_9 u1_2 u1_4 u3_2 u3_5 u4_1 u4_3 u4_4 u4_5 x2_length_1 x3_rows x3_columns x4_count y5_namesOn y6_costs_1 y7_sums_1 y8_way_1 y9_land y10_riverOf y11_home)) rfl rfl rfl rfl rfl rfl (by decide) (c_X8_wayFrom l g a0 a1 a2 a3 a4 a5 a6 a7 a8 a9 a10 a11 _ u0_1 u0_3 u0_4 u0_5 u0_6 u0_7 u0_8 u0_9 u1_2 u1_4 u3_2 u3_5 u4_1 u4_3 u4_4 u4_5 x2_length x3_rows x3_columns x4_count y5_namesOn y6_costs y7_sums y8_way y9_land y10_riverOf y11_home p1 r7 x2_length_1 y6_costs_1 y7_sums_1 y8_way_1 hc) gX8_washes_X8_wayFrom rfl hv_X8_wayFrom ⟨nle rfl, nle rfl⟩ 8 0 rfl rfl rfl (rest := []) rfl rfl hl.1 (nle rfl) dX8_washes_7 (fun H locs hP hD hS => ?_)
  refine lv_pop (pc := 10) hexec hb dX8_washes_10 rfl ?_
  refine lv_aload_n (pc := 11) hexec hb dX8_washes_11 rfl (lv_at hl 0 rfl) ?_
  refine kg_get (pc := 12) hexec hb (own := RX8) hWX8 hown hG hP 0 rfl rfl 2 (nle rfl) (hts _ (List.mem_cons_of_mem _ (List.mem_append_left _ (List.mem_append_left _ (List.mem_append_left _ (List.mem_append_left _ (List.mem_append_left _ (List.mem_append_left _ (List.mem_append_left _ (List.mem_of_getElem? (i := 0) rfl)))))))))) rfl rfl dX8_washes_12 ?_
  refine lv_aload_n (pc := 15) hexec hb dX8_washes_15 rfl (lv_at hl 0 rfl) ?_
  refine kg_get (pc := 16) hexec hb (own := RX8) hWX8 hown hG hP 0 rfl rfl 0 (nle rfl) (hts _ (List.mem_cons_of_mem _ (List.mem_append_left _ (List.mem_append_left _ (List.mem_append_left _ (List.mem_append_left _ (List.mem_append_left _ (List.mem_append_left _ (List.mem_append_left _ (List.mem_of_getElem? (i := 1) rfl)))))))))) rfl rfl dX8_washes_16 ?_
  obtain ⟨r19, hc, hf⟩ := bd1_e hf
  refine kVp (pc := 19) (S := ⟨hexec, hb, hml, hown, hts⟩) hP hD hG hA hS [2, 8, 1, 5] [0, 3, 4, 6, 7, 9, 10, 11] [0, 10, 8, 1, 2, 11, 3, 4, 9, 5, 6, 7] (w2 := (w_X8_washes g a0 a1 a2 a3 a4 a5 a6 a7 a8 a9 a10 a11 u0_1 u0_3 u0_4 u0_5 u0_6 u0_7 u0_8 u0_9 u1_2 u1_4 u3_2 u3_5 u4_1 u4_3 u4_4 u4_5 x2_length_1 x3_rows x3_columns x4_count y5_namesOn y6_costs_1 y7_sums_1 y8_way_1 y9_land y10_riverOf y11_home)) rfl rfl rfl rfl rfl rfl (by decide) (c_X7_namesOnWay l g a2 a8 a1 a5 _ (.ref a6) (.ref a7) (.ref a3) (.ref a4) u1_2 u1_4 x2_length_1 y8_way_1 y5_namesOn r19 hc) gX8_washes_X7_namesOnWay rfl hv_X7_namesOnWay ⟨nle rfl, nle rfl⟩ 7 0 rfl rfl rfl (rest := []) rfl rfl hl.1 (nle rfl) dX8_washes_19 (fun H locs hP hD hS => ?_)
  cases hf
  exact ke_i hQ hexec hb hr hP hD hS dX8_washes_22 hlocks
abbrev w_X8_drowns (g : GE) (a0 a1 a2 a3 : Nat) (u0_1 u0_2 u0_3 u0_4 u0_5 u0_6 u0_7 u0_8 u0_9 u1_1 u1_2 u1_4 u2_2 u2_3 u2_4 u2_5 : Value) (x2_rows : Int32) (x2_columns : Int32) (y3_namesOn : Nat → Int32) : va_W := [(a0, .inr (8, [.ref a1, u0_1, u0_2, u0_3, u0_4, u0_5, u0_6, u0_7, u0_8, u0_9])), (a1, .inr (6, [.ref a2, u1_1, u1_2, .ref a3, u1_4])), (a2, .inr (1, [.int x2_rows, .int x2_columns, u2_2, u2_3, u2_4, u2_5])), (a3, .inl (g.2.1 0, 144, .inl y3_namesOn))]
noncomputable def f_X8_drowns (x2_rows : Int32) (x2_columns : Int32) (y3_namesOn : Nat → Int32) (p1 : Int32) : Option (Int32) :=
  bd1 (f_X8_needCell x2_rows x2_columns p1) fun (_ : Unit) =>
  bd1 (f_X6_namesIn y3_namesOn p1) fun (r10 : Int32) =>
  some r10
set_option maxRecDepth 4000 in
theorem c_X8_drowns (l : Launch) (g : GE) (a0 a1 a2 a3 : Nat) (sz : Nat) (u0_1 u0_2 u0_3 u0_4 u0_5 u0_6 u0_7 u0_8 u0_9 u1_1 u1_2 u1_4 u2_2 u2_3 u2_4 u2_5 : Value) (x2_rows : Int32) (x2_columns : Int32) (y3_namesOn : Nat → Int32) (p1 : Int32) (r : Int32) (hf : f_X8_drowns x2_rows x2_columns y3_namesOn p1 = some r) : MI l g yX8_drowns wsX8_drowns 3 65 [.ref a0, .int p1] (w_X8_drowns g a0 a1 a2 a3 u0_1 u0_2 u0_3 u0_4 u0_5 u0_6 u0_7 u0_8 u0_9 u1_1 u1_2 u1_4 u2_2 u2_3 u2_4 u2_5 x2_rows x2_columns y3_namesOn) sz (some (.int r)) (w_X8_drowns g a0 a1 a2 a3 u0_1 u0_2 u0_3 u0_4 u0_5 u0_6 u0_7 u0_8 u0_9 u1_1 u1_2 u1_4 u2_2 u2_3 u2_4 u2_5 x2_rows x2_columns y3_namesOn) := by
  refine MI.start (cc := cX8_drowns) (maxL := 2) (ret := (some .int)) rfl rfl (nle rfl) ?_
  intro p e s m args below meth c A ls Q hQ hexec hb hr hts hown hlocks hml hA hP hD hG hS hl
  unfold f_X8_drowns at hf
  have hWX1 : ∀ w ∈ wsX10, w.before args s = true := fun w h => hts w (List.mem_cons_of_mem _ (List.mem_append_left _ (List.mem_append_right _ h)))
  have hWX6 : ∀ w ∈ wsX60, w.before args s = true := fun w h => hts w (List.mem_cons_of_mem _ (List.mem_append_left _ (List.mem_append_left _ (List.mem_append_right _ h))))
  have hWX8 : ∀ w ∈ wsX80, w.before args s = true := fun w h => hts w (List.mem_cons_of_mem _ (List.mem_append_left _ (List.mem_append_left _ (List.mem_append_left _ (List.mem_append_right _ h)))))
  have hS : va_S A s.heap s.heap [] := hS
  refine lv_aload_n (pc := 0) hexec hb dX8_drowns_0 rfl (lv_at hl 0 rfl) ?_
  refine lv_iload_n (pc := 1) hexec hb dX8_drowns_1 rfl (lv_at hl 1 rfl) ?_
  obtain ⟨_, hc, hf⟩ := bd1_e hf
  refine kVp (pc := 2) (S := ⟨hexec, hb, hml, hown, hts⟩) hP hD hG hA hS [0, 1, 2] [3] [1, 2, 3, 0] (w2 := (w_X8_drowns g a0 a1 a2 a3 u0_1 u0_2 u0_3 u0_4 u0_5 u0_6 u0_7 u0_8 u0_9 u1_1 u1_2 u1_4 u2_2 u2_3 u2_4 u2_5 x2_rows x2_columns y3_namesOn)) rfl rfl rfl rfl rfl rfl (by decide) (c_X8_needCell l g a0 a1 a2 _ u0_1 u0_2 u0_3 u0_4 u0_5 u0_6 u0_7 u0_8 u0_9 u1_1 u1_2 (.ref a3) u1_4 u2_2 u2_3 u2_4 u2_5 x2_rows x2_columns p1 hc) gX8_drowns_X8_needCell rfl hv_X8_needCell ⟨nle rfl, nle rfl⟩ 8 0 rfl rfl rfl (rest := []) rfl rfl hl.1 (nle rfl) dX8_drowns_2 (fun H locs hP hD hS => ?_)
  refine lv_aload_n (pc := 5) hexec hb dX8_drowns_5 rfl (lv_at hl 0 rfl) ?_
  refine kg_get (pc := 6) hexec hb (own := RX8) hWX8 hown hG hP 0 rfl rfl 0 (nle rfl) (hts _ (List.mem_cons_of_mem _ (List.mem_append_left _ (List.mem_append_left _ (List.mem_append_left _ (List.mem_append_left _ (List.mem_of_getElem? (i := 0) rfl))))))) rfl rfl dX8_drowns_6 ?_
  refine lv_iload_n (pc := 9) hexec hb dX8_drowns_9 rfl (lv_at hl 1 rfl) ?_
  obtain ⟨r10, hc, hf⟩ := bd1_e hf
  refine kVp (pc := 10) (S := ⟨hexec, hb, hml, hown, hts⟩) hP hD hG hA hS [1, 3] [0, 2] [0, 2, 1, 3] (w2 := (w_X8_drowns g a0 a1 a2 a3 u0_1 u0_2 u0_3 u0_4 u0_5 u0_6 u0_7 u0_8 u0_9 u1_1 u1_2 u1_4 u2_2 u2_3 u2_4 u2_5 x2_rows x2_columns y3_namesOn)) rfl rfl rfl rfl rfl rfl (by decide) (c_X6_namesIn l g a1 a3 _ (.ref a2) u1_1 u1_2 u1_4 y3_namesOn p1 r10 hc) gX8_drowns_X6_namesIn rfl hv_X6_namesIn ⟨nle rfl, nle rfl⟩ 6 0 rfl rfl rfl (rest := []) rfl rfl hl.1 (nle rfl) dX8_drowns_10 (fun H locs hP hD hS => ?_)
  cases hf
  exact ke_i hQ hexec hb hr hP hD hS dX8_drowns_13 hlocks
abbrev w_X8_signOf (g : GE) (a0 a1 a2 a3 a4 a5 a6 a7 a8 : Nat) (u0_1 u0_2 u0_3 u0_4 u0_5 u0_6 u0_7 u0_8 u0_9 u1_2 u2_0 u2_1 u2_2 u2_5 u3_3 u3_4 u3_5 : Value) (x3_count : Int32) (x3_reds : Int32) (y4_letterOn : Nat → Int32) (y5_namesOn : Nat → Int32) (y6_land : Nat → Int32) (y7_riverOf : Nat → Int32) (y8_home : Nat → Int32) : va_W := [(a0, .inr (8, [.ref a1, u0_1, u0_2, u0_3, u0_4, u0_5, u0_6, u0_7, u0_8, u0_9])), (a1, .inr (6, [.ref a2, .ref a3, u1_2, .ref a5, .ref a4])), (a2, .inr (1, [u2_0, u2_1, u2_2, .ref a6, .ref a7, u2_5])), (a3, .inr (2, [.int x3_count, .int x3_reds, .ref a8, u3_3, u3_4, u3_5])), (a4, .inl (g.2.1 0, 144, .inl y4_letterOn)), (a5, .inl (g.2.1 0, 144, .inl y5_namesOn)), (a6, .inl (g.2.1 1, 144, .inl y6_land)), (a7, .inl (g.2.1 0, 144, .inl y7_riverOf)), (a8, .inl (g.2.1 0, 8, .inl y8_home))]
noncomputable def f_X8_signOf (x3_count : Int32) (x3_reds : Int32) (y4_letterOn : Nat → Int32) (y5_namesOn : Nat → Int32) (y6_land : Nat → Int32) (y7_riverOf : Nat → Int32) (y8_home : Nat → Int32) (p1 : Int32) : Option (Int32) :=
  bd1 (f_X1_isLand y6_land p1) fun (r8 : Int32) =>
  (if r8 = 0 then (
    some 126
  ) else (
    bd1 (f_X2_inCell x3_count y8_home p1) fun (r25 : Int32) =>
    (if r25 = (-1) then (
      bd1 (f_X6_namesIn y5_namesOn p1) fun (r40 : Int32) =>
      (if r40 = 0 then (
        bd1 (f_X1_isRiver y7_riverOf p1) fun (r104 : Int32) =>
        (if r104 = 0 then (
          some 46
        ) else (
          some 61
        ))
      ) else (
        bv (fun (t68 : Int32) => ((
          (if t68 = 0 then (
            bd1 (f_X6_letterIn y4_letterOn y5_namesOn p1) fun (r92 : Int32) =>
            some r92
          ) else (
            bd1 (f_X6_letterIn y4_letterOn y5_namesOn p1) fun (r78 : Int32) =>
            some (r78 - 32)
          ))
          ) : Option (Int32))) fun j68 =>
        (if (r40 &&& x3_reds) = 0 then (
          j68 0
        ) else (
          j68 1
        ))
      ))
    ) else (
      some 64
    ))
  ))
set_option maxRecDepth 4000 in
theorem c_X8_signOf (l : Launch) (g : GE) (a0 a1 a2 a3 a4 a5 a6 a7 a8 : Nat) (sz : Nat) (u0_1 u0_2 u0_3 u0_4 u0_5 u0_6 u0_7 u0_8 u0_9 u1_2 u2_0 u2_1 u2_2 u2_5 u3_3 u3_4 u3_5 : Value) (x3_count : Int32) (x3_reds : Int32) (y4_letterOn : Nat → Int32) (y5_namesOn : Nat → Int32) (y6_land : Nat → Int32) (y7_riverOf : Nat → Int32) (y8_home : Nat → Int32) (p1 : Int32) (r : Int32) (hf : f_X8_signOf x3_count x3_reds y4_letterOn y5_namesOn y6_land y7_riverOf y8_home p1 = some r) : MI l g yX8_signOf wsX8_signOf 3 66 [.ref a0, .int p1] (w_X8_signOf g a0 a1 a2 a3 a4 a5 a6 a7 a8 u0_1 u0_2 u0_3 u0_4 u0_5 u0_6 u0_7 u0_8 u0_9 u1_2 u2_0 u2_1 u2_2 u2_5 u3_3 u3_4 u3_5 x3_count x3_reds y4_letterOn y5_namesOn y6_land y7_riverOf y8_home) sz (some (.int r)) (w_X8_signOf g a0 a1 a2 a3 a4 a5 a6 a7 a8 u0_1 u0_2 u0_3 u0_4 u0_5 u0_6 u0_7 u0_8 u0_9 u1_2 u2_0 u2_1 u2_2 u2_5 u3_3 u3_4 u3_5 x3_count x3_reds y4_letterOn y5_namesOn y6_land y7_riverOf y8_home) := by
  refine MI.start (cc := cX8_signOf) (maxL := 4) (ret := (some .int)) rfl rfl (nle rfl) ?_
  intro p e s m args below meth c A ls Q hQ hexec hb hr hts hown hlocks hml hA hP hD hG hS hl
  unfold f_X8_signOf at hf
  have hWX1 : ∀ w ∈ wsX10, w.before args s = true := fun w h => hts w (List.mem_cons_of_mem _ (List.mem_append_right _ h))
  have hWX2 : ∀ w ∈ wsX20, w.before args s = true := fun w h => hts w (List.mem_cons_of_mem _ (List.mem_append_left _ (List.mem_append_right _ h)))
  have hWX6 : ∀ w ∈ wsX60, w.before args s = true := fun w h => hts w (List.mem_cons_of_mem _ (List.mem_append_left _ (List.mem_append_left _ (List.mem_append_right _ h))))
  have hWX8 : ∀ w ∈ wsX80, w.before args s = true := fun w h => hts w (List.mem_cons_of_mem _ (List.mem_append_left _ (List.mem_append_left _ (List.mem_append_left _ (List.mem_append_right _ h)))))
  have hS : va_S A s.heap s.heap [] := hS
  refine lv_aload_n (pc := 0) hexec hb dX8_signOf_0 rfl (lv_at hl 0 rfl) ?_
  refine kg_get (pc := 1) hexec hb (own := RX8) hWX8 hown hG hP 0 rfl rfl 0 (nle rfl) (hts _ (List.mem_cons_of_mem _ (List.mem_append_left _ (List.mem_append_left _ (List.mem_append_left _ (List.mem_append_left _ (List.mem_append_left _ (List.mem_of_getElem? (i := 0) rfl)))))))) rfl rfl dX8_signOf_1 ?_
  refine kg_getN (pc := 4) hexec hb (own := RX8) hWX6 hown hG hP 1 rfl rfl 0 (nle rfl) 21 rfl rfl rfl dX8_signOf_4 ?_
  refine lv_iload_n (pc := 7) hexec hb dX8_signOf_7 rfl (lv_at hl 1 rfl) ?_
  obtain ⟨r8, hc, hf⟩ := bd1_e hf
  refine kVp (pc := 8) (S := ⟨hexec, hb, hml, hown, hts⟩) hP hD hG hA hS [2, 6] [0, 1, 3, 4, 5, 7, 8] [0, 1, 7, 2, 3, 4, 8, 5, 6] (w2 := (w_X8_signOf g a0 a1 a2 a3 a4 a5 a6 a7 a8 u0_1 u0_2 u0_3 u0_4 u0_5 u0_6 u0_7 u0_8 u0_9 u1_2 u2_0 u2_1 u2_2 u2_5 u3_3 u3_4 u3_5 x3_count x3_reds y4_letterOn y5_namesOn y6_land y7_riverOf y8_home)) rfl rfl rfl rfl rfl rfl (by decide) (c_X1_isLand l g a2 a6 _ u2_0 u2_1 u2_2 (.ref a7) u2_5 y6_land p1 r8 hc) gX8_signOf_X1_isLand rfl hv_X1_isLand ⟨nle rfl, nle rfl⟩ 1 0 rfl rfl rfl (rest := []) rfl rfl hl.1 (nle rfl) dX8_signOf_8 (fun H locs hP hD hS => ?_)
  refine kb_ne (pc := 11) hexec hb dX8_signOf_11 (tgt := 17) rfl hf (fun hc hf => ?_) (fun hc hf => ?_)
  · refine lv_aload_n (pc := 17) hexec hb dX8_signOf_17 rfl (lv_at hl 0 rfl) ?_
    refine kg_get (pc := 18) hexec hb (own := RX8) hWX8 hown hG hP 0 rfl rfl 0 (nle rfl) (hts _ (List.mem_cons_of_mem _ (List.mem_append_left _ (List.mem_append_left _ (List.mem_append_left _ (List.mem_append_left _ (List.mem_append_left _ (List.mem_of_getElem? (i := 0) rfl)))))))) rfl rfl dX8_signOf_18 ?_
    refine kg_getN (pc := 21) hexec hb (own := RX8) hWX6 hown hG hP 1 rfl rfl 1 (nle rfl) 24 rfl rfl rfl dX8_signOf_21 ?_
    refine lv_iload_n (pc := 24) hexec hb dX8_signOf_24 rfl (lv_at hl 1 rfl) ?_
    obtain ⟨r25, hc, hf⟩ := bd1_e hf
    refine kVp (pc := 25) (S := ⟨hexec, hb, hml, hown, hts⟩) hP hD hG hA hS [3, 8] [0, 1, 2, 4, 5, 6, 7] [0, 1, 2, 7, 3, 4, 5, 6, 8] (w2 := (w_X8_signOf g a0 a1 a2 a3 a4 a5 a6 a7 a8 u0_1 u0_2 u0_3 u0_4 u0_5 u0_6 u0_7 u0_8 u0_9 u1_2 u2_0 u2_1 u2_2 u2_5 u3_3 u3_4 u3_5 x3_count x3_reds y4_letterOn y5_namesOn y6_land y7_riverOf y8_home)) rfl rfl rfl rfl rfl rfl (by decide) (c_X2_inCell l g a3 a8 _ (.int x3_reds) u3_3 u3_4 u3_5 x3_count y8_home p1 r25 hc) gX8_signOf_X2_inCell rfl hv_X2_inCell ⟨nle rfl, nle rfl⟩ 2 0 rfl rfl rfl (rest := []) rfl rfl hl.1 (nle rfl) dX8_signOf_25 (fun H locs hP hD hS => ?_)
    refine lv_iconst (pc := 28) hexec hb dX8_signOf_28 ki_m1 ?_
    refine ki_eq (pc := 29) hexec hb dX8_signOf_29 (tgt := 35) rfl hf (fun hc hf => ?_) (fun hc hf => ?_)
    · refine lv_aload_n (pc := 35) hexec hb dX8_signOf_35 rfl (lv_at hl 0 rfl) ?_
      refine kg_get (pc := 36) hexec hb (own := RX8) hWX8 hown hG hP 0 rfl rfl 0 (nle rfl) (hts _ (List.mem_cons_of_mem _ (List.mem_append_left _ (List.mem_append_left _ (List.mem_append_left _ (List.mem_append_left _ (List.mem_append_left _ (List.mem_of_getElem? (i := 0) rfl)))))))) rfl rfl dX8_signOf_36 ?_
      refine lv_iload_n (pc := 39) hexec hb dX8_signOf_39 rfl (lv_at hl 1 rfl) ?_
      obtain ⟨r40, hc, hf⟩ := bd1_e hf
      refine kVp (pc := 40) (S := ⟨hexec, hb, hml, hown, hts⟩) hP hD hG hA hS [1, 5] [0, 2, 3, 4, 6, 7, 8] [0, 7, 1, 2, 3, 8, 4, 5, 6] (w2 := (w_X8_signOf g a0 a1 a2 a3 a4 a5 a6 a7 a8 u0_1 u0_2 u0_3 u0_4 u0_5 u0_6 u0_7 u0_8 u0_9 u1_2 u2_0 u2_1 u2_2 u2_5 u3_3 u3_4 u3_5 x3_count x3_reds y4_letterOn y5_namesOn y6_land y7_riverOf y8_home)) rfl rfl rfl rfl rfl rfl (by decide) (c_X6_namesIn l g a1 a5 _ (.ref a2) (.ref a3) u1_2 (.ref a4) y5_namesOn p1 r40 hc) gX8_signOf_X6_namesIn rfl hv_X6_namesIn ⟨nle rfl, nle rfl⟩ 6 0 rfl rfl rfl (rest := []) rfl rfl hl.1 (nle rfl) dX8_signOf_40 (fun H locs hP hD hS => ?_)
      refine lv_istore_n (pc := 43) hexec hb dX8_signOf_43 rfl hl (nle rfl) rfl (fun ls (hl : lv_has ls 4 [(2, .int r40), (0, .ref a0), (1, .int p1)]) => ?_)
      refine lv_iload_n (pc := 44) hexec hb dX8_signOf_44 rfl (lv_at hl 0 rfl) ?_
      refine kb_eq (pc := 45) hexec hb dX8_signOf_45 (tgt := 96) rfl hf (fun hc hf => ?_) (fun hc hf => ?_)
      · refine lv_aload_n (pc := 96) hexec hb dX8_signOf_96 rfl (lv_at hl 1 rfl) ?_
        refine kg_get (pc := 97) hexec hb (own := RX8) hWX8 hown hG hP 0 rfl rfl 0 (nle rfl) (hts _ (List.mem_cons_of_mem _ (List.mem_append_left _ (List.mem_append_left _ (List.mem_append_left _ (List.mem_append_left _ (List.mem_append_left _ (List.mem_of_getElem? (i := 0) rfl)))))))) rfl rfl dX8_signOf_97 ?_
        refine kg_getN (pc := 100) hexec hb (own := RX8) hWX6 hown hG hP 1 rfl rfl 0 (nle rfl) 21 rfl rfl rfl dX8_signOf_100 ?_
        refine lv_iload_n (pc := 103) hexec hb dX8_signOf_103 rfl (lv_at hl 2 rfl) ?_
        obtain ⟨r104, hc, hf⟩ := bd1_e hf
        refine kVp (pc := 104) (S := ⟨hexec, hb, hml, hown, hts⟩) hP hD hG hA hS [2, 7] [0, 1, 3, 4, 5, 6, 8] [0, 1, 7, 2, 3, 4, 5, 8, 6] (w2 := (w_X8_signOf g a0 a1 a2 a3 a4 a5 a6 a7 a8 u0_1 u0_2 u0_3 u0_4 u0_5 u0_6 u0_7 u0_8 u0_9 u1_2 u2_0 u2_1 u2_2 u2_5 u3_3 u3_4 u3_5 x3_count x3_reds y4_letterOn y5_namesOn y6_land y7_riverOf y8_home)) rfl rfl rfl rfl rfl rfl (by decide) (c_X1_isRiver l g a2 a7 _ u2_0 u2_1 u2_2 (.ref a6) u2_5 y7_riverOf p1 r104 hc) gX8_signOf_X1_isRiver rfl hv_X1_isRiver ⟨nle rfl, nle rfl⟩ 1 0 rfl rfl rfl (rest := []) rfl rfl hl.1 (nle rfl) dX8_signOf_104 (fun H locs hP hD hS => ?_)
        refine kb_eq (pc := 107) hexec hb dX8_signOf_107 (tgt := 115) rfl hf (fun hc hf => ?_) (fun hc hf => ?_)
        · refine lv_bipush (pc := 115) hexec hb dX8_signOf_115 kb_46 ?_
          cases hf
          exact ke_i hQ hexec hb hr hP hD hS dX8_signOf_117 hlocks
        · refine lv_bipush (pc := 110) hexec hb dX8_signOf_110 kb_61 ?_
          refine lv_goto (pc := 112) hexec hb dX8_signOf_112 (tgt := 117) rfl ?_
          cases hf
          exact ke_i hQ hexec hb hr hP hD hS dX8_signOf_117 hlocks
      · refine lv_iload_n (pc := 48) hexec hb dX8_signOf_48 rfl (lv_at hl 0 rfl) ?_
        refine lv_aload_n (pc := 49) hexec hb dX8_signOf_49 rfl (lv_at hl 1 rfl) ?_
        refine kg_get (pc := 50) hexec hb (own := RX8) hWX8 hown hG hP 0 rfl rfl 0 (nle rfl) (hts _ (List.mem_cons_of_mem _ (List.mem_append_left _ (List.mem_append_left _ (List.mem_append_left _ (List.mem_append_left _ (List.mem_append_left _ (List.mem_of_getElem? (i := 0) rfl)))))))) rfl rfl dX8_signOf_50 ?_
        refine kg_getN (pc := 53) hexec hb (own := RX8) hWX6 hown hG hP 1 rfl rfl 1 (nle rfl) 24 rfl rfl rfl dX8_signOf_53 ?_
        refine kg_getN (pc := 56) hexec hb (own := RX8) hWX2 hown hG hP 3 rfl rfl 1 (nle rfl) 10 rfl rfl rfl dX8_signOf_56 ?_
        refine lv_iand (pc := 59) hexec hb dX8_signOf_59 ?_
        obtain ⟨j68, ej68, hf⟩ := bvf1 hf
        have hj68 : ∀ (t68 : Int32) (H : Heap) (locs : List Loc) (ls : Array Slot), j68 t68 = some r → va_P g.1 vwCl (w_X8_signOf g a0 a1 a2 a3 a4 a5 a6 a7 a8 u0_1 u0_2 u0_3 u0_4 u0_5 u0_6 u0_7 u0_8 u0_9 u1_2 u2_0 u2_1 u2_2 u2_5 u3_3 u3_4 u3_5 x3_count x3_reds y4_letterOn y5_namesOn y6_land y7_riverOf y8_home) H → va_D A (w_X8_signOf g a0 a1 a2 a3 a4 a5 a6 a7 a8 u0_1 u0_2 u0_3 u0_4 u0_5 u0_6 u0_7 u0_8 u0_9 u1_2 u2_0 u2_1 u2_2 u2_5 u3_3 u3_4 u3_5 x3_count x3_reds y4_letterOn y5_namesOn y6_land y7_riverOf y8_home) → va_S A s.heap H locs → lv_has ls 4 [(0, .ref a0), (1, .int p1)] → W p l e (RM 3 66) s m args below meth c H locs 0 0 Q (F0 m 68 ls [.int t68]) := by
          intro t68 H locs ls hf hP hD hS hl
          have hf := (ej68 t68).symm.trans hf
          refine lv_istore_n (pc := 68) hexec hb dX8_signOf_68 rfl hl (nle rfl) rfl (fun ls (hl : lv_has ls 4 [(3, .int t68), (0, .ref a0), (1, .int p1)]) => ?_)
          refine lv_iload_n (pc := 69) hexec hb dX8_signOf_69 rfl (lv_at hl 0 rfl) ?_
          refine kb_eq (pc := 70) hexec hb dX8_signOf_70 (tgt := 87) rfl hf (fun hc hf => ?_) (fun hc hf => ?_)
          · refine lv_aload_n (pc := 87) hexec hb dX8_signOf_87 rfl (lv_at hl 1 rfl) ?_
            refine kg_get (pc := 88) hexec hb (own := RX8) hWX8 hown hG hP 0 rfl rfl 0 (nle rfl) (hts _ (List.mem_cons_of_mem _ (List.mem_append_left _ (List.mem_append_left _ (List.mem_append_left _ (List.mem_append_left _ (List.mem_append_left _ (List.mem_of_getElem? (i := 0) rfl)))))))) rfl rfl dX8_signOf_88 ?_
            refine lv_iload_n (pc := 91) hexec hb dX8_signOf_91 rfl (lv_at hl 2 rfl) ?_
            obtain ⟨r92, hc, hf⟩ := bd1_e hf
            refine kVp (pc := 92) (S := ⟨hexec, hb, hml, hown, hts⟩) hP hD hG hA hS [1, 4, 5] [0, 2, 3, 6, 7, 8] [0, 6, 1, 2, 7, 8, 3, 4, 5] (w2 := (w_X8_signOf g a0 a1 a2 a3 a4 a5 a6 a7 a8 u0_1 u0_2 u0_3 u0_4 u0_5 u0_6 u0_7 u0_8 u0_9 u1_2 u2_0 u2_1 u2_2 u2_5 u3_3 u3_4 u3_5 x3_count x3_reds y4_letterOn y5_namesOn y6_land y7_riverOf y8_home)) rfl rfl rfl rfl rfl rfl (by decide) (c_X6_letterIn l g a1 a4 a5 _ (.ref a2) (.ref a3) u1_2 y4_letterOn y5_namesOn p1 r92 hc) gX8_signOf_X6_letterIn rfl hv_X6_letterIn ⟨nle rfl, nle rfl⟩ 6 0 rfl rfl rfl (rest := []) rfl rfl hl.1 (nle rfl) dX8_signOf_92 (fun H locs hP hD hS => ?_)
            cases hf
            exact ke_i hQ hexec hb hr hP hD hS dX8_signOf_95 hlocks
          · refine lv_aload_n (pc := 73) hexec hb dX8_signOf_73 rfl (lv_at hl 1 rfl) ?_
            refine kg_get (pc := 74) hexec hb (own := RX8) hWX8 hown hG hP 0 rfl rfl 0 (nle rfl) (hts _ (List.mem_cons_of_mem _ (List.mem_append_left _ (List.mem_append_left _ (List.mem_append_left _ (List.mem_append_left _ (List.mem_append_left _ (List.mem_of_getElem? (i := 0) rfl)))))))) rfl rfl dX8_signOf_74 ?_
            refine lv_iload_n (pc := 77) hexec hb dX8_signOf_77 rfl (lv_at hl 2 rfl) ?_
            obtain ⟨r78, hc, hf⟩ := bd1_e hf
            refine kVp (pc := 78) (S := ⟨hexec, hb, hml, hown, hts⟩) hP hD hG hA hS [1, 4, 5] [0, 2, 3, 6, 7, 8] [0, 6, 1, 2, 7, 8, 3, 4, 5] (w2 := (w_X8_signOf g a0 a1 a2 a3 a4 a5 a6 a7 a8 u0_1 u0_2 u0_3 u0_4 u0_5 u0_6 u0_7 u0_8 u0_9 u1_2 u2_0 u2_1 u2_2 u2_5 u3_3 u3_4 u3_5 x3_count x3_reds y4_letterOn y5_namesOn y6_land y7_riverOf y8_home)) rfl rfl rfl rfl rfl rfl (by decide) (c_X6_letterIn l g a1 a4 a5 _ (.ref a2) (.ref a3) u1_2 y4_letterOn y5_namesOn p1 r78 hc) gX8_signOf_X6_letterIn rfl hv_X6_letterIn ⟨nle rfl, nle rfl⟩ 6 0 rfl rfl rfl (rest := []) rfl rfl hl.1 (nle rfl) dX8_signOf_78 (fun H locs hP hD hS => ?_)
            refine lv_bipush (pc := 81) hexec hb dX8_signOf_81 kb_32 ?_
            refine lv_isub (pc := 83) hexec hb dX8_signOf_83 ?_
            refine lv_goto (pc := 84) hexec hb dX8_signOf_84 (tgt := 95) rfl ?_
            cases hf
            exact ke_i hQ hexec hb hr hP hD hS dX8_signOf_95 hlocks
        refine kb_eq (pc := 60) hexec hb dX8_signOf_60 (tgt := 67) rfl hf (fun hc hf => ?_) (fun hc hf => ?_)
        · refine lv_iconst (pc := 67) hexec hb dX8_signOf_67 ki_0 ?_
          exact hj68 _ _ _ _ hf hP hD hS (lv_sub hl [1, 2] rfl)
        · refine lv_iconst (pc := 63) hexec hb dX8_signOf_63 ki_1 ?_
          refine lv_goto (pc := 64) hexec hb dX8_signOf_64 (tgt := 68) rfl ?_
          exact hj68 _ _ _ _ hf hP hD hS (lv_sub hl [1, 2] rfl)
    · refine lv_bipush (pc := 32) hexec hb dX8_signOf_32 kb_64 ?_
      cases hf
      exact ke_i hQ hexec hb hr hP hD hS dX8_signOf_34 hlocks
  · refine lv_bipush (pc := 14) hexec hb dX8_signOf_14 kb_126 ?_
    cases hf
    exact ke_i hQ hexec hb hr hP hD hS dX8_signOf_16 hlocks
abbrev w_X8_writeRow (g : GE) (a0 a1 a2 a3 a4 a5 a6 a7 a8 a9 : Nat) (u0_1 u0_2 u0_3 u0_4 u0_5 u0_6 u0_9 u2_2 u3_2 u3_5 u4_3 u4_4 u4_5 : Value) (x0_outputLength : Int32) (y1_output : Nat → Int32) (x3_rows : Int32) (x3_columns : Int32) (x4_count : Int32) (x4_reds : Int32) (y5_letterOn : Nat → Int32) (y6_namesOn : Nat → Int32) (y7_land : Nat → Int32) (y8_riverOf : Nat → Int32) (y9_home : Nat → Int32) : va_W := [(a0, .inr (8, [.ref a2, u0_1, u0_2, u0_3, u0_4, u0_5, u0_6, .ref a1, .int x0_outputLength, u0_9])), (a1, .inl (g.2.1 0, 12, .inl y1_output)), (a2, .inr (6, [.ref a3, .ref a4, u2_2, .ref a6, .ref a5])), (a3, .inr (1, [.int x3_rows, .int x3_columns, u3_2, .ref a7, .ref a8, u3_5])), (a4, .inr (2, [.int x4_count, .int x4_reds, .ref a9, u4_3, u4_4, u4_5])), (a5, .inl (g.2.1 0, 144, .inl y5_letterOn)), (a6, .inl (g.2.1 0, 144, .inl y6_namesOn)), (a7, .inl (g.2.1 1, 144, .inl y7_land)), (a8, .inl (g.2.1 0, 144, .inl y8_riverOf)), (a9, .inl (g.2.1 0, 8, .inl y9_home))]
noncomputable def f_X8_writeRow (x0_outputLength : Int32) (y1_output : Nat → Int32) (x3_rows : Int32) (x3_columns : Int32) (x4_count : Int32) (x4_reds : Int32) (y5_letterOn : Nat → Int32) (y6_namesOn : Nat → Int32) (y7_land : Nat → Int32) (y8_riverOf : Nat → Int32) (y9_home : Nat → Int32) (p1 : Int32) : Option (Int32 × Int32 × (Nat → Int32)) :=
  bv (fun (_ : Unit) => ((
    none
    ) : Option (Int32 × Int32 × (Nat → Int32)))) fun j18 =>
  (if p1 < 0 then (
    j18 ()
  ) else (
    (if p1 < x3_rows then (
      bv (fun (v3 : Int32) (y1_output_1 : Nat → Int32) => ((
        (if x3_columns ≤ v3 then (
          some (.inr y1_output_1)
        ) else (
          (if 12 ≤ v3 then (
            some (.inr y1_output_1)
          ) else (
            bd1 (f_X8_signOf x4_count x4_reds y5_letterOn y6_namesOn y7_land y8_riverOf y9_home ((p1 * x3_columns) + v3)) fun (r64 : Int32) =>
            ar v3 12 <| bv (upd y1_output_1 v3.toNatClampNeg r64) fun y1_output_3 =>
            bv (v3 + 1) fun v3_1 =>
            some (.inl (v3_1, y1_output_3))
          ))
        ))
        ) : Option ((Int32 × (Nat → Int32)) ⊕ ((Nat → Int32))))) fun l42 =>
      bd1 (lq2 l42 0 y1_output) fun (y1_output_2 : Nat → Int32) =>
      some (x3_columns, x3_columns, y1_output_2)
    ) else (
      j18 ()
    ))
  ))
set_option maxRecDepth 4000 in
theorem c_X8_writeRow (l : Launch) (g : GE) (a0 a1 a2 a3 a4 a5 a6 a7 a8 a9 : Nat) (sz : Nat) (u0_1 u0_2 u0_3 u0_4 u0_5 u0_6 u0_9 u2_2 u3_2 u3_5 u4_3 u4_4 u4_5 : Value) (x0_outputLength : Int32) (y1_output : Nat → Int32) (x3_rows : Int32) (x3_columns : Int32) (x4_count : Int32) (x4_reds : Int32) (y5_letterOn : Nat → Int32) (y6_namesOn : Nat → Int32) (y7_land : Nat → Int32) (y8_riverOf : Nat → Int32) (y9_home : Nat → Int32) (p1 : Int32) (r : Int32) (o_x0_outputLength : Int32) (o_y1_output : Nat → Int32) (hf : f_X8_writeRow x0_outputLength y1_output x3_rows x3_columns x4_count x4_reds y5_letterOn y6_namesOn y7_land y8_riverOf y9_home p1 = some (r, o_x0_outputLength, o_y1_output)) : MI l g yX8_writeRow wsX8_writeRow 4 89 [.ref a0, .int p1] (w_X8_writeRow g a0 a1 a2 a3 a4 a5 a6 a7 a8 a9 u0_1 u0_2 u0_3 u0_4 u0_5 u0_6 u0_9 u2_2 u3_2 u3_5 u4_3 u4_4 u4_5 x0_outputLength y1_output x3_rows x3_columns x4_count x4_reds y5_letterOn y6_namesOn y7_land y8_riverOf y9_home) sz (some (.int r)) (w_X8_writeRow g a0 a1 a2 a3 a4 a5 a6 a7 a8 a9 u0_1 u0_2 u0_3 u0_4 u0_5 u0_6 u0_9 u2_2 u3_2 u3_5 u4_3 u4_4 u4_5 o_x0_outputLength o_y1_output x3_rows x3_columns x4_count x4_reds y5_letterOn y6_namesOn y7_land y8_riverOf y9_home) := by
  refine MI.start (cc := cX8_writeRow) (maxL := 4) (ret := (some .int)) rfl rfl (nle rfl) ?_
  intro p e s m args below meth c A ls Q hQ hexec hb hr hts hown hlocks hml hA hP hD hG hS hl
  unfold f_X8_writeRow at hf
  have hWX1 : ∀ w ∈ wsX10, w.before args s = true := fun w h => hts w (List.mem_cons_of_mem _ (List.mem_append_left _ (List.mem_append_left _ (List.mem_append_right _ h))))
  have hWX2 : ∀ w ∈ wsX20, w.before args s = true := fun w h => hts w (List.mem_cons_of_mem _ (List.mem_append_left _ (List.mem_append_right _ h)))
  have hWX6 : ∀ w ∈ wsX60, w.before args s = true := fun w h => hts w (List.mem_cons_of_mem _ (List.mem_append_left _ (List.mem_append_left _ (List.mem_append_left _ (List.mem_append_right _ h)))))
  have hWX8 : ∀ w ∈ wsX80, w.before args s = true := fun w h => hts w (List.mem_cons_of_mem _ (List.mem_append_left _ (List.mem_append_left _ (List.mem_append_left _ (List.mem_append_left _ (List.mem_append_right _ h))))))
  have hS : va_S A s.heap s.heap [] := hS
  refine lv_iload_n (pc := 0) hexec hb dX8_writeRow_0 rfl (lv_at hl 1 rfl) ?_
  obtain ⟨j18, ej18, hf⟩ := bvf1 hf
  have hj18 : ∀ (u : Unit) (H : Heap) (locs : List Loc) (ls : Array Slot), j18 u = some (r, o_x0_outputLength, o_y1_output) → va_P g.1 vwCl (w_X8_writeRow g a0 a1 a2 a3 a4 a5 a6 a7 a8 a9 u0_1 u0_2 u0_3 u0_4 u0_5 u0_6 u0_9 u2_2 u3_2 u3_5 u4_3 u4_4 u4_5 x0_outputLength y1_output x3_rows x3_columns x4_count x4_reds y5_letterOn y6_namesOn y7_land y8_riverOf y9_home) H → va_D A (w_X8_writeRow g a0 a1 a2 a3 a4 a5 a6 a7 a8 a9 u0_1 u0_2 u0_3 u0_4 u0_5 u0_6 u0_9 u2_2 u3_2 u3_5 u4_3 u4_4 u4_5 x0_outputLength y1_output x3_rows x3_columns x4_count x4_reds y5_letterOn y6_namesOn y7_land y8_riverOf y9_home) → va_S A s.heap H locs → lv_has ls 4 [] → W p l e (RM 4 89) s m args below meth c H locs 0 0 Q (F0 m 18 ls []) := by
    intro u H locs ls hf hP hD hS hl
    have hf := (ej18 u).symm.trans hf
    cases hf
  refine kb_lt (pc := 1) hexec hb dX8_writeRow_1 (tgt := 18) rfl hf (fun hc hf => ?_) (fun hc hf => ?_)
  · exact hj18 _ _ _ _ hf hP hD hS (lv_sub hl [] rfl)
  · refine lv_iload_n (pc := 4) hexec hb dX8_writeRow_4 rfl (lv_at hl 1 rfl) ?_
    refine lv_aload_n (pc := 5) hexec hb dX8_writeRow_5 rfl (lv_at hl 0 rfl) ?_
    refine kg_get (pc := 6) hexec hb (own := RX8) hWX8 hown hG hP 0 rfl rfl 0 (nle rfl) (hts _ (List.mem_cons_of_mem _ (List.mem_append_left _ (List.mem_append_left _ (List.mem_append_left _ (List.mem_append_left _ (List.mem_append_left _ (List.mem_append_left _ (List.mem_of_getElem? (i := 2) rfl))))))))) rfl rfl dX8_writeRow_6 ?_
    refine kg_getN (pc := 9) hexec hb (own := RX8) hWX6 hown hG hP 2 rfl rfl 0 (nle rfl) 21 rfl rfl rfl dX8_writeRow_9 ?_
    refine kg_getN (pc := 12) hexec hb (own := RX8) hWX1 hown hG hP 3 rfl rfl 0 (nle rfl) 0 rfl rfl rfl dX8_writeRow_12 ?_
    refine ki_lt (pc := 15) hexec hb dX8_writeRow_15 (tgt := 29) rfl hf (fun hc hf => ?_) (fun hc hf => ?_)
    · refine lv_aload_n (pc := 29) hexec hb dX8_writeRow_29 rfl (lv_at hl 0 rfl) ?_
      refine kg_get (pc := 30) hexec hb (own := RX8) hWX8 hown hG hP 0 rfl rfl 0 (nle rfl) (hts _ (List.mem_cons_of_mem _ (List.mem_append_left _ (List.mem_append_left _ (List.mem_append_left _ (List.mem_append_left _ (List.mem_append_left _ (List.mem_append_left _ (List.mem_of_getElem? (i := 2) rfl))))))))) rfl rfl dX8_writeRow_30 ?_
      refine kg_getN (pc := 33) hexec hb (own := RX8) hWX6 hown hG hP 2 rfl rfl 0 (nle rfl) 21 rfl rfl rfl dX8_writeRow_33 ?_
      refine kg_getN (pc := 36) hexec hb (own := RX8) hWX1 hown hG hP 3 rfl rfl 1 (nle rfl) 2 rfl rfl rfl dX8_writeRow_36 ?_
      refine lv_istore_n (pc := 39) hexec hb dX8_writeRow_39 rfl hl (nle rfl) rfl (fun ls (hl : lv_has ls 4 [(2, .int x3_columns), (0, .ref a0), (1, .int p1)]) => ?_)
      refine lv_iconst (pc := 40) hexec hb dX8_writeRow_40 ki_0 ?_
      refine lv_istore_n (pc := 41) hexec hb dX8_writeRow_41 rfl hl (nle rfl) rfl (fun ls (hl : lv_has ls 4 [(3, .int 0), (2, .int x3_columns), (0, .ref a0), (1, .int p1)]) => ?_)
      obtain ⟨l42, el42, hf⟩ := bvf2 hf
      obtain ⟨y1_output_2, hz, hf⟩ := bd1_e hf
      have hE42 : ∀ (H : Heap) (locs : List Loc) (ls : Array Slot), va_P g.1 vwCl (w_X8_writeRow g a0 a1 a2 a3 a4 a5 a6 a7 a8 a9 u0_1 u0_2 u0_3 u0_4 u0_5 u0_6 u0_9 u2_2 u3_2 u3_5 u4_3 u4_4 u4_5 x0_outputLength y1_output_2 x3_rows x3_columns x4_count x4_reds y5_letterOn y6_namesOn y7_land y8_riverOf y9_home) H → va_D A (w_X8_writeRow g a0 a1 a2 a3 a4 a5 a6 a7 a8 a9 u0_1 u0_2 u0_3 u0_4 u0_5 u0_6 u0_9 u2_2 u3_2 u3_5 u4_3 u4_4 u4_5 x0_outputLength y1_output_2 x3_rows x3_columns x4_count x4_reds y5_letterOn y6_namesOn y7_land y8_riverOf y9_home) → va_S A s.heap H locs → lv_has ls 4 [(0, .ref a0), (2, .int x3_columns)] → W p l e (RM 4 89) s m args below meth c H locs 0 0 Q (F0 m 74 ls []) := by
        intro H locs ls hP hD hS hl
        refine lv_aload_n (pc := 74) hexec hb dX8_writeRow_74 rfl (lv_at hl 0 rfl) ?_
        refine lv_iload_n (pc := 75) hexec hb dX8_writeRow_75 rfl (lv_at hl 1 rfl) ?_
        refine kp_put (pc := 76) hexec hb (own := RX8) hWX8 tyX8 tyX8_ok nmX8 hown hG hP hD hS 0 rfl rfl 8 (nle rfl) (hts _ (List.mem_cons_of_mem _ (List.mem_append_left _ (List.mem_append_left _ (List.mem_append_left _ (List.mem_append_left _ (List.mem_append_left _ (List.mem_append_left _ (List.mem_of_getElem? (i := 4) rfl))))))))) rfl rfl rfl rfl (nle rfl) dX8_writeRow_76 (fun H locs (hP : va_P g.1 vwCl (w_X8_writeRow g a0 a1 a2 a3 a4 a5 a6 a7 a8 a9 u0_1 u0_2 u0_3 u0_4 u0_5 u0_6 u0_9 u2_2 u3_2 u3_5 u4_3 u4_4 u4_5 x3_columns y1_output_2 x3_rows x3_columns x4_count x4_reds y5_letterOn y6_namesOn y7_land y8_riverOf y9_home) H) (hD : va_D A (w_X8_writeRow g a0 a1 a2 a3 a4 a5 a6 a7 a8 a9 u0_1 u0_2 u0_3 u0_4 u0_5 u0_6 u0_9 u2_2 u3_2 u3_5 u4_3 u4_4 u4_5 x3_columns y1_output_2 x3_rows x3_columns x4_count x4_reds y5_letterOn y6_namesOn y7_land y8_riverOf y9_home)) hS => ?_)
        refine lv_aload_n (pc := 79) hexec hb dX8_writeRow_79 rfl (lv_at hl 0 rfl) ?_
        refine kg_get (pc := 80) hexec hb (own := RX8) hWX8 hown hG hP 0 rfl rfl 8 (nle rfl) (hts _ (List.mem_cons_of_mem _ (List.mem_append_left _ (List.mem_append_left _ (List.mem_append_left _ (List.mem_append_left _ (List.mem_append_left _ (List.mem_append_left _ (List.mem_of_getElem? (i := 4) rfl))))))))) rfl rfl dX8_writeRow_80 ?_
        cases hf
        exact ke_i hQ hexec hb hr hP hD hS dX8_writeRow_83 hlocks
      obtain ⟨n, hz⟩ := lq2_e hz
      have hL42 : ∀ (n : Nat) (v3 : Int32) (y1_output_1 : Nat → Int32) (H : Heap) (locs : List Loc) (ls : Array Slot), it2 l42 n v3 y1_output_1 = some y1_output_2 → va_P g.1 vwCl (w_X8_writeRow g a0 a1 a2 a3 a4 a5 a6 a7 a8 a9 u0_1 u0_2 u0_3 u0_4 u0_5 u0_6 u0_9 u2_2 u3_2 u3_5 u4_3 u4_4 u4_5 x0_outputLength y1_output_1 x3_rows x3_columns x4_count x4_reds y5_letterOn y6_namesOn y7_land y8_riverOf y9_home) H → va_D A (w_X8_writeRow g a0 a1 a2 a3 a4 a5 a6 a7 a8 a9 u0_1 u0_2 u0_3 u0_4 u0_5 u0_6 u0_9 u2_2 u3_2 u3_5 u4_3 u4_4 u4_5 x0_outputLength y1_output_1 x3_rows x3_columns x4_count x4_reds y5_letterOn y6_namesOn y7_land y8_riverOf y9_home) → va_S A s.heap H locs → lv_has ls 4 [(0, .ref a0), (1, .int p1), (2, .int x3_columns), (3, .int v3)] → W p l e (RM 4 89) s m args below meth c H locs 0 0 Q (F0 m 42 ls []) := by
        intro n
        induction n with
        | zero =>
          intro v3 y1_output_1 H locs ls hf hP hD hS hl
          exact it2_0 hf
        | succ n42 ih42 =>
          intro v3 y1_output_1 H locs ls hf hP hD hS hl
          obtain ⟨q42, hf, hk42⟩ := it2_e hf
          have hf := (el42 v3 y1_output_1).symm.trans hf
          refine lv_iload_n (pc := 42) hexec hb dX8_writeRow_42 rfl (lv_at hl 3 rfl) ?_
          refine lv_iload_n (pc := 43) hexec hb dX8_writeRow_43 rfl (lv_at hl 2 rfl) ?_
          refine ki_ge (pc := 44) hexec hb dX8_writeRow_44 (tgt := 74) rfl hf (fun hc hf => ?_) (fun hc hf => ?_)
          · cases sr2 hf hk42
            exact hE42 _ _ _ hP hD hS (lv_sub hl [0, 2] rfl)
          · refine lv_iload_n (pc := 47) hexec hb dX8_writeRow_47 rfl (lv_at hl 3 rfl) ?_
            refine lv_bipush (pc := 48) hexec hb dX8_writeRow_48 kb_12 ?_
            refine ki_ge (pc := 50) hexec hb dX8_writeRow_50 (tgt := 74) rfl hf (fun hc hf => ?_) (fun hc hf => ?_)
            · cases sr2 hf hk42
              exact hE42 _ _ _ hP hD hS (lv_sub hl [0, 2] rfl)
            · refine lv_aload_n (pc := 53) hexec hb dX8_writeRow_53 rfl (lv_at hl 0 rfl) ?_
              refine kg_get (pc := 54) hexec hb (own := RX8) hWX8 hown hG hP 0 rfl rfl 7 (nle rfl) (hts _ (List.mem_cons_of_mem _ (List.mem_append_left _ (List.mem_append_left _ (List.mem_append_left _ (List.mem_append_left _ (List.mem_append_left _ (List.mem_append_left _ (List.mem_of_getElem? (i := 3) rfl))))))))) rfl rfl dX8_writeRow_54 ?_
              refine lv_iload_n (pc := 57) hexec hb dX8_writeRow_57 rfl (lv_at hl 3 rfl) ?_
              refine lv_aload_n (pc := 58) hexec hb dX8_writeRow_58 rfl (lv_at hl 0 rfl) ?_
              refine lv_iload_n (pc := 59) hexec hb dX8_writeRow_59 rfl (lv_at hl 1 rfl) ?_
              refine lv_iload_n (pc := 60) hexec hb dX8_writeRow_60 rfl (lv_at hl 2 rfl) ?_
              refine lv_imul (pc := 61) hexec hb dX8_writeRow_61 ?_
              refine lv_iload_n (pc := 62) hexec hb dX8_writeRow_62 rfl (lv_at hl 3 rfl) ?_
              refine lv_iadd (pc := 63) hexec hb dX8_writeRow_63 ?_
              obtain ⟨r64, hc, hf⟩ := bd1_e hf
              refine kVp (pc := 64) (S := ⟨hexec, hb, hml, hown, hts⟩) hP hD hG hA hS [0, 2, 3, 4, 5, 6, 7, 8, 9] [1] [1, 0, 2, 3, 4, 5, 6, 7, 8, 9] (w2 := (w_X8_writeRow g a0 a1 a2 a3 a4 a5 a6 a7 a8 a9 u0_1 u0_2 u0_3 u0_4 u0_5 u0_6 u0_9 u2_2 u3_2 u3_5 u4_3 u4_4 u4_5 x0_outputLength y1_output_1 x3_rows x3_columns x4_count x4_reds y5_letterOn y6_namesOn y7_land y8_riverOf y9_home)) rfl rfl rfl rfl rfl rfl (by decide) (c_X8_signOf l g a0 a2 a3 a4 a5 a6 a7 a8 a9 _ u0_1 u0_2 u0_3 u0_4 u0_5 u0_6 (.ref a1) (.int x0_outputLength) u0_9 u2_2 (.int x3_rows) (.int x3_columns) u3_2 u3_5 u4_3 u4_4 u4_5 x4_count x4_reds y5_letterOn y6_namesOn y7_land y8_riverOf y9_home ((p1 * x3_columns) + v3) r64 hc) gX8_writeRow_X8_signOf rfl hv_X8_signOf ⟨nle rfl, nle rfl⟩ 8 0 rfl rfl rfl (rest := [.int v3, .ref a1]) rfl rfl hl.1 (nle rfl) dX8_writeRow_64 (fun H locs hP hD hS => ?_)
              refine kw_iast (pc := 67) hexec hb hG hP hD hS 1 rfl hf dX8_writeRow_67 (fun y1_output_3 H locs hf (hP : va_P g.1 vwCl (w_X8_writeRow g a0 a1 a2 a3 a4 a5 a6 a7 a8 a9 u0_1 u0_2 u0_3 u0_4 u0_5 u0_6 u0_9 u2_2 u3_2 u3_5 u4_3 u4_4 u4_5 x0_outputLength y1_output_3 x3_rows x3_columns x4_count x4_reds y5_letterOn y6_namesOn y7_land y8_riverOf y9_home) H) (hD : va_D A (w_X8_writeRow g a0 a1 a2 a3 a4 a5 a6 a7 a8 a9 u0_1 u0_2 u0_3 u0_4 u0_5 u0_6 u0_9 u2_2 u3_2 u3_5 u4_3 u4_4 u4_5 x0_outputLength y1_output_3 x3_rows x3_columns x4_count x4_reds y5_letterOn y6_namesOn y7_land y8_riverOf y9_home)) hS => ?_)
              obtain ⟨v3_1, ev3_1, hf⟩ := bv_e hf
              refine k_iinc (pc := 68) hexec hb dX8_writeRow_68 kq_1 hl (k := 3) rfl ev3_1 (nle rfl) rfl (fun ls (hl : lv_has ls 4 [(3, .int v3_1), (0, .ref a0), (1, .int p1), (2, .int x3_columns)]) => ?_)
              refine lv_goto (pc := 71) hexec hb dX8_writeRow_71 (tgt := 42) rfl ?_
              exact ih42 _ _ _ _ _ (sl2 hf hk42) hP hD hS (lv_sub hl [1, 2, 3, 0] rfl)
      exact hL42 n _ _ _ _ _ hz hP hD hS (lv_sub hl [2, 3, 1, 0] rfl)
    · exact hj18 _ _ _ _ hf hP hD hS (lv_sub hl [] rfl)
abbrev w_X8_outputByte (g : GE) (a0 a1 : Nat) (u0_0 u0_1 u0_2 u0_3 u0_4 u0_5 u0_6 u0_9 : Value) (x0_outputLength : Int32) (y1_output : Nat → Int32) : va_W := [(a0, .inr (8, [u0_0, u0_1, u0_2, u0_3, u0_4, u0_5, u0_6, .ref a1, .int x0_outputLength, u0_9])), (a1, .inl (g.2.1 0, 12, .inl y1_output))]
noncomputable def f_X8_outputByte (x0_outputLength : Int32) (y1_output : Nat → Int32) (p1 : Int32) : Option (Int32) :=
  bv (fun (_ : Unit) => ((
    some (-1)
    ) : Option (Int32))) fun j27 =>
  (if p1 < 0 then (
    j27 ()
  ) else (
    (if x0_outputLength ≤ p1 then (
      j27 ()
    ) else (
      (if 12 ≤ p1 then (
        j27 ()
      ) else (
        ar p1 12 <|
        some (y1_output p1.toNatClampNeg)
      ))
    ))
  ))
set_option maxRecDepth 4000 in
theorem c_X8_outputByte (l : Launch) (g : GE) (a0 a1 : Nat) (sz : Nat) (u0_0 u0_1 u0_2 u0_3 u0_4 u0_5 u0_6 u0_9 : Value) (x0_outputLength : Int32) (y1_output : Nat → Int32) (p1 : Int32) (r : Int32) (hf : f_X8_outputByte x0_outputLength y1_output p1 = some r) : MI l g yX8_outputByte wsX8_outputByte 1 24 [.ref a0, .int p1] (w_X8_outputByte g a0 a1 u0_0 u0_1 u0_2 u0_3 u0_4 u0_5 u0_6 u0_9 x0_outputLength y1_output) sz (some (.int r)) (w_X8_outputByte g a0 a1 u0_0 u0_1 u0_2 u0_3 u0_4 u0_5 u0_6 u0_9 x0_outputLength y1_output) := by
  refine MI.start (cc := cX8_outputByte) (maxL := 2) (ret := (some .int)) rfl rfl (nle rfl) ?_
  intro p e s m args below meth c A ls Q hQ hexec hb hr hts hown hlocks hml hA hP hD hG hS hl
  unfold f_X8_outputByte at hf
  have hWX8 : ∀ w ∈ wsX80, w.before args s = true := fun w h => hts w (List.mem_cons_of_mem _ (List.mem_append_right _ h))
  have hS : va_S A s.heap s.heap [] := hS
  refine lv_iload_n (pc := 0) hexec hb dX8_outputByte_0 rfl (lv_at hl 1 rfl) ?_
  obtain ⟨j27, ej27, hf⟩ := bvf1 hf
  have hj27 : ∀ (u : Unit) (H : Heap) (locs : List Loc) (ls : Array Slot), j27 u = some r → va_P g.1 vwCl (w_X8_outputByte g a0 a1 u0_0 u0_1 u0_2 u0_3 u0_4 u0_5 u0_6 u0_9 x0_outputLength y1_output) H → va_D A (w_X8_outputByte g a0 a1 u0_0 u0_1 u0_2 u0_3 u0_4 u0_5 u0_6 u0_9 x0_outputLength y1_output) → va_S A s.heap H locs → lv_has ls 2 [] → W p l e (RM 1 24) s m args below meth c H locs 0 0 Q (F0 m 27 ls []) := by
    intro u H locs ls hf hP hD hS hl
    have hf := (ej27 u).symm.trans hf
    refine lv_iconst (pc := 27) hexec hb dX8_outputByte_27 ki_m1 ?_
    cases hf
    exact ke_i hQ hexec hb hr hP hD hS dX8_outputByte_28 hlocks
  refine kb_lt (pc := 1) hexec hb dX8_outputByte_1 (tgt := 27) rfl hf (fun hc hf => ?_) (fun hc hf => ?_)
  · exact hj27 _ _ _ _ hf hP hD hS (lv_sub hl [] rfl)
  · refine lv_iload_n (pc := 4) hexec hb dX8_outputByte_4 rfl (lv_at hl 1 rfl) ?_
    refine lv_aload_n (pc := 5) hexec hb dX8_outputByte_5 rfl (lv_at hl 0 rfl) ?_
    refine kg_get (pc := 6) hexec hb (own := RX8) hWX8 hown hG hP 0 rfl rfl 8 (nle rfl) (hts _ (List.mem_cons_of_mem _ (List.mem_append_left _ (List.mem_of_getElem? (i := 0) rfl)))) rfl rfl dX8_outputByte_6 ?_
    refine ki_ge (pc := 9) hexec hb dX8_outputByte_9 (tgt := 27) rfl hf (fun hc hf => ?_) (fun hc hf => ?_)
    · exact hj27 _ _ _ _ hf hP hD hS (lv_sub hl [] rfl)
    · refine lv_iload_n (pc := 12) hexec hb dX8_outputByte_12 rfl (lv_at hl 1 rfl) ?_
      refine lv_bipush (pc := 13) hexec hb dX8_outputByte_13 kb_12 ?_
      refine ki_ge (pc := 15) hexec hb dX8_outputByte_15 (tgt := 27) rfl hf (fun hc hf => ?_) (fun hc hf => ?_)
      · exact hj27 _ _ _ _ hf hP hD hS (lv_sub hl [] rfl)
      · refine lv_aload_n (pc := 18) hexec hb dX8_outputByte_18 rfl (lv_at hl 0 rfl) ?_
        refine kg_get (pc := 19) hexec hb (own := RX8) hWX8 hown hG hP 0 rfl rfl 7 (nle rfl) (hts _ (List.mem_cons_of_mem _ (List.mem_append_left _ (List.mem_of_getElem? (i := 1) rfl)))) rfl rfl dX8_outputByte_19 ?_
        refine lv_iload_n (pc := 22) hexec hb dX8_outputByte_22 rfl (lv_at hl 1 rfl) ?_
        refine kr_iald (pc := 23) hexec hb hG hP 1 rfl hf dX8_outputByte_23 (fun hf => ?_)
        refine lv_goto (pc := 24) hexec hb dX8_outputByte_24 (tgt := 28) rfl ?_
        cases hf
        exact ke_i hQ hexec hb hr hP hD hS dX8_outputByte_28 hlocks
abbrev w_X8_needSlot (g : GE) : va_W := []
noncomputable def f_X8_needSlot  (p0 : Int32) : Option (Unit) :=
  bv (fun (_ : Unit) => ((
    none
    ) : Option (Unit))) fun j9 =>
  (if p0 < 0 then (
    j9 ()
  ) else (
    (if p0 < 2 then (
      some ()
    ) else (
      j9 ()
    ))
  ))
set_option maxRecDepth 4000 in
theorem c_X8_needSlot (l : Launch) (g : GE) (sz : Nat)  (p0 : Int32) (hf : f_X8_needSlot p0 = some ()) : MI l g yX8_needSlot wsX8_needSlot 1 24 [.int p0] (w_X8_needSlot g ) sz none (w_X8_needSlot g ) := by
  refine MI.start (cc := cX8_needSlot) (maxL := 1) (ret := none) rfl rfl (nle rfl) ?_
  intro p e s m args below meth c A ls Q hQ hexec hb hr hts hown hlocks hml hA hP hD hG hS hl
  unfold f_X8_needSlot at hf
  have hS : va_S A s.heap s.heap [] := hS
  refine lv_iload_n (pc := 0) hexec hb dX8_needSlot_0 rfl (lv_at hl 0 rfl) ?_
  obtain ⟨j9, ej9, hf⟩ := bvf1 hf
  have hj9 : ∀ (u : Unit) (H : Heap) (locs : List Loc) (ls : Array Slot), j9 u = some () → va_P g.1 vwCl (w_X8_needSlot g ) H → va_D A (w_X8_needSlot g ) → va_S A s.heap H locs → lv_has ls 1 [] → W p l e (RM 1 24) s m args below meth c H locs 0 0 Q (F0 m 9 ls []) := by
    intro u H locs ls hf hP hD hS hl
    have hf := (ej9 u).symm.trans hf
    cases hf
  refine kb_lt (pc := 1) hexec hb dX8_needSlot_1 (tgt := 9) rfl hf (fun hc hf => ?_) (fun hc hf => ?_)
  · exact hj9 _ _ _ _ hf hP hD hS (lv_sub hl [] rfl)
  · refine lv_iload_n (pc := 4) hexec hb dX8_needSlot_4 rfl (lv_at hl 0 rfl) ?_
    refine lv_iconst (pc := 5) hexec hb dX8_needSlot_5 ki_2 ?_
    refine ki_lt (pc := 6) hexec hb dX8_needSlot_6 (tgt := 20) rfl hf (fun hc hf => ?_) (fun hc hf => ?_)
    · cases hf
      exact ke_v hQ hexec hb hr hP hD hS dX8_needSlot_20 hlocks
    · exact hj9 _ _ _ _ hf hP hD hS (lv_sub hl [] rfl)
