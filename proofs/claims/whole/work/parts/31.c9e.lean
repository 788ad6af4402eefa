abbrev w_X9_named (g : GE) (a0 a1 a2 : Nat) (u0_1 u0_2 u0_3 u0_4 u0_5 u0_6 u0_7 u0_8 u0_9 u0_10 u0_11 u0_12 u0_13 u0_14 u0_15 u0_16 u0_17 u0_18 u0_20 u0_23 u0_24 u0_25 u0_26 u0_27 u0_28 u0_29 u0_30 : Value) (x0_at : Int32) (x0_from : Int32) (y1_s : Nat → Int32) (y2_text : Nat → Int32) : va_W := [(a0, .inr (9, [.ref a1, u0_1, u0_2, u0_3, u0_4, u0_5, u0_6, u0_7, u0_8, u0_9, u0_10, u0_11, u0_12, u0_13, u0_14, u0_15, u0_16, u0_17, u0_18, .ref a2, u0_20, .int x0_at, .int x0_from, u0_23, u0_24, u0_25, u0_26, u0_27, u0_28, u0_29, u0_30])), (a1, .inl (g.2.1 0, 552, .inl y1_s)), (a2, .inl (g.2.1 0, 500, .inl y2_text))]
set_option maxRecDepth 20000 in
theorem c_X9_named (l : Launch) (g : GE) (a0 a1 a2 : Nat) (sz : Nat) (u0_1 u0_2 u0_3 u0_4 u0_5 u0_6 u0_7 u0_8 u0_9 u0_10 u0_11 u0_12 u0_13 u0_14 u0_15 u0_16 u0_17 u0_18 u0_20 u0_23 u0_24 u0_25 u0_26 u0_27 u0_28 u0_29 u0_30 : Value) (x0_at : Int32) (x0_from : Int32) (y1_s : Nat → Int32) (y2_text : Nat → Int32)   (r : Int32) (hf : f_X9_named x0_at x0_from y1_s y2_text = some r) : MI l g yX9_named wsX9_named 2 46 [.ref a0] (w_X9_named g a0 a1 a2 u0_1 u0_2 u0_3 u0_4 u0_5 u0_6 u0_7 u0_8 u0_9 u0_10 u0_11 u0_12 u0_13 u0_14 u0_15 u0_16 u0_17 u0_18 u0_20 u0_23 u0_24 u0_25 u0_26 u0_27 u0_28 u0_29 u0_30 x0_at x0_from y1_s y2_text) sz (some (.int r)) (w_X9_named g a0 a1 a2 u0_1 u0_2 u0_3 u0_4 u0_5 u0_6 u0_7 u0_8 u0_9 u0_10 u0_11 u0_12 u0_13 u0_14 u0_15 u0_16 u0_17 u0_18 u0_20 u0_23 u0_24 u0_25 u0_26 u0_27 u0_28 u0_29 u0_30 x0_at x0_from y1_s y2_text) := by
  refine MI.start (cc := cX9_named) (maxL := 4) (ret := (some .int)) rfl rfl (nle rfl) ?_
  intro p e s m args below meth c A ls Q hQ hexec hb hr hts hown hlocks hml hA hP hD hG hS hl
  unfold f_X9_named at hf
  have hWX9 : ∀ w ∈ wsX90, w.before args s = true := fun w h => hts w (List.mem_cons_of_mem _ (List.mem_append_right _ h))
  have hS : va_S A s.heap s.heap [] := hS
  refine lv_iconst (pc := 0) hexec hb dX9_named_0 ki_0 ?_
  refine lv_istore_n (pc := 1) hexec hb dX9_named_1 rfl hl (nle rfl) rfl (fun ls (hl : lv_has ls 4 [(1, .int 0), (0, .ref a0)]) => ?_)
  obtain ⟨l2, el2, hf⟩ := bvf1 hf
  obtain ⟨n, hz⟩ := lq1_e hf
  have hL2 : ∀ (n : Nat) (v1 : Int32) (H : Heap) (locs : List Loc) (ls : Array Slot), it1 l2 n v1 = some r → va_P g.1 vwCl (w_X9_named g a0 a1 a2 u0_1 u0_2 u0_3 u0_4 u0_5 u0_6 u0_7 u0_8 u0_9 u0_10 u0_11 u0_12 u0_13 u0_14 u0_15 u0_16 u0_17 u0_18 u0_20 u0_23 u0_24 u0_25 u0_26 u0_27 u0_28 u0_29 u0_30 x0_at x0_from y1_s y2_text) H → va_D A (w_X9_named g a0 a1 a2 u0_1 u0_2 u0_3 u0_4 u0_5 u0_6 u0_7 u0_8 u0_9 u0_10 u0_11 u0_12 u0_13 u0_14 u0_15 u0_16 u0_17 u0_18 u0_20 u0_23 u0_24 u0_25 u0_26 u0_27 u0_28 u0_29 u0_30 x0_at x0_from y1_s y2_text) → va_S A s.heap H locs → lv_has ls 4 [(0, .ref a0), (1, .int v1)] → W p l e (RM 2 46) s m args below meth c H locs 0 0 Q (F0 m 2 ls []) := by
    intro n
    induction n with
    | zero =>
      intro v1 H locs ls hf hP hD hS hl
      exact it1_0 hf
    | succ n2 ih2 =>
      intro v1 H locs ls hf hP hD hS hl
      obtain ⟨q2, hf, hk2⟩ := it1_e hf
      have hf := (el2 v1).symm.trans hf
      refine lv_iload_n (pc := 2) hexec hb dX9_named_2 rfl (lv_at hl 1 rfl) ?_
      refine lv_aload_n (pc := 3) hexec hb dX9_named_3 rfl (lv_at hl 0 rfl) ?_
      refine kg_get (pc := 4) hexec hb (own := RX9) hWX9 hown hG hP 0 rfl rfl 0 (nle rfl) (hts _ (List.mem_cons_of_mem _ (List.mem_append_left _ (List.mem_of_getElem? (i := 0) rfl)))) rfl rfl dX9_named_4 ?_
      refine lv_iconst (pc := 7) hexec hb dX9_named_7 ki_2 ?_
      refine kr_iald (pc := 8) hexec hb hG hP 1 rfl hf dX9_named_8 (fun hf => ?_)
      refine ki_ge (pc := 9) hexec hb dX9_named_9 (tgt := 101) rfl hf (fun hc hf => ?_) (fun hc hf => ?_)
      · have hf := mk1 hf hk2
        refine lv_iconst (pc := 101) hexec hb dX9_named_101 ki_m1 ?_
        cases hf
        exact ke_i hQ hexec hb hr hP hD hS dX9_named_102 hlocks
      · refine lv_aload_n (pc := 12) hexec hb dX9_named_12 rfl (lv_at hl 0 rfl) ?_
        refine lv_iload_n (pc := 13) hexec hb dX9_named_13 rfl (lv_at hl 1 rfl) ?_
        refine lv_iconst (pc := 14) hexec hb dX9_named_14 ki_3 ?_
        obtain ⟨r15, hc, hf⟩ := bd1_e hf
        refine kVp (pc := 15) (S := ⟨hexec, hb, hml, hown, hts⟩) hP hD hG hA hS [0, 1] [2] [1, 2, 0] (w2 := (w_X9_named g a0 a1 a2 u0_1 u0_2 u0_3 u0_4 u0_5 u0_6 u0_7 u0_8 u0_9 u0_10 u0_11 u0_12 u0_13 u0_14 u0_15 u0_16 u0_17 u0_18 u0_20 u0_23 u0_24 u0_25 u0_26 u0_27 u0_28 u0_29 u0_30 x0_at x0_from y1_s y2_text)) rfl rfl rfl rfl rfl rfl (by decide) (c_X9_of l g a0 a1 _ u0_1 u0_2 u0_3 u0_4 u0_5 u0_6 u0_7 u0_8 u0_9 u0_10 u0_11 u0_12 u0_13 u0_14 u0_15 u0_16 u0_17 u0_18 (.ref a2) u0_20 (.int x0_at) (.int x0_from) u0_23 u0_24 u0_25 u0_26 u0_27 u0_28 u0_29 u0_30 y1_s v1 3 r15 hc) gX9_named_X9_of rfl hv_X9_of ⟨nle rfl, nle rfl⟩ 9 0 rfl rfl rfl (rest := []) rfl rfl hl.1 (nle rfl) dX9_named_15 (fun H locs hP hD hS => ?_)
        refine lv_aload_n (pc := 18) hexec hb dX9_named_18 rfl (lv_at hl 0 rfl) ?_
        refine kg_get (pc := 19) hexec hb (own := RX9) hWX9 hown hG hP 0 rfl rfl 21 (nle rfl) (hts _ (List.mem_cons_of_mem _ (List.mem_append_left _ (List.mem_of_getElem? (i := 1) rfl)))) rfl rfl dX9_named_19 ?_
        refine lv_aload_n (pc := 22) hexec hb dX9_named_22 rfl (lv_at hl 0 rfl) ?_
        refine kg_get (pc := 23) hexec hb (own := RX9) hWX9 hown hG hP 0 rfl rfl 22 (nle rfl) (hts _ (List.mem_cons_of_mem _ (List.mem_append_left _ (List.mem_of_getElem? (i := 2) rfl)))) rfl rfl dX9_named_23 ?_
        refine lv_isub (pc := 26) hexec hb dX9_named_26 ?_
        obtain ⟨j35, ej35, hf⟩ := bvf1 hf
        have hj35 : ∀ (t35 : Int32) (H : Heap) (locs : List Loc) (ls : Array Slot), j35 t35 = some q2 → va_P g.1 vwCl (w_X9_named g a0 a1 a2 u0_1 u0_2 u0_3 u0_4 u0_5 u0_6 u0_7 u0_8 u0_9 u0_10 u0_11 u0_12 u0_13 u0_14 u0_15 u0_16 u0_17 u0_18 u0_20 u0_23 u0_24 u0_25 u0_26 u0_27 u0_28 u0_29 u0_30 x0_at x0_from y1_s y2_text) H → va_D A (w_X9_named g a0 a1 a2 u0_1 u0_2 u0_3 u0_4 u0_5 u0_6 u0_7 u0_8 u0_9 u0_10 u0_11 u0_12 u0_13 u0_14 u0_15 u0_16 u0_17 u0_18 u0_20 u0_23 u0_24 u0_25 u0_26 u0_27 u0_28 u0_29 u0_30 x0_at x0_from y1_s y2_text) → va_S A s.heap H locs → lv_has ls 4 [(0, .ref a0), (1, .int v1)] → W p l e (RM 2 46) s m args below meth c H locs 0 0 Q (F0 m 35 ls [.int t35]) := by
          intro t35 H locs ls hf hP hD hS hl
          have hf := (ej35 t35).symm.trans hf
          refine lv_istore_n (pc := 35) hexec hb dX9_named_35 rfl hl (nle rfl) rfl (fun ls (hl : lv_has ls 4 [(2, .int t35), (0, .ref a0), (1, .int v1)]) => ?_)
          refine lv_iconst (pc := 36) hexec hb dX9_named_36 ki_0 ?_
          refine lv_istore_n (pc := 37) hexec hb dX9_named_37 rfl hl (nle rfl) rfl (fun ls (hl : lv_has ls 4 [(3, .int 0), (2, .int t35), (0, .ref a0), (1, .int v1)]) => ?_)
          obtain ⟨l38, el38, hf⟩ := bvf2 hf
          obtain ⟨v2_1, hz, hf⟩ := bd1_e hf
          have hE38 : ∀ (H : Heap) (locs : List Loc) (ls : Array Slot), va_P g.1 vwCl (w_X9_named g a0 a1 a2 u0_1 u0_2 u0_3 u0_4 u0_5 u0_6 u0_7 u0_8 u0_9 u0_10 u0_11 u0_12 u0_13 u0_14 u0_15 u0_16 u0_17 u0_18 u0_20 u0_23 u0_24 u0_25 u0_26 u0_27 u0_28 u0_29 u0_30 x0_at x0_from y1_s y2_text) H → va_D A (w_X9_named g a0 a1 a2 u0_1 u0_2 u0_3 u0_4 u0_5 u0_6 u0_7 u0_8 u0_9 u0_10 u0_11 u0_12 u0_13 u0_14 u0_15 u0_16 u0_17 u0_18 u0_20 u0_23 u0_24 u0_25 u0_26 u0_27 u0_28 u0_29 u0_30 x0_at x0_from y1_s y2_text) → va_S A s.heap H locs → lv_has ls 4 [(0, .ref a0), (1, .int v1), (2, .int v2_1)] → W p l e (RM 2 46) s m args below meth c H locs 0 0 Q (F0 m 89 ls []) := by
            intro H locs ls hP hD hS hl
            refine lv_iload_n (pc := 89) hexec hb dX9_named_89 rfl (lv_at hl 2 rfl) ?_
            refine kb_eq (pc := 90) hexec hb dX9_named_90 (tgt := 95) rfl hf (fun hc hf => ?_) (fun hc hf => ?_)
            · obtain ⟨v1_1, ev1_1, hf⟩ := bv_e hf
              refine k_iinc (pc := 95) hexec hb dX9_named_95 kq_1 hl (k := 1) rfl ev1_1 (nle rfl) rfl (fun ls (hl : lv_has ls 4 [(1, .int v1_1), (0, .ref a0), (2, .int v2_1)]) => ?_)
              refine lv_goto (pc := 98) hexec hb dX9_named_98 (tgt := 2) rfl ?_
              exact ih2 _ _ _ _ (sl1 hf hk2) hP hD hS (lv_sub hl [1, 0] rfl)
            · have hf := mk1 hf hk2
              refine lv_iload_n (pc := 93) hexec hb dX9_named_93 rfl (lv_at hl 1 rfl) ?_
              cases hf
              exact ke_i hQ hexec hb hr hP hD hS dX9_named_94 hlocks
          obtain ⟨n, hz⟩ := lq2_e hz
          have hL38 : ∀ (n : Nat) (v2 : Int32) (v3 : Int32) (H : Heap) (locs : List Loc) (ls : Array Slot), it2 l38 n v2 v3 = some v2_1 → va_P g.1 vwCl (w_X9_named g a0 a1 a2 u0_1 u0_2 u0_3 u0_4 u0_5 u0_6 u0_7 u0_8 u0_9 u0_10 u0_11 u0_12 u0_13 u0_14 u0_15 u0_16 u0_17 u0_18 u0_20 u0_23 u0_24 u0_25 u0_26 u0_27 u0_28 u0_29 u0_30 x0_at x0_from y1_s y2_text) H → va_D A (w_X9_named g a0 a1 a2 u0_1 u0_2 u0_3 u0_4 u0_5 u0_6 u0_7 u0_8 u0_9 u0_10 u0_11 u0_12 u0_13 u0_14 u0_15 u0_16 u0_17 u0_18 u0_20 u0_23 u0_24 u0_25 u0_26 u0_27 u0_28 u0_29 u0_30 x0_at x0_from y1_s y2_text) → va_S A s.heap H locs → lv_has ls 4 [(0, .ref a0), (1, .int v1), (2, .int v2), (3, .int v3)] → W p l e (RM 2 46) s m args below meth c H locs 0 0 Q (F0 m 38 ls []) := by
            intro n
            induction n with
            | zero =>
              intro v2 v3 H locs ls hf hP hD hS hl
              exact it2_0 hf
            | succ n38 ih38 =>
              intro v2 v3 H locs ls hf hP hD hS hl
              obtain ⟨q38, hf, hk38⟩ := it2_e hf
              have hf := (el38 v2 v3).symm.trans hf
              refine lv_iload_n (pc := 38) hexec hb dX9_named_38 rfl (lv_at hl 3 rfl) ?_
              refine lv_aload_n (pc := 39) hexec hb dX9_named_39 rfl (lv_at hl 0 rfl) ?_
              refine kg_get (pc := 40) hexec hb (own := RX9) hWX9 hown hG hP 0 rfl rfl 21 (nle rfl) (hts _ (List.mem_cons_of_mem _ (List.mem_append_left _ (List.mem_of_getElem? (i := 1) rfl)))) rfl rfl dX9_named_40 ?_
              refine lv_aload_n (pc := 43) hexec hb dX9_named_43 rfl (lv_at hl 0 rfl) ?_
              refine kg_get (pc := 44) hexec hb (own := RX9) hWX9 hown hG hP 0 rfl rfl 22 (nle rfl) (hts _ (List.mem_cons_of_mem _ (List.mem_append_left _ (List.mem_of_getElem? (i := 2) rfl)))) rfl rfl dX9_named_44 ?_
              refine lv_isub (pc := 47) hexec hb dX9_named_47 ?_
              refine ki_ge (pc := 48) hexec hb dX9_named_48 (tgt := 89) rfl hf (fun hc hf => ?_) (fun hc hf => ?_)
              · cases sr2 hf hk38
                exact hE38 _ _ _ hP hD hS (lv_sub hl [0, 1, 2] rfl)
              · refine lv_iload_n (pc := 51) hexec hb dX9_named_51 rfl (lv_at hl 2 rfl) ?_
                refine kb_eq (pc := 52) hexec hb dX9_named_52 (tgt := 89) rfl hf (fun hc hf => ?_) (fun hc hf => ?_)
                · cases sr2 hf hk38
                  exact hE38 _ _ _ hP hD hS (lv_sub hl [0, 1, 2] rfl)
                · refine lv_aload_n (pc := 55) hexec hb dX9_named_55 rfl (lv_at hl 0 rfl) ?_
                  refine lv_iload_n (pc := 56) hexec hb dX9_named_56 rfl (lv_at hl 1 rfl) ?_
                  refine lv_iconst (pc := 57) hexec hb dX9_named_57 ki_4 ?_
                  refine lv_iload_n (pc := 58) hexec hb dX9_named_58 rfl (lv_at hl 3 rfl) ?_
                  refine lv_iadd (pc := 59) hexec hb dX9_named_59 ?_
                  obtain ⟨r60, hc, hf⟩ := bd1_e hf
                  refine kVp (pc := 60) (S := ⟨hexec, hb, hml, hown, hts⟩) hP hD hG hA hS [0, 1] [2] [1, 2, 0] (w2 := (w_X9_named g a0 a1 a2 u0_1 u0_2 u0_3 u0_4 u0_5 u0_6 u0_7 u0_8 u0_9 u0_10 u0_11 u0_12 u0_13 u0_14 u0_15 u0_16 u0_17 u0_18 u0_20 u0_23 u0_24 u0_25 u0_26 u0_27 u0_28 u0_29 u0_30 x0_at x0_from y1_s y2_text)) rfl rfl rfl rfl rfl rfl (by decide) (c_X9_of l g a0 a1 _ u0_1 u0_2 u0_3 u0_4 u0_5 u0_6 u0_7 u0_8 u0_9 u0_10 u0_11 u0_12 u0_13 u0_14 u0_15 u0_16 u0_17 u0_18 (.ref a2) u0_20 (.int x0_at) (.int x0_from) u0_23 u0_24 u0_25 u0_26 u0_27 u0_28 u0_29 u0_30 y1_s v1 (4 + v3) r60 hc) gX9_named_X9_of rfl hv_X9_of ⟨nle rfl, nle rfl⟩ 9 0 rfl rfl rfl (rest := []) rfl rfl hl.1 (nle rfl) dX9_named_60 (fun H locs hP hD hS => ?_)
                  refine lv_aload_n (pc := 63) hexec hb dX9_named_63 rfl (lv_at hl 0 rfl) ?_
                  refine kg_get (pc := 64) hexec hb (own := RX9) hWX9 hown hG hP 0 rfl rfl 19 (nle rfl) (hts _ (List.mem_cons_of_mem _ (List.mem_append_left _ (List.mem_of_getElem? (i := 3) rfl)))) rfl rfl dX9_named_64 ?_
                  refine lv_aload_n (pc := 67) hexec hb dX9_named_67 rfl (lv_at hl 0 rfl) ?_
                  refine kg_get (pc := 68) hexec hb (own := RX9) hWX9 hown hG hP 0 rfl rfl 22 (nle rfl) (hts _ (List.mem_cons_of_mem _ (List.mem_append_left _ (List.mem_of_getElem? (i := 2) rfl)))) rfl rfl dX9_named_68 ?_
                  refine lv_iload_n (pc := 71) hexec hb dX9_named_71 rfl (lv_at hl 3 rfl) ?_
                  refine lv_iadd (pc := 72) hexec hb dX9_named_72 ?_
                  refine kr_iald (pc := 73) hexec hb hG hP 2 rfl hf dX9_named_73 (fun hf => ?_)
                  obtain ⟨j82, ej82, hf⟩ := bvf1 hf
                  have hj82 : ∀ (t82 : Int32) (H : Heap) (locs : List Loc) (ls : Array Slot), j82 t82 = some q38 → va_P g.1 vwCl (w_X9_named g a0 a1 a2 u0_1 u0_2 u0_3 u0_4 u0_5 u0_6 u0_7 u0_8 u0_9 u0_10 u0_11 u0_12 u0_13 u0_14 u0_15 u0_16 u0_17 u0_18 u0_20 u0_23 u0_24 u0_25 u0_26 u0_27 u0_28 u0_29 u0_30 x0_at x0_from y1_s y2_text) H → va_D A (w_X9_named g a0 a1 a2 u0_1 u0_2 u0_3 u0_4 u0_5 u0_6 u0_7 u0_8 u0_9 u0_10 u0_11 u0_12 u0_13 u0_14 u0_15 u0_16 u0_17 u0_18 u0_20 u0_23 u0_24 u0_25 u0_26 u0_27 u0_28 u0_29 u0_30 x0_at x0_from y1_s y2_text) → va_S A s.heap H locs → lv_has ls 4 [(0, .ref a0), (1, .int v1), (3, .int v3)] → W p l e (RM 2 46) s m args below meth c H locs 0 0 Q (F0 m 82 ls [.int t82]) := by
                    intro t82 H locs ls hf hP hD hS hl
                    have hf := (ej82 t82).symm.trans hf
                    refine lv_istore_n (pc := 82) hexec hb dX9_named_82 rfl hl (nle rfl) rfl (fun ls (hl : lv_has ls 4 [(2, .int t82), (0, .ref a0), (1, .int v1), (3, .int v3)]) => ?_)
                    obtain ⟨v3_1, ev3_1, hf⟩ := bv_e hf
                    refine k_iinc (pc := 83) hexec hb dX9_named_83 kq_1 hl (k := 3) rfl ev3_1 (nle rfl) rfl (fun ls (hl : lv_has ls 4 [(3, .int v3_1), (2, .int t82), (0, .ref a0), (1, .int v1)]) => ?_)
                    refine lv_goto (pc := 86) hexec hb dX9_named_86 (tgt := 38) rfl ?_
                    exact ih38 _ _ _ _ _ (sl2 hf hk38) hP hD hS (lv_sub hl [2, 3, 1, 0] rfl)
                  refine ki_ne (pc := 74) hexec hb dX9_named_74 (tgt := 81) rfl hf (fun hc hf => ?_) (fun hc hf => ?_)
                  · refine lv_iconst (pc := 81) hexec hb dX9_named_81 ki_0 ?_
                    exact hj82 _ _ _ _ hf hP hD hS (lv_sub hl [0, 1, 3] rfl)
                  · refine lv_iconst (pc := 77) hexec hb dX9_named_77 ki_1 ?_
                    refine lv_goto (pc := 78) hexec hb dX9_named_78 (tgt := 82) rfl ?_
                    exact hj82 _ _ _ _ hf hP hD hS (lv_sub hl [0, 1, 3] rfl)
          exact hL38 n _ _ _ _ _ hz hP hD hS (lv_sub hl [2, 3, 1, 0] rfl)
        refine ki_ne (pc := 27) hexec hb dX9_named_27 (tgt := 34) rfl hf (fun hc hf => ?_) (fun hc hf => ?_)
        · refine lv_iconst (pc := 34) hexec hb dX9_named_34 ki_0 ?_
          exact hj35 _ _ _ _ hf hP hD hS (lv_sub hl [0, 1] rfl)
        · refine lv_iconst (pc := 30) hexec hb dX9_named_30 ki_1 ?_
          refine lv_goto (pc := 31) hexec hb dX9_named_31 (tgt := 35) rfl ?_
          exact hj35 _ _ _ _ hf hP hD hS (lv_sub hl [0, 1] rfl)
  exact hL2 n _ _ _ _ hz hP hD hS (lv_sub hl [1, 0] rfl)
abbrev w_X9_readsLand (g : GE) (a0 a1 a2 : Nat) (u0_1 u0_2 u0_3 u0_4 u0_5 u0_6 u0_7 u0_8 u0_9 u0_10 u0_11 u0_12 u0_13 u0_14 u0_15 u0_16 u0_17 u0_18 u0_25 u0_26 u0_27 u0_28 u0_29 u0_30 : Value) (x0_length : Int32) (x0_at : Int32) (x0_from : Int32) (x0_error : Int32) (x0_errorAt : Int32) (y1_s : Nat → Int32) (y2_text : Nat → Int32) : va_W := [(a0, .inr (9, [.ref a1, u0_1, u0_2, u0_3, u0_4, u0_5, u0_6, u0_7, u0_8, u0_9, u0_10, u0_11, u0_12, u0_13, u0_14, u0_15, u0_16, u0_17, u0_18, .ref a2, .int x0_length, .int x0_at, .int x0_from, .int x0_error, .int x0_errorAt, u0_25, u0_26, u0_27, u0_28, u0_29, u0_30])), (a1, .inl (g.2.1 0, 552, .inl y1_s)), (a2, .inl (g.2.1 0, 500, .inl y2_text))]
set_option maxRecDepth 20000 in
theorem c_X9_readsLand (l : Launch) (g : GE) (a0 a1 a2 : Nat) (sz : Nat) (u0_1 u0_2 u0_3 u0_4 u0_5 u0_6 u0_7 u0_8 u0_9 u0_10 u0_11 u0_12 u0_13 u0_14 u0_15 u0_16 u0_17 u0_18 u0_25 u0_26 u0_27 u0_28 u0_29 u0_30 : Value) (x0_length : Int32) (x0_at : Int32) (x0_from : Int32) (x0_error : Int32) (x0_errorAt : Int32) (y1_s : Nat → Int32) (y2_text : Nat → Int32)   (o_x0_at : Int32) (o_x0_from : Int32) (o_x0_error : Int32) (o_x0_errorAt : Int32) (o_y1_s : Nat → Int32) (hf : f_X9_readsLand x0_length x0_at x0_from x0_error x0_errorAt y1_s y2_text = some (o_x0_at, o_x0_from, o_x0_error, o_x0_errorAt, o_y1_s)) : MI l g yX9_readsLand wsX9_readsLand 4 92 [.ref a0] (w_X9_readsLand g a0 a1 a2 u0_1 u0_2 u0_3 u0_4 u0_5 u0_6 u0_7 u0_8 u0_9 u0_10 u0_11 u0_12 u0_13 u0_14 u0_15 u0_16 u0_17 u0_18 u0_25 u0_26 u0_27 u0_28 u0_29 u0_30 x0_length x0_at x0_from x0_error x0_errorAt y1_s y2_text) sz none (w_X9_readsLand g a0 a1 a2 u0_1 u0_2 u0_3 u0_4 u0_5 u0_6 u0_7 u0_8 u0_9 u0_10 u0_11 u0_12 u0_13 u0_14 u0_15 u0_16 u0_17 u0_18 u0_25 u0_26 u0_27 u0_28 u0_29 u0_30 x0_length o_x0_at o_x0_from o_x0_error o_x0_errorAt o_y1_s y2_text) := by
  refine MI.start (cc := cX9_readsLand) (maxL := 5) (ret := none) rfl rfl (nle rfl) ?_
  intro p e s m args below meth c A ls Q hQ hexec hb hr hts hown hlocks hml hA hP hD hG hS hl
  unfold f_X9_readsLand at hf
  have hWX9 : ∀ w ∈ wsX90, w.before args s = true := fun w h => hts w (List.mem_cons_of_mem _ (List.mem_append_right _ h))
  have hS : va_S A s.heap s.heap [] := hS
  refine lv_aload_n (pc := 0) hexec hb dX9_readsLand_0 rfl (lv_at hl 0 rfl) ?_
  refine lv_iconst (pc := 1) hexec hb dX9_readsLand_1 ki_0 ?_
  refine lv_aload_n (pc := 2) hexec hb dX9_readsLand_2 rfl (lv_at hl 0 rfl) ?_
  refine kg_get (pc := 3) hexec hb (own := RX9) hWX9 hown hG hP 0 rfl rfl 0 (nle rfl) (hts _ (List.mem_cons_of_mem _ (List.mem_append_left _ (List.mem_append_left _ (List.mem_of_getElem? (i := 0) rfl))))) rfl rfl dX9_readsLand_3 ?_
  refine lv_iconst (pc := 6) hexec hb dX9_readsLand_6 ki_0 ?_
  refine kr_iald (pc := 7) hexec hb hG hP 1 rfl hf dX9_readsLand_7 (fun hf => ?_)
  refine lv_iconst (pc := 8) hexec hb dX9_readsLand_8 ki_1 ?_
  refine lv_isub (pc := 9) hexec hb dX9_readsLand_9 ?_
  obtain ⟨r10, x0_at_1, x0_from_1, x0_error_1, x0_errorAt_1, hc, hf⟩ := bd5_e hf
  refine kVp (pc := 10) (S := ⟨hexec, hb, hml, hown, hts⟩) hP hD hG hA hS [0, 2] [1] [1, 0, 2] (w2 := (w_X9_readsLand g a0 a1 a2 u0_1 u0_2 u0_3 u0_4 u0_5 u0_6 u0_7 u0_8 u0_9 u0_10 u0_11 u0_12 u0_13 u0_14 u0_15 u0_16 u0_17 u0_18 u0_25 u0_26 u0_27 u0_28 u0_29 u0_30 x0_length x0_at_1 x0_from_1 x0_error_1 x0_errorAt_1 y1_s y2_text)) rfl rfl rfl rfl rfl rfl (by decide) (c_X9_number l g a0 a2 _ (.ref a1) u0_1 u0_2 u0_3 u0_4 u0_5 u0_6 u0_7 u0_8 u0_9 u0_10 u0_11 u0_12 u0_13 u0_14 u0_15 u0_16 u0_17 u0_18 u0_25 u0_26 u0_27 u0_28 u0_29 u0_30 x0_length x0_at x0_from x0_error x0_errorAt y2_text 0 ((y1_s (0 : Int32).toNatClampNeg) - 1) r10 x0_at_1 x0_from_1 x0_error_1 x0_errorAt_1 hc) gX9_readsLand_X9_number rfl hv_X9_number ⟨nle rfl, nle rfl⟩ 9 0 rfl rfl rfl (rest := []) rfl rfl hl.1 (nle rfl) dX9_readsLand_10 (fun H locs hP hD hS => ?_)
  refine lv_istore_n (pc := 13) hexec hb dX9_readsLand_13 rfl hl (nle rfl) rfl (fun ls (hl : lv_has ls 5 [(1, .int r10), (0, .ref a0)]) => ?_)
  refine lv_aload_n (pc := 14) hexec hb dX9_readsLand_14 rfl (lv_at hl 1 rfl) ?_
  refine lv_iconst (pc := 15) hexec hb dX9_readsLand_15 ki_0 ?_
  refine lv_aload_n (pc := 16) hexec hb dX9_readsLand_16 rfl (lv_at hl 1 rfl) ?_
  refine kg_get (pc := 17) hexec hb (own := RX9) hWX9 hown hG hP 0 rfl rfl 0 (nle rfl) (hts _ (List.mem_cons_of_mem _ (List.mem_append_left _ (List.mem_append_left _ (List.mem_of_getElem? (i := 0) rfl))))) rfl rfl dX9_readsLand_17 ?_
  refine lv_iconst (pc := 20) hexec hb dX9_readsLand_20 ki_1 ?_
  refine kr_iald (pc := 21) hexec hb hG hP 1 rfl hf dX9_readsLand_21 (fun hf => ?_)
  refine lv_iconst (pc := 22) hexec hb dX9_readsLand_22 ki_1 ?_
  refine lv_isub (pc := 23) hexec hb dX9_readsLand_23 ?_
  obtain ⟨r24, x0_at_2, x0_from_2, x0_error_2, x0_errorAt_2, hc, hf⟩ := bd5_e hf
  refine kVp (pc := 24) (S := ⟨hexec, hb, hml, hown, hts⟩) hP hD hG hA hS [0, 2] [1] [1, 0, 2] (w2 := (w_X9_readsLand g a0 a1 a2 u0_1 u0_2 u0_3 u0_4 u0_5 u0_6 u0_7 u0_8 u0_9 u0_10 u0_11 u0_12 u0_13 u0_14 u0_15 u0_16 u0_17 u0_18 u0_25 u0_26 u0_27 u0_28 u0_29 u0_30 x0_length x0_at_2 x0_from_2 x0_error_2 x0_errorAt_2 y1_s y2_text)) rfl rfl rfl rfl rfl rfl (by decide) (c_X9_number l g a0 a2 _ (.ref a1) u0_1 u0_2 u0_3 u0_4 u0_5 u0_6 u0_7 u0_8 u0_9 u0_10 u0_11 u0_12 u0_13 u0_14 u0_15 u0_16 u0_17 u0_18 u0_25 u0_26 u0_27 u0_28 u0_29 u0_30 x0_length x0_at_1 x0_from_1 x0_error_1 x0_errorAt_1 y2_text 0 ((y1_s (1 : Int32).toNatClampNeg) - 1) r24 x0_at_2 x0_from_2 x0_error_2 x0_errorAt_2 hc) gX9_readsLand_X9_number rfl hv_X9_number ⟨nle rfl, nle rfl⟩ 9 0 rfl rfl rfl (rest := []) rfl rfl hl.1 (nle rfl) dX9_readsLand_24 (fun H locs hP hD hS => ?_)
  refine lv_istore_n (pc := 27) hexec hb dX9_readsLand_27 rfl hl (nle rfl) rfl (fun ls (hl : lv_has ls 5 [(2, .int r24), (1, .int r10), (0, .ref a0)]) => ?_)
  refine lv_aload_n (pc := 28) hexec hb dX9_readsLand_28 rfl (lv_at hl 2 rfl) ?_
  refine lv_iload_n (pc := 29) hexec hb dX9_readsLand_29 rfl (lv_at hl 0 rfl) ?_
  refine lv_aload_n (pc := 30) hexec hb dX9_readsLand_30 rfl (lv_at hl 2 rfl) ?_
  refine kg_get (pc := 31) hexec hb (own := RX9) hWX9 hown hG hP 0 rfl rfl 0 (nle rfl) (hts _ (List.mem_cons_of_mem _ (List.mem_append_left _ (List.mem_append_left _ (List.mem_of_getElem? (i := 0) rfl))))) rfl rfl dX9_readsLand_31 ?_
  refine lv_iconst (pc := 34) hexec hb dX9_readsLand_34 ki_1 ?_
  refine kr_iald (pc := 35) hexec hb hG hP 1 rfl hf dX9_readsLand_35 (fun hf => ?_)
  refine lv_iconst (pc := 36) hexec hb dX9_readsLand_36 ki_1 ?_
  refine lv_isub (pc := 37) hexec hb dX9_readsLand_37 ?_
  obtain ⟨r38, x0_at_3, x0_from_3, x0_error_3, x0_errorAt_3, hc, hf⟩ := bd5_e hf
  refine kVp (pc := 38) (S := ⟨hexec, hb, hml, hown, hts⟩) hP hD hG hA hS [0, 2] [1] [1, 0, 2] (w2 := (w_X9_readsLand g a0 a1 a2 u0_1 u0_2 u0_3 u0_4 u0_5 u0_6 u0_7 u0_8 u0_9 u0_10 u0_11 u0_12 u0_13 u0_14 u0_15 u0_16 u0_17 u0_18 u0_25 u0_26 u0_27 u0_28 u0_29 u0_30 x0_length x0_at_3 x0_from_3 x0_error_3 x0_errorAt_3 y1_s y2_text)) rfl rfl rfl rfl rfl rfl (by decide) (c_X9_number l g a0 a2 _ (.ref a1) u0_1 u0_2 u0_3 u0_4 u0_5 u0_6 u0_7 u0_8 u0_9 u0_10 u0_11 u0_12 u0_13 u0_14 u0_15 u0_16 u0_17 u0_18 u0_25 u0_26 u0_27 u0_28 u0_29 u0_30 x0_length x0_at_2 x0_from_2 x0_error_2 x0_errorAt_2 y2_text r24 ((y1_s (1 : Int32).toNatClampNeg) - 1) r38 x0_at_3 x0_from_3 x0_error_3 x0_errorAt_3 hc) gX9_readsLand_X9_number rfl hv_X9_number ⟨nle rfl, nle rfl⟩ 9 0 rfl rfl rfl (rest := []) rfl rfl hl.1 (nle rfl) dX9_readsLand_38 (fun H locs hP hD hS => ?_)
  refine lv_istore_n (pc := 41) hexec hb dX9_readsLand_41 rfl hl (nle rfl) rfl (fun ls (hl : lv_has ls 5 [(3, .int r38), (2, .int r24), (1, .int r10), (0, .ref a0)]) => ?_)
  refine lv_iload_n (pc := 42) hexec hb dX9_readsLand_42 rfl (lv_at hl 1 rfl) ?_
  refine lv_istore (pc := 43) hexec hb dX9_readsLand_43 hl (nle rfl) rfl (fun ls (hl : lv_has ls 5 [(4, .int r24), (3, .int r38), (2, .int r24), (1, .int r10), (0, .ref a0)]) => ?_)
  obtain ⟨l45, el45, hf⟩ := bvf2 hf
  obtain ⟨y1_s_2, hz, hf⟩ := bd1_e hf
  have hE45 : ∀ (H : Heap) (locs : List Loc) (ls : Array Slot), va_P g.1 vwCl (w_X9_readsLand g a0 a1 a2 u0_1 u0_2 u0_3 u0_4 u0_5 u0_6 u0_7 u0_8 u0_9 u0_10 u0_11 u0_12 u0_13 u0_14 u0_15 u0_16 u0_17 u0_18 u0_25 u0_26 u0_27 u0_28 u0_29 u0_30 x0_length x0_at_3 x0_from_3 x0_error_3 x0_errorAt_3 y1_s_2 y2_text) H → va_D A (w_X9_readsLand g a0 a1 a2 u0_1 u0_2 u0_3 u0_4 u0_5 u0_6 u0_7 u0_8 u0_9 u0_10 u0_11 u0_12 u0_13 u0_14 u0_15 u0_16 u0_17 u0_18 u0_25 u0_26 u0_27 u0_28 u0_29 u0_30 x0_length x0_at_3 x0_from_3 x0_error_3 x0_errorAt_3 y1_s_2 y2_text) → va_S A s.heap H locs → lv_has ls 5 [] → W p l e (RM 4 92) s m args below meth c H locs 0 0 Q (F0 m 84 ls []) := by
    intro H locs ls hP hD hS hl
    cases hf
    exact ke_v hQ hexec hb hr hP hD hS dX9_readsLand_84 hlocks
  obtain ⟨n, hz⟩ := lq2_e hz
  have hL45 : ∀ (n : Nat) (v4 : Int32) (y1_s_1 : Nat → Int32) (H : Heap) (locs : List Loc) (ls : Array Slot), it2 l45 n v4 y1_s_1 = some y1_s_2 → va_P g.1 vwCl (w_X9_readsLand g a0 a1 a2 u0_1 u0_2 u0_3 u0_4 u0_5 u0_6 u0_7 u0_8 u0_9 u0_10 u0_11 u0_12 u0_13 u0_14 u0_15 u0_16 u0_17 u0_18 u0_25 u0_26 u0_27 u0_28 u0_29 u0_30 x0_length x0_at_3 x0_from_3 x0_error_3 x0_errorAt_3 y1_s_1 y2_text) H → va_D A (w_X9_readsLand g a0 a1 a2 u0_1 u0_2 u0_3 u0_4 u0_5 u0_6 u0_7 u0_8 u0_9 u0_10 u0_11 u0_12 u0_13 u0_14 u0_15 u0_16 u0_17 u0_18 u0_25 u0_26 u0_27 u0_28 u0_29 u0_30 x0_length x0_at_3 x0_from_3 x0_error_3 x0_errorAt_3 y1_s_1 y2_text) → va_S A s.heap H locs → lv_has ls 5 [(0, .ref a0), (1, .int r10), (3, .int r38), (4, .int v4)] → W p l e (RM 4 92) s m args below meth c H locs 0 0 Q (F0 m 45 ls []) := by
    intro n
    induction n with
    | zero =>
      intro v4 y1_s_1 H locs ls hf hP hD hS hl
      exact it2_0 hf
    | succ n45 ih45 =>
      intro v4 y1_s_1 H locs ls hf hP hD hS hl
      obtain ⟨q45, hf, hk45⟩ := it2_e hf
      have hf := (el45 v4 y1_s_1).symm.trans hf
      refine lv_iload (pc := 45) hexec hb dX9_readsLand_45 (lv_at hl 3 rfl) ?_
      refine lv_iload_n (pc := 47) hexec hb dX9_readsLand_47 rfl (lv_at hl 2 rfl) ?_
      refine ki_gt (pc := 48) hexec hb dX9_readsLand_48 (tgt := 84) rfl hf (fun hc hf => ?_) (fun hc hf => ?_)
      · cases sr2 hf hk45
        exact hE45 _ _ _ hP hD hS (lv_sub hl [] rfl)
      · refine lv_aload_n (pc := 51) hexec hb dX9_readsLand_51 rfl (lv_at hl 0 rfl) ?_
        obtain ⟨r52, hc, hf⟩ := bd1_e hf
        refine kVp (pc := 52) (S := ⟨hexec, hb, hml, hown, hts⟩) hP hD hG hA hS [0] [1, 2] [2, 0, 1] (w2 := (w_X9_readsLand g a0 a1 a2 u0_1 u0_2 u0_3 u0_4 u0_5 u0_6 u0_7 u0_8 u0_9 u0_10 u0_11 u0_12 u0_13 u0_14 u0_15 u0_16 u0_17 u0_18 u0_25 u0_26 u0_27 u0_28 u0_29 u0_30 x0_length x0_at_3 x0_from_3 x0_error_3 x0_errorAt_3 y1_s_1 y2_text)) rfl rfl rfl rfl rfl rfl (by decide) (c_X9_isFine l g a0 _ (.ref a1) u0_1 u0_2 u0_3 u0_4 u0_5 u0_6 u0_7 u0_8 u0_9 u0_10 u0_11 u0_12 u0_13 u0_14 u0_15 u0_16 u0_17 u0_18 (.ref a2) (.int x0_length) (.int x0_at_3) (.int x0_from_3) (.int x0_errorAt_3) u0_25 u0_26 u0_27 u0_28 u0_29 u0_30 x0_error_3 r52 hc) gX9_readsLand_X9_isFine rfl hv_X9_isFine ⟨nle rfl, nle rfl⟩ 9 0 rfl rfl rfl (rest := []) rfl rfl hl.1 (nle rfl) dX9_readsLand_52 (fun H locs hP hD hS => ?_)
        refine kb_eq (pc := 55) hexec hb dX9_readsLand_55 (tgt := 84) rfl hf (fun hc hf => ?_) (fun hc hf => ?_)
        · cases sr2 hf hk45
          exact hE45 _ _ _ hP hD hS (lv_sub hl [] rfl)
        · refine lv_aload_n (pc := 58) hexec hb dX9_readsLand_58 rfl (lv_at hl 0 rfl) ?_
          refine kg_get (pc := 59) hexec hb (own := RX9) hWX9 hown hG hP 0 rfl rfl 0 (nle rfl) (hts _ (List.mem_cons_of_mem _ (List.mem_append_left _ (List.mem_append_left _ (List.mem_of_getElem? (i := 0) rfl))))) rfl rfl dX9_readsLand_59 ?_
          refine lv_bipush (pc := 62) hexec hb dX9_readsLand_62 kb_8 ?_
          refine lv_aload_n (pc := 64) hexec hb dX9_readsLand_64 rfl (lv_at hl 0 rfl) ?_
          refine kg_get (pc := 65) hexec hb (own := RX9) hWX9 hown hG hP 0 rfl rfl 0 (nle rfl) (hts _ (List.mem_cons_of_mem _ (List.mem_append_left _ (List.mem_append_left _ (List.mem_of_getElem? (i := 0) rfl))))) rfl rfl dX9_readsLand_65 ?_
          refine lv_iconst (pc := 68) hexec hb dX9_readsLand_68 ki_1 ?_
          refine kr_iald (pc := 69) hexec hb hG hP 1 rfl hf dX9_readsLand_69 (fun hf => ?_)
          refine lv_iload_n (pc := 70) hexec hb dX9_readsLand_70 rfl (lv_at hl 1 rfl) ?_
          refine lv_imul (pc := 71) hexec hb dX9_readsLand_71 ?_
          refine lv_iadd (pc := 72) hexec hb dX9_readsLand_72 ?_
          refine lv_iload (pc := 73) hexec hb dX9_readsLand_73 (lv_at hl 3 rfl) ?_
          refine lv_iadd (pc := 75) hexec hb dX9_readsLand_75 ?_
          refine lv_iconst (pc := 76) hexec hb dX9_readsLand_76 ki_1 ?_
          refine kw_iast (pc := 77) hexec hb hG hP hD hS 1 rfl hf dX9_readsLand_77 (fun y1_s_3 H locs hf (hP : va_P g.1 vwCl (w_X9_readsLand g a0 a1 a2 u0_1 u0_2 u0_3 u0_4 u0_5 u0_6 u0_7 u0_8 u0_9 u0_10 u0_11 u0_12 u0_13 u0_14 u0_15 u0_16 u0_17 u0_18 u0_25 u0_26 u0_27 u0_28 u0_29 u0_30 x0_length x0_at_3 x0_from_3 x0_error_3 x0_errorAt_3 y1_s_3 y2_text) H) (hD : va_D A (w_X9_readsLand g a0 a1 a2 u0_1 u0_2 u0_3 u0_4 u0_5 u0_6 u0_7 u0_8 u0_9 u0_10 u0_11 u0_12 u0_13 u0_14 u0_15 u0_16 u0_17 u0_18 u0_25 u0_26 u0_27 u0_28 u0_29 u0_30 x0_length x0_at_3 x0_from_3 x0_error_3 x0_errorAt_3 y1_s_3 y2_text)) hS => ?_)
          obtain ⟨v4_1, ev4_1, hf⟩ := bv_e hf
          refine k_iinc (pc := 78) hexec hb dX9_readsLand_78 kq_1 hl (k := 3) rfl ev4_1 (nle rfl) rfl (fun ls (hl : lv_has ls 5 [(4, .int v4_1), (0, .ref a0), (1, .int r10), (3, .int r38)]) => ?_)
          refine lv_goto (pc := 81) hexec hb dX9_readsLand_81 (tgt := 45) rfl ?_
          exact ih45 _ _ _ _ _ (sl2 hf hk45) hP hD hS (lv_sub hl [1, 2, 3, 0] rfl)
  exact hL45 n _ _ _ _ _ hz hP hD hS (lv_sub hl [4, 3, 1, 0] rfl)
abbrev w_X9_readsHarbour (g : GE) (a0 a1 a2 : Nat) (u0_1 u0_2 u0_3 u0_4 u0_5 u0_6 u0_7 u0_8 u0_9 u0_10 u0_11 u0_12 u0_13 u0_14 u0_15 u0_16 u0_17 u0_18 u0_25 u0_26 u0_27 u0_28 u0_29 u0_30 : Value) (x0_length : Int32) (x0_at : Int32) (x0_from : Int32) (x0_error : Int32) (x0_errorAt : Int32) (y1_s : Nat → Int32) (y2_text : Nat → Int32) : va_W := [(a0, .inr (9, [.ref a1, u0_1, u0_2, u0_3, u0_4, u0_5, u0_6, u0_7, u0_8, u0_9, u0_10, u0_11, u0_12, u0_13, u0_14, u0_15, u0_16, u0_17, u0_18, .ref a2, .int x0_length, .int x0_at, .int x0_from, .int x0_error, .int x0_errorAt, u0_25, u0_26, u0_27, u0_28, u0_29, u0_30])), (a1, .inl (g.2.1 0, 552, .inl y1_s)), (a2, .inl (g.2.1 0, 500, .inl y2_text))]
set_option maxRecDepth 20000 in
theorem c_X9_readsHarbour (l : Launch) (g : GE) (a0 a1 a2 : Nat) (sz : Nat) (u0_1 u0_2 u0_3 u0_4 u0_5 u0_6 u0_7 u0_8 u0_9 u0_10 u0_11 u0_12 u0_13 u0_14 u0_15 u0_16 u0_17 u0_18 u0_25 u0_26 u0_27 u0_28 u0_29 u0_30 : Value) (x0_length : Int32) (x0_at : Int32) (x0_from : Int32) (x0_error : Int32) (x0_errorAt : Int32) (y1_s : Nat → Int32) (y2_text : Nat → Int32)   (o_x0_at : Int32) (o_x0_from : Int32) (o_x0_error : Int32) (o_x0_errorAt : Int32) (o_y1_s : Nat → Int32) (hf : f_X9_readsHarbour x0_length x0_at x0_from x0_error x0_errorAt y1_s y2_text = some (o_x0_at, o_x0_from, o_x0_error, o_x0_errorAt, o_y1_s)) : MI l g yX9_readsHarbour wsX9_readsHarbour 6 143 [.ref a0] (w_X9_readsHarbour g a0 a1 a2 u0_1 u0_2 u0_3 u0_4 u0_5 u0_6 u0_7 u0_8 u0_9 u0_10 u0_11 u0_12 u0_13 u0_14 u0_15 u0_16 u0_17 u0_18 u0_25 u0_26 u0_27 u0_28 u0_29 u0_30 x0_length x0_at x0_from x0_error x0_errorAt y1_s y2_text) sz none (w_X9_readsHarbour g a0 a1 a2 u0_1 u0_2 u0_3 u0_4 u0_5 u0_6 u0_7 u0_8 u0_9 u0_10 u0_11 u0_12 u0_13 u0_14 u0_15 u0_16 u0_17 u0_18 u0_25 u0_26 u0_27 u0_28 u0_29 u0_30 x0_length o_x0_at o_x0_from o_x0_error o_x0_errorAt o_y1_s y2_text) := by
  refine MI.start (cc := cX9_readsHarbour) (maxL := 9) (ret := none) rfl rfl (nle rfl) ?_
  intro p e s m args below meth c A ls Q hQ hexec hb hr hts hown hlocks hml hA hP hD hG hS hl
  unfold f_X9_readsHarbour at hf
  have hWX9 : ∀ w ∈ wsX90, w.before args s = true := fun w h => hts w (List.mem_cons_of_mem _ (List.mem_append_right _ h))
  have hS : va_S A s.heap s.heap [] := hS
  refine lv_aload_n (pc := 0) hexec hb dX9_readsHarbour_0 rfl (lv_at hl 0 rfl) ?_
  obtain ⟨x0_at_1, x0_from_1, x0_error_1, x0_errorAt_1, hc, hf⟩ := bd4_e hf
  refine kVp (pc := 1) (S := ⟨hexec, hb, hml, hown, hts⟩) hP hD hG hA hS [0, 2] [1] [1, 0, 2] (w2 := (w_X9_readsHarbour g a0 a1 a2 u0_1 u0_2 u0_3 u0_4 u0_5 u0_6 u0_7 u0_8 u0_9 u0_10 u0_11 u0_12 u0_13 u0_14 u0_15 u0_16 u0_17 u0_18 u0_25 u0_26 u0_27 u0_28 u0_29 u0_30 x0_length x0_at_1 x0_from_1 x0_error_1 x0_errorAt_1 y1_s y2_text)) rfl rfl rfl rfl rfl rfl (by decide) (c_X9_name l g a0 a2 _ (.ref a1) u0_1 u0_2 u0_3 u0_4 u0_5 u0_6 u0_7 u0_8 u0_9 u0_10 u0_11 u0_12 u0_13 u0_14 u0_15 u0_16 u0_17 u0_18 u0_25 u0_26 u0_27 u0_28 u0_29 u0_30 x0_length x0_at x0_from x0_error x0_errorAt y2_text x0_at_1 x0_from_1 x0_error_1 x0_errorAt_1 hc) gX9_readsHarbour_X9_name rfl hv_X9_name ⟨nle rfl, nle rfl⟩ 9 0 rfl rfl rfl (rest := []) rfl rfl hl.1 (nle rfl) dX9_readsHarbour_1 (fun H locs hP hD hS => ?_)
  refine lv_aload_n (pc := 4) hexec hb dX9_readsHarbour_4 rfl (lv_at hl 0 rfl) ?_
  refine kg_get (pc := 5) hexec hb (own := RX9) hWX9 hown hG hP 0 rfl rfl 22 (nle rfl) (hts _ (List.mem_cons_of_mem _ (List.mem_append_left _ (List.mem_append_left _ (List.mem_of_getElem? (i := 0) rfl))))) rfl rfl dX9_readsHarbour_5 ?_
  refine lv_istore_n (pc := 8) hexec hb dX9_readsHarbour_8 rfl hl (nle rfl) rfl (fun ls (hl : lv_has ls 9 [(1, .int x0_from_1), (0, .ref a0)]) => ?_)
  refine lv_aload_n (pc := 9) hexec hb dX9_readsHarbour_9 rfl (lv_at hl 1 rfl) ?_
  refine kg_get (pc := 10) hexec hb (own := RX9) hWX9 hown hG hP 0 rfl rfl 21 (nle rfl) (hts _ (List.mem_cons_of_mem _ (List.mem_append_left _ (List.mem_append_left _ (List.mem_of_getElem? (i := 1) rfl))))) rfl rfl dX9_readsHarbour_10 ?_
  refine lv_aload_n (pc := 13) hexec hb dX9_readsHarbour_13 rfl (lv_at hl 1 rfl) ?_
  refine kg_get (pc := 14) hexec hb (own := RX9) hWX9 hown hG hP 0 rfl rfl 22 (nle rfl) (hts _ (List.mem_cons_of_mem _ (List.mem_append_left _ (List.mem_append_left _ (List.mem_of_getElem? (i := 0) rfl))))) rfl rfl dX9_readsHarbour_14 ?_
  refine lv_isub (pc := 17) hexec hb dX9_readsHarbour_17 ?_
  obtain ⟨v2, ev2, hf⟩ := bv_e hf
  refine kn_i ev2 ?_
  refine lv_istore_n (pc := 18) hexec hb dX9_readsHarbour_18 rfl hl (nle rfl) rfl (fun ls (hl : lv_has ls 9 [(2, .int v2), (1, .int x0_from_1), (0, .ref a0)]) => ?_)
  refine lv_aload_n (pc := 19) hexec hb dX9_readsHarbour_19 rfl (lv_at hl 2 rfl) ?_
  refine lv_aload_n (pc := 20) hexec hb dX9_readsHarbour_20 rfl (lv_at hl 2 rfl) ?_
  obtain ⟨r21, hc, hf⟩ := bd1_e hf
  refine kVp (pc := 21) (S := ⟨hexec, hb, hml, hown, hts⟩) hP hD hG hA hS [0] [1, 2] [2, 0, 1] (w2 := (w_X9_readsHarbour g a0 a1 a2 u0_1 u0_2 u0_3 u0_4 u0_5 u0_6 u0_7 u0_8 u0_9 u0_10 u0_11 u0_12 u0_13 u0_14 u0_15 u0_16 u0_17 u0_18 u0_25 u0_26 u0_27 u0_28 u0_29 u0_30 x0_length x0_at_1 x0_from_1 x0_error_1 x0_errorAt_1 y1_s y2_text)) rfl rfl rfl rfl rfl rfl (by decide) (c_X9_isFine l g a0 _ (.ref a1) u0_1 u0_2 u0_3 u0_4 u0_5 u0_6 u0_7 u0_8 u0_9 u0_10 u0_11 u0_12 u0_13 u0_14 u0_15 u0_16 u0_17 u0_18 (.ref a2) (.int x0_length) (.int x0_at_1) (.int x0_from_1) (.int x0_errorAt_1) u0_25 u0_26 u0_27 u0_28 u0_29 u0_30 x0_error_1 r21 hc) gX9_readsHarbour_X9_isFine rfl hv_X9_isFine ⟨nle rfl, nle rfl⟩ 9 0 rfl rfl rfl (rest := [.ref a0]) rfl rfl hl.1 (nle rfl) dX9_readsHarbour_21 (fun H locs hP hD hS => ?_)
  obtain ⟨j40, ej40, hf⟩ := bvf1 hf
  have hj40 : ∀ (t40 : Int32) (H : Heap) (locs : List Loc) (ls : Array Slot), j40 t40 = some (o_x0_at, o_x0_from, o_x0_error, o_x0_errorAt, o_y1_s) → va_P g.1 vwCl (w_X9_readsHarbour g a0 a1 a2 u0_1 u0_2 u0_3 u0_4 u0_5 u0_6 u0_7 u0_8 u0_9 u0_10 u0_11 u0_12 u0_13 u0_14 u0_15 u0_16 u0_17 u0_18 u0_25 u0_26 u0_27 u0_28 u0_29 u0_30 x0_length x0_at_1 x0_from_1 x0_error_1 x0_errorAt_1 y1_s y2_text) H → va_D A (w_X9_readsHarbour g a0 a1 a2 u0_1 u0_2 u0_3 u0_4 u0_5 u0_6 u0_7 u0_8 u0_9 u0_10 u0_11 u0_12 u0_13 u0_14 u0_15 u0_16 u0_17 u0_18 u0_25 u0_26 u0_27 u0_28 u0_29 u0_30 x0_length x0_at_1 x0_from_1 x0_error_1 x0_errorAt_1 y1_s y2_text) → va_S A s.heap H locs → lv_has ls 9 [(0, .ref a0), (1, .int x0_from_1), (2, .int v2)] → W p l e (RM 6 143) s m args below meth c H locs 0 0 Q (F0 m 40 ls [.int t40, .ref a0]) := by
    intro t40 H locs ls hf hP hD hS hl
    have hf := (ej40 t40).symm.trans hf
    refine lv_iconst (pc := 40) hexec hb dX9_readsHarbour_40 ki_3 ?_
    obtain ⟨x0_error_2, x0_errorAt_2, hc, hf⟩ := bd2_e hf
    refine kVp (pc := 41) (S := ⟨hexec, hb, hml, hown, hts⟩) hP hD hG hA hS [0] [1, 2] [2, 0, 1] (w2 := (w_X9_readsHarbour g a0 a1 a2 u0_1 u0_2 u0_3 u0_4 u0_5 u0_6 u0_7 u0_8 u0_9 u0_10 u0_11 u0_12 u0_13 u0_14 u0_15 u0_16 u0_17 u0_18 u0_25 u0_26 u0_27 u0_28 u0_29 u0_30 x0_length x0_at_1 x0_from_1 x0_error_2 x0_errorAt_2 y1_s y2_text)) rfl rfl rfl rfl rfl rfl (by decide) (c_X9_failsIf l g a0 _ (.ref a1) u0_1 u0_2 u0_3 u0_4 u0_5 u0_6 u0_7 u0_8 u0_9 u0_10 u0_11 u0_12 u0_13 u0_14 u0_15 u0_16 u0_17 u0_18 (.ref a2) (.int x0_length) (.int x0_at_1) u0_25 u0_26 u0_27 u0_28 u0_29 u0_30 x0_from_1 x0_error_1 x0_errorAt_1 t40 3 x0_error_2 x0_errorAt_2 hc) gX9_readsHarbour_X9_failsIf rfl hv_X9_failsIf ⟨nle rfl, nle rfl⟩ 9 0 rfl rfl rfl (rest := []) rfl rfl hl.1 (nle rfl) dX9_readsHarbour_41 (fun H locs hP hD hS => ?_)
    refine lv_aload_n (pc := 44) hexec hb dX9_readsHarbour_44 rfl (lv_at hl 0 rfl) ?_
    refine lv_iconst (pc := 45) hexec hb dX9_readsHarbour_45 ki_0 ?_
    refine lv_aload_n (pc := 46) hexec hb dX9_readsHarbour_46 rfl (lv_at hl 0 rfl) ?_
    refine kg_get (pc := 47) hexec hb (own := RX9) hWX9 hown hG hP 0 rfl rfl 0 (nle rfl) (hts _ (List.mem_cons_of_mem _ (List.mem_append_left _ (List.mem_append_left _ (List.mem_of_getElem? (i := 2) rfl))))) rfl rfl dX9_readsHarbour_47 ?_
    refine lv_iconst (pc := 50) hexec hb dX9_readsHarbour_50 ki_0 ?_
    refine kr_iald (pc := 51) hexec hb hG hP 1 rfl hf dX9_readsHarbour_51 (fun hf => ?_)
    refine lv_iconst (pc := 52) hexec hb dX9_readsHarbour_52 ki_1 ?_
    refine lv_isub (pc := 53) hexec hb dX9_readsHarbour_53 ?_
    obtain ⟨r54, x0_at_2, x0_from_2, x0_error_3, x0_errorAt_3, hc, hf⟩ := bd5_e hf
    refine kVp (pc := 54) (S := ⟨hexec, hb, hml, hown, hts⟩) hP hD hG hA hS [0, 2] [1] [1, 0, 2] (w2 := (w_X9_readsHarbour g a0 a1 a2 u0_1 u0_2 u0_3 u0_4 u0_5 u0_6 u0_7 u0_8 u0_9 u0_10 u0_11 u0_12 u0_13 u0_14 u0_15 u0_16 u0_17 u0_18 u0_25 u0_26 u0_27 u0_28 u0_29 u0_30 x0_length x0_at_2 x0_from_2 x0_error_3 x0_errorAt_3 y1_s y2_text)) rfl rfl rfl rfl rfl rfl (by decide) (c_X9_number l g a0 a2 _ (.ref a1) u0_1 u0_2 u0_3 u0_4 u0_5 u0_6 u0_7 u0_8 u0_9 u0_10 u0_11 u0_12 u0_13 u0_14 u0_15 u0_16 u0_17 u0_18 u0_25 u0_26 u0_27 u0_28 u0_29 u0_30 x0_length x0_at_1 x0_from_1 x0_error_2 x0_errorAt_2 y2_text 0 ((y1_s (0 : Int32).toNatClampNeg) - 1) r54 x0_at_2 x0_from_2 x0_error_3 x0_errorAt_3 hc) gX9_readsHarbour_X9_number rfl hv_X9_number ⟨nle rfl, nle rfl⟩ 9 0 rfl rfl rfl (rest := []) rfl rfl hl.1 (nle rfl) dX9_readsHarbour_54 (fun H locs hP hD hS => ?_)
    refine lv_istore_n (pc := 57) hexec hb dX9_readsHarbour_57 rfl hl (nle rfl) rfl (fun ls (hl : lv_has ls 9 [(3, .int r54), (0, .ref a0), (1, .int x0_from_1), (2, .int v2)]) => ?_)
    refine lv_aload_n (pc := 58) hexec hb dX9_readsHarbour_58 rfl (lv_at hl 1 rfl) ?_
    refine lv_iconst (pc := 59) hexec hb dX9_readsHarbour_59 ki_0 ?_
    refine lv_aload_n (pc := 60) hexec hb dX9_readsHarbour_60 rfl (lv_at hl 1 rfl) ?_
    refine kg_get (pc := 61) hexec hb (own := RX9) hWX9 hown hG hP 0 rfl rfl 0 (nle rfl) (hts _ (List.mem_cons_of_mem _ (List.mem_append_left _ (List.mem_append_left _ (List.mem_of_getElem? (i := 2) rfl))))) rfl rfl dX9_readsHarbour_61 ?_
    refine lv_iconst (pc := 64) hexec hb dX9_readsHarbour_64 ki_1 ?_
    refine kr_iald (pc := 65) hexec hb hG hP 1 rfl hf dX9_readsHarbour_65 (fun hf => ?_)
    refine lv_iconst (pc := 66) hexec hb dX9_readsHarbour_66 ki_1 ?_
    refine lv_isub (pc := 67) hexec hb dX9_readsHarbour_67 ?_
    obtain ⟨r68, x0_at_3, x0_from_3, x0_error_4, x0_errorAt_4, hc, hf⟩ := bd5_e hf
    refine kVp (pc := 68) (S := ⟨hexec, hb, hml, hown, hts⟩) hP hD hG hA hS [0, 2] [1] [1, 0, 2] (w2 := (w_X9_readsHarbour g a0 a1 a2 u0_1 u0_2 u0_3 u0_4 u0_5 u0_6 u0_7 u0_8 u0_9 u0_10 u0_11 u0_12 u0_13 u0_14 u0_15 u0_16 u0_17 u0_18 u0_25 u0_26 u0_27 u0_28 u0_29 u0_30 x0_length x0_at_3 x0_from_3 x0_error_4 x0_errorAt_4 y1_s y2_text)) rfl rfl rfl rfl rfl rfl (by decide) (c_X9_number l g a0 a2 _ (.ref a1) u0_1 u0_2 u0_3 u0_4 u0_5 u0_6 u0_7 u0_8 u0_9 u0_10 u0_11 u0_12 u0_13 u0_14 u0_15 u0_16 u0_17 u0_18 u0_25 u0_26 u0_27 u0_28 u0_29 u0_30 x0_length x0_at_2 x0_from_2 x0_error_3 x0_errorAt_3 y2_text 0 ((y1_s (1 : Int32).toNatClampNeg) - 1) r68 x0_at_3 x0_from_3 x0_error_4 x0_errorAt_4 hc) gX9_readsHarbour_X9_number rfl hv_X9_number ⟨nle rfl, nle rfl⟩ 9 0 rfl rfl rfl (rest := []) rfl rfl hl.1 (nle rfl) dX9_readsHarbour_68 (fun H locs hP hD hS => ?_)
    refine lv_istore (pc := 71) hexec hb dX9_readsHarbour_71 hl (nle rfl) rfl (fun ls (hl : lv_has ls 9 [(4, .int r68), (3, .int r54), (0, .ref a0), (1, .int x0_from_1), (2, .int v2)]) => ?_)
    refine lv_aload_n (pc := 73) hexec hb dX9_readsHarbour_73 rfl (lv_at hl 2 rfl) ?_
    refine kg_get (pc := 74) hexec hb (own := RX9) hWX9 hown hG hP 0 rfl rfl 0 (nle rfl) (hts _ (List.mem_cons_of_mem _ (List.mem_append_left _ (List.mem_append_left _ (List.mem_of_getElem? (i := 2) rfl))))) rfl rfl dX9_readsHarbour_74 ?_
    refine lv_iconst (pc := 77) hexec hb dX9_readsHarbour_77 ki_1 ?_
    refine kr_iald (pc := 78) hexec hb hG hP 1 rfl hf dX9_readsHarbour_78 (fun hf => ?_)
    refine lv_iload_n (pc := 79) hexec hb dX9_readsHarbour_79 rfl (lv_at hl 1 rfl) ?_
    refine lv_imul (pc := 80) hexec hb dX9_readsHarbour_80 ?_
    refine lv_iload (pc := 81) hexec hb dX9_readsHarbour_81 (lv_at hl 0 rfl) ?_
    refine lv_iadd (pc := 83) hexec hb dX9_readsHarbour_83 ?_
    obtain ⟨v5, ev5, hf⟩ := bv_e hf
    refine kn_i ev5 ?_
    refine lv_istore (pc := 84) hexec hb dX9_readsHarbour_84 hl (nle rfl) rfl (fun ls (hl : lv_has ls 9 [(5, .int v5), (4, .int r68), (3, .int r54), (0, .ref a0), (1, .int x0_from_1), (2, .int v2)]) => ?_)
    refine lv_aload_n (pc := 86) hexec hb dX9_readsHarbour_86 rfl (lv_at hl 3 rfl) ?_
    obtain ⟨r87, hc, hf⟩ := bd1_e hf
    refine kVp (pc := 87) (S := ⟨hexec, hb, hml, hown, hts⟩) hP hD hG hA hS [0] [1, 2] [2, 0, 1] (w2 := (w_X9_readsHarbour g a0 a1 a2 u0_1 u0_2 u0_3 u0_4 u0_5 u0_6 u0_7 u0_8 u0_9 u0_10 u0_11 u0_12 u0_13 u0_14 u0_15 u0_16 u0_17 u0_18 u0_25 u0_26 u0_27 u0_28 u0_29 u0_30 x0_length x0_at_3 x0_from_3 x0_error_4 x0_errorAt_4 y1_s y2_text)) rfl rfl rfl rfl rfl rfl (by decide) (c_X9_isFine l g a0 _ (.ref a1) u0_1 u0_2 u0_3 u0_4 u0_5 u0_6 u0_7 u0_8 u0_9 u0_10 u0_11 u0_12 u0_13 u0_14 u0_15 u0_16 u0_17 u0_18 (.ref a2) (.int x0_length) (.int x0_at_3) (.int x0_from_3) (.int x0_errorAt_4) u0_25 u0_26 u0_27 u0_28 u0_29 u0_30 x0_error_4 r87 hc) gX9_readsHarbour_X9_isFine rfl hv_X9_isFine ⟨nle rfl, nle rfl⟩ 9 0 rfl rfl rfl (rest := []) rfl rfl hl.1 (nle rfl) dX9_readsHarbour_87 (fun H locs hP hD hS => ?_)
    refine kb_ne (pc := 90) hexec hb dX9_readsHarbour_90 (tgt := 94) rfl hf (fun hc hf => ?_) (fun hc hf => ?_)
    · refine lv_aload_n (pc := 94) hexec hb dX9_readsHarbour_94 rfl (lv_at hl 3 rfl) ?_
      refine lv_aload_n (pc := 95) hexec hb dX9_readsHarbour_95 rfl (lv_at hl 3 rfl) ?_
      refine lv_iload (pc := 96) hexec hb dX9_readsHarbour_96 (lv_at hl 0 rfl) ?_
      obtain ⟨r98, hc, hf⟩ := bd1_e hf
      refine kVp (pc := 98) (S := ⟨hexec, hb, hml, hown, hts⟩) hP hD hG hA hS [0, 1] [2] [1, 2, 0] (w2 := (w_X9_readsHarbour g a0 a1 a2 u0_1 u0_2 u0_3 u0_4 u0_5 u0_6 u0_7 u0_8 u0_9 u0_10 u0_11 u0_12 u0_13 u0_14 u0_15 u0_16 u0_17 u0_18 u0_25 u0_26 u0_27 u0_28 u0_29 u0_30 x0_length x0_at_3 x0_from_3 x0_error_4 x0_errorAt_4 y1_s y2_text)) rfl rfl rfl rfl rfl rfl (by decide) (c_X9_isCoast l g a0 a1 _ u0_1 u0_2 u0_3 u0_4 u0_5 u0_6 u0_7 u0_8 u0_9 u0_10 u0_11 u0_12 u0_13 u0_14 u0_15 u0_16 u0_17 u0_18 (.ref a2) (.int x0_length) (.int x0_at_3) (.int x0_from_3) (.int x0_error_4) (.int x0_errorAt_4) u0_25 u0_26 u0_27 u0_28 u0_29 u0_30 y1_s v5 r98 hc) gX9_readsHarbour_X9_isCoast rfl hv_X9_isCoast ⟨nle rfl, nle rfl⟩ 9 0 rfl rfl rfl (rest := [.ref a0]) rfl rfl hl.1 (nle rfl) dX9_readsHarbour_98 (fun H locs hP hD hS => ?_)
      obtain ⟨j127, ej127, hf⟩ := bvf1 hf
      have hj127 : ∀ (t127 : Int32) (H : Heap) (locs : List Loc) (ls : Array Slot), j127 t127 = some (o_x0_at, o_x0_from, o_x0_error, o_x0_errorAt, o_y1_s) → va_P g.1 vwCl (w_X9_readsHarbour g a0 a1 a2 u0_1 u0_2 u0_3 u0_4 u0_5 u0_6 u0_7 u0_8 u0_9 u0_10 u0_11 u0_12 u0_13 u0_14 u0_15 u0_16 u0_17 u0_18 u0_25 u0_26 u0_27 u0_28 u0_29 u0_30 x0_length x0_at_3 x0_from_3 x0_error_4 x0_errorAt_4 y1_s y2_text) H → va_D A (w_X9_readsHarbour g a0 a1 a2 u0_1 u0_2 u0_3 u0_4 u0_5 u0_6 u0_7 u0_8 u0_9 u0_10 u0_11 u0_12 u0_13 u0_14 u0_15 u0_16 u0_17 u0_18 u0_25 u0_26 u0_27 u0_28 u0_29 u0_30 x0_length x0_at_3 x0_from_3 x0_error_4 x0_errorAt_4 y1_s y2_text) → va_S A s.heap H locs → lv_has ls 9 [(0, .ref a0), (1, .int x0_from_1), (2, .int v2), (5, .int v5)] → W p l e (RM 6 143) s m args below meth c H locs 0 0 Q (F0 m 127 ls [.int t127, .ref a0]) := by
        intro t127 H locs ls hf hP hD hS hl
        have hf := (ej127 t127).symm.trans hf
        refine lv_iconst (pc := 127) hexec hb dX9_readsHarbour_127 ki_3 ?_
        obtain ⟨x0_error_5, x0_errorAt_5, hc, hf⟩ := bd2_e hf
        refine kVp (pc := 128) (S := ⟨hexec, hb, hml, hown, hts⟩) hP hD hG hA hS [0] [1, 2] [2, 0, 1] (w2 := (w_X9_readsHarbour g a0 a1 a2 u0_1 u0_2 u0_3 u0_4 u0_5 u0_6 u0_7 u0_8 u0_9 u0_10 u0_11 u0_12 u0_13 u0_14 u0_15 u0_16 u0_17 u0_18 u0_25 u0_26 u0_27 u0_28 u0_29 u0_30 x0_length x0_at_3 x0_from_3 x0_error_5 x0_errorAt_5 y1_s y2_text)) rfl rfl rfl rfl rfl rfl (by decide) (c_X9_failsIf l g a0 _ (.ref a1) u0_1 u0_2 u0_3 u0_4 u0_5 u0_6 u0_7 u0_8 u0_9 u0_10 u0_11 u0_12 u0_13 u0_14 u0_15 u0_16 u0_17 u0_18 (.ref a2) (.int x0_length) (.int x0_at_3) u0_25 u0_26 u0_27 u0_28 u0_29 u0_30 x0_from_3 x0_error_4 x0_errorAt_4 t127 3 x0_error_5 x0_errorAt_5 hc) gX9_readsHarbour_X9_failsIf rfl hv_X9_failsIf ⟨nle rfl, nle rfl⟩ 9 0 rfl rfl rfl (rest := []) rfl rfl hl.1 (nle rfl) dX9_readsHarbour_128 (fun H locs hP hD hS => ?_)
        refine lv_iconst (pc := 131) hexec hb dX9_readsHarbour_131 ki_0 ?_
        refine lv_istore (pc := 132) hexec hb dX9_readsHarbour_132 hl (nle rfl) rfl (fun ls (hl : lv_has ls 9 [(6, .int 0), (0, .ref a0), (1, .int x0_from_1), (2, .int v2), (5, .int v5)]) => ?_)
        refine lv_aload_n (pc := 134) hexec hb dX9_readsHarbour_134 rfl (lv_at hl 1 rfl) ?_
        obtain ⟨r135, x0_at_4, x0_from_4, hc, hf⟩ := bd3_e hf
        refine kVp (pc := 135) (S := ⟨hexec, hb, hml, hown, hts⟩) hP hD hG hA hS [0, 2] [1] [1, 0, 2] (w2 := (w_X9_readsHarbour g a0 a1 a2 u0_1 u0_2 u0_3 u0_4 u0_5 u0_6 u0_7 u0_8 u0_9 u0_10 u0_11 u0_12 u0_13 u0_14 u0_15 u0_16 u0_17 u0_18 u0_25 u0_26 u0_27 u0_28 u0_29 u0_30 x0_length x0_at_4 x0_from_4 x0_error_5 x0_errorAt_5 y1_s y2_text)) rfl rfl rfl rfl rfl rfl (by decide) (c_X9_looks l g a0 a2 _ (.ref a1) u0_1 u0_2 u0_3 u0_4 u0_5 u0_6 u0_7 u0_8 u0_9 u0_10 u0_11 u0_12 u0_13 u0_14 u0_15 u0_16 u0_17 u0_18 (.int x0_errorAt_5) u0_25 u0_26 u0_27 u0_28 u0_29 u0_30 x0_length x0_at_3 x0_from_3 x0_error_5 y2_text r135 x0_at_4 x0_from_4 hc) gX9_readsHarbour_X9_looks rfl hv_X9_looks ⟨nle rfl, nle rfl⟩ 9 0 rfl rfl rfl (rest := []) rfl rfl hl.1 (nle rfl) dX9_readsHarbour_135 (fun H locs hP hD hS => ?_)
        obtain ⟨r138, hc, hf⟩ := bd1_e hf
        refine kSp (pc := 138) (S := ⟨hexec, hb, hml, hown, hts⟩) hP hD hG hA hS [] [0, 1, 2] [0, 1, 2] (w2 := (w_X9_readsHarbour g a0 a1 a2 u0_1 u0_2 u0_3 u0_4 u0_5 u0_6 u0_7 u0_8 u0_9 u0_10 u0_11 u0_12 u0_13 u0_14 u0_15 u0_16 u0_17 u0_18 u0_25 u0_26 u0_27 u0_28 u0_29 u0_30 x0_length x0_at_4 x0_from_4 x0_error_5 x0_errorAt_5 y1_s y2_text)) rfl rfl rfl rfl rfl rfl (by decide) (c_X9_isLetter l g _ r135 r138 hc) gX9_readsHarbour_X9_isLetter rfl hs_X9_isLetter ⟨nle rfl, nle rfl⟩ (rest := []) rfl rfl hl.1 (nle rfl) dX9_readsHarbour_138 (fun H locs hP hD hS => ?_)
        obtain ⟨j171, ej171, hf⟩ := bvf5 hf
        have hj171 : ∀ (v6 : Int32) (x0_at_5 : Int32) (x0_from_5 : Int32) (x0_error_6 : Int32) (x0_errorAt_6 : Int32) (H : Heap) (locs : List Loc) (ls : Array Slot), j171 v6 x0_at_5 x0_from_5 x0_error_6 x0_errorAt_6 = some (o_x0_at, o_x0_from, o_x0_error, o_x0_errorAt, o_y1_s) → va_P g.1 vwCl (w_X9_readsHarbour g a0 a1 a2 u0_1 u0_2 u0_3 u0_4 u0_5 u0_6 u0_7 u0_8 u0_9 u0_10 u0_11 u0_12 u0_13 u0_14 u0_15 u0_16 u0_17 u0_18 u0_25 u0_26 u0_27 u0_28 u0_29 u0_30 x0_length x0_at_5 x0_from_5 x0_error_6 x0_errorAt_6 y1_s y2_text) H → va_D A (w_X9_readsHarbour g a0 a1 a2 u0_1 u0_2 u0_3 u0_4 u0_5 u0_6 u0_7 u0_8 u0_9 u0_10 u0_11 u0_12 u0_13 u0_14 u0_15 u0_16 u0_17 u0_18 u0_25 u0_26 u0_27 u0_28 u0_29 u0_30 x0_length x0_at_5 x0_from_5 x0_error_6 x0_errorAt_6 y1_s y2_text) → va_S A s.heap H locs → lv_has ls 9 [(0, .ref a0), (1, .int x0_from_1), (2, .int v2), (5, .int v5), (6, .int v6)] → W p l e (RM 6 143) s m args below meth c H locs 0 0 Q (F0 m 171 ls []) := by
          intro v6 x0_at_5 x0_from_5 x0_error_6 x0_errorAt_6 H locs ls hf hP hD hS hl
          have hf := (ej171 v6 x0_at_5 x0_from_5 x0_error_6 x0_errorAt_6).symm.trans hf
          refine lv_aload_n (pc := 171) hexec hb dX9_readsHarbour_171 rfl (lv_at hl 0 rfl) ?_
          obtain ⟨r172, hc, hf⟩ := bd1_e hf
          refine kVp (pc := 172) (S := ⟨hexec, hb, hml, hown, hts⟩) hP hD hG hA hS [0] [1, 2] [2, 0, 1] (w2 := (w_X9_readsHarbour g a0 a1 a2 u0_1 u0_2 u0_3 u0_4 u0_5 u0_6 u0_7 u0_8 u0_9 u0_10 u0_11 u0_12 u0_13 u0_14 u0_15 u0_16 u0_17 u0_18 u0_25 u0_26 u0_27 u0_28 u0_29 u0_30 x0_length x0_at_5 x0_from_5 x0_error_6 x0_errorAt_6 y1_s y2_text)) rfl rfl rfl rfl rfl rfl (by decide) (c_X9_isFine l g a0 _ (.ref a1) u0_1 u0_2 u0_3 u0_4 u0_5 u0_6 u0_7 u0_8 u0_9 u0_10 u0_11 u0_12 u0_13 u0_14 u0_15 u0_16 u0_17 u0_18 (.ref a2) (.int x0_length) (.int x0_at_5) (.int x0_from_5) (.int x0_errorAt_6) u0_25 u0_26 u0_27 u0_28 u0_29 u0_30 x0_error_6 r172 hc) gX9_readsHarbour_X9_isFine rfl hv_X9_isFine ⟨nle rfl, nle rfl⟩ 9 0 rfl rfl rfl (rest := []) rfl rfl hl.1 (nle rfl) dX9_readsHarbour_172 (fun H locs hP hD hS => ?_)
          refine kb_ne (pc := 175) hexec hb dX9_readsHarbour_175 (tgt := 179) rfl hf (fun hc hf => ?_) (fun hc hf => ?_)
          · refine lv_aload_n (pc := 179) hexec hb dX9_readsHarbour_179 rfl (lv_at hl 0 rfl) ?_
            refine kg_get (pc := 180) hexec hb (own := RX9) hWX9 hown hG hP 0 rfl rfl 0 (nle rfl) (hts _ (List.mem_cons_of_mem _ (List.mem_append_left _ (List.mem_append_left _ (List.mem_of_getElem? (i := 2) rfl))))) rfl rfl dX9_readsHarbour_180 ?_
            refine lv_iconst (pc := 183) hexec hb dX9_readsHarbour_183 ki_2 ?_
            refine kr_iald (pc := 184) hexec hb hG hP 1 rfl hf dX9_readsHarbour_184 (fun hf => ?_)
            obtain ⟨v7, ev7, hf⟩ := bv_e hf
            refine kn_i ev7 ?_
            refine lv_istore (pc := 185) hexec hb dX9_readsHarbour_185 hl (nle rfl) rfl (fun ls (hl : lv_has ls 9 [(7, .int v7), (0, .ref a0), (1, .int x0_from_1), (2, .int v2), (5, .int v5), (6, .int v6)]) => ?_)
            refine lv_aload_n (pc := 187) hexec hb dX9_readsHarbour_187 rfl (lv_at hl 1 rfl) ?_
            refine lv_iload (pc := 188) hexec hb dX9_readsHarbour_188 (lv_at hl 0 rfl) ?_
            refine lv_iconst (pc := 190) hexec hb dX9_readsHarbour_190 ki_0 ?_
            refine lv_iload (pc := 191) hexec hb dX9_readsHarbour_191 (lv_at hl 4 rfl) ?_
            obtain ⟨y1_s_1, hc, hf⟩ := bd1_e hf
            refine kVp (pc := 193) (S := ⟨hexec, hb, hml, hown, hts⟩) hP hD hG hA hS [0, 1] [2] [1, 2, 0] (w2 := (w_X9_readsHarbour g a0 a1 a2 u0_1 u0_2 u0_3 u0_4 u0_5 u0_6 u0_7 u0_8 u0_9 u0_10 u0_11 u0_12 u0_13 u0_14 u0_15 u0_16 u0_17 u0_18 u0_25 u0_26 u0_27 u0_28 u0_29 u0_30 x0_length x0_at_5 x0_from_5 x0_error_6 x0_errorAt_6 y1_s_1 y2_text)) rfl rfl rfl rfl rfl rfl (by decide) (c_X9_puts l g a0 a1 _ u0_1 u0_2 u0_3 u0_4 u0_5 u0_6 u0_7 u0_8 u0_9 u0_10 u0_11 u0_12 u0_13 u0_14 u0_15 u0_16 u0_17 u0_18 (.ref a2) (.int x0_length) (.int x0_at_5) (.int x0_from_5) (.int x0_error_6) (.int x0_errorAt_6) u0_25 u0_26 u0_27 u0_28 u0_29 u0_30 y1_s v7 0 v5 y1_s_1 hc) gX9_readsHarbour_X9_puts rfl hv_X9_puts ⟨nle rfl, nle rfl⟩ 9 0 rfl rfl rfl (rest := []) rfl rfl hl.1 (nle rfl) dX9_readsHarbour_193 (fun H locs hP hD hS => ?_)
            refine lv_aload_n (pc := 196) hexec hb dX9_readsHarbour_196 rfl (lv_at hl 1 rfl) ?_
            refine lv_iload (pc := 197) hexec hb dX9_readsHarbour_197 (lv_at hl 0 rfl) ?_
            refine lv_iconst (pc := 199) hexec hb dX9_readsHarbour_199 ki_1 ?_
            refine lv_iload (pc := 200) hexec hb dX9_readsHarbour_200 (lv_at hl 5 rfl) ?_
            obtain ⟨j210, ej210, hf⟩ := bvf1 hf
            have hj210 : ∀ (t210 : Int32) (H : Heap) (locs : List Loc) (ls : Array Slot), j210 t210 = some (o_x0_at, o_x0_from, o_x0_error, o_x0_errorAt, o_y1_s) → va_P g.1 vwCl (w_X9_readsHarbour g a0 a1 a2 u0_1 u0_2 u0_3 u0_4 u0_5 u0_6 u0_7 u0_8 u0_9 u0_10 u0_11 u0_12 u0_13 u0_14 u0_15 u0_16 u0_17 u0_18 u0_25 u0_26 u0_27 u0_28 u0_29 u0_30 x0_length x0_at_5 x0_from_5 x0_error_6 x0_errorAt_6 y1_s_1 y2_text) H → va_D A (w_X9_readsHarbour g a0 a1 a2 u0_1 u0_2 u0_3 u0_4 u0_5 u0_6 u0_7 u0_8 u0_9 u0_10 u0_11 u0_12 u0_13 u0_14 u0_15 u0_16 u0_17 u0_18 u0_25 u0_26 u0_27 u0_28 u0_29 u0_30 x0_length x0_at_5 x0_from_5 x0_error_6 x0_errorAt_6 y1_s_1 y2_text) → va_S A s.heap H locs → lv_has ls 9 [(0, .ref a0), (1, .int x0_from_1), (2, .int v2), (7, .int v7)] → W p l e (RM 6 143) s m args below meth c H locs 0 0 Q (F0 m 210 ls [.int t210, .int 1, .int v7, .ref a0]) := by
              intro t210 H locs ls hf hP hD hS hl
              have hf := (ej210 t210).symm.trans hf
              obtain ⟨y1_s_2, hc, hf⟩ := bd1_e hf
              refine kVp (pc := 210) (S := ⟨hexec, hb, hml, hown, hts⟩) hP hD hG hA hS [0, 1] [2] [1, 2, 0] (w2 := (w_X9_readsHarbour g a0 a1 a2 u0_1 u0_2 u0_3 u0_4 u0_5 u0_6 u0_7 u0_8 u0_9 u0_10 u0_11 u0_12 u0_13 u0_14 u0_15 u0_16 u0_17 u0_18 u0_25 u0_26 u0_27 u0_28 u0_29 u0_30 x0_length x0_at_5 x0_from_5 x0_error_6 x0_errorAt_6 y1_s_2 y2_text)) rfl rfl rfl rfl rfl rfl (by decide) (c_X9_puts l g a0 a1 _ u0_1 u0_2 u0_3 u0_4 u0_5 u0_6 u0_7 u0_8 u0_9 u0_10 u0_11 u0_12 u0_13 u0_14 u0_15 u0_16 u0_17 u0_18 (.ref a2) (.int x0_length) (.int x0_at_5) (.int x0_from_5) (.int x0_error_6) (.int x0_errorAt_6) u0_25 u0_26 u0_27 u0_28 u0_29 u0_30 y1_s_1 v7 1 t210 y1_s_2 hc) gX9_readsHarbour_X9_puts rfl hv_X9_puts ⟨nle rfl, nle rfl⟩ 9 0 rfl rfl rfl (rest := []) rfl rfl hl.1 (nle rfl) dX9_readsHarbour_210 (fun H locs hP hD hS => ?_)
              refine lv_aload_n (pc := 213) hexec hb dX9_readsHarbour_213 rfl (lv_at hl 0 rfl) ?_
              refine lv_iload (pc := 214) hexec hb dX9_readsHarbour_214 (lv_at hl 3 rfl) ?_
              refine lv_iconst (pc := 216) hexec hb dX9_readsHarbour_216 ki_2 ?_
              refine lv_iconst (pc := 217) hexec hb dX9_readsHarbour_217 ki_m1 ?_
              obtain ⟨y1_s_3, hc, hf⟩ := bd1_e hf
              refine kVp (pc := 218) (S := ⟨hexec, hb, hml, hown, hts⟩) hP hD hG hA hS [0, 1] [2] [1, 2, 0] (w2 := (w_X9_readsHarbour g a0 a1 a2 u0_1 u0_2 u0_3 u0_4 u0_5 u0_6 u0_7 u0_8 u0_9 u0_10 u0_11 u0_12 u0_13 u0_14 u0_15 u0_16 u0_17 u0_18 u0_25 u0_26 u0_27 u0_28 u0_29 u0_30 x0_length x0_at_5 x0_from_5 x0_error_6 x0_errorAt_6 y1_s_3 y2_text)) rfl rfl rfl rfl rfl rfl (by decide) (c_X9_puts l g a0 a1 _ u0_1 u0_2 u0_3 u0_4 u0_5 u0_6 u0_7 u0_8 u0_9 u0_10 u0_11 u0_12 u0_13 u0_14 u0_15 u0_16 u0_17 u0_18 (.ref a2) (.int x0_length) (.int x0_at_5) (.int x0_from_5) (.int x0_error_6) (.int x0_errorAt_6) u0_25 u0_26 u0_27 u0_28 u0_29 u0_30 y1_s_2 v7 2 (-1) y1_s_3 hc) gX9_readsHarbour_X9_puts rfl hv_X9_puts ⟨nle rfl, nle rfl⟩ 9 0 rfl rfl rfl (rest := []) rfl rfl hl.1 (nle rfl) dX9_readsHarbour_218 (fun H locs hP hD hS => ?_)
              refine lv_aload_n (pc := 221) hexec hb dX9_readsHarbour_221 rfl (lv_at hl 0 rfl) ?_
              refine lv_iload (pc := 222) hexec hb dX9_readsHarbour_222 (lv_at hl 3 rfl) ?_
              refine lv_iconst (pc := 224) hexec hb dX9_readsHarbour_224 ki_3 ?_
              refine lv_iload_n (pc := 225) hexec hb dX9_readsHarbour_225 rfl (lv_at hl 2 rfl) ?_
              obtain ⟨y1_s_4, hc, hf⟩ := bd1_e hf
              refine kVp (pc := 226) (S := ⟨hexec, hb, hml, hown, hts⟩) hP hD hG hA hS [0, 1] [2] [1, 2, 0] (w2 := (w_X9_readsHarbour g a0 a1 a2 u0_1 u0_2 u0_3 u0_4 u0_5 u0_6 u0_7 u0_8 u0_9 u0_10 u0_11 u0_12 u0_13 u0_14 u0_15 u0_16 u0_17 u0_18 u0_25 u0_26 u0_27 u0_28 u0_29 u0_30 x0_length x0_at_5 x0_from_5 x0_error_6 x0_errorAt_6 y1_s_4 y2_text)) rfl rfl rfl rfl rfl rfl (by decide) (c_X9_puts l g a0 a1 _ u0_1 u0_2 u0_3 u0_4 u0_5 u0_6 u0_7 u0_8 u0_9 u0_10 u0_11 u0_12 u0_13 u0_14 u0_15 u0_16 u0_17 u0_18 (.ref a2) (.int x0_length) (.int x0_at_5) (.int x0_from_5) (.int x0_error_6) (.int x0_errorAt_6) u0_25 u0_26 u0_27 u0_28 u0_29 u0_30 y1_s_3 v7 3 v2 y1_s_4 hc) gX9_readsHarbour_X9_puts rfl hv_X9_puts ⟨nle rfl, nle rfl⟩ 9 0 rfl rfl rfl (rest := []) rfl rfl hl.1 (nle rfl) dX9_readsHarbour_226 (fun H locs hP hD hS => ?_)
              refine lv_iconst (pc := 229) hexec hb dX9_readsHarbour_229 ki_0 ?_
              refine lv_istore (pc := 230) hexec hb dX9_readsHarbour_230 hl (nle rfl) rfl (fun ls (hl : lv_has ls 9 [(8, .int 0), (0, .ref a0), (1, .int x0_from_1), (2, .int v2), (7, .int v7)]) => ?_)
              obtain ⟨l232, el232, hf⟩ := bvf2 hf
              obtain ⟨y1_s_6, hz, hf⟩ := bd1_e hf
              have hE232 : ∀ (H : Heap) (locs : List Loc) (ls : Array Slot), va_P g.1 vwCl (w_X9_readsHarbour g a0 a1 a2 u0_1 u0_2 u0_3 u0_4 u0_5 u0_6 u0_7 u0_8 u0_9 u0_10 u0_11 u0_12 u0_13 u0_14 u0_15 u0_16 u0_17 u0_18 u0_25 u0_26 u0_27 u0_28 u0_29 u0_30 x0_length x0_at_5 x0_from_5 x0_error_6 x0_errorAt_6 y1_s_6 y2_text) H → va_D A (w_X9_readsHarbour g a0 a1 a2 u0_1 u0_2 u0_3 u0_4 u0_5 u0_6 u0_7 u0_8 u0_9 u0_10 u0_11 u0_12 u0_13 u0_14 u0_15 u0_16 u0_17 u0_18 u0_25 u0_26 u0_27 u0_28 u0_29 u0_30 x0_length x0_at_5 x0_from_5 x0_error_6 x0_errorAt_6 y1_s_6 y2_text) → va_S A s.heap H locs → lv_has ls 9 [(0, .ref a0)] → W p l e (RM 6 143) s m args below meth c H locs 0 0 Q (F0 m 263 ls []) := by
                intro H locs ls hP hD hS hl
                refine lv_aload_n (pc := 263) hexec hb dX9_readsHarbour_263 rfl (lv_at hl 0 rfl) ?_
                refine kg_get (pc := 264) hexec hb (own := RX9) hWX9 hown hG hP 0 rfl rfl 0 (nle rfl) (hts _ (List.mem_cons_of_mem _ (List.mem_append_left _ (List.mem_append_left _ (List.mem_of_getElem? (i := 2) rfl))))) rfl rfl dX9_readsHarbour_264 ?_
                refine lv_iconst (pc := 267) hexec hb dX9_readsHarbour_267 ki_2 ?_
                refine lv_dup2_11 (pc := 268) hexec hb dX9_readsHarbour_268 rfl rfl ?_
                refine kr_iald (pc := 269) hexec hb hG hP 1 rfl hf dX9_readsHarbour_269 (fun hf => ?_)
                refine lv_iconst (pc := 270) hexec hb dX9_readsHarbour_270 ki_1 ?_
                refine lv_iadd (pc := 271) hexec hb dX9_readsHarbour_271 ?_
                refine kw_iast (pc := 272) hexec hb hG hP hD hS 1 rfl hf dX9_readsHarbour_272 (fun y1_s_8 H locs hf (hP : va_P g.1 vwCl (w_X9_readsHarbour g a0 a1 a2 u0_1 u0_2 u0_3 u0_4 u0_5 u0_6 u0_7 u0_8 u0_9 u0_10 u0_11 u0_12 u0_13 u0_14 u0_15 u0_16 u0_17 u0_18 u0_25 u0_26 u0_27 u0_28 u0_29 u0_30 x0_length x0_at_5 x0_from_5 x0_error_6 x0_errorAt_6 y1_s_8 y2_text) H) (hD : va_D A (w_X9_readsHarbour g a0 a1 a2 u0_1 u0_2 u0_3 u0_4 u0_5 u0_6 u0_7 u0_8 u0_9 u0_10 u0_11 u0_12 u0_13 u0_14 u0_15 u0_16 u0_17 u0_18 u0_25 u0_26 u0_27 u0_28 u0_29 u0_30 x0_length x0_at_5 x0_from_5 x0_error_6 x0_errorAt_6 y1_s_8 y2_text)) hS => ?_)
                cases hf
                exact ke_v hQ hexec hb hr hP hD hS dX9_readsHarbour_273 hlocks
              obtain ⟨n, hz⟩ := lq2_e hz
              have hL232 : ∀ (n : Nat) (v8 : Int32) (y1_s_5 : Nat → Int32) (H : Heap) (locs : List Loc) (ls : Array Slot), it2 l232 n v8 y1_s_5 = some y1_s_6 → va_P g.1 vwCl (w_X9_readsHarbour g a0 a1 a2 u0_1 u0_2 u0_3 u0_4 u0_5 u0_6 u0_7 u0_8 u0_9 u0_10 u0_11 u0_12 u0_13 u0_14 u0_15 u0_16 u0_17 u0_18 u0_25 u0_26 u0_27 u0_28 u0_29 u0_30 x0_length x0_at_5 x0_from_5 x0_error_6 x0_errorAt_6 y1_s_5 y2_text) H → va_D A (w_X9_readsHarbour g a0 a1 a2 u0_1 u0_2 u0_3 u0_4 u0_5 u0_6 u0_7 u0_8 u0_9 u0_10 u0_11 u0_12 u0_13 u0_14 u0_15 u0_16 u0_17 u0_18 u0_25 u0_26 u0_27 u0_28 u0_29 u0_30 x0_length x0_at_5 x0_from_5 x0_error_6 x0_errorAt_6 y1_s_5 y2_text) → va_S A s.heap H locs → lv_has ls 9 [(0, .ref a0), (1, .int x0_from_1), (2, .int v2), (7, .int v7), (8, .int v8)] → W p l e (RM 6 143) s m args below meth c H locs 0 0 Q (F0 m 232 ls []) := by
                intro n
                induction n with
                | zero =>
                  intro v8 y1_s_5 H locs ls hf hP hD hS hl
                  exact it2_0 hf
                | succ n232 ih232 =>
                  intro v8 y1_s_5 H locs ls hf hP hD hS hl
                  obtain ⟨q232, hf, hk232⟩ := it2_e hf
                  have hf := (el232 v8 y1_s_5).symm.trans hf
                  refine lv_iload (pc := 232) hexec hb dX9_readsHarbour_232 (lv_at hl 4 rfl) ?_
                  refine lv_iload_n (pc := 234) hexec hb dX9_readsHarbour_234 rfl (lv_at hl 2 rfl) ?_
                  refine ki_ge (pc := 235) hexec hb dX9_readsHarbour_235 (tgt := 263) rfl hf (fun hc hf => ?_) (fun hc hf => ?_)
                  · cases sr2 hf hk232
                    exact hE232 _ _ _ hP hD hS (lv_sub hl [0] rfl)
                  · refine lv_aload_n (pc := 238) hexec hb dX9_readsHarbour_238 rfl (lv_at hl 0 rfl) ?_
                    refine lv_iload (pc := 239) hexec hb dX9_readsHarbour_239 (lv_at hl 3 rfl) ?_
                    refine lv_iconst (pc := 241) hexec hb dX9_readsHarbour_241 ki_4 ?_
                    refine lv_iload (pc := 242) hexec hb dX9_readsHarbour_242 (lv_at hl 4 rfl) ?_
                    refine lv_iadd (pc := 244) hexec hb dX9_readsHarbour_244 ?_
                    refine lv_aload_n (pc := 245) hexec hb dX9_readsHarbour_245 rfl (lv_at hl 0 rfl) ?_
                    refine kg_get (pc := 246) hexec hb (own := RX9) hWX9 hown hG hP 0 rfl rfl 19 (nle rfl) (hts _ (List.mem_cons_of_mem _ (List.mem_append_left _ (List.mem_append_left _ (List.mem_of_getElem? (i := 3) rfl))))) rfl rfl dX9_readsHarbour_246 ?_
                    refine lv_iload_n (pc := 249) hexec hb dX9_readsHarbour_249 rfl (lv_at hl 1 rfl) ?_
                    refine lv_iload (pc := 250) hexec hb dX9_readsHarbour_250 (lv_at hl 4 rfl) ?_
                    refine lv_iadd (pc := 252) hexec hb dX9_readsHarbour_252 ?_
                    refine kr_iald (pc := 253) hexec hb hG hP 2 rfl hf dX9_readsHarbour_253 (fun hf => ?_)
                    obtain ⟨y1_s_7, hc, hf⟩ := bd1_e hf
                    refine kVp (pc := 254) (S := ⟨hexec, hb, hml, hown, hts⟩) hP hD hG hA hS [0, 1] [2] [1, 2, 0] (w2 := (w_X9_readsHarbour g a0 a1 a2 u0_1 u0_2 u0_3 u0_4 u0_5 u0_6 u0_7 u0_8 u0_9 u0_10 u0_11 u0_12 u0_13 u0_14 u0_15 u0_16 u0_17 u0_18 u0_25 u0_26 u0_27 u0_28 u0_29 u0_30 x0_length x0_at_5 x0_from_5 x0_error_6 x0_errorAt_6 y1_s_7 y2_text)) rfl rfl rfl rfl rfl rfl (by decide) (c_X9_puts l g a0 a1 _ u0_1 u0_2 u0_3 u0_4 u0_5 u0_6 u0_7 u0_8 u0_9 u0_10 u0_11 u0_12 u0_13 u0_14 u0_15 u0_16 u0_17 u0_18 (.ref a2) (.int x0_length) (.int x0_at_5) (.int x0_from_5) (.int x0_error_6) (.int x0_errorAt_6) u0_25 u0_26 u0_27 u0_28 u0_29 u0_30 y1_s_5 v7 (4 + v8) (y2_text (x0_from_1 + v8).toNatClampNeg) y1_s_7 hc) gX9_readsHarbour_X9_puts rfl hv_X9_puts ⟨nle rfl, nle rfl⟩ 9 0 rfl rfl rfl (rest := []) rfl rfl hl.1 (nle rfl) dX9_readsHarbour_254 (fun H locs hP hD hS => ?_)
                    obtain ⟨v8_1, ev8_1, hf⟩ := bv_e hf
                    refine k_iinc (pc := 257) hexec hb dX9_readsHarbour_257 kq_1 hl (k := 4) rfl ev8_1 (nle rfl) rfl (fun ls (hl : lv_has ls 9 [(8, .int v8_1), (0, .ref a0), (1, .int x0_from_1), (2, .int v2), (7, .int v7)]) => ?_)
                    refine lv_goto (pc := 260) hexec hb dX9_readsHarbour_260 (tgt := 232) rfl ?_
                    exact ih232 _ _ _ _ _ (sl2 hf hk232) hP hD hS (lv_sub hl [1, 2, 3, 4, 0] rfl)
              exact hL232 n _ _ _ _ _ hz hP hD hS (lv_sub hl [1, 2, 3, 4, 0] rfl)
            refine kb_eq (pc := 202) hexec hb dX9_readsHarbour_202 (tgt := 209) rfl hf (fun hc hf => ?_) (fun hc hf => ?_)
            · refine lv_iconst (pc := 209) hexec hb dX9_readsHarbour_209 ki_0 ?_
              exact hj210 _ _ _ _ hf hP hD hS (lv_sub hl [1, 2, 3, 0] rfl)
            · refine lv_iconst (pc := 205) hexec hb dX9_readsHarbour_205 ki_1 ?_
              refine lv_goto (pc := 206) hexec hb dX9_readsHarbour_206 (tgt := 210) rfl ?_
              exact hj210 _ _ _ _ hf hP hD hS (lv_sub hl [1, 2, 3, 0] rfl)
          · cases hf
            exact ke_v hQ hexec hb hr hP hD hS dX9_readsHarbour_178 hlocks
        refine kb_eq (pc := 141) hexec hb dX9_readsHarbour_141 (tgt := 171) rfl hf (fun hc hf => ?_) (fun hc hf => ?_)
        · exact hj171 _ _ _ _ _ _ _ _ hf hP hD hS (lv_sub hl [1, 2, 3, 4, 0] rfl)
        · refine lv_aload_n (pc := 144) hexec hb dX9_readsHarbour_144 rfl (lv_at hl 1 rfl) ?_
          obtain ⟨x0_at_6, x0_from_6, hc, hf⟩ := bd2_e hf
          refine kVp (pc := 145) (S := ⟨hexec, hb, hml, hown, hts⟩) hP hD hG hA hS [0, 2] [1] [1, 0, 2] (w2 := (w_X9_readsHarbour g a0 a1 a2 u0_1 u0_2 u0_3 u0_4 u0_5 u0_6 u0_7 u0_8 u0_9 u0_10 u0_11 u0_12 u0_13 u0_14 u0_15 u0_16 u0_17 u0_18 u0_25 u0_26 u0_27 u0_28 u0_29 u0_30 x0_length x0_at_6 x0_from_6 x0_error_5 x0_errorAt_5 y1_s y2_text)) rfl rfl rfl rfl rfl rfl (by decide) (c_X9_word l g a0 a2 _ (.ref a1) u0_1 u0_2 u0_3 u0_4 u0_5 u0_6 u0_7 u0_8 u0_9 u0_10 u0_11 u0_12 u0_13 u0_14 u0_15 u0_16 u0_17 u0_18 (.int x0_errorAt_5) u0_25 u0_26 u0_27 u0_28 u0_29 u0_30 x0_length x0_at_4 x0_from_4 x0_error_5 y2_text x0_at_6 x0_from_6 hc) gX9_readsHarbour_X9_word rfl hv_X9_word ⟨nle rfl, nle rfl⟩ 9 0 rfl rfl rfl (rest := []) rfl rfl hl.1 (nle rfl) dX9_readsHarbour_145 (fun H locs hP hD hS => ?_)
          refine lv_aload_n (pc := 148) hexec hb dX9_readsHarbour_148 rfl (lv_at hl 1 rfl) ?_
          refine lv_aload_n (pc := 149) hexec hb dX9_readsHarbour_149 rfl (lv_at hl 1 rfl) ?_
          refine k_ldsw (pc := 150) hexec hb (own := RX9) hown hG 26 rfl dX9_readsHarbour_150 ?_
          obtain ⟨r153, hc, hf⟩ := bd1_e hf
          refine kVp (pc := 153) (S := ⟨hexec, hb, hml, hown, hts⟩) hP hD hG hA hS [0, 2] [1] [1, 0, 2] (w2 := (w_X9_readsHarbour g a0 a1 a2 u0_1 u0_2 u0_3 u0_4 u0_5 u0_6 u0_7 u0_8 u0_9 u0_10 u0_11 u0_12 u0_13 u0_14 u0_15 u0_16 u0_17 u0_18 u0_25 u0_26 u0_27 u0_28 u0_29 u0_30 x0_length x0_at_6 x0_from_6 x0_error_5 x0_errorAt_5 y1_s y2_text)) rfl rfl rfl rfl rfl rfl (by decide) (c_X9_was l g a0 a2 _ (.ref a1) u0_1 u0_2 u0_3 u0_4 u0_5 u0_6 u0_7 u0_8 u0_9 u0_10 u0_11 u0_12 u0_13 u0_14 u0_15 u0_16 u0_17 u0_18 (.int x0_length) (.int x0_errorAt_5) u0_25 u0_26 u0_27 u0_28 u0_29 u0_30 x0_at_6 x0_from_6 x0_error_5 y2_text 7 (nle rfl) r153 hc) gX9_readsHarbour_X9_was rfl hv_X9_was ⟨nle rfl, nle rfl⟩ 9 0 rfl rfl rfl (rest := [.ref a0]) rfl rfl hl.1 (nle rfl) dX9_readsHarbour_153 (fun H locs hP hD hS => ?_)
          obtain ⟨j164, ej164, hf⟩ := bvf1 hf
          have hj164 : ∀ (t164 : Int32) (H : Heap) (locs : List Loc) (ls : Array Slot), j164 t164 = some (o_x0_at, o_x0_from, o_x0_error, o_x0_errorAt, o_y1_s) → va_P g.1 vwCl (w_X9_readsHarbour g a0 a1 a2 u0_1 u0_2 u0_3 u0_4 u0_5 u0_6 u0_7 u0_8 u0_9 u0_10 u0_11 u0_12 u0_13 u0_14 u0_15 u0_16 u0_17 u0_18 u0_25 u0_26 u0_27 u0_28 u0_29 u0_30 x0_length x0_at_6 x0_from_6 x0_error_5 x0_errorAt_5 y1_s y2_text) H → va_D A (w_X9_readsHarbour g a0 a1 a2 u0_1 u0_2 u0_3 u0_4 u0_5 u0_6 u0_7 u0_8 u0_9 u0_10 u0_11 u0_12 u0_13 u0_14 u0_15 u0_16 u0_17 u0_18 u0_25 u0_26 u0_27 u0_28 u0_29 u0_30 x0_length x0_at_6 x0_from_6 x0_error_5 x0_errorAt_5 y1_s y2_text) → va_S A s.heap H locs → lv_has ls 9 [(0, .ref a0), (1, .int x0_from_1), (2, .int v2), (5, .int v5)] → W p l e (RM 6 143) s m args below meth c H locs 0 0 Q (F0 m 164 ls [.int t164, .ref a0]) := by
            intro t164 H locs ls hf hP hD hS hl
            have hf := (ej164 t164).symm.trans hf
            refine lv_iconst (pc := 164) hexec hb dX9_readsHarbour_164 ki_1 ?_
            obtain ⟨x0_error_7, x0_errorAt_7, hc, hf⟩ := bd2_e hf
            refine kVp (pc := 165) (S := ⟨hexec, hb, hml, hown, hts⟩) hP hD hG hA hS [0] [1, 2] [2, 0, 1] (w2 := (w_X9_readsHarbour g a0 a1 a2 u0_1 u0_2 u0_3 u0_4 u0_5 u0_6 u0_7 u0_8 u0_9 u0_10 u0_11 u0_12 u0_13 u0_14 u0_15 u0_16 u0_17 u0_18 u0_25 u0_26 u0_27 u0_28 u0_29 u0_30 x0_length x0_at_6 x0_from_6 x0_error_7 x0_errorAt_7 y1_s y2_text)) rfl rfl rfl rfl rfl rfl (by decide) (c_X9_failsIf l g a0 _ (.ref a1) u0_1 u0_2 u0_3 u0_4 u0_5 u0_6 u0_7 u0_8 u0_9 u0_10 u0_11 u0_12 u0_13 u0_14 u0_15 u0_16 u0_17 u0_18 (.ref a2) (.int x0_length) (.int x0_at_6) u0_25 u0_26 u0_27 u0_28 u0_29 u0_30 x0_from_6 x0_error_5 x0_errorAt_5 t164 1 x0_error_7 x0_errorAt_7 hc) gX9_readsHarbour_X9_failsIf rfl hv_X9_failsIf ⟨nle rfl, nle rfl⟩ 9 0 rfl rfl rfl (rest := []) rfl rfl hl.1 (nle rfl) dX9_readsHarbour_165 (fun H locs hP hD hS => ?_)
            refine lv_iconst (pc := 168) hexec hb dX9_readsHarbour_168 ki_1 ?_
            refine lv_istore (pc := 169) hexec hb dX9_readsHarbour_169 hl (nle rfl) rfl (fun ls (hl : lv_has ls 9 [(6, .int 1), (0, .ref a0), (1, .int x0_from_1), (2, .int v2), (5, .int v5)]) => ?_)
            exact hj171 _ _ _ _ _ _ _ _ hf hP hD hS (lv_sub hl [1, 2, 3, 4, 0] rfl)
          refine kb_ne (pc := 156) hexec hb dX9_readsHarbour_156 (tgt := 163) rfl hf (fun hc hf => ?_) (fun hc hf => ?_)
          · refine lv_iconst (pc := 163) hexec hb dX9_readsHarbour_163 ki_0 ?_
            exact hj164 _ _ _ _ hf hP hD hS (lv_sub hl [1, 2, 3, 4] rfl)
          · refine lv_iconst (pc := 159) hexec hb dX9_readsHarbour_159 ki_1 ?_
            refine lv_goto (pc := 160) hexec hb dX9_readsHarbour_160 (tgt := 164) rfl ?_
            exact hj164 _ _ _ _ hf hP hD hS (lv_sub hl [1, 2, 3, 4] rfl)
      obtain ⟨j122, ej122, hf⟩ := bvf1 hf
      have hj122 : ∀ (u : Unit) (H : Heap) (locs : List Loc) (ls : Array Slot), j122 u = some (o_x0_at, o_x0_from, o_x0_error, o_x0_errorAt, o_y1_s) → va_P g.1 vwCl (w_X9_readsHarbour g a0 a1 a2 u0_1 u0_2 u0_3 u0_4 u0_5 u0_6 u0_7 u0_8 u0_9 u0_10 u0_11 u0_12 u0_13 u0_14 u0_15 u0_16 u0_17 u0_18 u0_25 u0_26 u0_27 u0_28 u0_29 u0_30 x0_length x0_at_3 x0_from_3 x0_error_4 x0_errorAt_4 y1_s y2_text) H → va_D A (w_X9_readsHarbour g a0 a1 a2 u0_1 u0_2 u0_3 u0_4 u0_5 u0_6 u0_7 u0_8 u0_9 u0_10 u0_11 u0_12 u0_13 u0_14 u0_15 u0_16 u0_17 u0_18 u0_25 u0_26 u0_27 u0_28 u0_29 u0_30 x0_length x0_at_3 x0_from_3 x0_error_4 x0_errorAt_4 y1_s y2_text) → va_S A s.heap H locs → lv_has ls 9 [(0, .ref a0), (1, .int x0_from_1), (2, .int v2), (5, .int v5)] → W p l e (RM 6 143) s m args below meth c H locs 0 0 Q (F0 m 122 ls [.ref a0]) := by
        intro u H locs ls hf hP hD hS hl
        have hf := (ej122 u).symm.trans hf
        refine lv_iconst (pc := 122) hexec hb dX9_readsHarbour_122 ki_1 ?_
        refine lv_goto (pc := 123) hexec hb dX9_readsHarbour_123 (tgt := 127) rfl ?_
        exact hj127 _ _ _ _ hf hP hD hS (lv_sub hl [0, 1, 2, 3] rfl)
      refine kb_eq (pc := 101) hexec hb dX9_readsHarbour_101 (tgt := 122) rfl hf (fun hc hf => ?_) (fun hc hf => ?_)
      · exact hj122 _ _ _ _ hf hP hD hS (lv_sub hl [3, 4, 5, 0] rfl)
      · refine lv_aload_n (pc := 104) hexec hb dX9_readsHarbour_104 rfl (lv_at hl 3 rfl) ?_
        refine lv_iload (pc := 105) hexec hb dX9_readsHarbour_105 (lv_at hl 0 rfl) ?_
        obtain ⟨r107, hc, hf⟩ := bd1_e hf
        refine kVp (pc := 107) (S := ⟨hexec, hb, hml, hown, hts⟩) hP hD hG hA hS [0, 1] [2] [1, 2, 0] (w2 := (w_X9_readsHarbour g a0 a1 a2 u0_1 u0_2 u0_3 u0_4 u0_5 u0_6 u0_7 u0_8 u0_9 u0_10 u0_11 u0_12 u0_13 u0_14 u0_15 u0_16 u0_17 u0_18 u0_25 u0_26 u0_27 u0_28 u0_29 u0_30 x0_length x0_at_3 x0_from_3 x0_error_4 x0_errorAt_4 y1_s y2_text)) rfl rfl rfl rfl rfl rfl (by decide) (c_X9_canBegin l g a0 a1 _ u0_1 u0_2 u0_3 u0_4 u0_5 u0_6 u0_7 u0_8 u0_9 u0_10 u0_11 u0_12 u0_13 u0_14 u0_15 u0_16 u0_17 u0_18 (.ref a2) (.int x0_length) (.int x0_at_3) (.int x0_from_3) (.int x0_error_4) (.int x0_errorAt_4) u0_25 u0_26 u0_27 u0_28 u0_29 u0_30 y1_s v5 r107 hc) gX9_readsHarbour_X9_canBegin rfl hv_X9_canBegin ⟨nle rfl, nle rfl⟩ 9 0 rfl rfl rfl (rest := [.ref a0]) rfl rfl hl.1 (nle rfl) dX9_readsHarbour_107 (fun H locs hP hD hS => ?_)
        refine kb_eq (pc := 110) hexec hb dX9_readsHarbour_110 (tgt := 122) rfl hf (fun hc hf => ?_) (fun hc hf => ?_)
        · exact hj122 _ _ _ _ hf hP hD hS (lv_sub hl [3, 4, 5, 0] rfl)
        · refine lv_aload_n (pc := 113) hexec hb dX9_readsHarbour_113 rfl (lv_at hl 3 rfl) ?_
          refine lv_iload (pc := 114) hexec hb dX9_readsHarbour_114 (lv_at hl 0 rfl) ?_
          obtain ⟨r116, hc, hf⟩ := bd1_e hf
          refine kVp (pc := 116) (S := ⟨hexec, hb, hml, hown, hts⟩) hP hD hG hA hS [0, 1] [2] [1, 2, 0] (w2 := (w_X9_readsHarbour g a0 a1 a2 u0_1 u0_2 u0_3 u0_4 u0_5 u0_6 u0_7 u0_8 u0_9 u0_10 u0_11 u0_12 u0_13 u0_14 u0_15 u0_16 u0_17 u0_18 u0_25 u0_26 u0_27 u0_28 u0_29 u0_30 x0_length x0_at_3 x0_from_3 x0_error_4 x0_errorAt_4 y1_s y2_text)) rfl rfl rfl rfl rfl rfl (by decide) (c_X9_namesIn l g a0 a1 _ u0_1 u0_2 u0_3 u0_4 u0_5 u0_6 u0_7 u0_8 u0_9 u0_10 u0_11 u0_12 u0_13 u0_14 u0_15 u0_16 u0_17 u0_18 (.ref a2) (.int x0_length) (.int x0_at_3) (.int x0_from_3) (.int x0_error_4) (.int x0_errorAt_4) u0_25 u0_26 u0_27 u0_28 u0_29 u0_30 y1_s v5 r116 hc) gX9_readsHarbour_X9_namesIn rfl hv_X9_namesIn ⟨nle rfl, nle rfl⟩ 9 0 rfl rfl rfl (rest := [.ref a0]) rfl rfl hl.1 (nle rfl) dX9_readsHarbour_116 (fun H locs hP hD hS => ?_)
          refine kb_eq (pc := 119) hexec hb dX9_readsHarbour_119 (tgt := 126) rfl hf (fun hc hf => ?_) (fun hc hf => ?_)
          · refine lv_iconst (pc := 126) hexec hb dX9_readsHarbour_126 ki_0 ?_
            exact hj127 _ _ _ _ hf hP hD hS (lv_sub hl [3, 4, 5, 0] rfl)
          · exact hj122 _ _ _ _ hf hP hD hS (lv_sub hl [3, 4, 5, 0] rfl)
    · cases hf
      exact ke_v hQ hexec hb hr hP hD hS dX9_readsHarbour_93 hlocks
  obtain ⟨j39, ej39, hf⟩ := bvf1 hf
  have hj39 : ∀ (u : Unit) (H : Heap) (locs : List Loc) (ls : Array Slot), j39 u = some (o_x0_at, o_x0_from, o_x0_error, o_x0_errorAt, o_y1_s) → va_P g.1 vwCl (w_X9_readsHarbour g a0 a1 a2 u0_1 u0_2 u0_3 u0_4 u0_5 u0_6 u0_7 u0_8 u0_9 u0_10 u0_11 u0_12 u0_13 u0_14 u0_15 u0_16 u0_17 u0_18 u0_25 u0_26 u0_27 u0_28 u0_29 u0_30 x0_length x0_at_1 x0_from_1 x0_error_1 x0_errorAt_1 y1_s y2_text) H → va_D A (w_X9_readsHarbour g a0 a1 a2 u0_1 u0_2 u0_3 u0_4 u0_5 u0_6 u0_7 u0_8 u0_9 u0_10 u0_11 u0_12 u0_13 u0_14 u0_15 u0_16 u0_17 u0_18 u0_25 u0_26 u0_27 u0_28 u0_29 u0_30 x0_length x0_at_1 x0_from_1 x0_error_1 x0_errorAt_1 y1_s y2_text) → va_S A s.heap H locs → lv_has ls 9 [(0, .ref a0), (1, .int x0_from_1), (2, .int v2)] → W p l e (RM 6 143) s m args below meth c H locs 0 0 Q (F0 m 39 ls [.ref a0]) := by
    intro u H locs ls hf hP hD hS hl
    have hf := (ej39 u).symm.trans hf
    refine lv_iconst (pc := 39) hexec hb dX9_readsHarbour_39 ki_0 ?_
    exact hj40 _ _ _ _ hf hP hD hS (lv_sub hl [0, 1, 2] rfl)
  refine kb_eq (pc := 24) hexec hb dX9_readsHarbour_24 (tgt := 39) rfl hf (fun hc hf => ?_) (fun hc hf => ?_)
  · exact hj39 _ _ _ _ hf hP hD hS (lv_sub hl [2, 1, 0] rfl)
  · refine lv_aload_n (pc := 27) hexec hb dX9_readsHarbour_27 rfl (lv_at hl 2 rfl) ?_
    obtain ⟨r28, hc, hf⟩ := bd1_e hf
    refine kVp (pc := 28) (S := ⟨hexec, hb, hml, hown, hts⟩) hP hD hG hA hS [0, 1, 2] [] [0, 1, 2] (w2 := (w_X9_readsHarbour g a0 a1 a2 u0_1 u0_2 u0_3 u0_4 u0_5 u0_6 u0_7 u0_8 u0_9 u0_10 u0_11 u0_12 u0_13 u0_14 u0_15 u0_16 u0_17 u0_18 u0_25 u0_26 u0_27 u0_28 u0_29 u0_30 x0_length x0_at_1 x0_from_1 x0_error_1 x0_errorAt_1 y1_s y2_text)) rfl rfl rfl rfl rfl rfl (by decide) (c_X9_named l g a0 a1 a2 _ u0_1 u0_2 u0_3 u0_4 u0_5 u0_6 u0_7 u0_8 u0_9 u0_10 u0_11 u0_12 u0_13 u0_14 u0_15 u0_16 u0_17 u0_18 (.int x0_length) (.int x0_error_1) (.int x0_errorAt_1) u0_25 u0_26 u0_27 u0_28 u0_29 u0_30 x0_at_1 x0_from_1 y1_s y2_text r28 hc) gX9_readsHarbour_X9_named rfl hv_X9_named ⟨nle rfl, nle rfl⟩ 9 0 rfl rfl rfl (rest := [.ref a0]) rfl rfl hl.1 (nle rfl) dX9_readsHarbour_28 (fun H locs hP hD hS => ?_)
    refine lv_iconst (pc := 31) hexec hb dX9_readsHarbour_31 ki_m1 ?_
    refine ki_eq (pc := 32) hexec hb dX9_readsHarbour_32 (tgt := 39) rfl hf (fun hc hf => ?_) (fun hc hf => ?_)
    · exact hj39 _ _ _ _ hf hP hD hS (lv_sub hl [2, 1, 0] rfl)
    · refine lv_iconst (pc := 35) hexec hb dX9_readsHarbour_35 ki_1 ?_
      refine lv_goto (pc := 36) hexec hb dX9_readsHarbour_36 (tgt := 40) rfl ?_
      exact hj40 _ _ _ _ hf hP hD hS (lv_sub hl [2, 1, 0] rfl)
abbrev w_X9_readsRiver (g : GE) (a0 a1 a2 a3 a4 : Nat) (u0_1 u0_2 u0_3 u0_4 u0_5 u0_6 u0_7 u0_11 u0_12 u0_13 u0_14 u0_15 u0_16 u0_17 u0_18 u0_25 u0_26 u0_27 u0_28 u0_29 u0_30 : Value) (x0_flowLong : Int32) (x0_length : Int32) (x0_at : Int32) (x0_from : Int32) (x0_error : Int32) (x0_errorAt : Int32) (y1_flow : Nat → Int32) (y2_s : Nat → Int32) (y3_sums : Nat → Int32) (y4_text : Nat → Int32) : va_W := [(a0, .inr (9, [.ref a2, u0_1, u0_2, u0_3, u0_4, u0_5, u0_6, u0_7, .ref a3, .ref a1, .int x0_flowLong, u0_11, u0_12, u0_13, u0_14, u0_15, u0_16, u0_17, u0_18, .ref a4, .int x0_length, .int x0_at, .int x0_from, .int x0_error, .int x0_errorAt, u0_25, u0_26, u0_27, u0_28, u0_29, u0_30])), (a1, .inl (g.2.1 0, 144, .inl y1_flow)), (a2, .inl (g.2.1 0, 552, .inl y2_s)), (a3, .inl (g.2.1 0, 144, .inl y3_sums)), (a4, .inl (g.2.1 0, 500, .inl y4_text))]
set_option maxRecDepth 20000 in
theorem c_X9_readsRiver (l : Launch) (g : GE) (a0 a1 a2 a3 a4 : Nat) (sz : Nat) (u0_1 u0_2 u0_3 u0_4 u0_5 u0_6 u0_7 u0_11 u0_12 u0_13 u0_14 u0_15 u0_16 u0_17 u0_18 u0_25 u0_26 u0_27 u0_28 u0_29 u0_30 : Value) (x0_flowLong : Int32) (x0_length : Int32) (x0_at : Int32) (x0_from : Int32) (x0_error : Int32) (x0_errorAt : Int32) (y1_flow : Nat → Int32) (y2_s : Nat → Int32) (y3_sums : Nat → Int32) (y4_text : Nat → Int32)   (o_x0_flowLong : Int32) (o_x0_at : Int32) (o_x0_from : Int32) (o_x0_error : Int32) (o_x0_errorAt : Int32) (o_y1_flow : Nat → Int32) (o_y2_s : Nat → Int32) (o_y3_sums : Nat → Int32) (hf : f_X9_readsRiver x0_flowLong x0_length x0_at x0_from x0_error x0_errorAt y1_flow y2_s y3_sums y4_text = some (o_x0_flowLong, o_x0_at, o_x0_from, o_x0_error, o_x0_errorAt, o_y1_flow, o_y2_s, o_y3_sums)) : MI l g yX9_readsRiver wsX9_readsRiver 10 231 [.ref a0] (w_X9_readsRiver g a0 a1 a2 a3 a4 u0_1 u0_2 u0_3 u0_4 u0_5 u0_6 u0_7 u0_11 u0_12 u0_13 u0_14 u0_15 u0_16 u0_17 u0_18 u0_25 u0_26 u0_27 u0_28 u0_29 u0_30 x0_flowLong x0_length x0_at x0_from x0_error x0_errorAt y1_flow y2_s y3_sums y4_text) sz none (w_X9_readsRiver g a0 a1 a2 a3 a4 u0_1 u0_2 u0_3 u0_4 u0_5 u0_6 u0_7 u0_11 u0_12 u0_13 u0_14 u0_15 u0_16 u0_17 u0_18 u0_25 u0_26 u0_27 u0_28 u0_29 u0_30 o_x0_flowLong x0_length o_x0_at o_x0_from o_x0_error o_x0_errorAt o_y1_flow o_y2_s o_y3_sums y4_text) := by
  refine MI.start (cc := cX9_readsRiver) (maxL := 3) (ret := none) rfl rfl (nle rfl) ?_
  intro p e s m args below meth c A ls Q hQ hexec hb hr hts hown hlocks hml hA hP hD hG hS hl
  unfold f_X9_readsRiver at hf
  have hWX9 : ∀ w ∈ wsX90, w.before args s = true := fun w h => hts w (List.mem_cons_of_mem _ (List.mem_append_right _ h))
  have hS : va_S A s.heap s.heap [] := hS
  refine lv_aload_n (pc := 0) hexec hb dX9_readsRiver_0 rfl (lv_at hl 0 rfl) ?_
  refine lv_iconst (pc := 1) hexec hb dX9_readsRiver_1 ki_0 ?_
  refine lv_aload_n (pc := 2) hexec hb dX9_readsRiver_2 rfl (lv_at hl 0 rfl) ?_
  refine kg_get (pc := 3) hexec hb (own := RX9) hWX9 hown hG hP 0 rfl rfl 0 (nle rfl) (hts _ (List.mem_cons_of_mem _ (List.mem_append_left _ (List.mem_append_left _ (List.mem_of_getElem? (i := 0) rfl))))) rfl rfl dX9_readsRiver_3 ?_
  refine lv_iconst (pc := 6) hexec hb dX9_readsRiver_6 ki_0 ?_
  refine kr_iald (pc := 7) hexec hb hG hP 2 rfl hf dX9_readsRiver_7 (fun hf => ?_)
  refine lv_iconst (pc := 8) hexec hb dX9_readsRiver_8 ki_1 ?_
  refine lv_isub (pc := 9) hexec hb dX9_readsRiver_9 ?_
  obtain ⟨r10, x0_at_1, x0_from_1, x0_error_1, x0_errorAt_1, hc, hf⟩ := bd5_e hf
  refine kVp (pc := 10) (S := ⟨hexec, hb, hml, hown, hts⟩) hP hD hG hA hS [0, 4] [1, 2, 3] [3, 0, 1, 2, 4] (w2 := (w_X9_readsRiver g a0 a1 a2 a3 a4 u0_1 u0_2 u0_3 u0_4 u0_5 u0_6 u0_7 u0_11 u0_12 u0_13 u0_14 u0_15 u0_16 u0_17 u0_18 u0_25 u0_26 u0_27 u0_28 u0_29 u0_30 x0_flowLong x0_length x0_at_1 x0_from_1 x0_error_1 x0_errorAt_1 y1_flow y2_s y3_sums y4_text)) rfl rfl rfl rfl rfl rfl (by decide) (c_X9_number l g a0 a4 _ (.ref a2) u0_1 u0_2 u0_3 u0_4 u0_5 u0_6 u0_7 (.ref a3) (.ref a1) (.int x0_flowLong) u0_11 u0_12 u0_13 u0_14 u0_15 u0_16 u0_17 u0_18 u0_25 u0_26 u0_27 u0_28 u0_29 u0_30 x0_length x0_at x0_from x0_error x0_errorAt y4_text 0 ((y2_s (0 : Int32).toNatClampNeg) - 1) r10 x0_at_1 x0_from_1 x0_error_1 x0_errorAt_1 hc) gX9_readsRiver_X9_number rfl hv_X9_number ⟨nle rfl, nle rfl⟩ 9 0 rfl rfl rfl (rest := []) rfl rfl hl.1 (nle rfl) dX9_readsRiver_10 (fun H locs hP hD hS => ?_)
  refine lv_istore_n (pc := 13) hexec hb dX9_readsRiver_13 rfl hl (nle rfl) rfl (fun ls (hl : lv_has ls 3 [(1, .int r10), (0, .ref a0)]) => ?_)
  refine lv_aload_n (pc := 14) hexec hb dX9_readsRiver_14 rfl (lv_at hl 1 rfl) ?_
  refine lv_iconst (pc := 15) hexec hb dX9_readsRiver_15 ki_0 ?_
  refine lv_aload_n (pc := 16) hexec hb dX9_readsRiver_16 rfl (lv_at hl 1 rfl) ?_
  refine kg_get (pc := 17) hexec hb (own := RX9) hWX9 hown hG hP 0 rfl rfl 0 (nle rfl) (hts _ (List.mem_cons_of_mem _ (List.mem_append_left _ (List.mem_append_left _ (List.mem_of_getElem? (i := 0) rfl))))) rfl rfl dX9_readsRiver_17 ?_
  refine lv_iconst (pc := 20) hexec hb dX9_readsRiver_20 ki_1 ?_
  refine kr_iald (pc := 21) hexec hb hG hP 2 rfl hf dX9_readsRiver_21 (fun hf => ?_)
  refine lv_iconst (pc := 22) hexec hb dX9_readsRiver_22 ki_1 ?_
  refine lv_isub (pc := 23) hexec hb dX9_readsRiver_23 ?_
  obtain ⟨r24, x0_at_2, x0_from_2, x0_error_2, x0_errorAt_2, hc, hf⟩ := bd5_e hf
  refine kVp (pc := 24) (S := ⟨hexec, hb, hml, hown, hts⟩) hP hD hG hA hS [0, 4] [1, 2, 3] [3, 0, 1, 2, 4] (w2 := (w_X9_readsRiver g a0 a1 a2 a3 a4 u0_1 u0_2 u0_3 u0_4 u0_5 u0_6 u0_7 u0_11 u0_12 u0_13 u0_14 u0_15 u0_16 u0_17 u0_18 u0_25 u0_26 u0_27 u0_28 u0_29 u0_30 x0_flowLong x0_length x0_at_2 x0_from_2 x0_error_2 x0_errorAt_2 y1_flow y2_s y3_sums y4_text)) rfl rfl rfl rfl rfl rfl (by decide) (c_X9_number l g a0 a4 _ (.ref a2) u0_1 u0_2 u0_3 u0_4 u0_5 u0_6 u0_7 (.ref a3) (.ref a1) (.int x0_flowLong) u0_11 u0_12 u0_13 u0_14 u0_15 u0_16 u0_17 u0_18 u0_25 u0_26 u0_27 u0_28 u0_29 u0_30 x0_length x0_at_1 x0_from_1 x0_error_1 x0_errorAt_1 y4_text 0 ((y2_s (1 : Int32).toNatClampNeg) - 1) r24 x0_at_2 x0_from_2 x0_error_2 x0_errorAt_2 hc) gX9_readsRiver_X9_number rfl hv_X9_number ⟨nle rfl, nle rfl⟩ 9 0 rfl rfl rfl (rest := []) rfl rfl hl.1 (nle rfl) dX9_readsRiver_24 (fun H locs hP hD hS => ?_)
  refine lv_istore_n (pc := 27) hexec hb dX9_readsRiver_27 rfl hl (nle rfl) rfl (fun ls (hl : lv_has ls 3 [(2, .int r24), (1, .int r10), (0, .ref a0)]) => ?_)
  refine lv_aload_n (pc := 28) hexec hb dX9_readsRiver_28 rfl (lv_at hl 2 rfl) ?_
  obtain ⟨r29, hc, hf⟩ := bd1_e hf
  refine kVp (pc := 29) (S := ⟨hexec, hb, hml, hown, hts⟩) hP hD hG hA hS [0] [1, 2, 3, 4] [4, 0, 1, 2, 3] (w2 := (w_X9_readsRiver g a0 a1 a2 a3 a4 u0_1 u0_2 u0_3 u0_4 u0_5 u0_6 u0_7 u0_11 u0_12 u0_13 u0_14 u0_15 u0_16 u0_17 u0_18 u0_25 u0_26 u0_27 u0_28 u0_29 u0_30 x0_flowLong x0_length x0_at_2 x0_from_2 x0_error_2 x0_errorAt_2 y1_flow y2_s y3_sums y4_text)) rfl rfl rfl rfl rfl rfl (by decide) (c_X9_isFine l g a0 _ (.ref a2) u0_1 u0_2 u0_3 u0_4 u0_5 u0_6 u0_7 (.ref a3) (.ref a1) (.int x0_flowLong) u0_11 u0_12 u0_13 u0_14 u0_15 u0_16 u0_17 u0_18 (.ref a4) (.int x0_length) (.int x0_at_2) (.int x0_from_2) (.int x0_errorAt_2) u0_25 u0_26 u0_27 u0_28 u0_29 u0_30 x0_error_2 r29 hc) gX9_readsRiver_X9_isFine rfl hv_X9_isFine ⟨nle rfl, nle rfl⟩ 9 0 rfl rfl rfl (rest := []) rfl rfl hl.1 (nle rfl) dX9_readsRiver_29 (fun H locs hP hD hS => ?_)
  refine kb_ne (pc := 32) hexec hb dX9_readsRiver_32 (tgt := 36) rfl hf (fun hc hf => ?_) (fun hc hf => ?_)
  · refine lv_aload_n (pc := 36) hexec hb dX9_readsRiver_36 rfl (lv_at hl 2 rfl) ?_
    refine lv_aload_n (pc := 37) hexec hb dX9_readsRiver_37 rfl (lv_at hl 2 rfl) ?_
    refine kg_get (pc := 38) hexec hb (own := RX9) hWX9 hown hG hP 0 rfl rfl 0 (nle rfl) (hts _ (List.mem_cons_of_mem _ (List.mem_append_left _ (List.mem_append_left _ (List.mem_of_getElem? (i := 0) rfl))))) rfl rfl dX9_readsRiver_38 ?_
    refine lv_iconst (pc := 41) hexec hb dX9_readsRiver_41 ki_1 ?_
    refine kr_iald (pc := 42) hexec hb hG hP 2 rfl hf dX9_readsRiver_42 (fun hf => ?_)
    refine lv_iload_n (pc := 43) hexec hb dX9_readsRiver_43 rfl (lv_at hl 1 rfl) ?_
    refine lv_imul (pc := 44) hexec hb dX9_readsRiver_44 ?_
    refine lv_iload_n (pc := 45) hexec hb dX9_readsRiver_45 rfl (lv_at hl 0 rfl) ?_
    refine lv_iadd (pc := 46) hexec hb dX9_readsRiver_46 ?_
    obtain ⟨r47, x0_flowLong_1, y1_flow_1, y3_sums_1, hc, hf⟩ := bd4_e hf
    refine kVp (pc := 47) (S := ⟨hexec, hb, hml, hown, hts⟩) hP hD hG hA hS [0, 1, 2, 3] [4] [1, 2, 3, 4, 0] (w2 := (w_X9_readsRiver g a0 a1 a2 a3 a4 u0_1 u0_2 u0_3 u0_4 u0_5 u0_6 u0_7 u0_11 u0_12 u0_13 u0_14 u0_15 u0_16 u0_17 u0_18 u0_25 u0_26 u0_27 u0_28 u0_29 u0_30 x0_flowLong_1 x0_length x0_at_2 x0_from_2 x0_error_2 x0_errorAt_2 y1_flow_1 y2_s y3_sums_1 y4_text)) rfl rfl rfl rfl rfl rfl (by decide) (c_X9_findsFlow l g a0 a1 a2 a3 _ u0_1 u0_2 u0_3 u0_4 u0_5 u0_6 u0_7 u0_11 u0_12 u0_13 u0_14 u0_15 u0_16 u0_17 u0_18 (.ref a4) (.int x0_length) (.int x0_at_2) (.int x0_from_2) (.int x0_error_2) (.int x0_errorAt_2) u0_25 u0_26 u0_27 u0_28 u0_29 u0_30 x0_flowLong y1_flow y2_s y3_sums (((y2_s (1 : Int32).toNatClampNeg) * r10) + r24) r47 x0_flowLong_1 y1_flow_1 y3_sums_1 hc) gX9_readsRiver_X9_findsFlow rfl hv_X9_findsFlow ⟨nle rfl, nle rfl⟩ 9 0 rfl rfl rfl (rest := []) rfl rfl hl.1 (nle rfl) dX9_readsRiver_47 (fun H locs hP hD hS => ?_)
    refine kb_eq (pc := 50) hexec hb dX9_readsRiver_50 (tgt := 60) rfl hf (fun hc hf => ?_) (fun hc hf => ?_)
    · refine lv_aload_n (pc := 60) hexec hb dX9_readsRiver_60 rfl (lv_at hl 2 rfl) ?_
      refine lv_iconst (pc := 61) hexec hb dX9_readsRiver_61 ki_3 ?_
      refine lv_aload_n (pc := 62) hexec hb dX9_readsRiver_62 rfl (lv_at hl 2 rfl) ?_
      refine kg_get (pc := 63) hexec hb (own := RX9) hWX9 hown hG hP 0 rfl rfl 22 (nle rfl) (hts _ (List.mem_cons_of_mem _ (List.mem_append_left _ (List.mem_append_left _ (List.mem_of_getElem? (i := 1) rfl))))) rfl rfl dX9_readsRiver_63 ?_
      obtain ⟨x0_error_3, x0_errorAt_3, hc, hf⟩ := bd2_e hf
      refine kVp (pc := 66) (S := ⟨hexec, hb, hml, hown, hts⟩) hP hD hG hA hS [0] [1, 2, 3, 4] [4, 0, 1, 2, 3] (w2 := (w_X9_readsRiver g a0 a1 a2 a3 a4 u0_1 u0_2 u0_3 u0_4 u0_5 u0_6 u0_7 u0_11 u0_12 u0_13 u0_14 u0_15 u0_16 u0_17 u0_18 u0_25 u0_26 u0_27 u0_28 u0_29 u0_30 x0_flowLong_1 x0_length x0_at_2 x0_from_2 x0_error_3 x0_errorAt_3 y1_flow_1 y2_s y3_sums_1 y4_text)) rfl rfl rfl rfl rfl rfl (by decide) (c_X9_fails l g a0 _ (.ref a2) u0_1 u0_2 u0_3 u0_4 u0_5 u0_6 u0_7 (.ref a3) (.ref a1) (.int x0_flowLong_1) u0_11 u0_12 u0_13 u0_14 u0_15 u0_16 u0_17 u0_18 (.ref a4) (.int x0_length) (.int x0_at_2) (.int x0_from_2) u0_25 u0_26 u0_27 u0_28 u0_29 u0_30 x0_error_2 x0_errorAt_2 3 x0_from_2 x0_error_3 x0_errorAt_3 hc) gX9_readsRiver_X9_fails rfl hv_X9_fails ⟨nle rfl, nle rfl⟩ 9 0 rfl rfl rfl (rest := []) rfl rfl hl.1 (nle rfl) dX9_readsRiver_66 (fun H locs hP hD hS => ?_)
      cases hf
      exact ke_v hQ hexec hb hr hP hD hS dX9_readsRiver_69 hlocks
    · refine lv_aload_n (pc := 53) hexec hb dX9_readsRiver_53 rfl (lv_at hl 2 rfl) ?_
      obtain ⟨y2_s_1, hc, hf⟩ := bd1_e hf
      refine kVp (pc := 54) (S := ⟨hexec, hb, hml, hown, hts⟩) hP hD hG hA hS [0, 1, 2] [3, 4] [2, 3, 4, 0, 1] (w2 := (w_X9_readsRiver g a0 a1 a2 a3 a4 u0_1 u0_2 u0_3 u0_4 u0_5 u0_6 u0_7 u0_11 u0_12 u0_13 u0_14 u0_15 u0_16 u0_17 u0_18 u0_25 u0_26 u0_27 u0_28 u0_29 u0_30 x0_flowLong_1 x0_length x0_at_2 x0_from_2 x0_error_2 x0_errorAt_2 y1_flow_1 y2_s_1 y3_sums_1 y4_text)) rfl rfl rfl rfl rfl rfl (by decide) (c_X9_flows l g a0 a1 a2 _ u0_1 u0_2 u0_3 u0_4 u0_5 u0_6 u0_7 (.ref a3) u0_11 u0_12 u0_13 u0_14 u0_15 u0_16 u0_17 u0_18 (.ref a4) (.int x0_length) (.int x0_at_2) (.int x0_from_2) (.int x0_error_2) (.int x0_errorAt_2) u0_25 u0_26 u0_27 u0_28 u0_29 u0_30 x0_flowLong_1 y1_flow_1 y2_s y2_s_1 hc) gX9_readsRiver_X9_flows rfl hv_X9_flows ⟨nle rfl, nle rfl⟩ 9 0 rfl rfl rfl (rest := []) rfl rfl hl.1 (nle rfl) dX9_readsRiver_54 (fun H locs hP hD hS => ?_)
      refine lv_goto (pc := 57) hexec hb dX9_readsRiver_57 (tgt := 69) rfl ?_
      cases hf
      exact ke_v hQ hexec hb hr hP hD hS dX9_readsRiver_69 hlocks
  · cases hf
    exact ke_v hQ hexec hb hr hP hD hS dX9_readsRiver_35 hlocks
abbrev w_X9_wayHere (g : GE) (a0 a1 : Nat) (u0_0 u0_1 u0_2 u0_3 u0_4 u0_5 u0_6 u0_7 u0_8 u0_9 u0_10 u0_11 u0_12 u0_13 u0_14 u0_15 u0_16 u0_17 u0_18 u0_20 u0_24 u0_25 u0_26 u0_27 u0_28 u0_29 u0_30 : Value) (x0_at : Int32) (x0_from : Int32) (x0_error : Int32) (y1_text : Nat → Int32) : va_W := [(a0, .inr (9, [u0_0, u0_1, u0_2, u0_3, u0_4, u0_5, u0_6, u0_7, u0_8, u0_9, u0_10, u0_11, u0_12, u0_13, u0_14, u0_15, u0_16, u0_17, u0_18, .ref a1, u0_20, .int x0_at, .int x0_from, .int x0_error, u0_24, u0_25, u0_26, u0_27, u0_28, u0_29, u0_30])), (a1, .inl (g.2.1 0, 500, .inl y1_text))]
set_option maxRecDepth 20000 in
theorem c_X9_wayHere (l : Launch) (g : GE) (a0 a1 : Nat) (sz : Nat) (u0_0 u0_1 u0_2 u0_3 u0_4 u0_5 u0_6 u0_7 u0_8 u0_9 u0_10 u0_11 u0_12 u0_13 u0_14 u0_15 u0_16 u0_17 u0_18 u0_20 u0_24 u0_25 u0_26 u0_27 u0_28 u0_29 u0_30 : Value) (x0_at : Int32) (x0_from : Int32) (x0_error : Int32) (y1_text : Nat → Int32)   (r : Int32) (hf : f_X9_wayHere x0_at x0_from x0_error y1_text = some r) : MI l g yX9_wayHere wsX9_wayHere 6 134 [.ref a0] (w_X9_wayHere g a0 a1 u0_0 u0_1 u0_2 u0_3 u0_4 u0_5 u0_6 u0_7 u0_8 u0_9 u0_10 u0_11 u0_12 u0_13 u0_14 u0_15 u0_16 u0_17 u0_18 u0_20 u0_24 u0_25 u0_26 u0_27 u0_28 u0_29 u0_30 x0_at x0_from x0_error y1_text) sz (some (.int r)) (w_X9_wayHere g a0 a1 u0_0 u0_1 u0_2 u0_3 u0_4 u0_5 u0_6 u0_7 u0_8 u0_9 u0_10 u0_11 u0_12 u0_13 u0_14 u0_15 u0_16 u0_17 u0_18 u0_20 u0_24 u0_25 u0_26 u0_27 u0_28 u0_29 u0_30 x0_at x0_from x0_error y1_text) := by
  refine MI.start (cc := cX9_wayHere) (maxL := 1) (ret := (some .int)) rfl rfl (nle rfl) ?_
  intro p e s m args below meth c A ls Q hQ hexec hb hr hts hown hlocks hml hA hP hD hG hS hl
  unfold f_X9_wayHere at hf
  have hWX9 : ∀ w ∈ wsX90, w.before args s = true := fun w h => hts w (List.mem_cons_of_mem _ (List.mem_append_right _ h))
  have hS : va_S A s.heap s.heap [] := hS
  refine lv_aload_n (pc := 0) hexec hb dX9_wayHere_0 rfl (lv_at hl 0 rfl) ?_
  refine k_ldsw (pc := 1) hexec hb (own := RX9) hown hG 29 rfl dX9_wayHere_1 ?_
  obtain ⟨r4, hc, hf⟩ := bd1_e hf
  refine kVp (pc := 4) (S := ⟨hexec, hb, hml, hown, hts⟩) hP hD hG hA hS [0, 1] [] [0, 1] (w2 := (w_X9_wayHere g a0 a1 u0_0 u0_1 u0_2 u0_3 u0_4 u0_5 u0_6 u0_7 u0_8 u0_9 u0_10 u0_11 u0_12 u0_13 u0_14 u0_15 u0_16 u0_17 u0_18 u0_20 u0_24 u0_25 u0_26 u0_27 u0_28 u0_29 u0_30 x0_at x0_from x0_error y1_text)) rfl rfl rfl rfl rfl rfl (by decide) (c_X9_was l g a0 a1 _ u0_0 u0_1 u0_2 u0_3 u0_4 u0_5 u0_6 u0_7 u0_8 u0_9 u0_10 u0_11 u0_12 u0_13 u0_14 u0_15 u0_16 u0_17 u0_18 u0_20 u0_24 u0_25 u0_26 u0_27 u0_28 u0_29 u0_30 x0_at x0_from x0_error y1_text 8 (nle rfl) r4 hc) gX9_wayHere_X9_was rfl hv_X9_was ⟨nle rfl, nle rfl⟩ 9 0 rfl rfl rfl (rest := []) rfl rfl hl.1 (nle rfl) dX9_wayHere_4 (fun H locs hP hD hS => ?_)
  refine kb_eq (pc := 7) hexec hb dX9_wayHere_7 (tgt := 14) rfl hf (fun hc hf => ?_) (fun hc hf => ?_)
  · refine lv_aload_n (pc := 14) hexec hb dX9_wayHere_14 rfl (lv_at hl 0 rfl) ?_
    refine k_ldsw (pc := 15) hexec hb (own := RX9) hown hG 30 rfl dX9_wayHere_15 ?_
    obtain ⟨r18, hc, hf⟩ := bd1_e hf
    refine kVp (pc := 18) (S := ⟨hexec, hb, hml, hown, hts⟩) hP hD hG hA hS [0, 1] [] [0, 1] (w2 := (w_X9_wayHere g a0 a1 u0_0 u0_1 u0_2 u0_3 u0_4 u0_5 u0_6 u0_7 u0_8 u0_9 u0_10 u0_11 u0_12 u0_13 u0_14 u0_15 u0_16 u0_17 u0_18 u0_20 u0_24 u0_25 u0_26 u0_27 u0_28 u0_29 u0_30 x0_at x0_from x0_error y1_text)) rfl rfl rfl rfl rfl rfl (by decide) (c_X9_was l g a0 a1 _ u0_0 u0_1 u0_2 u0_3 u0_4 u0_5 u0_6 u0_7 u0_8 u0_9 u0_10 u0_11 u0_12 u0_13 u0_14 u0_15 u0_16 u0_17 u0_18 u0_20 u0_24 u0_25 u0_26 u0_27 u0_28 u0_29 u0_30 x0_at x0_from x0_error y1_text 9 (nle rfl) r18 hc) gX9_wayHere_X9_was rfl hv_X9_was ⟨nle rfl, nle rfl⟩ 9 0 rfl rfl rfl (rest := []) rfl rfl hl.1 (nle rfl) dX9_wayHere_18 (fun H locs hP hD hS => ?_)
    refine kb_eq (pc := 21) hexec hb dX9_wayHere_21 (tgt := 28) rfl hf (fun hc hf => ?_) (fun hc hf => ?_)
    · refine lv_aload_n (pc := 28) hexec hb dX9_wayHere_28 rfl (lv_at hl 0 rfl) ?_
      refine k_ldsw (pc := 29) hexec hb (own := RX9) hown hG 31 rfl dX9_wayHere_29 ?_
      obtain ⟨r32, hc, hf⟩ := bd1_e hf
      refine kVp (pc := 32) (S := ⟨hexec, hb, hml, hown, hts⟩) hP hD hG hA hS [0, 1] [] [0, 1] (w2 := (w_X9_wayHere g a0 a1 u0_0 u0_1 u0_2 u0_3 u0_4 u0_5 u0_6 u0_7 u0_8 u0_9 u0_10 u0_11 u0_12 u0_13 u0_14 u0_15 u0_16 u0_17 u0_18 u0_20 u0_24 u0_25 u0_26 u0_27 u0_28 u0_29 u0_30 x0_at x0_from x0_error y1_text)) rfl rfl rfl rfl rfl rfl (by decide) (c_X9_was l g a0 a1 _ u0_0 u0_1 u0_2 u0_3 u0_4 u0_5 u0_6 u0_7 u0_8 u0_9 u0_10 u0_11 u0_12 u0_13 u0_14 u0_15 u0_16 u0_17 u0_18 u0_20 u0_24 u0_25 u0_26 u0_27 u0_28 u0_29 u0_30 x0_at x0_from x0_error y1_text 10 (nle rfl) r32 hc) gX9_wayHere_X9_was rfl hv_X9_was ⟨nle rfl, nle rfl⟩ 9 0 rfl rfl rfl (rest := []) rfl rfl hl.1 (nle rfl) dX9_wayHere_32 (fun H locs hP hD hS => ?_)
      refine kb_eq (pc := 35) hexec hb dX9_wayHere_35 (tgt := 42) rfl hf (fun hc hf => ?_) (fun hc hf => ?_)
      · refine lv_aload_n (pc := 42) hexec hb dX9_wayHere_42 rfl (lv_at hl 0 rfl) ?_
        refine k_ldsw (pc := 43) hexec hb (own := RX9) hown hG 32 rfl dX9_wayHere_43 ?_
        obtain ⟨r46, hc, hf⟩ := bd1_e hf
        refine kVp (pc := 46) (S := ⟨hexec, hb, hml, hown, hts⟩) hP hD hG hA hS [0, 1] [] [0, 1] (w2 := (w_X9_wayHere g a0 a1 u0_0 u0_1 u0_2 u0_3 u0_4 u0_5 u0_6 u0_7 u0_8 u0_9 u0_10 u0_11 u0_12 u0_13 u0_14 u0_15 u0_16 u0_17 u0_18 u0_20 u0_24 u0_25 u0_26 u0_27 u0_28 u0_29 u0_30 x0_at x0_from x0_error y1_text)) rfl rfl rfl rfl rfl rfl (by decide) (c_X9_was l g a0 a1 _ u0_0 u0_1 u0_2 u0_3 u0_4 u0_5 u0_6 u0_7 u0_8 u0_9 u0_10 u0_11 u0_12 u0_13 u0_14 u0_15 u0_16 u0_17 u0_18 u0_20 u0_24 u0_25 u0_26 u0_27 u0_28 u0_29 u0_30 x0_at x0_from x0_error y1_text 11 (nle rfl) r46 hc) gX9_wayHere_X9_was rfl hv_X9_was ⟨nle rfl, nle rfl⟩ 9 0 rfl rfl rfl (rest := []) rfl rfl hl.1 (nle rfl) dX9_wayHere_46 (fun H locs hP hD hS => ?_)
        refine kb_eq (pc := 49) hexec hb dX9_wayHere_49 (tgt := 56) rfl hf (fun hc hf => ?_) (fun hc hf => ?_)
        · refine lv_iconst (pc := 56) hexec hb dX9_wayHere_56 ki_m1 ?_
          cases hf
          exact ke_i hQ hexec hb hr hP hD hS dX9_wayHere_57 hlocks
        · refine lv_iconst (pc := 52) hexec hb dX9_wayHere_52 ki_3 ?_
          refine lv_goto (pc := 53) hexec hb dX9_wayHere_53 (tgt := 57) rfl ?_
          cases hf
          exact ke_i hQ hexec hb hr hP hD hS dX9_wayHere_57 hlocks
      · refine lv_iconst (pc := 38) hexec hb dX9_wayHere_38 ki_2 ?_
        refine lv_goto (pc := 39) hexec hb dX9_wayHere_39 (tgt := 57) rfl ?_
        cases hf
        exact ke_i hQ hexec hb hr hP hD hS dX9_wayHere_57 hlocks
    · refine lv_iconst (pc := 24) hexec hb dX9_wayHere_24 ki_1 ?_
      refine lv_goto (pc := 25) hexec hb dX9_wayHere_25 (tgt := 57) rfl ?_
      cases hf
      exact ke_i hQ hexec hb hr hP hD hS dX9_wayHere_57 hlocks
  · refine lv_iconst (pc := 10) hexec hb dX9_wayHere_10 ki_0 ?_
    refine lv_goto (pc := 11) hexec hb dX9_wayHere_11 (tgt := 57) rfl ?_
    cases hf
    exact ke_i hQ hexec hb hr hP hD hS dX9_wayHere_57 hlocks
abbrev w_X9_readsPlace (g : GE) (a0 a1 a2 : Nat) (u0_1 u0_2 u0_3 u0_4 u0_5 u0_6 u0_7 u0_8 u0_9 u0_10 u0_11 u0_12 u0_13 u0_14 u0_15 u0_16 u0_17 u0_18 u0_25 u0_26 u0_27 u0_28 u0_29 u0_30 : Value) (x0_length : Int32) (x0_at : Int32) (x0_from : Int32) (x0_error : Int32) (x0_errorAt : Int32) (y1_s : Nat → Int32) (y2_text : Nat → Int32) : va_W := [(a0, .inr (9, [.ref a1, u0_1, u0_2, u0_3, u0_4, u0_5, u0_6, u0_7, u0_8, u0_9, u0_10, u0_11, u0_12, u0_13, u0_14, u0_15, u0_16, u0_17, u0_18, .ref a2, .int x0_length, .int x0_at, .int x0_from, .int x0_error, .int x0_errorAt, u0_25, u0_26, u0_27, u0_28, u0_29, u0_30])), (a1, .inl (g.2.1 0, 552, .inl y1_s)), (a2, .inl (g.2.1 0, 500, .inl y2_text))]
set_option maxRecDepth 20000 in
theorem c_X9_readsPlace (l : Launch) (g : GE) (a0 a1 a2 : Nat) (sz : Nat) (u0_1 u0_2 u0_3 u0_4 u0_5 u0_6 u0_7 u0_8 u0_9 u0_10 u0_11 u0_12 u0_13 u0_14 u0_15 u0_16 u0_17 u0_18 u0_25 u0_26 u0_27 u0_28 u0_29 u0_30 : Value) (x0_length : Int32) (x0_at : Int32) (x0_from : Int32) (x0_error : Int32) (x0_errorAt : Int32) (y1_s : Nat → Int32) (y2_text : Nat → Int32)   (o_x0_at : Int32) (o_x0_from : Int32) (o_x0_error : Int32) (o_x0_errorAt : Int32) (o_y1_s : Nat → Int32) (hf : f_X9_readsPlace x0_length x0_at x0_from x0_error x0_errorAt y1_s y2_text = some (o_x0_at, o_x0_from, o_x0_error, o_x0_errorAt, o_y1_s)) : MI l g yX9_readsPlace wsX9_readsPlace 7 154 [.ref a0] (w_X9_readsPlace g a0 a1 a2 u0_1 u0_2 u0_3 u0_4 u0_5 u0_6 u0_7 u0_8 u0_9 u0_10 u0_11 u0_12 u0_13 u0_14 u0_15 u0_16 u0_17 u0_18 u0_25 u0_26 u0_27 u0_28 u0_29 u0_30 x0_length x0_at x0_from x0_error x0_errorAt y1_s y2_text) sz none (w_X9_readsPlace g a0 a1 a2 u0_1 u0_2 u0_3 u0_4 u0_5 u0_6 u0_7 u0_8 u0_9 u0_10 u0_11 u0_12 u0_13 u0_14 u0_15 u0_16 u0_17 u0_18 u0_25 u0_26 u0_27 u0_28 u0_29 u0_30 x0_length o_x0_at o_x0_from o_x0_error o_x0_errorAt o_y1_s y2_text) := by
  refine MI.start (cc := cX9_readsPlace) (maxL := 3) (ret := none) rfl rfl (nle rfl) ?_
  intro p e s m args below meth c A ls Q hQ hexec hb hr hts hown hlocks hml hA hP hD hG hS hl
  unfold f_X9_readsPlace at hf
  have hWX9 : ∀ w ∈ wsX90, w.before args s = true := fun w h => hts w (List.mem_cons_of_mem _ (List.mem_append_right _ h))
  have hS : va_S A s.heap s.heap [] := hS
  refine lv_aload_n (pc := 0) hexec hb dX9_readsPlace_0 rfl (lv_at hl 0 rfl) ?_
  obtain ⟨x0_at_1, x0_from_1, x0_error_1, x0_errorAt_1, hc, hf⟩ := bd4_e hf
  refine kVp (pc := 1) (S := ⟨hexec, hb, hml, hown, hts⟩) hP hD hG hA hS [0, 2] [1] [1, 0, 2] (w2 := (w_X9_readsPlace g a0 a1 a2 u0_1 u0_2 u0_3 u0_4 u0_5 u0_6 u0_7 u0_8 u0_9 u0_10 u0_11 u0_12 u0_13 u0_14 u0_15 u0_16 u0_17 u0_18 u0_25 u0_26 u0_27 u0_28 u0_29 u0_30 x0_length x0_at_1 x0_from_1 x0_error_1 x0_errorAt_1 y1_s y2_text)) rfl rfl rfl rfl rfl rfl (by decide) (c_X9_name l g a0 a2 _ (.ref a1) u0_1 u0_2 u0_3 u0_4 u0_5 u0_6 u0_7 u0_8 u0_9 u0_10 u0_11 u0_12 u0_13 u0_14 u0_15 u0_16 u0_17 u0_18 u0_25 u0_26 u0_27 u0_28 u0_29 u0_30 x0_length x0_at x0_from x0_error x0_errorAt y2_text x0_at_1 x0_from_1 x0_error_1 x0_errorAt_1 hc) gX9_readsPlace_X9_name rfl hv_X9_name ⟨nle rfl, nle rfl⟩ 9 0 rfl rfl rfl (rest := []) rfl rfl hl.1 (nle rfl) dX9_readsPlace_1 (fun H locs hP hD hS => ?_)
  refine lv_aload_n (pc := 4) hexec hb dX9_readsPlace_4 rfl (lv_at hl 0 rfl) ?_
  obtain ⟨r5, hc, hf⟩ := bd1_e hf
  refine kVp (pc := 5) (S := ⟨hexec, hb, hml, hown, hts⟩) hP hD hG hA hS [0] [1, 2] [2, 0, 1] (w2 := (w_X9_readsPlace g a0 a1 a2 u0_1 u0_2 u0_3 u0_4 u0_5 u0_6 u0_7 u0_8 u0_9 u0_10 u0_11 u0_12 u0_13 u0_14 u0_15 u0_16 u0_17 u0_18 u0_25 u0_26 u0_27 u0_28 u0_29 u0_30 x0_length x0_at_1 x0_from_1 x0_error_1 x0_errorAt_1 y1_s y2_text)) rfl rfl rfl rfl rfl rfl (by decide) (c_X9_isFine l g a0 _ (.ref a1) u0_1 u0_2 u0_3 u0_4 u0_5 u0_6 u0_7 u0_8 u0_9 u0_10 u0_11 u0_12 u0_13 u0_14 u0_15 u0_16 u0_17 u0_18 (.ref a2) (.int x0_length) (.int x0_at_1) (.int x0_from_1) (.int x0_errorAt_1) u0_25 u0_26 u0_27 u0_28 u0_29 u0_30 x0_error_1 r5 hc) gX9_readsPlace_X9_isFine rfl hv_X9_isFine ⟨nle rfl, nle rfl⟩ 9 0 rfl rfl rfl (rest := []) rfl rfl hl.1 (nle rfl) dX9_readsPlace_5 (fun H locs hP hD hS => ?_)
  obtain ⟨j19, ej19, hf⟩ := bvf1 hf
  have hj19 : ∀ (t19 : Int32) (H : Heap) (locs : List Loc) (ls : Array Slot), j19 t19 = some (o_x0_at, o_x0_from, o_x0_error, o_x0_errorAt, o_y1_s) → va_P g.1 vwCl (w_X9_readsPlace g a0 a1 a2 u0_1 u0_2 u0_3 u0_4 u0_5 u0_6 u0_7 u0_8 u0_9 u0_10 u0_11 u0_12 u0_13 u0_14 u0_15 u0_16 u0_17 u0_18 u0_25 u0_26 u0_27 u0_28 u0_29 u0_30 x0_length x0_at_1 x0_from_1 x0_error_1 x0_errorAt_1 y1_s y2_text) H → va_D A (w_X9_readsPlace g a0 a1 a2 u0_1 u0_2 u0_3 u0_4 u0_5 u0_6 u0_7 u0_8 u0_9 u0_10 u0_11 u0_12 u0_13 u0_14 u0_15 u0_16 u0_17 u0_18 u0_25 u0_26 u0_27 u0_28 u0_29 u0_30 x0_length x0_at_1 x0_from_1 x0_error_1 x0_errorAt_1 y1_s y2_text) → va_S A s.heap H locs → lv_has ls 3 [(0, .ref a0)] → W p l e (RM 7 154) s m args below meth c H locs 0 0 Q (F0 m 19 ls [.int t19]) := by
    intro t19 H locs ls hf hP hD hS hl
    have hf := (ej19 t19).symm.trans hf
    refine lv_istore_n (pc := 19) hexec hb dX9_readsPlace_19 rfl hl (nle rfl) rfl (fun ls (hl : lv_has ls 3 [(1, .int t19), (0, .ref a0)]) => ?_)
    refine lv_aload_n (pc := 20) hexec hb dX9_readsPlace_20 rfl (lv_at hl 1 rfl) ?_
    refine lv_iload_n (pc := 21) hexec hb dX9_readsPlace_21 rfl (lv_at hl 0 rfl) ?_
    refine lv_iconst (pc := 22) hexec hb dX9_readsPlace_22 ki_m1 ?_
    obtain ⟨j31, ej31, hf⟩ := bvf1 hf
    have hj31 : ∀ (t31 : Int32) (H : Heap) (locs : List Loc) (ls : Array Slot), j31 t31 = some (o_x0_at, o_x0_from, o_x0_error, o_x0_errorAt, o_y1_s) → va_P g.1 vwCl (w_X9_readsPlace g a0 a1 a2 u0_1 u0_2 u0_3 u0_4 u0_5 u0_6 u0_7 u0_8 u0_9 u0_10 u0_11 u0_12 u0_13 u0_14 u0_15 u0_16 u0_17 u0_18 u0_25 u0_26 u0_27 u0_28 u0_29 u0_30 x0_length x0_at_1 x0_from_1 x0_error_1 x0_errorAt_1 y1_s y2_text) H → va_D A (w_X9_readsPlace g a0 a1 a2 u0_1 u0_2 u0_3 u0_4 u0_5 u0_6 u0_7 u0_8 u0_9 u0_10 u0_11 u0_12 u0_13 u0_14 u0_15 u0_16 u0_17 u0_18 u0_25 u0_26 u0_27 u0_28 u0_29 u0_30 x0_length x0_at_1 x0_from_1 x0_error_1 x0_errorAt_1 y1_s y2_text) → va_S A s.heap H locs → lv_has ls 3 [(0, .ref a0), (1, .int t19)] → W p l e (RM 7 154) s m args below meth c H locs 0 0 Q (F0 m 31 ls [.int t31, .ref a0]) := by
      intro t31 H locs ls hf hP hD hS hl
      have hf := (ej31 t31).symm.trans hf
      refine lv_iconst (pc := 31) hexec hb dX9_readsPlace_31 ki_4 ?_
      obtain ⟨x0_error_2, x0_errorAt_2, hc, hf⟩ := bd2_e hf
      refine kVp (pc := 32) (S := ⟨hexec, hb, hml, hown, hts⟩) hP hD hG hA hS [0] [1, 2] [2, 0, 1] (w2 := (w_X9_readsPlace g a0 a1 a2 u0_1 u0_2 u0_3 u0_4 u0_5 u0_6 u0_7 u0_8 u0_9 u0_10 u0_11 u0_12 u0_13 u0_14 u0_15 u0_16 u0_17 u0_18 u0_25 u0_26 u0_27 u0_28 u0_29 u0_30 x0_length x0_at_1 x0_from_1 x0_error_2 x0_errorAt_2 y1_s y2_text)) rfl rfl rfl rfl rfl rfl (by decide) (c_X9_failsIf l g a0 _ (.ref a1) u0_1 u0_2 u0_3 u0_4 u0_5 u0_6 u0_7 u0_8 u0_9 u0_10 u0_11 u0_12 u0_13 u0_14 u0_15 u0_16 u0_17 u0_18 (.ref a2) (.int x0_length) (.int x0_at_1) u0_25 u0_26 u0_27 u0_28 u0_29 u0_30 x0_from_1 x0_error_1 x0_errorAt_1 t31 4 x0_error_2 x0_errorAt_2 hc) gX9_readsPlace_X9_failsIf rfl hv_X9_failsIf ⟨nle rfl, nle rfl⟩ 9 0 rfl rfl rfl (rest := []) rfl rfl hl.1 (nle rfl) dX9_readsPlace_32 (fun H locs hP hD hS => ?_)
      refine lv_aload_n (pc := 35) hexec hb dX9_readsPlace_35 rfl (lv_at hl 0 rfl) ?_
      obtain ⟨x0_at_2, x0_from_2, hc, hf⟩ := bd2_e hf
      refine kVp (pc := 36) (S := ⟨hexec, hb, hml, hown, hts⟩) hP hD hG hA hS [0, 2] [1] [1, 0, 2] (w2 := (w_X9_readsPlace g a0 a1 a2 u0_1 u0_2 u0_3 u0_4 u0_5 u0_6 u0_7 u0_8 u0_9 u0_10 u0_11 u0_12 u0_13 u0_14 u0_15 u0_16 u0_17 u0_18 u0_25 u0_26 u0_27 u0_28 u0_29 u0_30 x0_length x0_at_2 x0_from_2 x0_error_2 x0_errorAt_2 y1_s y2_text)) rfl rfl rfl rfl rfl rfl (by decide) (c_X9_word l g a0 a2 _ (.ref a1) u0_1 u0_2 u0_3 u0_4 u0_5 u0_6 u0_7 u0_8 u0_9 u0_10 u0_11 u0_12 u0_13 u0_14 u0_15 u0_16 u0_17 u0_18 (.int x0_errorAt_2) u0_25 u0_26 u0_27 u0_28 u0_29 u0_30 x0_length x0_at_1 x0_from_1 x0_error_2 y2_text x0_at_2 x0_from_2 hc) gX9_readsPlace_X9_word rfl hv_X9_word ⟨nle rfl, nle rfl⟩ 9 0 rfl rfl rfl (rest := []) rfl rfl hl.1 (nle rfl) dX9_readsPlace_36 (fun H locs hP hD hS => ?_)
      refine lv_aload_n (pc := 39) hexec hb dX9_readsPlace_39 rfl (lv_at hl 0 rfl) ?_
      obtain ⟨r40, hc, hf⟩ := bd1_e hf
      refine kVp (pc := 40) (S := ⟨hexec, hb, hml, hown, hts⟩) hP hD hG hA hS [0, 2] [1] [1, 0, 2] (w2 := (w_X9_readsPlace g a0 a1 a2 u0_1 u0_2 u0_3 u0_4 u0_5 u0_6 u0_7 u0_8 u0_9 u0_10 u0_11 u0_12 u0_13 u0_14 u0_15 u0_16 u0_17 u0_18 u0_25 u0_26 u0_27 u0_28 u0_29 u0_30 x0_length x0_at_2 x0_from_2 x0_error_2 x0_errorAt_2 y1_s y2_text)) rfl rfl rfl rfl rfl rfl (by decide) (c_X9_wayHere l g a0 a2 _ (.ref a1) u0_1 u0_2 u0_3 u0_4 u0_5 u0_6 u0_7 u0_8 u0_9 u0_10 u0_11 u0_12 u0_13 u0_14 u0_15 u0_16 u0_17 u0_18 (.int x0_length) (.int x0_errorAt_2) u0_25 u0_26 u0_27 u0_28 u0_29 u0_30 x0_at_2 x0_from_2 x0_error_2 y2_text r40 hc) gX9_readsPlace_X9_wayHere rfl hv_X9_wayHere ⟨nle rfl, nle rfl⟩ 9 0 rfl rfl rfl (rest := []) rfl rfl hl.1 (nle rfl) dX9_readsPlace_40 (fun H locs hP hD hS => ?_)
      refine lv_istore_n (pc := 43) hexec hb dX9_readsPlace_43 rfl hl (nle rfl) rfl (fun ls (hl : lv_has ls 3 [(2, .int r40), (0, .ref a0), (1, .int t19)]) => ?_)
      refine lv_aload_n (pc := 44) hexec hb dX9_readsPlace_44 rfl (lv_at hl 1 rfl) ?_
      refine lv_iload_n (pc := 45) hexec hb dX9_readsPlace_45 rfl (lv_at hl 0 rfl) ?_
      refine lv_iconst (pc := 46) hexec hb dX9_readsPlace_46 ki_m1 ?_
      obtain ⟨j55, ej55, hf⟩ := bvf1 hf
      have hj55 : ∀ (t55 : Int32) (H : Heap) (locs : List Loc) (ls : Array Slot), j55 t55 = some (o_x0_at, o_x0_from, o_x0_error, o_x0_errorAt, o_y1_s) → va_P g.1 vwCl (w_X9_readsPlace g a0 a1 a2 u0_1 u0_2 u0_3 u0_4 u0_5 u0_6 u0_7 u0_8 u0_9 u0_10 u0_11 u0_12 u0_13 u0_14 u0_15 u0_16 u0_17 u0_18 u0_25 u0_26 u0_27 u0_28 u0_29 u0_30 x0_length x0_at_2 x0_from_2 x0_error_2 x0_errorAt_2 y1_s y2_text) H → va_D A (w_X9_readsPlace g a0 a1 a2 u0_1 u0_2 u0_3 u0_4 u0_5 u0_6 u0_7 u0_8 u0_9 u0_10 u0_11 u0_12 u0_13 u0_14 u0_15 u0_16 u0_17 u0_18 u0_25 u0_26 u0_27 u0_28 u0_29 u0_30 x0_length x0_at_2 x0_from_2 x0_error_2 x0_errorAt_2 y1_s y2_text) → va_S A s.heap H locs → lv_has ls 3 [(0, .ref a0), (1, .int t19), (2, .int r40)] → W p l e (RM 7 154) s m args below meth c H locs 0 0 Q (F0 m 55 ls [.int t55, .ref a0]) := by
        intro t55 H locs ls hf hP hD hS hl
        have hf := (ej55 t55).symm.trans hf
        refine lv_iconst (pc := 55) hexec hb dX9_readsPlace_55 ki_1 ?_
        obtain ⟨x0_error_3, x0_errorAt_3, hc, hf⟩ := bd2_e hf
        refine kVp (pc := 56) (S := ⟨hexec, hb, hml, hown, hts⟩) hP hD hG hA hS [0] [1, 2] [2, 0, 1] (w2 := (w_X9_readsPlace g a0 a1 a2 u0_1 u0_2 u0_3 u0_4 u0_5 u0_6 u0_7 u0_8 u0_9 u0_10 u0_11 u0_12 u0_13 u0_14 u0_15 u0_16 u0_17 u0_18 u0_25 u0_26 u0_27 u0_28 u0_29 u0_30 x0_length x0_at_2 x0_from_2 x0_error_3 x0_errorAt_3 y1_s y2_text)) rfl rfl rfl rfl rfl rfl (by decide) (c_X9_failsIf l g a0 _ (.ref a1) u0_1 u0_2 u0_3 u0_4 u0_5 u0_6 u0_7 u0_8 u0_9 u0_10 u0_11 u0_12 u0_13 u0_14 u0_15 u0_16 u0_17 u0_18 (.ref a2) (.int x0_length) (.int x0_at_2) u0_25 u0_26 u0_27 u0_28 u0_29 u0_30 x0_from_2 x0_error_2 x0_errorAt_2 t55 1 x0_error_3 x0_errorAt_3 hc) gX9_readsPlace_X9_failsIf rfl hv_X9_failsIf ⟨nle rfl, nle rfl⟩ 9 0 rfl rfl rfl (rest := []) rfl rfl hl.1 (nle rfl) dX9_readsPlace_56 (fun H locs hP hD hS => ?_)
        refine lv_aload_n (pc := 59) hexec hb dX9_readsPlace_59 rfl (lv_at hl 0 rfl) ?_
        obtain ⟨r60, hc, hf⟩ := bd1_e hf
        refine kVp (pc := 60) (S := ⟨hexec, hb, hml, hown, hts⟩) hP hD hG hA hS [0] [1, 2] [2, 0, 1] (w2 := (w_X9_readsPlace g a0 a1 a2 u0_1 u0_2 u0_3 u0_4 u0_5 u0_6 u0_7 u0_8 u0_9 u0_10 u0_11 u0_12 u0_13 u0_14 u0_15 u0_16 u0_17 u0_18 u0_25 u0_26 u0_27 u0_28 u0_29 u0_30 x0_length x0_at_2 x0_from_2 x0_error_3 x0_errorAt_3 y1_s y2_text)) rfl rfl rfl rfl rfl rfl (by decide) (c_X9_isFine l g a0 _ (.ref a1) u0_1 u0_2 u0_3 u0_4 u0_5 u0_6 u0_7 u0_8 u0_9 u0_10 u0_11 u0_12 u0_13 u0_14 u0_15 u0_16 u0_17 u0_18 (.ref a2) (.int x0_length) (.int x0_at_2) (.int x0_from_2) (.int x0_errorAt_3) u0_25 u0_26 u0_27 u0_28 u0_29 u0_30 x0_error_3 r60 hc) gX9_readsPlace_X9_isFine rfl hv_X9_isFine ⟨nle rfl, nle rfl⟩ 9 0 rfl rfl rfl (rest := []) rfl rfl hl.1 (nle rfl) dX9_readsPlace_60 (fun H locs hP hD hS => ?_)
        refine kb_ne (pc := 63) hexec hb dX9_readsPlace_63 (tgt := 67) rfl hf (fun hc hf => ?_) (fun hc hf => ?_)
        · refine lv_aload_n (pc := 67) hexec hb dX9_readsPlace_67 rfl (lv_at hl 0 rfl) ?_
          refine lv_aload_n (pc := 68) hexec hb dX9_readsPlace_68 rfl (lv_at hl 0 rfl) ?_
          refine lv_iload_n (pc := 69) hexec hb dX9_readsPlace_69 rfl (lv_at hl 1 rfl) ?_
          refine lv_iload_n (pc := 70) hexec hb dX9_readsPlace_70 rfl (lv_at hl 2 rfl) ?_
          obtain ⟨r71, hc, hf⟩ := bd1_e hf
          refine kVp (pc := 71) (S := ⟨hexec, hb, hml, hown, hts⟩) hP hD hG hA hS [0, 1] [2] [1, 2, 0] (w2 := (w_X9_readsPlace g a0 a1 a2 u0_1 u0_2 u0_3 u0_4 u0_5 u0_6 u0_7 u0_8 u0_9 u0_10 u0_11 u0_12 u0_13 u0_14 u0_15 u0_16 u0_17 u0_18 u0_25 u0_26 u0_27 u0_28 u0_29 u0_30 x0_length x0_at_2 x0_from_2 x0_error_3 x0_errorAt_3 y1_s y2_text)) rfl rfl rfl rfl rfl rfl (by decide) (c_X9_reason l g a0 a1 _ u0_1 u0_2 u0_3 u0_4 u0_5 u0_6 u0_7 u0_8 u0_9 u0_10 u0_11 u0_12 u0_13 u0_14 u0_15 u0_16 u0_17 u0_18 (.ref a2) (.int x0_length) (.int x0_at_2) (.int x0_from_2) (.int x0_error_3) (.int x0_errorAt_3) u0_25 u0_26 u0_27 u0_28 u0_29 u0_30 y1_s t19 r40 r71 hc) gX9_readsPlace_X9_reason rfl hv_X9_reason ⟨nle rfl, nle rfl⟩ 9 0 rfl rfl rfl (rest := [.ref a0]) rfl rfl hl.1 (nle rfl) dX9_readsPlace_71 (fun H locs hP hD hS => ?_)
          obtain ⟨j82, ej82, hf⟩ := bvf1 hf
          have hj82 : ∀ (t82 : Int32) (H : Heap) (locs : List Loc) (ls : Array Slot), j82 t82 = some (o_x0_at, o_x0_from, o_x0_error, o_x0_errorAt, o_y1_s) → va_P g.1 vwCl (w_X9_readsPlace g a0 a1 a2 u0_1 u0_2 u0_3 u0_4 u0_5 u0_6 u0_7 u0_8 u0_9 u0_10 u0_11 u0_12 u0_13 u0_14 u0_15 u0_16 u0_17 u0_18 u0_25 u0_26 u0_27 u0_28 u0_29 u0_30 x0_length x0_at_2 x0_from_2 x0_error_3 x0_errorAt_3 y1_s y2_text) H → va_D A (w_X9_readsPlace g a0 a1 a2 u0_1 u0_2 u0_3 u0_4 u0_5 u0_6 u0_7 u0_8 u0_9 u0_10 u0_11 u0_12 u0_13 u0_14 u0_15 u0_16 u0_17 u0_18 u0_25 u0_26 u0_27 u0_28 u0_29 u0_30 x0_length x0_at_2 x0_from_2 x0_error_3 x0_errorAt_3 y1_s y2_text) → va_S A s.heap H locs → lv_has ls 3 [(0, .ref a0), (1, .int t19), (2, .int r40)] → W p l e (RM 7 154) s m args below meth c H locs 0 0 Q (F0 m 82 ls [.int t82, .ref a0]) := by
            intro t82 H locs ls hf hP hD hS hl
            have hf := (ej82 t82).symm.trans hf
            refine lv_iconst (pc := 82) hexec hb dX9_readsPlace_82 ki_3 ?_
            obtain ⟨x0_error_4, x0_errorAt_4, hc, hf⟩ := bd2_e hf
            refine kVp (pc := 83) (S := ⟨hexec, hb, hml, hown, hts⟩) hP hD hG hA hS [0] [1, 2] [2, 0, 1] (w2 := (w_X9_readsPlace g a0 a1 a2 u0_1 u0_2 u0_3 u0_4 u0_5 u0_6 u0_7 u0_8 u0_9 u0_10 u0_11 u0_12 u0_13 u0_14 u0_15 u0_16 u0_17 u0_18 u0_25 u0_26 u0_27 u0_28 u0_29 u0_30 x0_length x0_at_2 x0_from_2 x0_error_4 x0_errorAt_4 y1_s y2_text)) rfl rfl rfl rfl rfl rfl (by decide) (c_X9_failsIf l g a0 _ (.ref a1) u0_1 u0_2 u0_3 u0_4 u0_5 u0_6 u0_7 u0_8 u0_9 u0_10 u0_11 u0_12 u0_13 u0_14 u0_15 u0_16 u0_17 u0_18 (.ref a2) (.int x0_length) (.int x0_at_2) u0_25 u0_26 u0_27 u0_28 u0_29 u0_30 x0_from_2 x0_error_3 x0_errorAt_3 t82 3 x0_error_4 x0_errorAt_4 hc) gX9_readsPlace_X9_failsIf rfl hv_X9_failsIf ⟨nle rfl, nle rfl⟩ 9 0 rfl rfl rfl (rest := []) rfl rfl hl.1 (nle rfl) dX9_readsPlace_83 (fun H locs hP hD hS => ?_)
            refine lv_aload_n (pc := 86) hexec hb dX9_readsPlace_86 rfl (lv_at hl 0 rfl) ?_
            obtain ⟨r87, hc, hf⟩ := bd1_e hf
            refine kVp (pc := 87) (S := ⟨hexec, hb, hml, hown, hts⟩) hP hD hG hA hS [0] [1, 2] [2, 0, 1] (w2 := (w_X9_readsPlace g a0 a1 a2 u0_1 u0_2 u0_3 u0_4 u0_5 u0_6 u0_7 u0_8 u0_9 u0_10 u0_11 u0_12 u0_13 u0_14 u0_15 u0_16 u0_17 u0_18 u0_25 u0_26 u0_27 u0_28 u0_29 u0_30 x0_length x0_at_2 x0_from_2 x0_error_4 x0_errorAt_4 y1_s y2_text)) rfl rfl rfl rfl rfl rfl (by decide) (c_X9_isFine l g a0 _ (.ref a1) u0_1 u0_2 u0_3 u0_4 u0_5 u0_6 u0_7 u0_8 u0_9 u0_10 u0_11 u0_12 u0_13 u0_14 u0_15 u0_16 u0_17 u0_18 (.ref a2) (.int x0_length) (.int x0_at_2) (.int x0_from_2) (.int x0_errorAt_4) u0_25 u0_26 u0_27 u0_28 u0_29 u0_30 x0_error_4 r87 hc) gX9_readsPlace_X9_isFine rfl hv_X9_isFine ⟨nle rfl, nle rfl⟩ 9 0 rfl rfl rfl (rest := []) rfl rfl hl.1 (nle rfl) dX9_readsPlace_87 (fun H locs hP hD hS => ?_)
            refine kb_eq (pc := 90) hexec hb dX9_readsPlace_90 (tgt := 100) rfl hf (fun hc hf => ?_) (fun hc hf => ?_)
            · cases hf
              exact ke_v hQ hexec hb hr hP hD hS dX9_readsPlace_100 hlocks
            · refine lv_aload_n (pc := 93) hexec hb dX9_readsPlace_93 rfl (lv_at hl 0 rfl) ?_
              refine lv_iload_n (pc := 94) hexec hb dX9_readsPlace_94 rfl (lv_at hl 1 rfl) ?_
              refine lv_iconst (pc := 95) hexec hb dX9_readsPlace_95 ki_2 ?_
              refine lv_iload_n (pc := 96) hexec hb dX9_readsPlace_96 rfl (lv_at hl 2 rfl) ?_
              obtain ⟨y1_s_1, hc, hf⟩ := bd1_e hf
              refine kVp (pc := 97) (S := ⟨hexec, hb, hml, hown, hts⟩) hP hD hG hA hS [0, 1] [2] [1, 2, 0] (w2 := (w_X9_readsPlace g a0 a1 a2 u0_1 u0_2 u0_3 u0_4 u0_5 u0_6 u0_7 u0_8 u0_9 u0_10 u0_11 u0_12 u0_13 u0_14 u0_15 u0_16 u0_17 u0_18 u0_25 u0_26 u0_27 u0_28 u0_29 u0_30 x0_length x0_at_2 x0_from_2 x0_error_4 x0_errorAt_4 y1_s_1 y2_text)) rfl rfl rfl rfl rfl rfl (by decide) (c_X9_puts l g a0 a1 _ u0_1 u0_2 u0_3 u0_4 u0_5 u0_6 u0_7 u0_8 u0_9 u0_10 u0_11 u0_12 u0_13 u0_14 u0_15 u0_16 u0_17 u0_18 (.ref a2) (.int x0_length) (.int x0_at_2) (.int x0_from_2) (.int x0_error_4) (.int x0_errorAt_4) u0_25 u0_26 u0_27 u0_28 u0_29 u0_30 y1_s t19 2 r40 y1_s_1 hc) gX9_readsPlace_X9_puts rfl hv_X9_puts ⟨nle rfl, nle rfl⟩ 9 0 rfl rfl rfl (rest := []) rfl rfl hl.1 (nle rfl) dX9_readsPlace_97 (fun H locs hP hD hS => ?_)
              cases hf
              exact ke_v hQ hexec hb hr hP hD hS dX9_readsPlace_100 hlocks
          refine kb_eq (pc := 74) hexec hb dX9_readsPlace_74 (tgt := 81) rfl hf (fun hc hf => ?_) (fun hc hf => ?_)
          · refine lv_iconst (pc := 81) hexec hb dX9_readsPlace_81 ki_0 ?_
            exact hj82 _ _ _ _ hf hP hD hS (lv_sub hl [0, 1, 2] rfl)
          · refine lv_iconst (pc := 77) hexec hb dX9_readsPlace_77 ki_1 ?_
            refine lv_goto (pc := 78) hexec hb dX9_readsPlace_78 (tgt := 82) rfl ?_
            exact hj82 _ _ _ _ hf hP hD hS (lv_sub hl [0, 1, 2] rfl)
        · cases hf
          exact ke_v hQ hexec hb hr hP hD hS dX9_readsPlace_66 hlocks
      refine ki_ne (pc := 47) hexec hb dX9_readsPlace_47 (tgt := 54) rfl hf (fun hc hf => ?_) (fun hc hf => ?_)
      · refine lv_iconst (pc := 54) hexec hb dX9_readsPlace_54 ki_0 ?_
        exact hj55 _ _ _ _ hf hP hD hS (lv_sub hl [1, 2, 0] rfl)
      · refine lv_iconst (pc := 50) hexec hb dX9_readsPlace_50 ki_1 ?_
        refine lv_goto (pc := 51) hexec hb dX9_readsPlace_51 (tgt := 55) rfl ?_
        exact hj55 _ _ _ _ hf hP hD hS (lv_sub hl [1, 2, 0] rfl)
    refine ki_ne (pc := 23) hexec hb dX9_readsPlace_23 (tgt := 30) rfl hf (fun hc hf => ?_) (fun hc hf => ?_)
    · refine lv_iconst (pc := 30) hexec hb dX9_readsPlace_30 ki_0 ?_
      exact hj31 _ _ _ _ hf hP hD hS (lv_sub hl [1, 0] rfl)
    · refine lv_iconst (pc := 26) hexec hb dX9_readsPlace_26 ki_1 ?_
      refine lv_goto (pc := 27) hexec hb dX9_readsPlace_27 (tgt := 31) rfl ?_
      exact hj31 _ _ _ _ hf hP hD hS (lv_sub hl [1, 0] rfl)
  refine kb_eq (pc := 8) hexec hb dX9_readsPlace_8 (tgt := 18) rfl hf (fun hc hf => ?_) (fun hc hf => ?_)
  · refine lv_iconst (pc := 18) hexec hb dX9_readsPlace_18 ki_m1 ?_
    exact hj19 _ _ _ _ hf hP hD hS (lv_sub hl [0] rfl)
  · refine lv_aload_n (pc := 11) hexec hb dX9_readsPlace_11 rfl (lv_at hl 0 rfl) ?_
    obtain ⟨r12, hc, hf⟩ := bd1_e hf
    refine kVp (pc := 12) (S := ⟨hexec, hb, hml, hown, hts⟩) hP hD hG hA hS [0, 1, 2] [] [0, 1, 2] (w2 := (w_X9_readsPlace g a0 a1 a2 u0_1 u0_2 u0_3 u0_4 u0_5 u0_6 u0_7 u0_8 u0_9 u0_10 u0_11 u0_12 u0_13 u0_14 u0_15 u0_16 u0_17 u0_18 u0_25 u0_26 u0_27 u0_28 u0_29 u0_30 x0_length x0_at_1 x0_from_1 x0_error_1 x0_errorAt_1 y1_s y2_text)) rfl rfl rfl rfl rfl rfl (by decide) (c_X9_named l g a0 a1 a2 _ u0_1 u0_2 u0_3 u0_4 u0_5 u0_6 u0_7 u0_8 u0_9 u0_10 u0_11 u0_12 u0_13 u0_14 u0_15 u0_16 u0_17 u0_18 (.int x0_length) (.int x0_error_1) (.int x0_errorAt_1) u0_25 u0_26 u0_27 u0_28 u0_29 u0_30 x0_at_1 x0_from_1 y1_s y2_text r12 hc) gX9_readsPlace_X9_named rfl hv_X9_named ⟨nle rfl, nle rfl⟩ 9 0 rfl rfl rfl (rest := []) rfl rfl hl.1 (nle rfl) dX9_readsPlace_12 (fun H locs hP hD hS => ?_)
    refine lv_goto (pc := 15) hexec hb dX9_readsPlace_15 (tgt := 19) rfl ?_
    exact hj19 _ _ _ _ hf hP hD hS (lv_sub hl [0] rfl)
abbrev w_X9_readsVoyage (g : GE) (a0 a1 a2 : Nat) (u0_1 u0_2 u0_3 u0_4 u0_5 u0_6 u0_7 u0_8 u0_9 u0_10 u0_11 u0_12 u0_13 u0_14 u0_15 u0_16 u0_17 u0_18 u0_25 u0_26 u0_27 u0_28 u0_29 u0_30 : Value) (x0_length : Int32) (x0_at : Int32) (x0_from : Int32) (x0_error : Int32) (x0_errorAt : Int32) (y1_s : Nat → Int32) (y2_text : Nat → Int32) : va_W := [(a0, .inr (9, [.ref a1, u0_1, u0_2, u0_3, u0_4, u0_5, u0_6, u0_7, u0_8, u0_9, u0_10, u0_11, u0_12, u0_13, u0_14, u0_15, u0_16, u0_17, u0_18, .ref a2, .int x0_length, .int x0_at, .int x0_from, .int x0_error, .int x0_errorAt, u0_25, u0_26, u0_27, u0_28, u0_29, u0_30])), (a1, .inl (g.2.1 0, 552, .inl y1_s)), (a2, .inl (g.2.1 0, 500, .inl y2_text))]
set_option maxRecDepth 20000 in
theorem c_X9_readsVoyage (l : Launch) (g : GE) (a0 a1 a2 : Nat) (sz : Nat) (u0_1 u0_2 u0_3 u0_4 u0_5 u0_6 u0_7 u0_8 u0_9 u0_10 u0_11 u0_12 u0_13 u0_14 u0_15 u0_16 u0_17 u0_18 u0_25 u0_26 u0_27 u0_28 u0_29 u0_30 : Value) (x0_length : Int32) (x0_at : Int32) (x0_from : Int32) (x0_error : Int32) (x0_errorAt : Int32) (y1_s : Nat → Int32) (y2_text : Nat → Int32)   (o_x0_at : Int32) (o_x0_from : Int32) (o_x0_error : Int32) (o_x0_errorAt : Int32) (o_y1_s : Nat → Int32) (hf : f_X9_readsVoyage x0_length x0_at x0_from x0_error x0_errorAt y1_s y2_text = some (o_x0_at, o_x0_from, o_x0_error, o_x0_errorAt, o_y1_s)) : MI l g yX9_readsVoyage wsX9_readsVoyage 5 109 [.ref a0] (w_X9_readsVoyage g a0 a1 a2 u0_1 u0_2 u0_3 u0_4 u0_5 u0_6 u0_7 u0_8 u0_9 u0_10 u0_11 u0_12 u0_13 u0_14 u0_15 u0_16 u0_17 u0_18 u0_25 u0_26 u0_27 u0_28 u0_29 u0_30 x0_length x0_at x0_from x0_error x0_errorAt y1_s y2_text) sz none (w_X9_readsVoyage g a0 a1 a2 u0_1 u0_2 u0_3 u0_4 u0_5 u0_6 u0_7 u0_8 u0_9 u0_10 u0_11 u0_12 u0_13 u0_14 u0_15 u0_16 u0_17 u0_18 u0_25 u0_26 u0_27 u0_28 u0_29 u0_30 x0_length o_x0_at o_x0_from o_x0_error o_x0_errorAt o_y1_s y2_text) := by
  refine MI.start (cc := cX9_readsVoyage) (maxL := 2) (ret := none) rfl rfl (nle rfl) ?_
  intro p e s m args below meth c A ls Q hQ hexec hb hr hts hown hlocks hml hA hP hD hG hS hl
  unfold f_X9_readsVoyage at hf
  have hWX9 : ∀ w ∈ wsX90, w.before args s = true := fun w h => hts w (List.mem_cons_of_mem _ (List.mem_append_right _ h))
  have hS : va_S A s.heap s.heap [] := hS
  obtain ⟨l0, el0, hf⟩ := bvf5 hf
  obtain ⟨x0_at_2, x0_from_2, x0_error_2, x0_errorAt_2, y1_s_2, hz, hf⟩ := bd5_e hf
  have hE0 : ∀ (H : Heap) (locs : List Loc) (ls : Array Slot), va_P g.1 vwCl (w_X9_readsVoyage g a0 a1 a2 u0_1 u0_2 u0_3 u0_4 u0_5 u0_6 u0_7 u0_8 u0_9 u0_10 u0_11 u0_12 u0_13 u0_14 u0_15 u0_16 u0_17 u0_18 u0_25 u0_26 u0_27 u0_28 u0_29 u0_30 x0_length x0_at_2 x0_from_2 x0_error_2 x0_errorAt_2 y1_s_2 y2_text) H → va_D A (w_X9_readsVoyage g a0 a1 a2 u0_1 u0_2 u0_3 u0_4 u0_5 u0_6 u0_7 u0_8 u0_9 u0_10 u0_11 u0_12 u0_13 u0_14 u0_15 u0_16 u0_17 u0_18 u0_25 u0_26 u0_27 u0_28 u0_29 u0_30 x0_length x0_at_2 x0_from_2 x0_error_2 x0_errorAt_2 y1_s_2 y2_text) → va_S A s.heap H locs → lv_has ls 2 [] → W p l e (RM 5 109) s m args below meth c H locs 0 0 Q (F0 m 106 ls []) := by
    intro H locs ls hP hD hS hl
    cases hf
    exact ke_v hQ hexec hb hr hP hD hS dX9_readsVoyage_106 hlocks
  obtain ⟨n, hz⟩ := lq5_e hz
  have hL0 : ∀ (n : Nat) (x0_at_1 : Int32) (x0_from_1 : Int32) (x0_error_1 : Int32) (x0_errorAt_1 : Int32) (y1_s_1 : Nat → Int32) (H : Heap) (locs : List Loc) (ls : Array Slot), it5 l0 n x0_at_1 x0_from_1 x0_error_1 x0_errorAt_1 y1_s_1 = some (x0_at_2, x0_from_2, x0_error_2, x0_errorAt_2, y1_s_2) → va_P g.1 vwCl (w_X9_readsVoyage g a0 a1 a2 u0_1 u0_2 u0_3 u0_4 u0_5 u0_6 u0_7 u0_8 u0_9 u0_10 u0_11 u0_12 u0_13 u0_14 u0_15 u0_16 u0_17 u0_18 u0_25 u0_26 u0_27 u0_28 u0_29 u0_30 x0_length x0_at_1 x0_from_1 x0_error_1 x0_errorAt_1 y1_s_1 y2_text) H → va_D A (w_X9_readsVoyage g a0 a1 a2 u0_1 u0_2 u0_3 u0_4 u0_5 u0_6 u0_7 u0_8 u0_9 u0_10 u0_11 u0_12 u0_13 u0_14 u0_15 u0_16 u0_17 u0_18 u0_25 u0_26 u0_27 u0_28 u0_29 u0_30 x0_length x0_at_1 x0_from_1 x0_error_1 x0_errorAt_1 y1_s_1 y2_text) → va_S A s.heap H locs → lv_has ls 2 [(0, .ref a0)] → W p l e (RM 5 109) s m args below meth c H locs 0 0 Q (F0 m 0 ls []) := by
    intro n
    induction n with
    | zero =>
      intro x0_at_1 x0_from_1 x0_error_1 x0_errorAt_1 y1_s_1 H locs ls hf hP hD hS hl
      exact it5_0 hf
    | succ n0 ih0 =>
      intro x0_at_1 x0_from_1 x0_error_1 x0_errorAt_1 y1_s_1 H locs ls hf hP hD hS hl
      obtain ⟨q0, hf, hk0⟩ := it5_e hf
      have hf := (el0 x0_at_1 x0_from_1 x0_error_1 x0_errorAt_1 y1_s_1).symm.trans hf
      refine lv_aload_n (pc := 0) hexec hb dX9_readsVoyage_0 rfl (lv_at hl 0 rfl) ?_
      obtain ⟨x0_at_3, x0_from_3, x0_error_3, x0_errorAt_3, hc, hf⟩ := bd4_e hf
      refine kVp (pc := 1) (S := ⟨hexec, hb, hml, hown, hts⟩) hP hD hG hA hS [0, 2] [1] [1, 0, 2] (w2 := (w_X9_readsVoyage g a0 a1 a2 u0_1 u0_2 u0_3 u0_4 u0_5 u0_6 u0_7 u0_8 u0_9 u0_10 u0_11 u0_12 u0_13 u0_14 u0_15 u0_16 u0_17 u0_18 u0_25 u0_26 u0_27 u0_28 u0_29 u0_30 x0_length x0_at_3 x0_from_3 x0_error_3 x0_errorAt_3 y1_s_1 y2_text)) rfl rfl rfl rfl rfl rfl (by decide) (c_X9_name l g a0 a2 _ (.ref a1) u0_1 u0_2 u0_3 u0_4 u0_5 u0_6 u0_7 u0_8 u0_9 u0_10 u0_11 u0_12 u0_13 u0_14 u0_15 u0_16 u0_17 u0_18 u0_25 u0_26 u0_27 u0_28 u0_29 u0_30 x0_length x0_at_1 x0_from_1 x0_error_1 x0_errorAt_1 y2_text x0_at_3 x0_from_3 x0_error_3 x0_errorAt_3 hc) gX9_readsVoyage_X9_name rfl hv_X9_name ⟨nle rfl, nle rfl⟩ 9 0 rfl rfl rfl (rest := []) rfl rfl hl.1 (nle rfl) dX9_readsVoyage_1 (fun H locs hP hD hS => ?_)
      refine lv_aload_n (pc := 4) hexec hb dX9_readsVoyage_4 rfl (lv_at hl 0 rfl) ?_
      refine lv_aload_n (pc := 5) hexec hb dX9_readsVoyage_5 rfl (lv_at hl 0 rfl) ?_
      refine kg_get (pc := 6) hexec hb (own := RX9) hWX9 hown hG hP 0 rfl rfl 0 (nle rfl) (hts _ (List.mem_cons_of_mem _ (List.mem_append_left _ (List.mem_append_left _ (List.mem_of_getElem? (i := 0) rfl))))) rfl rfl dX9_readsVoyage_6 ?_
      refine lv_iconst (pc := 9) hexec hb dX9_readsVoyage_9 ki_4 ?_
      refine kr_iald (pc := 10) hexec hb hG hP 1 rfl hf dX9_readsVoyage_10 (fun hf => ?_)
      refine lv_bipush (pc := 11) hexec hb dX9_readsVoyage_11 kb_16 ?_
      obtain ⟨j21, ej21, hf⟩ := bvf1 hf
      have hj21 : ∀ (t21 : Int32) (H : Heap) (locs : List Loc) (ls : Array Slot), j21 t21 = some q0 → va_P g.1 vwCl (w_X9_readsVoyage g a0 a1 a2 u0_1 u0_2 u0_3 u0_4 u0_5 u0_6 u0_7 u0_8 u0_9 u0_10 u0_11 u0_12 u0_13 u0_14 u0_15 u0_16 u0_17 u0_18 u0_25 u0_26 u0_27 u0_28 u0_29 u0_30 x0_length x0_at_3 x0_from_3 x0_error_3 x0_errorAt_3 y1_s_1 y2_text) H → va_D A (w_X9_readsVoyage g a0 a1 a2 u0_1 u0_2 u0_3 u0_4 u0_5 u0_6 u0_7 u0_8 u0_9 u0_10 u0_11 u0_12 u0_13 u0_14 u0_15 u0_16 u0_17 u0_18 u0_25 u0_26 u0_27 u0_28 u0_29 u0_30 x0_length x0_at_3 x0_from_3 x0_error_3 x0_errorAt_3 y1_s_1 y2_text) → va_S A s.heap H locs → lv_has ls 2 [(0, .ref a0)] → W p l e (RM 5 109) s m args below meth c H locs 0 0 Q (F0 m 21 ls [.int t21, .ref a0]) := by
        intro t21 H locs ls hf hP hD hS hl
        have hf := (ej21 t21).symm.trans hf
        refine lv_iconst (pc := 21) hexec hb dX9_readsVoyage_21 ki_3 ?_
        obtain ⟨x0_error_4, x0_errorAt_4, hc, hf⟩ := bd2_e hf
        refine kVp (pc := 22) (S := ⟨hexec, hb, hml, hown, hts⟩) hP hD hG hA hS [0] [1, 2] [2, 0, 1] (w2 := (w_X9_readsVoyage g a0 a1 a2 u0_1 u0_2 u0_3 u0_4 u0_5 u0_6 u0_7 u0_8 u0_9 u0_10 u0_11 u0_12 u0_13 u0_14 u0_15 u0_16 u0_17 u0_18 u0_25 u0_26 u0_27 u0_28 u0_29 u0_30 x0_length x0_at_3 x0_from_3 x0_error_4 x0_errorAt_4 y1_s_1 y2_text)) rfl rfl rfl rfl rfl rfl (by decide) (c_X9_failsIf l g a0 _ (.ref a1) u0_1 u0_2 u0_3 u0_4 u0_5 u0_6 u0_7 u0_8 u0_9 u0_10 u0_11 u0_12 u0_13 u0_14 u0_15 u0_16 u0_17 u0_18 (.ref a2) (.int x0_length) (.int x0_at_3) u0_25 u0_26 u0_27 u0_28 u0_29 u0_30 x0_from_3 x0_error_3 x0_errorAt_3 t21 3 x0_error_4 x0_errorAt_4 hc) gX9_readsVoyage_X9_failsIf rfl hv_X9_failsIf ⟨nle rfl, nle rfl⟩ 9 0 rfl rfl rfl (rest := []) rfl rfl hl.1 (nle rfl) dX9_readsVoyage_22 (fun H locs hP hD hS => ?_)
        refine lv_aload_n (pc := 25) hexec hb dX9_readsVoyage_25 rfl (lv_at hl 0 rfl) ?_
        obtain ⟨r26, hc, hf⟩ := bd1_e hf
        refine kVp (pc := 26) (S := ⟨hexec, hb, hml, hown, hts⟩) hP hD hG hA hS [0] [1, 2] [2, 0, 1] (w2 := (w_X9_readsVoyage g a0 a1 a2 u0_1 u0_2 u0_3 u0_4 u0_5 u0_6 u0_7 u0_8 u0_9 u0_10 u0_11 u0_12 u0_13 u0_14 u0_15 u0_16 u0_17 u0_18 u0_25 u0_26 u0_27 u0_28 u0_29 u0_30 x0_length x0_at_3 x0_from_3 x0_error_4 x0_errorAt_4 y1_s_1 y2_text)) rfl rfl rfl rfl rfl rfl (by decide) (c_X9_isFine l g a0 _ (.ref a1) u0_1 u0_2 u0_3 u0_4 u0_5 u0_6 u0_7 u0_8 u0_9 u0_10 u0_11 u0_12 u0_13 u0_14 u0_15 u0_16 u0_17 u0_18 (.ref a2) (.int x0_length) (.int x0_at_3) (.int x0_from_3) (.int x0_errorAt_4) u0_25 u0_26 u0_27 u0_28 u0_29 u0_30 x0_error_4 r26 hc) gX9_readsVoyage_X9_isFine rfl hv_X9_isFine ⟨nle rfl, nle rfl⟩ 9 0 rfl rfl rfl (rest := []) rfl rfl hl.1 (nle rfl) dX9_readsVoyage_26 (fun H locs hP hD hS => ?_)
        obtain ⟨j40, ej40, hf⟩ := bvf1 hf
        have hj40 : ∀ (t40 : Int32) (H : Heap) (locs : List Loc) (ls : Array Slot), j40 t40 = some q0 → va_P g.1 vwCl (w_X9_readsVoyage g a0 a1 a2 u0_1 u0_2 u0_3 u0_4 u0_5 u0_6 u0_7 u0_8 u0_9 u0_10 u0_11 u0_12 u0_13 u0_14 u0_15 u0_16 u0_17 u0_18 u0_25 u0_26 u0_27 u0_28 u0_29 u0_30 x0_length x0_at_3 x0_from_3 x0_error_4 x0_errorAt_4 y1_s_1 y2_text) H → va_D A (w_X9_readsVoyage g a0 a1 a2 u0_1 u0_2 u0_3 u0_4 u0_5 u0_6 u0_7 u0_8 u0_9 u0_10 u0_11 u0_12 u0_13 u0_14 u0_15 u0_16 u0_17 u0_18 u0_25 u0_26 u0_27 u0_28 u0_29 u0_30 x0_length x0_at_3 x0_from_3 x0_error_4 x0_errorAt_4 y1_s_1 y2_text) → va_S A s.heap H locs → lv_has ls 2 [(0, .ref a0)] → W p l e (RM 5 109) s m args below meth c H locs 0 0 Q (F0 m 40 ls [.int t40]) := by
          intro t40 H locs ls hf hP hD hS hl
          have hf := (ej40 t40).symm.trans hf
          refine lv_istore_n (pc := 40) hexec hb dX9_readsVoyage_40 rfl hl (nle rfl) rfl (fun ls (hl : lv_has ls 2 [(1, .int t40), (0, .ref a0)]) => ?_)
          refine lv_aload_n (pc := 41) hexec hb dX9_readsVoyage_41 rfl (lv_at hl 1 rfl) ?_
          refine lv_iload_n (pc := 42) hexec hb dX9_readsVoyage_42 rfl (lv_at hl 0 rfl) ?_
          refine lv_iconst (pc := 43) hexec hb dX9_readsVoyage_43 ki_m1 ?_
          obtain ⟨j52, ej52, hf⟩ := bvf1 hf
          have hj52 : ∀ (t52 : Int32) (H : Heap) (locs : List Loc) (ls : Array Slot), j52 t52 = some q0 → va_P g.1 vwCl (w_X9_readsVoyage g a0 a1 a2 u0_1 u0_2 u0_3 u0_4 u0_5 u0_6 u0_7 u0_8 u0_9 u0_10 u0_11 u0_12 u0_13 u0_14 u0_15 u0_16 u0_17 u0_18 u0_25 u0_26 u0_27 u0_28 u0_29 u0_30 x0_length x0_at_3 x0_from_3 x0_error_4 x0_errorAt_4 y1_s_1 y2_text) H → va_D A (w_X9_readsVoyage g a0 a1 a2 u0_1 u0_2 u0_3 u0_4 u0_5 u0_6 u0_7 u0_8 u0_9 u0_10 u0_11 u0_12 u0_13 u0_14 u0_15 u0_16 u0_17 u0_18 u0_25 u0_26 u0_27 u0_28 u0_29 u0_30 x0_length x0_at_3 x0_from_3 x0_error_4 x0_errorAt_4 y1_s_1 y2_text) → va_S A s.heap H locs → lv_has ls 2 [(0, .ref a0), (1, .int t40)] → W p l e (RM 5 109) s m args below meth c H locs 0 0 Q (F0 m 52 ls [.int t52, .ref a0]) := by
            intro t52 H locs ls hf hP hD hS hl
            have hf := (ej52 t52).symm.trans hf
            refine lv_iconst (pc := 52) hexec hb dX9_readsVoyage_52 ki_4 ?_
            obtain ⟨x0_error_5, x0_errorAt_5, hc, hf⟩ := bd2_e hf
            refine kVp (pc := 53) (S := ⟨hexec, hb, hml, hown, hts⟩) hP hD hG hA hS [0] [1, 2] [2, 0, 1] (w2 := (w_X9_readsVoyage g a0 a1 a2 u0_1 u0_2 u0_3 u0_4 u0_5 u0_6 u0_7 u0_8 u0_9 u0_10 u0_11 u0_12 u0_13 u0_14 u0_15 u0_16 u0_17 u0_18 u0_25 u0_26 u0_27 u0_28 u0_29 u0_30 x0_length x0_at_3 x0_from_3 x0_error_5 x0_errorAt_5 y1_s_1 y2_text)) rfl rfl rfl rfl rfl rfl (by decide) (c_X9_failsIf l g a0 _ (.ref a1) u0_1 u0_2 u0_3 u0_4 u0_5 u0_6 u0_7 u0_8 u0_9 u0_10 u0_11 u0_12 u0_13 u0_14 u0_15 u0_16 u0_17 u0_18 (.ref a2) (.int x0_length) (.int x0_at_3) u0_25 u0_26 u0_27 u0_28 u0_29 u0_30 x0_from_3 x0_error_4 x0_errorAt_4 t52 4 x0_error_5 x0_errorAt_5 hc) gX9_readsVoyage_X9_failsIf rfl hv_X9_failsIf ⟨nle rfl, nle rfl⟩ 9 0 rfl rfl rfl (rest := []) rfl rfl hl.1 (nle rfl) dX9_readsVoyage_53 (fun H locs hP hD hS => ?_)
            refine lv_aload_n (pc := 56) hexec hb dX9_readsVoyage_56 rfl (lv_at hl 0 rfl) ?_
            obtain ⟨r57, hc, hf⟩ := bd1_e hf
            refine kVp (pc := 57) (S := ⟨hexec, hb, hml, hown, hts⟩) hP hD hG hA hS [0] [1, 2] [2, 0, 1] (w2 := (w_X9_readsVoyage g a0 a1 a2 u0_1 u0_2 u0_3 u0_4 u0_5 u0_6 u0_7 u0_8 u0_9 u0_10 u0_11 u0_12 u0_13 u0_14 u0_15 u0_16 u0_17 u0_18 u0_25 u0_26 u0_27 u0_28 u0_29 u0_30 x0_length x0_at_3 x0_from_3 x0_error_5 x0_errorAt_5 y1_s_1 y2_text)) rfl rfl rfl rfl rfl rfl (by decide) (c_X9_isFine l g a0 _ (.ref a1) u0_1 u0_2 u0_3 u0_4 u0_5 u0_6 u0_7 u0_8 u0_9 u0_10 u0_11 u0_12 u0_13 u0_14 u0_15 u0_16 u0_17 u0_18 (.ref a2) (.int x0_length) (.int x0_at_3) (.int x0_from_3) (.int x0_errorAt_5) u0_25 u0_26 u0_27 u0_28 u0_29 u0_30 x0_error_5 r57 hc) gX9_readsVoyage_X9_isFine rfl hv_X9_isFine ⟨nle rfl, nle rfl⟩ 9 0 rfl rfl rfl (rest := []) rfl rfl hl.1 (nle rfl) dX9_readsVoyage_57 (fun H locs hP hD hS => ?_)
            obtain ⟨j89, ej89, hf⟩ := bvf1 hf
            have hj89 : ∀ (y1_s_3 : Nat → Int32) (H : Heap) (locs : List Loc) (ls : Array Slot), j89 y1_s_3 = some q0 → va_P g.1 vwCl (w_X9_readsVoyage g a0 a1 a2 u0_1 u0_2 u0_3 u0_4 u0_5 u0_6 u0_7 u0_8 u0_9 u0_10 u0_11 u0_12 u0_13 u0_14 u0_15 u0_16 u0_17 u0_18 u0_25 u0_26 u0_27 u0_28 u0_29 u0_30 x0_length x0_at_3 x0_from_3 x0_error_5 x0_errorAt_5 y1_s_3 y2_text) H → va_D A (w_X9_readsVoyage g a0 a1 a2 u0_1 u0_2 u0_3 u0_4 u0_5 u0_6 u0_7 u0_8 u0_9 u0_10 u0_11 u0_12 u0_13 u0_14 u0_15 u0_16 u0_17 u0_18 u0_25 u0_26 u0_27 u0_28 u0_29 u0_30 x0_length x0_at_3 x0_from_3 x0_error_5 x0_errorAt_5 y1_s_3 y2_text) → va_S A s.heap H locs → lv_has ls 2 [(0, .ref a0)] → W p l e (RM 5 109) s m args below meth c H locs 0 0 Q (F0 m 89 ls []) := by
              intro y1_s_3 H locs ls hf hP hD hS hl
              have hf := (ej89 y1_s_3).symm.trans hf
              refine lv_aload_n (pc := 89) hexec hb dX9_readsVoyage_89 rfl (lv_at hl 0 rfl) ?_
              obtain ⟨r90, hc, hf⟩ := bd1_e hf
              refine kVp (pc := 90) (S := ⟨hexec, hb, hml, hown, hts⟩) hP hD hG hA hS [0] [1, 2] [2, 0, 1] (w2 := (w_X9_readsVoyage g a0 a1 a2 u0_1 u0_2 u0_3 u0_4 u0_5 u0_6 u0_7 u0_8 u0_9 u0_10 u0_11 u0_12 u0_13 u0_14 u0_15 u0_16 u0_17 u0_18 u0_25 u0_26 u0_27 u0_28 u0_29 u0_30 x0_length x0_at_3 x0_from_3 x0_error_5 x0_errorAt_5 y1_s_3 y2_text)) rfl rfl rfl rfl rfl rfl (by decide) (c_X9_isFine l g a0 _ (.ref a1) u0_1 u0_2 u0_3 u0_4 u0_5 u0_6 u0_7 u0_8 u0_9 u0_10 u0_11 u0_12 u0_13 u0_14 u0_15 u0_16 u0_17 u0_18 (.ref a2) (.int x0_length) (.int x0_at_3) (.int x0_from_3) (.int x0_errorAt_5) u0_25 u0_26 u0_27 u0_28 u0_29 u0_30 x0_error_5 r90 hc) gX9_readsVoyage_X9_isFine rfl hv_X9_isFine ⟨nle rfl, nle rfl⟩ 9 0 rfl rfl rfl (rest := []) rfl rfl hl.1 (nle rfl) dX9_readsVoyage_90 (fun H locs hP hD hS => ?_)
              refine kb_eq (pc := 93) hexec hb dX9_readsVoyage_93 (tgt := 106) rfl hf (fun hc hf => ?_) (fun hc hf => ?_)
              · cases sr5 hf hk0
                exact hE0 _ _ _ hP hD hS (lv_sub hl [] rfl)
              · refine lv_aload_n (pc := 96) hexec hb dX9_readsVoyage_96 rfl (lv_at hl 0 rfl) ?_
                obtain ⟨r97, x0_at_4, x0_from_4, hc, hf⟩ := bd3_e hf
                refine kVp (pc := 97) (S := ⟨hexec, hb, hml, hown, hts⟩) hP hD hG hA hS [0, 2] [1] [1, 0, 2] (w2 := (w_X9_readsVoyage g a0 a1 a2 u0_1 u0_2 u0_3 u0_4 u0_5 u0_6 u0_7 u0_8 u0_9 u0_10 u0_11 u0_12 u0_13 u0_14 u0_15 u0_16 u0_17 u0_18 u0_25 u0_26 u0_27 u0_28 u0_29 u0_30 x0_length x0_at_4 x0_from_4 x0_error_5 x0_errorAt_5 y1_s_3 y2_text)) rfl rfl rfl rfl rfl rfl (by decide) (c_X9_looks l g a0 a2 _ (.ref a1) u0_1 u0_2 u0_3 u0_4 u0_5 u0_6 u0_7 u0_8 u0_9 u0_10 u0_11 u0_12 u0_13 u0_14 u0_15 u0_16 u0_17 u0_18 (.int x0_errorAt_5) u0_25 u0_26 u0_27 u0_28 u0_29 u0_30 x0_length x0_at_3 x0_from_3 x0_error_5 y2_text r97 x0_at_4 x0_from_4 hc) gX9_readsVoyage_X9_looks rfl hv_X9_looks ⟨nle rfl, nle rfl⟩ 9 0 rfl rfl rfl (rest := []) rfl rfl hl.1 (nle rfl) dX9_readsVoyage_97 (fun H locs hP hD hS => ?_)
                obtain ⟨r100, hc, hf⟩ := bd1_e hf
                refine kSp (pc := 100) (S := ⟨hexec, hb, hml, hown, hts⟩) hP hD hG hA hS [] [0, 1, 2] [0, 1, 2] (w2 := (w_X9_readsVoyage g a0 a1 a2 u0_1 u0_2 u0_3 u0_4 u0_5 u0_6 u0_7 u0_8 u0_9 u0_10 u0_11 u0_12 u0_13 u0_14 u0_15 u0_16 u0_17 u0_18 u0_25 u0_26 u0_27 u0_28 u0_29 u0_30 x0_length x0_at_4 x0_from_4 x0_error_5 x0_errorAt_5 y1_s_3 y2_text)) rfl rfl rfl rfl rfl rfl (by decide) (c_X9_isLetter l g _ r97 r100 hc) gX9_readsVoyage_X9_isLetter rfl hs_X9_isLetter ⟨nle rfl, nle rfl⟩ (rest := []) rfl rfl hl.1 (nle rfl) dX9_readsVoyage_100 (fun H locs hP hD hS => ?_)
                refine kb_ne (pc := 103) hexec hb dX9_readsVoyage_103 (tgt := 0) rfl hf (fun hc hf => ?_) (fun hc hf => ?_)
                · exact ih0 _ _ _ _ _ _ _ _ (sl5 hf hk0) hP hD hS (lv_sub hl [0] rfl)
                · cases sr5 hf hk0
                  exact hE0 _ _ _ hP hD hS (lv_sub hl [] rfl)
            refine kb_eq (pc := 60) hexec hb dX9_readsVoyage_60 (tgt := 89) rfl hf (fun hc hf => ?_) (fun hc hf => ?_)
            · exact hj89 _ _ _ _ hf hP hD hS (lv_sub hl [0] rfl)
            · refine lv_aload_n (pc := 63) hexec hb dX9_readsVoyage_63 rfl (lv_at hl 0 rfl) ?_
              refine kg_get (pc := 64) hexec hb (own := RX9) hWX9 hown hG hP 0 rfl rfl 0 (nle rfl) (hts _ (List.mem_cons_of_mem _ (List.mem_append_left _ (List.mem_append_left _ (List.mem_of_getElem? (i := 0) rfl))))) rfl rfl dX9_readsVoyage_64 ?_
              refine lv_sipush (pc := 67) hexec hb dX9_readsVoyage_67 ks_536 ?_
              refine lv_aload_n (pc := 70) hexec hb dX9_readsVoyage_70 rfl (lv_at hl 0 rfl) ?_
              refine kg_get (pc := 71) hexec hb (own := RX9) hWX9 hown hG hP 0 rfl rfl 0 (nle rfl) (hts _ (List.mem_cons_of_mem _ (List.mem_append_left _ (List.mem_append_left _ (List.mem_of_getElem? (i := 0) rfl))))) rfl rfl dX9_readsVoyage_71 ?_
              refine lv_iconst (pc := 74) hexec hb dX9_readsVoyage_74 ki_4 ?_
              refine kr_iald (pc := 75) hexec hb hG hP 1 rfl hf dX9_readsVoyage_75 (fun hf => ?_)
              refine lv_iadd (pc := 76) hexec hb dX9_readsVoyage_76 ?_
              refine lv_iload_n (pc := 77) hexec hb dX9_readsVoyage_77 rfl (lv_at hl 1 rfl) ?_
              refine kw_iast (pc := 78) hexec hb hG hP hD hS 1 rfl hf dX9_readsVoyage_78 (fun y1_s_4 H locs hf (hP : va_P g.1 vwCl (w_X9_readsVoyage g a0 a1 a2 u0_1 u0_2 u0_3 u0_4 u0_5 u0_6 u0_7 u0_8 u0_9 u0_10 u0_11 u0_12 u0_13 u0_14 u0_15 u0_16 u0_17 u0_18 u0_25 u0_26 u0_27 u0_28 u0_29 u0_30 x0_length x0_at_3 x0_from_3 x0_error_5 x0_errorAt_5 y1_s_4 y2_text) H) (hD : va_D A (w_X9_readsVoyage g a0 a1 a2 u0_1 u0_2 u0_3 u0_4 u0_5 u0_6 u0_7 u0_8 u0_9 u0_10 u0_11 u0_12 u0_13 u0_14 u0_15 u0_16 u0_17 u0_18 u0_25 u0_26 u0_27 u0_28 u0_29 u0_30 x0_length x0_at_3 x0_from_3 x0_error_5 x0_errorAt_5 y1_s_4 y2_text)) hS => ?_)
              refine lv_aload_n (pc := 79) hexec hb dX9_readsVoyage_79 rfl (lv_at hl 0 rfl) ?_
              refine kg_get (pc := 80) hexec hb (own := RX9) hWX9 hown hG hP 0 rfl rfl 0 (nle rfl) (hts _ (List.mem_cons_of_mem _ (List.mem_append_left _ (List.mem_append_left _ (List.mem_of_getElem? (i := 0) rfl))))) rfl rfl dX9_readsVoyage_80 ?_
              refine lv_iconst (pc := 83) hexec hb dX9_readsVoyage_83 ki_4 ?_
              refine lv_dup2_11 (pc := 84) hexec hb dX9_readsVoyage_84 rfl rfl ?_
              refine kr_iald (pc := 85) hexec hb hG hP 1 rfl hf dX9_readsVoyage_85 (fun hf => ?_)
              refine lv_iconst (pc := 86) hexec hb dX9_readsVoyage_86 ki_1 ?_
              refine lv_iadd (pc := 87) hexec hb dX9_readsVoyage_87 ?_
              refine kw_iast (pc := 88) hexec hb hG hP hD hS 1 rfl hf dX9_readsVoyage_88 (fun y1_s_5 H locs hf (hP : va_P g.1 vwCl (w_X9_readsVoyage g a0 a1 a2 u0_1 u0_2 u0_3 u0_4 u0_5 u0_6 u0_7 u0_8 u0_9 u0_10 u0_11 u0_12 u0_13 u0_14 u0_15 u0_16 u0_17 u0_18 u0_25 u0_26 u0_27 u0_28 u0_29 u0_30 x0_length x0_at_3 x0_from_3 x0_error_5 x0_errorAt_5 y1_s_5 y2_text) H) (hD : va_D A (w_X9_readsVoyage g a0 a1 a2 u0_1 u0_2 u0_3 u0_4 u0_5 u0_6 u0_7 u0_8 u0_9 u0_10 u0_11 u0_12 u0_13 u0_14 u0_15 u0_16 u0_17 u0_18 u0_25 u0_26 u0_27 u0_28 u0_29 u0_30 x0_length x0_at_3 x0_from_3 x0_error_5 x0_errorAt_5 y1_s_5 y2_text)) hS => ?_)
              exact hj89 _ _ _ _ hf hP hD hS (lv_sub hl [0] rfl)
          refine ki_ne (pc := 44) hexec hb dX9_readsVoyage_44 (tgt := 51) rfl hf (fun hc hf => ?_) (fun hc hf => ?_)
          · refine lv_iconst (pc := 51) hexec hb dX9_readsVoyage_51 ki_0 ?_
            exact hj52 _ _ _ _ hf hP hD hS (lv_sub hl [1, 0] rfl)
          · refine lv_iconst (pc := 47) hexec hb dX9_readsVoyage_47 ki_1 ?_
            refine lv_goto (pc := 48) hexec hb dX9_readsVoyage_48 (tgt := 52) rfl ?_
            exact hj52 _ _ _ _ hf hP hD hS (lv_sub hl [1, 0] rfl)
        refine kb_eq (pc := 29) hexec hb dX9_readsVoyage_29 (tgt := 39) rfl hf (fun hc hf => ?_) (fun hc hf => ?_)
        · refine lv_iconst (pc := 39) hexec hb dX9_readsVoyage_39 ki_m1 ?_
          exact hj40 _ _ _ _ hf hP hD hS (lv_sub hl [0] rfl)
        · refine lv_aload_n (pc := 32) hexec hb dX9_readsVoyage_32 rfl (lv_at hl 0 rfl) ?_
          obtain ⟨r33, hc, hf⟩ := bd1_e hf
          refine kVp (pc := 33) (S := ⟨hexec, hb, hml, hown, hts⟩) hP hD hG hA hS [0, 1, 2] [] [0, 1, 2] (w2 := (w_X9_readsVoyage g a0 a1 a2 u0_1 u0_2 u0_3 u0_4 u0_5 u0_6 u0_7 u0_8 u0_9 u0_10 u0_11 u0_12 u0_13 u0_14 u0_15 u0_16 u0_17 u0_18 u0_25 u0_26 u0_27 u0_28 u0_29 u0_30 x0_length x0_at_3 x0_from_3 x0_error_4 x0_errorAt_4 y1_s_1 y2_text)) rfl rfl rfl rfl rfl rfl (by decide) (c_X9_named l g a0 a1 a2 _ u0_1 u0_2 u0_3 u0_4 u0_5 u0_6 u0_7 u0_8 u0_9 u0_10 u0_11 u0_12 u0_13 u0_14 u0_15 u0_16 u0_17 u0_18 (.int x0_length) (.int x0_error_4) (.int x0_errorAt_4) u0_25 u0_26 u0_27 u0_28 u0_29 u0_30 x0_at_3 x0_from_3 y1_s_1 y2_text r33 hc) gX9_readsVoyage_X9_named rfl hv_X9_named ⟨nle rfl, nle rfl⟩ 9 0 rfl rfl rfl (rest := []) rfl rfl hl.1 (nle rfl) dX9_readsVoyage_33 (fun H locs hP hD hS => ?_)
          refine lv_goto (pc := 36) hexec hb dX9_readsVoyage_36 (tgt := 40) rfl ?_
          exact hj40 _ _ _ _ hf hP hD hS (lv_sub hl [0] rfl)
      refine ki_ne (pc := 13) hexec hb dX9_readsVoyage_13 (tgt := 20) rfl hf (fun hc hf => ?_) (fun hc hf => ?_)
      · refine lv_iconst (pc := 20) hexec hb dX9_readsVoyage_20 ki_0 ?_
        exact hj21 _ _ _ _ hf hP hD hS (lv_sub hl [0] rfl)
      · refine lv_iconst (pc := 16) hexec hb dX9_readsVoyage_16 ki_1 ?_
        refine lv_goto (pc := 17) hexec hb dX9_readsVoyage_17 (tgt := 21) rfl ?_
        exact hj21 _ _ _ _ hf hP hD hS (lv_sub hl [0] rfl)
  exact hL0 n _ _ _ _ _ _ _ _ hz hP hD hS (lv_sub hl [0] rfl)
