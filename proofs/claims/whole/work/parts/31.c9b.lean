abbrev w_X9_chartReason (g : GE) (a0 a1 : Nat) (u0_1 u0_2 u0_3 u0_4 u0_5 u0_6 u0_7 u0_8 u0_9 u0_10 u0_11 u0_12 u0_13 u0_14 u0_15 u0_16 u0_17 u0_18 u0_19 u0_20 u0_21 u0_22 u0_23 u0_24 u0_25 u0_26 u0_27 u0_28 u0_29 u0_30 : Value) (y1_s : Nat → Int32) : va_W := [(a0, .inr (9, [.ref a1, u0_1, u0_2, u0_3, u0_4, u0_5, u0_6, u0_7, u0_8, u0_9, u0_10, u0_11, u0_12, u0_13, u0_14, u0_15, u0_16, u0_17, u0_18, u0_19, u0_20, u0_21, u0_22, u0_23, u0_24, u0_25, u0_26, u0_27, u0_28, u0_29, u0_30])), (a1, .inl (g.2.1 0, 552, .inl y1_s))]
set_option maxRecDepth 20000 in
theorem c_X9_chartReason (l : Launch) (g : GE) (a0 a1 : Nat) (sz : Nat) (u0_1 u0_2 u0_3 u0_4 u0_5 u0_6 u0_7 u0_8 u0_9 u0_10 u0_11 u0_12 u0_13 u0_14 u0_15 u0_16 u0_17 u0_18 u0_19 u0_20 u0_21 u0_22 u0_23 u0_24 u0_25 u0_26 u0_27 u0_28 u0_29 u0_30 : Value) (y1_s : Nat → Int32) (p1 : Int32) (p2 : Int32) (p3 : Int32)  (r : Int32) (hf : f_X9_chartReason y1_s p1 p2 p3 = some r) : MI l g yX9_chartReason wsX9_chartReason 3 74 [.ref a0, .int p1, .int p2, .int p3] (w_X9_chartReason g a0 a1 u0_1 u0_2 u0_3 u0_4 u0_5 u0_6 u0_7 u0_8 u0_9 u0_10 u0_11 u0_12 u0_13 u0_14 u0_15 u0_16 u0_17 u0_18 u0_19 u0_20 u0_21 u0_22 u0_23 u0_24 u0_25 u0_26 u0_27 u0_28 u0_29 u0_30 y1_s) sz (some (.int r)) (w_X9_chartReason g a0 a1 u0_1 u0_2 u0_3 u0_4 u0_5 u0_6 u0_7 u0_8 u0_9 u0_10 u0_11 u0_12 u0_13 u0_14 u0_15 u0_16 u0_17 u0_18 u0_19 u0_20 u0_21 u0_22 u0_23 u0_24 u0_25 u0_26 u0_27 u0_28 u0_29 u0_30 y1_s) := by
  refine MI.start (cc := cX9_chartReason) (maxL := 9) (ret := (some .int)) rfl rfl (nle rfl) ?_
  intro p e s m args below meth c A ls Q hQ hexec hb hr hts hown hlocks hml hA hP hD hG hS hl
  unfold f_X9_chartReason at hf
  have hWX9 : ∀ w ∈ wsX90, w.before args s = true := fun w h => hts w (List.mem_cons_of_mem _ (List.mem_append_right _ h))
  have hS : va_S A s.heap s.heap [] := hS
  refine lv_aload_n (pc := 0) hexec hb dX9_chartReason_0 rfl (lv_at hl 0 rfl) ?_
  refine lv_iload_n (pc := 1) hexec hb dX9_chartReason_1 rfl (lv_at hl 1 rfl) ?_
  refine lv_iconst (pc := 2) hexec hb dX9_chartReason_2 ki_0 ?_
  obtain ⟨r3, hc, hf⟩ := bd1_e hf
  refine kVp (pc := 3) (S := ⟨hexec, hb, hml, hown, hts⟩) hP hD hG hA hS [0, 1] [] [0, 1] (w2 := (w_X9_chartReason g a0 a1 u0_1 u0_2 u0_3 u0_4 u0_5 u0_6 u0_7 u0_8 u0_9 u0_10 u0_11 u0_12 u0_13 u0_14 u0_15 u0_16 u0_17 u0_18 u0_19 u0_20 u0_21 u0_22 u0_23 u0_24 u0_25 u0_26 u0_27 u0_28 u0_29 u0_30 y1_s)) rfl rfl rfl rfl rfl rfl (by decide) (c_X9_of l g a0 a1 _ u0_1 u0_2 u0_3 u0_4 u0_5 u0_6 u0_7 u0_8 u0_9 u0_10 u0_11 u0_12 u0_13 u0_14 u0_15 u0_16 u0_17 u0_18 u0_19 u0_20 u0_21 u0_22 u0_23 u0_24 u0_25 u0_26 u0_27 u0_28 u0_29 u0_30 y1_s p1 0 r3 hc) gX9_chartReason_X9_of rfl hv_X9_of ⟨nle rfl, nle rfl⟩ 9 0 rfl rfl rfl (rest := []) rfl rfl hl.1 (nle rfl) dX9_chartReason_3 (fun H locs hP hD hS => ?_)
  refine lv_istore (pc := 6) hexec hb dX9_chartReason_6 hl (nle rfl) rfl (fun ls (hl : lv_has ls 9 [(4, .int r3), (0, .ref a0), (1, .int p1), (2, .int p2), (3, .int p3)]) => ?_)
  refine lv_aload_n (pc := 8) hexec hb dX9_chartReason_8 rfl (lv_at hl 1 rfl) ?_
  refine lv_aload_n (pc := 9) hexec hb dX9_chartReason_9 rfl (lv_at hl 1 rfl) ?_
  refine lv_iload (pc := 10) hexec hb dX9_chartReason_10 (lv_at hl 0 rfl) ?_
  refine lv_iload_n (pc := 12) hexec hb dX9_chartReason_12 rfl (lv_at hl 3 rfl) ?_
  refine lv_iconst (pc := 13) hexec hb dX9_chartReason_13 ki_2 ?_
  refine lv_iadd (pc := 14) hexec hb dX9_chartReason_14 ?_
  refine lv_iconst (pc := 15) hexec hb dX9_chartReason_15 ki_4 ?_
  refine lv_irem (pc := 16) hexec hb dX9_chartReason_16 (by decide) ?_
  refine lv_iconst (pc := 17) hexec hb dX9_chartReason_17 ki_1 ?_
  obtain ⟨r18, hc, hf⟩ := bd1_e hf
  refine kVp (pc := 18) (S := ⟨hexec, hb, hml, hown, hts⟩) hP hD hG hA hS [0, 1] [] [0, 1] (w2 := (w_X9_chartReason g a0 a1 u0_1 u0_2 u0_3 u0_4 u0_5 u0_6 u0_7 u0_8 u0_9 u0_10 u0_11 u0_12 u0_13 u0_14 u0_15 u0_16 u0_17 u0_18 u0_19 u0_20 u0_21 u0_22 u0_23 u0_24 u0_25 u0_26 u0_27 u0_28 u0_29 u0_30 y1_s)) rfl rfl rfl rfl rfl rfl (by decide) (c_X9_away l g a0 a1 _ u0_1 u0_2 u0_3 u0_4 u0_5 u0_6 u0_7 u0_8 u0_9 u0_10 u0_11 u0_12 u0_13 u0_14 u0_15 u0_16 u0_17 u0_18 u0_19 u0_20 u0_21 u0_22 u0_23 u0_24 u0_25 u0_26 u0_27 u0_28 u0_29 u0_30 y1_s r3 ((p2 + 2) - (p2 + 2) / 4 * 4) 1 r18 hc) gX9_chartReason_X9_away rfl hv_X9_away ⟨nle rfl, nle rfl⟩ 9 0 rfl rfl rfl (rest := [.ref a0]) rfl rfl hl.1 (nle rfl) dX9_chartReason_18 (fun H locs hP hD hS => ?_)
  obtain ⟨r21, hc, hf⟩ := bd1_e hf
  refine kVp (pc := 21) (S := ⟨hexec, hb, hml, hown, hts⟩) hP hD hG hA hS [0, 1] [] [0, 1] (w2 := (w_X9_chartReason g a0 a1 u0_1 u0_2 u0_3 u0_4 u0_5 u0_6 u0_7 u0_8 u0_9 u0_10 u0_11 u0_12 u0_13 u0_14 u0_15 u0_16 u0_17 u0_18 u0_19 u0_20 u0_21 u0_22 u0_23 u0_24 u0_25 u0_26 u0_27 u0_28 u0_29 u0_30 y1_s)) rfl rfl rfl rfl rfl rfl (by decide) (c_X9_isLand l g a0 a1 _ u0_1 u0_2 u0_3 u0_4 u0_5 u0_6 u0_7 u0_8 u0_9 u0_10 u0_11 u0_12 u0_13 u0_14 u0_15 u0_16 u0_17 u0_18 u0_19 u0_20 u0_21 u0_22 u0_23 u0_24 u0_25 u0_26 u0_27 u0_28 u0_29 u0_30 y1_s r18 r21 hc) gX9_chartReason_X9_isLand rfl hv_X9_isLand ⟨nle rfl, nle rfl⟩ 9 0 rfl rfl rfl (rest := []) rfl rfl hl.1 (nle rfl) dX9_chartReason_21 (fun H locs hP hD hS => ?_)
  refine kb_eq (pc := 24) hexec hb dX9_chartReason_24 (tgt := 29) rfl hf (fun hc hf => ?_) (fun hc hf => ?_)
  · refine lv_bipush (pc := 29) hexec hb dX9_chartReason_29 kb_9 ?_
    refine lv_istore (pc := 31) hexec hb dX9_chartReason_31 hl (nle rfl) rfl (fun ls (hl : lv_has ls 9 [(5, .int 9), (4, .int r3), (0, .ref a0), (1, .int p1), (2, .int p2), (3, .int p3)]) => ?_)
    refine lv_iconst (pc := 33) hexec hb dX9_chartReason_33 ki_1 ?_
    refine lv_istore (pc := 34) hexec hb dX9_chartReason_34 hl (nle rfl) rfl (fun ls (hl : lv_has ls 9 [(6, .int 1), (5, .int 9), (4, .int r3), (0, .ref a0), (1, .int p1), (2, .int p2), (3, .int p3)]) => ?_)
    obtain ⟨l36, el36, hf⟩ := bvf2 hf
    obtain ⟨v5_1, hz, hf⟩ := bd1_e hf
    have hE36 : ∀ (H : Heap) (locs : List Loc) (ls : Array Slot), va_P g.1 vwCl (w_X9_chartReason g a0 a1 u0_1 u0_2 u0_3 u0_4 u0_5 u0_6 u0_7 u0_8 u0_9 u0_10 u0_11 u0_12 u0_13 u0_14 u0_15 u0_16 u0_17 u0_18 u0_19 u0_20 u0_21 u0_22 u0_23 u0_24 u0_25 u0_26 u0_27 u0_28 u0_29 u0_30 y1_s) H → va_D A (w_X9_chartReason g a0 a1 u0_1 u0_2 u0_3 u0_4 u0_5 u0_6 u0_7 u0_8 u0_9 u0_10 u0_11 u0_12 u0_13 u0_14 u0_15 u0_16 u0_17 u0_18 u0_19 u0_20 u0_21 u0_22 u0_23 u0_24 u0_25 u0_26 u0_27 u0_28 u0_29 u0_30 y1_s) → va_S A s.heap H locs → lv_has ls 9 [(5, .int v5_1)] → W p l e (RM 3 74) s m args below meth c H locs 0 0 Q (F0 m 128 ls []) := by
      intro H locs ls hP hD hS hl
      refine lv_iload (pc := 128) hexec hb dX9_chartReason_128 (lv_at hl 0 rfl) ?_
      refine lv_bipush (pc := 130) hexec hb dX9_chartReason_130 kb_9 ?_
      refine ki_ne (pc := 132) hexec hb dX9_chartReason_132 (tgt := 139) rfl hf (fun hc hf => ?_) (fun hc hf => ?_)
      · refine lv_iload (pc := 139) hexec hb dX9_chartReason_139 (lv_at hl 0 rfl) ?_
        cases hf
        exact ke_i hQ hexec hb hr hP hD hS dX9_chartReason_141 hlocks
      · refine lv_iconst (pc := 135) hexec hb dX9_chartReason_135 ki_0 ?_
        refine lv_goto (pc := 136) hexec hb dX9_chartReason_136 (tgt := 141) rfl ?_
        cases hf
        exact ke_i hQ hexec hb hr hP hD hS dX9_chartReason_141 hlocks
    obtain ⟨n, hz⟩ := lq2_e hz
    have hL36 : ∀ (n : Nat) (v5 : Int32) (v6 : Int32) (H : Heap) (locs : List Loc) (ls : Array Slot), it2 l36 n v5 v6 = some v5_1 → va_P g.1 vwCl (w_X9_chartReason g a0 a1 u0_1 u0_2 u0_3 u0_4 u0_5 u0_6 u0_7 u0_8 u0_9 u0_10 u0_11 u0_12 u0_13 u0_14 u0_15 u0_16 u0_17 u0_18 u0_19 u0_20 u0_21 u0_22 u0_23 u0_24 u0_25 u0_26 u0_27 u0_28 u0_29 u0_30 y1_s) H → va_D A (w_X9_chartReason g a0 a1 u0_1 u0_2 u0_3 u0_4 u0_5 u0_6 u0_7 u0_8 u0_9 u0_10 u0_11 u0_12 u0_13 u0_14 u0_15 u0_16 u0_17 u0_18 u0_19 u0_20 u0_21 u0_22 u0_23 u0_24 u0_25 u0_26 u0_27 u0_28 u0_29 u0_30 y1_s) → va_S A s.heap H locs → lv_has ls 9 [(0, .ref a0), (1, .int p1), (2, .int p2), (3, .int p3), (4, .int r3), (5, .int v5), (6, .int v6)] → W p l e (RM 3 74) s m args below meth c H locs 0 0 Q (F0 m 36 ls []) := by
      intro n
      induction n with
      | zero =>
        intro v5 v6 H locs ls hf hP hD hS hl
        exact it2_0 hf
      | succ n36 ih36 =>
        intro v5 v6 H locs ls hf hP hD hS hl
        obtain ⟨q36, hf, hk36⟩ := it2_e hf
        have hf := (el36 v5 v6).symm.trans hf
        refine lv_iload (pc := 36) hexec hb dX9_chartReason_36 (lv_at hl 6 rfl) ?_
        refine lv_aload_n (pc := 38) hexec hb dX9_chartReason_38 rfl (lv_at hl 0 rfl) ?_
        refine lv_iload_n (pc := 39) hexec hb dX9_chartReason_39 rfl (lv_at hl 1 rfl) ?_
        refine lv_iconst (pc := 40) hexec hb dX9_chartReason_40 ki_3 ?_
        obtain ⟨r41, hc, hf⟩ := bd1_e hf
        refine kVp (pc := 41) (S := ⟨hexec, hb, hml, hown, hts⟩) hP hD hG hA hS [0, 1] [] [0, 1] (w2 := (w_X9_chartReason g a0 a1 u0_1 u0_2 u0_3 u0_4 u0_5 u0_6 u0_7 u0_8 u0_9 u0_10 u0_11 u0_12 u0_13 u0_14 u0_15 u0_16 u0_17 u0_18 u0_19 u0_20 u0_21 u0_22 u0_23 u0_24 u0_25 u0_26 u0_27 u0_28 u0_29 u0_30 y1_s)) rfl rfl rfl rfl rfl rfl (by decide) (c_X9_of l g a0 a1 _ u0_1 u0_2 u0_3 u0_4 u0_5 u0_6 u0_7 u0_8 u0_9 u0_10 u0_11 u0_12 u0_13 u0_14 u0_15 u0_16 u0_17 u0_18 u0_19 u0_20 u0_21 u0_22 u0_23 u0_24 u0_25 u0_26 u0_27 u0_28 u0_29 u0_30 y1_s p1 3 r41 hc) gX9_chartReason_X9_of rfl hv_X9_of ⟨nle rfl, nle rfl⟩ 9 0 rfl rfl rfl (rest := [.int v6]) rfl rfl hl.1 (nle rfl) dX9_chartReason_41 (fun H locs hP hD hS => ?_)
        refine ki_gt (pc := 44) hexec hb dX9_chartReason_44 (tgt := 128) rfl hf (fun hc hf => ?_) (fun hc hf => ?_)
        · cases sr2 hf hk36
          exact hE36 _ _ _ hP hD hS (lv_sub hl [5] rfl)
        · refine lv_aload_n (pc := 47) hexec hb dX9_chartReason_47 rfl (lv_at hl 0 rfl) ?_
          refine lv_iload (pc := 48) hexec hb dX9_chartReason_48 (lv_at hl 4 rfl) ?_
          refine lv_iload_n (pc := 50) hexec hb dX9_chartReason_50 rfl (lv_at hl 2 rfl) ?_
          refine lv_iload (pc := 51) hexec hb dX9_chartReason_51 (lv_at hl 6 rfl) ?_
          obtain ⟨r53, hc, hf⟩ := bd1_e hf
          refine kVp (pc := 53) (S := ⟨hexec, hb, hml, hown, hts⟩) hP hD hG hA hS [0, 1] [] [0, 1] (w2 := (w_X9_chartReason g a0 a1 u0_1 u0_2 u0_3 u0_4 u0_5 u0_6 u0_7 u0_8 u0_9 u0_10 u0_11 u0_12 u0_13 u0_14 u0_15 u0_16 u0_17 u0_18 u0_19 u0_20 u0_21 u0_22 u0_23 u0_24 u0_25 u0_26 u0_27 u0_28 u0_29 u0_30 y1_s)) rfl rfl rfl rfl rfl rfl (by decide) (c_X9_away l g a0 a1 _ u0_1 u0_2 u0_3 u0_4 u0_5 u0_6 u0_7 u0_8 u0_9 u0_10 u0_11 u0_12 u0_13 u0_14 u0_15 u0_16 u0_17 u0_18 u0_19 u0_20 u0_21 u0_22 u0_23 u0_24 u0_25 u0_26 u0_27 u0_28 u0_29 u0_30 y1_s r3 p2 v6 r53 hc) gX9_chartReason_X9_away rfl hv_X9_away ⟨nle rfl, nle rfl⟩ 9 0 rfl rfl rfl (rest := []) rfl rfl hl.1 (nle rfl) dX9_chartReason_53 (fun H locs hP hD hS => ?_)
          refine lv_istore (pc := 56) hexec hb dX9_chartReason_56 hl (nle rfl) rfl (fun ls (hl : lv_has ls 9 [(7, .int r53), (0, .ref a0), (1, .int p1), (2, .int p2), (3, .int p3), (4, .int r3), (5, .int v5), (6, .int v6)]) => ?_)
          refine lv_iload (pc := 58) hexec hb dX9_chartReason_58 (lv_at hl 0 rfl) ?_
          refine lv_iconst (pc := 60) hexec hb dX9_chartReason_60 ki_m1 ?_
          obtain ⟨j111, ej111, hf⟩ := bvf1 hf
          have hj111 : ∀ (t111 : Int32) (H : Heap) (locs : List Loc) (ls : Array Slot), j111 t111 = some q36 → va_P g.1 vwCl (w_X9_chartReason g a0 a1 u0_1 u0_2 u0_3 u0_4 u0_5 u0_6 u0_7 u0_8 u0_9 u0_10 u0_11 u0_12 u0_13 u0_14 u0_15 u0_16 u0_17 u0_18 u0_19 u0_20 u0_21 u0_22 u0_23 u0_24 u0_25 u0_26 u0_27 u0_28 u0_29 u0_30 y1_s) H → va_D A (w_X9_chartReason g a0 a1 u0_1 u0_2 u0_3 u0_4 u0_5 u0_6 u0_7 u0_8 u0_9 u0_10 u0_11 u0_12 u0_13 u0_14 u0_15 u0_16 u0_17 u0_18 u0_19 u0_20 u0_21 u0_22 u0_23 u0_24 u0_25 u0_26 u0_27 u0_28 u0_29 u0_30 y1_s) → va_S A s.heap H locs → lv_has ls 9 [(0, .ref a0), (1, .int p1), (2, .int p2), (3, .int p3), (4, .int r3), (5, .int v5), (6, .int v6)] → W p l e (RM 3 74) s m args below meth c H locs 0 0 Q (F0 m 111 ls [.int t111]) := by
            intro t111 H locs ls hf hP hD hS hl
            have hf := (ej111 t111).symm.trans hf
            refine lv_istore (pc := 111) hexec hb dX9_chartReason_111 hl (nle rfl) rfl (fun ls (hl : lv_has ls 9 [(8, .int t111), (0, .ref a0), (1, .int p1), (2, .int p2), (3, .int p3), (4, .int r3), (5, .int v5), (6, .int v6)]) => ?_)
            refine lv_iload (pc := 113) hexec hb dX9_chartReason_113 (lv_at hl 6 rfl) ?_
            refine lv_iload (pc := 115) hexec hb dX9_chartReason_115 (lv_at hl 0 rfl) ?_
            refine va_mmin (pc := 117) hexec hb (hml.trans hl.1.symm) (own := RX9) hown (hts _ (List.mem_cons_of_mem _ (List.mem_append_left _ (List.mem_append_left _ (List.mem_of_getElem? (i := 0) rfl))))) (hts _ (List.mem_cons_of_mem _ (List.mem_append_left _ (List.mem_append_left _ (List.mem_of_getElem? (i := 1) rfl))))) (hts _ (List.mem_cons_of_mem _ (List.mem_append_left _ (List.mem_append_left _ (List.mem_of_getElem? (i := 2) rfl))))) (hts _ (List.mem_cons_of_mem _ (List.mem_append_left _ (List.mem_append_left _ (List.mem_of_getElem? (i := 3) rfl))))) (nle rfl) (nle rfl) (nle rfl) (nle rfl) dX9_chartReason_117 ?_
            obtain ⟨v5_2, ev5_2, hf⟩ := bv_e hf
            refine kn_i ev5_2 ?_
            refine lv_istore (pc := 120) hexec hb dX9_chartReason_120 hl (nle rfl) rfl (fun ls (hl : lv_has ls 9 [(5, .int v5_2), (8, .int t111), (0, .ref a0), (1, .int p1), (2, .int p2), (3, .int p3), (4, .int r3), (6, .int v6)]) => ?_)
            obtain ⟨v6_1, ev6_1, hf⟩ := bv_e hf
            refine k_iinc (pc := 122) hexec hb dX9_chartReason_122 kq_1 hl (k := 7) rfl ev6_1 (nle rfl) rfl (fun ls (hl : lv_has ls 9 [(6, .int v6_1), (5, .int v5_2), (8, .int t111), (0, .ref a0), (1, .int p1), (2, .int p2), (3, .int p3), (4, .int r3)]) => ?_)
            refine lv_goto (pc := 125) hexec hb dX9_chartReason_125 (tgt := 36) rfl ?_
            exact ih36 _ _ _ _ _ (sl2 hf hk36) hP hD hS (lv_sub hl [3, 4, 5, 6, 7, 1, 0] rfl)
          refine ki_ne (pc := 61) hexec hb dX9_chartReason_61 (tgt := 68) rfl hf (fun hc hf => ?_) (fun hc hf => ?_)
          · refine lv_aload_n (pc := 68) hexec hb dX9_chartReason_68 rfl (lv_at hl 1 rfl) ?_
            refine lv_iload (pc := 69) hexec hb dX9_chartReason_69 (lv_at hl 0 rfl) ?_
            obtain ⟨r71, hc, hf⟩ := bd1_e hf
            refine kVp (pc := 71) (S := ⟨hexec, hb, hml, hown, hts⟩) hP hD hG hA hS [0, 1] [] [0, 1] (w2 := (w_X9_chartReason g a0 a1 u0_1 u0_2 u0_3 u0_4 u0_5 u0_6 u0_7 u0_8 u0_9 u0_10 u0_11 u0_12 u0_13 u0_14 u0_15 u0_16 u0_17 u0_18 u0_19 u0_20 u0_21 u0_22 u0_23 u0_24 u0_25 u0_26 u0_27 u0_28 u0_29 u0_30 y1_s)) rfl rfl rfl rfl rfl rfl (by decide) (c_X9_isLand l g a0 a1 _ u0_1 u0_2 u0_3 u0_4 u0_5 u0_6 u0_7 u0_8 u0_9 u0_10 u0_11 u0_12 u0_13 u0_14 u0_15 u0_16 u0_17 u0_18 u0_19 u0_20 u0_21 u0_22 u0_23 u0_24 u0_25 u0_26 u0_27 u0_28 u0_29 u0_30 y1_s r53 r71 hc) gX9_chartReason_X9_isLand rfl hv_X9_isLand ⟨nle rfl, nle rfl⟩ 9 0 rfl rfl rfl (rest := []) rfl rfl hl.1 (nle rfl) dX9_chartReason_71 (fun H locs hP hD hS => ?_)
            refine kb_ne (pc := 74) hexec hb dX9_chartReason_74 (tgt := 81) rfl hf (fun hc hf => ?_) (fun hc hf => ?_)
            · refine lv_aload_n (pc := 81) hexec hb dX9_chartReason_81 rfl (lv_at hl 1 rfl) ?_
              refine lv_iload (pc := 82) hexec hb dX9_chartReason_82 (lv_at hl 0 rfl) ?_
              obtain ⟨r84, hc, hf⟩ := bd1_e hf
              refine kVp (pc := 84) (S := ⟨hexec, hb, hml, hown, hts⟩) hP hD hG hA hS [0, 1] [] [0, 1] (w2 := (w_X9_chartReason g a0 a1 u0_1 u0_2 u0_3 u0_4 u0_5 u0_6 u0_7 u0_8 u0_9 u0_10 u0_11 u0_12 u0_13 u0_14 u0_15 u0_16 u0_17 u0_18 u0_19 u0_20 u0_21 u0_22 u0_23 u0_24 u0_25 u0_26 u0_27 u0_28 u0_29 u0_30 y1_s)) rfl rfl rfl rfl rfl rfl (by decide) (c_X9_isRiver l g a0 a1 _ u0_1 u0_2 u0_3 u0_4 u0_5 u0_6 u0_7 u0_8 u0_9 u0_10 u0_11 u0_12 u0_13 u0_14 u0_15 u0_16 u0_17 u0_18 u0_19 u0_20 u0_21 u0_22 u0_23 u0_24 u0_25 u0_26 u0_27 u0_28 u0_29 u0_30 y1_s r53 r84 hc) gX9_chartReason_X9_isRiver rfl hv_X9_isRiver ⟨nle rfl, nle rfl⟩ 9 0 rfl rfl rfl (rest := []) rfl rfl hl.1 (nle rfl) dX9_chartReason_84 (fun H locs hP hD hS => ?_)
              refine kb_eq (pc := 87) hexec hb dX9_chartReason_87 (tgt := 94) rfl hf (fun hc hf => ?_) (fun hc hf => ?_)
              · refine lv_aload_n (pc := 94) hexec hb dX9_chartReason_94 rfl (lv_at hl 1 rfl) ?_
                refine lv_iload (pc := 95) hexec hb dX9_chartReason_95 (lv_at hl 0 rfl) ?_
                refine lv_iload_n (pc := 97) hexec hb dX9_chartReason_97 rfl (lv_at hl 4 rfl) ?_
                obtain ⟨r98, hc, hf⟩ := bd1_e hf
                refine kVp (pc := 98) (S := ⟨hexec, hb, hml, hown, hts⟩) hP hD hG hA hS [0, 1] [] [0, 1] (w2 := (w_X9_chartReason g a0 a1 u0_1 u0_2 u0_3 u0_4 u0_5 u0_6 u0_7 u0_8 u0_9 u0_10 u0_11 u0_12 u0_13 u0_14 u0_15 u0_16 u0_17 u0_18 u0_19 u0_20 u0_21 u0_22 u0_23 u0_24 u0_25 u0_26 u0_27 u0_28 u0_29 u0_30 y1_s)) rfl rfl rfl rfl rfl rfl (by decide) (c_X9_harbourAt l g a0 a1 _ u0_1 u0_2 u0_3 u0_4 u0_5 u0_6 u0_7 u0_8 u0_9 u0_10 u0_11 u0_12 u0_13 u0_14 u0_15 u0_16 u0_17 u0_18 u0_19 u0_20 u0_21 u0_22 u0_23 u0_24 u0_25 u0_26 u0_27 u0_28 u0_29 u0_30 y1_s r53 p3 r98 hc) gX9_chartReason_X9_harbourAt rfl hv_X9_harbourAt ⟨nle rfl, nle rfl⟩ 9 0 rfl rfl rfl (rest := []) rfl rfl hl.1 (nle rfl) dX9_chartReason_98 (fun H locs hP hD hS => ?_)
                refine lv_iconst (pc := 101) hexec hb dX9_chartReason_101 ki_m1 ?_
                refine ki_eq (pc := 102) hexec hb dX9_chartReason_102 (tgt := 109) rfl hf (fun hc hf => ?_) (fun hc hf => ?_)
                · refine lv_bipush (pc := 109) hexec hb dX9_chartReason_109 kb_9 ?_
                  exact hj111 _ _ _ _ hf hP hD hS (lv_sub hl [1, 2, 3, 4, 5, 6, 7] rfl)
                · refine lv_iconst (pc := 105) hexec hb dX9_chartReason_105 ki_5 ?_
                  refine lv_goto (pc := 106) hexec hb dX9_chartReason_106 (tgt := 111) rfl ?_
                  exact hj111 _ _ _ _ hf hP hD hS (lv_sub hl [1, 2, 3, 4, 5, 6, 7] rfl)
              · refine lv_iconst (pc := 90) hexec hb dX9_chartReason_90 ki_4 ?_
                refine lv_goto (pc := 91) hexec hb dX9_chartReason_91 (tgt := 111) rfl ?_
                exact hj111 _ _ _ _ hf hP hD hS (lv_sub hl [1, 2, 3, 4, 5, 6, 7] rfl)
            · refine lv_iconst (pc := 77) hexec hb dX9_chartReason_77 ki_3 ?_
              refine lv_goto (pc := 78) hexec hb dX9_chartReason_78 (tgt := 111) rfl ?_
              exact hj111 _ _ _ _ hf hP hD hS (lv_sub hl [1, 2, 3, 4, 5, 6, 7] rfl)
          · refine lv_iconst (pc := 64) hexec hb dX9_chartReason_64 ki_2 ?_
            refine lv_goto (pc := 65) hexec hb dX9_chartReason_65 (tgt := 111) rfl ?_
            exact hj111 _ _ _ _ hf hP hD hS (lv_sub hl [1, 2, 3, 4, 5, 6, 7] rfl)
    exact hL36 n _ _ _ _ _ hz hP hD hS (lv_sub hl [3, 4, 5, 6, 2, 1, 0] rfl)
  · refine lv_iconst (pc := 27) hexec hb dX9_chartReason_27 ki_1 ?_
    cases hf
    exact ke_i hQ hexec hb hr hP hD hS dX9_chartReason_28 hlocks
abbrev w_X9_areAgainst (g : GE) (a0 a1 : Nat) (u0_1 u0_2 u0_3 u0_4 u0_5 u0_6 u0_7 u0_8 u0_9 u0_10 u0_11 u0_12 u0_13 u0_14 u0_15 u0_16 u0_17 u0_18 u0_19 u0_20 u0_21 u0_22 u0_23 u0_24 u0_25 u0_26 u0_27 u0_28 u0_29 u0_30 : Value) (y1_s : Nat → Int32) : va_W := [(a0, .inr (9, [.ref a1, u0_1, u0_2, u0_3, u0_4, u0_5, u0_6, u0_7, u0_8, u0_9, u0_10, u0_11, u0_12, u0_13, u0_14, u0_15, u0_16, u0_17, u0_18, u0_19, u0_20, u0_21, u0_22, u0_23, u0_24, u0_25, u0_26, u0_27, u0_28, u0_29, u0_30])), (a1, .inl (g.2.1 0, 552, .inl y1_s))]
set_option maxRecDepth 20000 in
theorem c_X9_areAgainst (l : Launch) (g : GE) (a0 a1 : Nat) (sz : Nat) (u0_1 u0_2 u0_3 u0_4 u0_5 u0_6 u0_7 u0_8 u0_9 u0_10 u0_11 u0_12 u0_13 u0_14 u0_15 u0_16 u0_17 u0_18 u0_19 u0_20 u0_21 u0_22 u0_23 u0_24 u0_25 u0_26 u0_27 u0_28 u0_29 u0_30 : Value) (y1_s : Nat → Int32) (p1 : Int32) (p2 : Int32) (p3 : Int32) (p4 : Int32) (p5 : Int32) (p6 : Int32)  (r : Int32) (hf : f_X9_areAgainst y1_s p1 p2 p3 p4 p5 p6 = some r) : MI l g yX9_areAgainst wsX9_areAgainst 4 98 [.ref a0, .int p1, .int p2, .int p3, .int p4, .int p5, .int p6] (w_X9_areAgainst g a0 a1 u0_1 u0_2 u0_3 u0_4 u0_5 u0_6 u0_7 u0_8 u0_9 u0_10 u0_11 u0_12 u0_13 u0_14 u0_15 u0_16 u0_17 u0_18 u0_19 u0_20 u0_21 u0_22 u0_23 u0_24 u0_25 u0_26 u0_27 u0_28 u0_29 u0_30 y1_s) sz (some (.int r)) (w_X9_areAgainst g a0 a1 u0_1 u0_2 u0_3 u0_4 u0_5 u0_6 u0_7 u0_8 u0_9 u0_10 u0_11 u0_12 u0_13 u0_14 u0_15 u0_16 u0_17 u0_18 u0_19 u0_20 u0_21 u0_22 u0_23 u0_24 u0_25 u0_26 u0_27 u0_28 u0_29 u0_30 y1_s) := by
  refine MI.start (cc := cX9_areAgainst) (maxL := 10) (ret := (some .boolean)) rfl rfl (nle rfl) ?_
  intro p e s m args below meth c A ls Q hQ hexec hb hr hts hown hlocks hml hA hP hD hG hS hl
  unfold f_X9_areAgainst at hf
  have hWX9 : ∀ w ∈ wsX90, w.before args s = true := fun w h => hts w (List.mem_cons_of_mem _ (List.mem_append_right _ h))
  have hS : va_S A s.heap s.heap [] := hS
  refine lv_iconst (pc := 0) hexec hb dX9_areAgainst_0 ki_0 ?_
  refine lv_istore (pc := 1) hexec hb dX9_areAgainst_1 hl (nle rfl) rfl (fun ls (hl : lv_has ls 10 [(7, .int 0), (0, .ref a0), (1, .int p1), (2, .int p2), (3, .int p3), (4, .int p4), (5, .int p5), (6, .int p6)]) => ?_)
  refine lv_iconst (pc := 3) hexec hb dX9_areAgainst_3 ki_0 ?_
  refine lv_istore (pc := 4) hexec hb dX9_areAgainst_4 hl (nle rfl) rfl (fun ls (hl : lv_has ls 10 [(8, .int 0), (7, .int 0), (0, .ref a0), (1, .int p1), (2, .int p2), (3, .int p3), (4, .int p4), (5, .int p5), (6, .int p6)]) => ?_)
  obtain ⟨l6, el6, hf⟩ := bvf2 hf
  obtain ⟨v7_1, hz, hf⟩ := bd1_e hf
  have hE6 : ∀ (H : Heap) (locs : List Loc) (ls : Array Slot), va_P g.1 vwCl (w_X9_areAgainst g a0 a1 u0_1 u0_2 u0_3 u0_4 u0_5 u0_6 u0_7 u0_8 u0_9 u0_10 u0_11 u0_12 u0_13 u0_14 u0_15 u0_16 u0_17 u0_18 u0_19 u0_20 u0_21 u0_22 u0_23 u0_24 u0_25 u0_26 u0_27 u0_28 u0_29 u0_30 y1_s) H → va_D A (w_X9_areAgainst g a0 a1 u0_1 u0_2 u0_3 u0_4 u0_5 u0_6 u0_7 u0_8 u0_9 u0_10 u0_11 u0_12 u0_13 u0_14 u0_15 u0_16 u0_17 u0_18 u0_19 u0_20 u0_21 u0_22 u0_23 u0_24 u0_25 u0_26 u0_27 u0_28 u0_29 u0_30 y1_s) → va_S A s.heap H locs → lv_has ls 10 [(7, .int v7_1)] → W p l e (RM 4 98) s m args below meth c H locs 0 0 Q (F0 m 89 ls []) := by
    intro H locs ls hP hD hS hl
    refine lv_iload (pc := 89) hexec hb dX9_areAgainst_89 (lv_at hl 0 rfl) ?_
    obtain ⟨hx, hf⟩ := zb_e hf
    cases hf
    exact ke_z hQ hexec hb hr hx hP hD hS dX9_areAgainst_91 hlocks
  obtain ⟨n, hz⟩ := lq2_e hz
  have hL6 : ∀ (n : Nat) (v7 : Int32) (v8 : Int32) (H : Heap) (locs : List Loc) (ls : Array Slot), it2 l6 n v7 v8 = some v7_1 → va_P g.1 vwCl (w_X9_areAgainst g a0 a1 u0_1 u0_2 u0_3 u0_4 u0_5 u0_6 u0_7 u0_8 u0_9 u0_10 u0_11 u0_12 u0_13 u0_14 u0_15 u0_16 u0_17 u0_18 u0_19 u0_20 u0_21 u0_22 u0_23 u0_24 u0_25 u0_26 u0_27 u0_28 u0_29 u0_30 y1_s) H → va_D A (w_X9_areAgainst g a0 a1 u0_1 u0_2 u0_3 u0_4 u0_5 u0_6 u0_7 u0_8 u0_9 u0_10 u0_11 u0_12 u0_13 u0_14 u0_15 u0_16 u0_17 u0_18 u0_19 u0_20 u0_21 u0_22 u0_23 u0_24 u0_25 u0_26 u0_27 u0_28 u0_29 u0_30 y1_s) → va_S A s.heap H locs → lv_has ls 10 [(0, .ref a0), (1, .int p1), (2, .int p2), (3, .int p3), (4, .int p4), (5, .int p5), (6, .int p6), (7, .int v7), (8, .int v8)] → W p l e (RM 4 98) s m args below meth c H locs 0 0 Q (F0 m 6 ls []) := by
    intro n
    induction n with
    | zero =>
      intro v7 v8 H locs ls hf hP hD hS hl
      exact it2_0 hf
    | succ n6 ih6 =>
      intro v7 v8 H locs ls hf hP hD hS hl
      obtain ⟨q6, hf, hk6⟩ := it2_e hf
      have hf := (el6 v7 v8).symm.trans hf
      refine lv_iload (pc := 6) hexec hb dX9_areAgainst_6 (lv_at hl 8 rfl) ?_
      refine lv_aload_n (pc := 8) hexec hb dX9_areAgainst_8 rfl (lv_at hl 0 rfl) ?_
      refine lv_iload_n (pc := 9) hexec hb dX9_areAgainst_9 rfl (lv_at hl 1 rfl) ?_
      refine lv_iconst (pc := 10) hexec hb dX9_areAgainst_10 ki_3 ?_
      obtain ⟨r11, hc, hf⟩ := bd1_e hf
      refine kVp (pc := 11) (S := ⟨hexec, hb, hml, hown, hts⟩) hP hD hG hA hS [0, 1] [] [0, 1] (w2 := (w_X9_areAgainst g a0 a1 u0_1 u0_2 u0_3 u0_4 u0_5 u0_6 u0_7 u0_8 u0_9 u0_10 u0_11 u0_12 u0_13 u0_14 u0_15 u0_16 u0_17 u0_18 u0_19 u0_20 u0_21 u0_22 u0_23 u0_24 u0_25 u0_26 u0_27 u0_28 u0_29 u0_30 y1_s)) rfl rfl rfl rfl rfl rfl (by decide) (c_X9_of l g a0 a1 _ u0_1 u0_2 u0_3 u0_4 u0_5 u0_6 u0_7 u0_8 u0_9 u0_10 u0_11 u0_12 u0_13 u0_14 u0_15 u0_16 u0_17 u0_18 u0_19 u0_20 u0_21 u0_22 u0_23 u0_24 u0_25 u0_26 u0_27 u0_28 u0_29 u0_30 y1_s p1 3 r11 hc) gX9_areAgainst_X9_of rfl hv_X9_of ⟨nle rfl, nle rfl⟩ 9 0 rfl rfl rfl (rest := [.int v8]) rfl rfl hl.1 (nle rfl) dX9_areAgainst_11 (fun H locs hP hD hS => ?_)
      refine ki_ge (pc := 14) hexec hb dX9_areAgainst_14 (tgt := 89) rfl hf (fun hc hf => ?_) (fun hc hf => ?_)
      · cases sr2 hf hk6
        exact hE6 _ _ _ hP hD hS (lv_sub hl [7] rfl)
      · refine lv_aload_n (pc := 17) hexec hb dX9_areAgainst_17 rfl (lv_at hl 0 rfl) ?_
        refine lv_iload (pc := 18) hexec hb dX9_areAgainst_18 (lv_at hl 4 rfl) ?_
        refine lv_iload (pc := 20) hexec hb dX9_areAgainst_20 (lv_at hl 5 rfl) ?_
        refine lv_aload_n (pc := 22) hexec hb dX9_areAgainst_22 rfl (lv_at hl 0 rfl) ?_
        refine lv_aload_n (pc := 23) hexec hb dX9_areAgainst_23 rfl (lv_at hl 0 rfl) ?_
        refine lv_iload_n (pc := 24) hexec hb dX9_areAgainst_24 rfl (lv_at hl 1 rfl) ?_
        refine lv_iconst (pc := 25) hexec hb dX9_areAgainst_25 ki_0 ?_
        obtain ⟨r26, hc, hf⟩ := bd1_e hf
        refine kVp (pc := 26) (S := ⟨hexec, hb, hml, hown, hts⟩) hP hD hG hA hS [0, 1] [] [0, 1] (w2 := (w_X9_areAgainst g a0 a1 u0_1 u0_2 u0_3 u0_4 u0_5 u0_6 u0_7 u0_8 u0_9 u0_10 u0_11 u0_12 u0_13 u0_14 u0_15 u0_16 u0_17 u0_18 u0_19 u0_20 u0_21 u0_22 u0_23 u0_24 u0_25 u0_26 u0_27 u0_28 u0_29 u0_30 y1_s)) rfl rfl rfl rfl rfl rfl (by decide) (c_X9_of l g a0 a1 _ u0_1 u0_2 u0_3 u0_4 u0_5 u0_6 u0_7 u0_8 u0_9 u0_10 u0_11 u0_12 u0_13 u0_14 u0_15 u0_16 u0_17 u0_18 u0_19 u0_20 u0_21 u0_22 u0_23 u0_24 u0_25 u0_26 u0_27 u0_28 u0_29 u0_30 y1_s p1 0 r26 hc) gX9_areAgainst_X9_of rfl hv_X9_of ⟨nle rfl, nle rfl⟩ 9 0 rfl rfl rfl (rest := [.ref a0, .int p5, .int p4, .ref a0]) rfl rfl hl.1 (nle rfl) dX9_areAgainst_26 (fun H locs hP hD hS => ?_)
        refine lv_iload_n (pc := 29) hexec hb dX9_areAgainst_29 rfl (lv_at hl 2 rfl) ?_
        refine lv_iload (pc := 30) hexec hb dX9_areAgainst_30 (lv_at hl 8 rfl) ?_
        refine lv_iconst (pc := 32) hexec hb dX9_areAgainst_32 ki_1 ?_
        refine lv_iadd (pc := 33) hexec hb dX9_areAgainst_33 ?_
        obtain ⟨r34, hc, hf⟩ := bd1_e hf
        refine kVp (pc := 34) (S := ⟨hexec, hb, hml, hown, hts⟩) hP hD hG hA hS [0, 1] [] [0, 1] (w2 := (w_X9_areAgainst g a0 a1 u0_1 u0_2 u0_3 u0_4 u0_5 u0_6 u0_7 u0_8 u0_9 u0_10 u0_11 u0_12 u0_13 u0_14 u0_15 u0_16 u0_17 u0_18 u0_19 u0_20 u0_21 u0_22 u0_23 u0_24 u0_25 u0_26 u0_27 u0_28 u0_29 u0_30 y1_s)) rfl rfl rfl rfl rfl rfl (by decide) (c_X9_away l g a0 a1 _ u0_1 u0_2 u0_3 u0_4 u0_5 u0_6 u0_7 u0_8 u0_9 u0_10 u0_11 u0_12 u0_13 u0_14 u0_15 u0_16 u0_17 u0_18 u0_19 u0_20 u0_21 u0_22 u0_23 u0_24 u0_25 u0_26 u0_27 u0_28 u0_29 u0_30 y1_s r26 p2 (v8 + 1) r34 hc) gX9_areAgainst_X9_away rfl hv_X9_away ⟨nle rfl, nle rfl⟩ 9 0 rfl rfl rfl (rest := [.int p5, .int p4, .ref a0]) rfl rfl hl.1 (nle rfl) dX9_areAgainst_34 (fun H locs hP hD hS => ?_)
        obtain ⟨r37, hc, hf⟩ := bd1_e hf
        refine kVp (pc := 37) (S := ⟨hexec, hb, hml, hown, hts⟩) hP hD hG hA hS [0, 1] [] [0, 1] (w2 := (w_X9_areAgainst g a0 a1 u0_1 u0_2 u0_3 u0_4 u0_5 u0_6 u0_7 u0_8 u0_9 u0_10 u0_11 u0_12 u0_13 u0_14 u0_15 u0_16 u0_17 u0_18 u0_19 u0_20 u0_21 u0_22 u0_23 u0_24 u0_25 u0_26 u0_27 u0_28 u0_29 u0_30 y1_s)) rfl rfl rfl rfl rfl rfl (by decide) (c_X9_letterIn l g a0 a1 _ u0_1 u0_2 u0_3 u0_4 u0_5 u0_6 u0_7 u0_8 u0_9 u0_10 u0_11 u0_12 u0_13 u0_14 u0_15 u0_16 u0_17 u0_18 u0_19 u0_20 u0_21 u0_22 u0_23 u0_24 u0_25 u0_26 u0_27 u0_28 u0_29 u0_30 y1_s p4 p5 r34 r37 hc) gX9_areAgainst_X9_letterIn rfl hv_X9_letterIn ⟨nle rfl, nle rfl⟩ 9 0 rfl rfl rfl (rest := []) rfl rfl hl.1 (nle rfl) dX9_areAgainst_37 (fun H locs hP hD hS => ?_)
        refine lv_istore (pc := 40) hexec hb dX9_areAgainst_40 hl (nle rfl) rfl (fun ls (hl : lv_has ls 10 [(9, .int r37), (0, .ref a0), (1, .int p1), (2, .int p2), (3, .int p3), (4, .int p4), (5, .int p5), (6, .int p6), (7, .int v7), (8, .int v8)]) => ?_)
        refine lv_iload (pc := 42) hexec hb dX9_areAgainst_42 (lv_at hl 8 rfl) ?_
        obtain ⟨j81, ej81, hf⟩ := bvf1 hf
        have hj81 : ∀ (t81 : Int32) (H : Heap) (locs : List Loc) (ls : Array Slot), j81 t81 = some q6 → va_P g.1 vwCl (w_X9_areAgainst g a0 a1 u0_1 u0_2 u0_3 u0_4 u0_5 u0_6 u0_7 u0_8 u0_9 u0_10 u0_11 u0_12 u0_13 u0_14 u0_15 u0_16 u0_17 u0_18 u0_19 u0_20 u0_21 u0_22 u0_23 u0_24 u0_25 u0_26 u0_27 u0_28 u0_29 u0_30 y1_s) H → va_D A (w_X9_areAgainst g a0 a1 u0_1 u0_2 u0_3 u0_4 u0_5 u0_6 u0_7 u0_8 u0_9 u0_10 u0_11 u0_12 u0_13 u0_14 u0_15 u0_16 u0_17 u0_18 u0_19 u0_20 u0_21 u0_22 u0_23 u0_24 u0_25 u0_26 u0_27 u0_28 u0_29 u0_30 y1_s) → va_S A s.heap H locs → lv_has ls 10 [(0, .ref a0), (1, .int p1), (2, .int p2), (3, .int p3), (4, .int p4), (5, .int p5), (6, .int p6), (8, .int v8)] → W p l e (RM 4 98) s m args below meth c H locs 0 0 Q (F0 m 81 ls [.int t81]) := by
          intro t81 H locs ls hf hP hD hS hl
          have hf := (ej81 t81).symm.trans hf
          refine lv_istore (pc := 81) hexec hb dX9_areAgainst_81 hl (nle rfl) rfl (fun ls (hl : lv_has ls 10 [(7, .int t81), (0, .ref a0), (1, .int p1), (2, .int p2), (3, .int p3), (4, .int p4), (5, .int p5), (6, .int p6), (8, .int v8)]) => ?_)
          obtain ⟨v8_1, ev8_1, hf⟩ := bv_e hf
          refine k_iinc (pc := 83) hexec hb dX9_areAgainst_83 kq_1 hl (k := 8) rfl ev8_1 (nle rfl) rfl (fun ls (hl : lv_has ls 10 [(8, .int v8_1), (7, .int t81), (0, .ref a0), (1, .int p1), (2, .int p2), (3, .int p3), (4, .int p4), (5, .int p5), (6, .int p6)]) => ?_)
          refine lv_goto (pc := 86) hexec hb dX9_areAgainst_86 (tgt := 6) rfl ?_
          exact ih6 _ _ _ _ _ (sl2 hf hk6) hP hD hS (lv_sub hl [2, 3, 4, 5, 6, 7, 8, 1, 0] rfl)
        obtain ⟨j76, ej76, hf⟩ := bvf1 hf
        have hj76 : ∀ (u : Unit) (H : Heap) (locs : List Loc) (ls : Array Slot), j76 u = some q6 → va_P g.1 vwCl (w_X9_areAgainst g a0 a1 u0_1 u0_2 u0_3 u0_4 u0_5 u0_6 u0_7 u0_8 u0_9 u0_10 u0_11 u0_12 u0_13 u0_14 u0_15 u0_16 u0_17 u0_18 u0_19 u0_20 u0_21 u0_22 u0_23 u0_24 u0_25 u0_26 u0_27 u0_28 u0_29 u0_30 y1_s) H → va_D A (w_X9_areAgainst g a0 a1 u0_1 u0_2 u0_3 u0_4 u0_5 u0_6 u0_7 u0_8 u0_9 u0_10 u0_11 u0_12 u0_13 u0_14 u0_15 u0_16 u0_17 u0_18 u0_19 u0_20 u0_21 u0_22 u0_23 u0_24 u0_25 u0_26 u0_27 u0_28 u0_29 u0_30 y1_s) → va_S A s.heap H locs → lv_has ls 10 [(0, .ref a0), (1, .int p1), (2, .int p2), (3, .int p3), (4, .int p4), (5, .int p5), (6, .int p6), (8, .int v8)] → W p l e (RM 4 98) s m args below meth c H locs 0 0 Q (F0 m 76 ls []) := by
          intro u H locs ls hf hP hD hS hl
          have hf := (ej76 u).symm.trans hf
          refine lv_iconst (pc := 76) hexec hb dX9_areAgainst_76 ki_1 ?_
          refine lv_goto (pc := 77) hexec hb dX9_areAgainst_77 (tgt := 81) rfl ?_
          exact hj81 _ _ _ _ hf hP hD hS (lv_sub hl [0, 1, 2, 3, 4, 5, 6, 7] rfl)
        refine kb_ne (pc := 44) hexec hb dX9_areAgainst_44 (tgt := 76) rfl hf (fun hc hf => ?_) (fun hc hf => ?_)
        · exact hj76 _ _ _ _ hf hP hD hS (lv_sub hl [1, 2, 3, 4, 5, 6, 7, 9] rfl)
        · refine lv_iload (pc := 47) hexec hb dX9_areAgainst_47 (lv_at hl 0 rfl) ?_
          refine lv_iconst (pc := 49) hexec hb dX9_areAgainst_49 ki_m1 ?_
          obtain ⟨j80, ej80, hf⟩ := bvf1 hf
          have hj80 : ∀ (u : Unit) (H : Heap) (locs : List Loc) (ls : Array Slot), j80 u = some q6 → va_P g.1 vwCl (w_X9_areAgainst g a0 a1 u0_1 u0_2 u0_3 u0_4 u0_5 u0_6 u0_7 u0_8 u0_9 u0_10 u0_11 u0_12 u0_13 u0_14 u0_15 u0_16 u0_17 u0_18 u0_19 u0_20 u0_21 u0_22 u0_23 u0_24 u0_25 u0_26 u0_27 u0_28 u0_29 u0_30 y1_s) H → va_D A (w_X9_areAgainst g a0 a1 u0_1 u0_2 u0_3 u0_4 u0_5 u0_6 u0_7 u0_8 u0_9 u0_10 u0_11 u0_12 u0_13 u0_14 u0_15 u0_16 u0_17 u0_18 u0_19 u0_20 u0_21 u0_22 u0_23 u0_24 u0_25 u0_26 u0_27 u0_28 u0_29 u0_30 y1_s) → va_S A s.heap H locs → lv_has ls 10 [(0, .ref a0), (1, .int p1), (2, .int p2), (3, .int p3), (4, .int p4), (5, .int p5), (6, .int p6), (8, .int v8)] → W p l e (RM 4 98) s m args below meth c H locs 0 0 Q (F0 m 80 ls []) := by
            intro u H locs ls hf hP hD hS hl
            have hf := (ej80 u).symm.trans hf
            refine lv_iconst (pc := 80) hexec hb dX9_areAgainst_80 ki_0 ?_
            exact hj81 _ _ _ _ hf hP hD hS (lv_sub hl [0, 1, 2, 3, 4, 5, 6, 7] rfl)
          refine ki_eq (pc := 50) hexec hb dX9_areAgainst_50 (tgt := 80) rfl hf (fun hc hf => ?_) (fun hc hf => ?_)
          · exact hj80 _ _ _ _ hf hP hD hS (lv_sub hl [1, 2, 3, 4, 5, 6, 7, 9] rfl)
          · refine lv_iload_n (pc := 53) hexec hb dX9_areAgainst_53 rfl (lv_at hl 4 rfl) ?_
            refine kb_ne (pc := 54) hexec hb dX9_areAgainst_54 (tgt := 76) rfl hf (fun hc hf => ?_) (fun hc hf => ?_)
            · exact hj76 _ _ _ _ hf hP hD hS (lv_sub hl [1, 2, 3, 4, 5, 6, 7, 9] rfl)
            · refine lv_iload (pc := 57) hexec hb dX9_areAgainst_57 (lv_at hl 7 rfl) ?_
              refine kb_ne (pc := 59) hexec hb dX9_areAgainst_59 (tgt := 76) rfl hf (fun hc hf => ?_) (fun hc hf => ?_)
              · exact hj76 _ _ _ _ hf hP hD hS (lv_sub hl [1, 2, 3, 4, 5, 6, 7, 9] rfl)
              · refine lv_iload (pc := 62) hexec hb dX9_areAgainst_62 (lv_at hl 0 rfl) ?_
                refine lv_aload_n (pc := 64) hexec hb dX9_areAgainst_64 rfl (lv_at hl 1 rfl) ?_
                refine lv_iload_n (pc := 65) hexec hb dX9_areAgainst_65 rfl (lv_at hl 2 rfl) ?_
                refine lv_iconst (pc := 66) hexec hb dX9_areAgainst_66 ki_4 ?_
                refine lv_iload (pc := 67) hexec hb dX9_areAgainst_67 (lv_at hl 9 rfl) ?_
                refine lv_iadd (pc := 69) hexec hb dX9_areAgainst_69 ?_
                obtain ⟨r70, hc, hf⟩ := bd1_e hf
                refine kVp (pc := 70) (S := ⟨hexec, hb, hml, hown, hts⟩) hP hD hG hA hS [0, 1] [] [0, 1] (w2 := (w_X9_areAgainst g a0 a1 u0_1 u0_2 u0_3 u0_4 u0_5 u0_6 u0_7 u0_8 u0_9 u0_10 u0_11 u0_12 u0_13 u0_14 u0_15 u0_16 u0_17 u0_18 u0_19 u0_20 u0_21 u0_22 u0_23 u0_24 u0_25 u0_26 u0_27 u0_28 u0_29 u0_30 y1_s)) rfl rfl rfl rfl rfl rfl (by decide) (c_X9_of l g a0 a1 _ u0_1 u0_2 u0_3 u0_4 u0_5 u0_6 u0_7 u0_8 u0_9 u0_10 u0_11 u0_12 u0_13 u0_14 u0_15 u0_16 u0_17 u0_18 u0_19 u0_20 u0_21 u0_22 u0_23 u0_24 u0_25 u0_26 u0_27 u0_28 u0_29 u0_30 y1_s p1 (4 + v8) r70 hc) gX9_areAgainst_X9_of rfl hv_X9_of ⟨nle rfl, nle rfl⟩ 9 0 rfl rfl rfl (rest := [.int r37]) rfl rfl hl.1 (nle rfl) dX9_areAgainst_70 (fun H locs hP hD hS => ?_)
                refine ki_eq (pc := 73) hexec hb dX9_areAgainst_73 (tgt := 80) rfl hf (fun hc hf => ?_) (fun hc hf => ?_)
                · exact hj80 _ _ _ _ hf hP hD hS (lv_sub hl [1, 2, 3, 4, 5, 6, 7, 9] rfl)
                · exact hj76 _ _ _ _ hf hP hD hS (lv_sub hl [1, 2, 3, 4, 5, 6, 7, 9] rfl)
  exact hL6 n _ _ _ _ _ hz hP hD hS (lv_sub hl [2, 3, 4, 5, 6, 7, 8, 1, 0] rfl)
abbrev w_X9_isRed (g : GE) (a0 a1 : Nat) (u0_1 u0_2 u0_3 u0_4 u0_5 u0_6 u0_7 u0_8 u0_9 u0_10 u0_11 u0_12 u0_13 u0_14 u0_15 u0_16 u0_17 u0_18 u0_19 u0_20 u0_21 u0_22 u0_23 u0_24 u0_25 u0_26 u0_27 u0_28 u0_29 u0_30 : Value) (y1_s : Nat → Int32) : va_W := [(a0, .inr (9, [.ref a1, u0_1, u0_2, u0_3, u0_4, u0_5, u0_6, u0_7, u0_8, u0_9, u0_10, u0_11, u0_12, u0_13, u0_14, u0_15, u0_16, u0_17, u0_18, u0_19, u0_20, u0_21, u0_22, u0_23, u0_24, u0_25, u0_26, u0_27, u0_28, u0_29, u0_30])), (a1, .inl (g.2.1 0, 552, .inl y1_s))]
set_option maxRecDepth 20000 in
theorem c_X9_isRed (l : Launch) (g : GE) (a0 a1 : Nat) (sz : Nat) (u0_1 u0_2 u0_3 u0_4 u0_5 u0_6 u0_7 u0_8 u0_9 u0_10 u0_11 u0_12 u0_13 u0_14 u0_15 u0_16 u0_17 u0_18 u0_19 u0_20 u0_21 u0_22 u0_23 u0_24 u0_25 u0_26 u0_27 u0_28 u0_29 u0_30 : Value) (y1_s : Nat → Int32) (p1 : Int32)  (r : Int32) (hf : f_X9_isRed y1_s p1 = some r) : MI l g yX9_isRed wsX9_isRed 2 46 [.ref a0, .int p1] (w_X9_isRed g a0 a1 u0_1 u0_2 u0_3 u0_4 u0_5 u0_6 u0_7 u0_8 u0_9 u0_10 u0_11 u0_12 u0_13 u0_14 u0_15 u0_16 u0_17 u0_18 u0_19 u0_20 u0_21 u0_22 u0_23 u0_24 u0_25 u0_26 u0_27 u0_28 u0_29 u0_30 y1_s) sz (some (.int r)) (w_X9_isRed g a0 a1 u0_1 u0_2 u0_3 u0_4 u0_5 u0_6 u0_7 u0_8 u0_9 u0_10 u0_11 u0_12 u0_13 u0_14 u0_15 u0_16 u0_17 u0_18 u0_19 u0_20 u0_21 u0_22 u0_23 u0_24 u0_25 u0_26 u0_27 u0_28 u0_29 u0_30 y1_s) := by
  refine MI.start (cc := cX9_isRed) (maxL := 2) (ret := (some .boolean)) rfl rfl (nle rfl) ?_
  intro p e s m args below meth c A ls Q hQ hexec hb hr hts hown hlocks hml hA hP hD hG hS hl
  unfold f_X9_isRed at hf
  have hWX9 : ∀ w ∈ wsX90, w.before args s = true := fun w h => hts w (List.mem_cons_of_mem _ (List.mem_append_right _ h))
  have hS : va_S A s.heap s.heap [] := hS
  refine lv_aload_n (pc := 0) hexec hb dX9_isRed_0 rfl (lv_at hl 0 rfl) ?_
  refine lv_iload_n (pc := 1) hexec hb dX9_isRed_1 rfl (lv_at hl 1 rfl) ?_
  refine lv_iconst (pc := 2) hexec hb dX9_isRed_2 ki_1 ?_
  obtain ⟨r3, hc, hf⟩ := bd1_e hf
  refine kVp (pc := 3) (S := ⟨hexec, hb, hml, hown, hts⟩) hP hD hG hA hS [0, 1] [] [0, 1] (w2 := (w_X9_isRed g a0 a1 u0_1 u0_2 u0_3 u0_4 u0_5 u0_6 u0_7 u0_8 u0_9 u0_10 u0_11 u0_12 u0_13 u0_14 u0_15 u0_16 u0_17 u0_18 u0_19 u0_20 u0_21 u0_22 u0_23 u0_24 u0_25 u0_26 u0_27 u0_28 u0_29 u0_30 y1_s)) rfl rfl rfl rfl rfl rfl (by decide) (c_X9_of l g a0 a1 _ u0_1 u0_2 u0_3 u0_4 u0_5 u0_6 u0_7 u0_8 u0_9 u0_10 u0_11 u0_12 u0_13 u0_14 u0_15 u0_16 u0_17 u0_18 u0_19 u0_20 u0_21 u0_22 u0_23 u0_24 u0_25 u0_26 u0_27 u0_28 u0_29 u0_30 y1_s p1 1 r3 hc) gX9_isRed_X9_of rfl hv_X9_of ⟨nle rfl, nle rfl⟩ 9 0 rfl rfl rfl (rest := []) rfl rfl hl.1 (nle rfl) dX9_isRed_3 (fun H locs hP hD hS => ?_)
  refine lv_iconst (pc := 6) hexec hb dX9_isRed_6 ki_1 ?_
  refine ki_ne (pc := 7) hexec hb dX9_isRed_7 (tgt := 14) rfl hf (fun hc hf => ?_) (fun hc hf => ?_)
  · refine lv_iconst (pc := 14) hexec hb dX9_isRed_14 ki_0 ?_
    cases hf
    exact ke_z hQ hexec hb hr (.inl rfl) hP hD hS dX9_isRed_15 hlocks
  · refine lv_iconst (pc := 10) hexec hb dX9_isRed_10 ki_1 ?_
    refine lv_goto (pc := 11) hexec hb dX9_isRed_11 (tgt := 15) rfl ?_
    cases hf
    exact ke_z hQ hexec hb hr (.inr rfl) hP hD hS dX9_isRed_15 hlocks
abbrev w_X9_reason (g : GE) (a0 a1 : Nat) (u0_1 u0_2 u0_3 u0_4 u0_5 u0_6 u0_7 u0_8 u0_9 u0_10 u0_11 u0_12 u0_13 u0_14 u0_15 u0_16 u0_17 u0_18 u0_19 u0_20 u0_21 u0_22 u0_23 u0_24 u0_25 u0_26 u0_27 u0_28 u0_29 u0_30 : Value) (y1_s : Nat → Int32) : va_W := [(a0, .inr (9, [.ref a1, u0_1, u0_2, u0_3, u0_4, u0_5, u0_6, u0_7, u0_8, u0_9, u0_10, u0_11, u0_12, u0_13, u0_14, u0_15, u0_16, u0_17, u0_18, u0_19, u0_20, u0_21, u0_22, u0_23, u0_24, u0_25, u0_26, u0_27, u0_28, u0_29, u0_30])), (a1, .inl (g.2.1 0, 552, .inl y1_s))]
set_option maxRecDepth 20000 in
theorem c_X9_reason (l : Launch) (g : GE) (a0 a1 : Nat) (sz : Nat) (u0_1 u0_2 u0_3 u0_4 u0_5 u0_6 u0_7 u0_8 u0_9 u0_10 u0_11 u0_12 u0_13 u0_14 u0_15 u0_16 u0_17 u0_18 u0_19 u0_20 u0_21 u0_22 u0_23 u0_24 u0_25 u0_26 u0_27 u0_28 u0_29 u0_30 : Value) (y1_s : Nat → Int32) (p1 : Int32) (p2 : Int32)  (r : Int32) (hf : f_X9_reason y1_s p1 p2 = some r) : MI l g yX9_reason wsX9_reason 5 127 [.ref a0, .int p1, .int p2] (w_X9_reason g a0 a1 u0_1 u0_2 u0_3 u0_4 u0_5 u0_6 u0_7 u0_8 u0_9 u0_10 u0_11 u0_12 u0_13 u0_14 u0_15 u0_16 u0_17 u0_18 u0_19 u0_20 u0_21 u0_22 u0_23 u0_24 u0_25 u0_26 u0_27 u0_28 u0_29 u0_30 y1_s) sz (some (.int r)) (w_X9_reason g a0 a1 u0_1 u0_2 u0_3 u0_4 u0_5 u0_6 u0_7 u0_8 u0_9 u0_10 u0_11 u0_12 u0_13 u0_14 u0_15 u0_16 u0_17 u0_18 u0_19 u0_20 u0_21 u0_22 u0_23 u0_24 u0_25 u0_26 u0_27 u0_28 u0_29 u0_30 y1_s) := by
  refine MI.start (cc := cX9_reason) (maxL := 5) (ret := (some .int)) rfl rfl (nle rfl) ?_
  intro p e s m args below meth c A ls Q hQ hexec hb hr hts hown hlocks hml hA hP hD hG hS hl
  unfold f_X9_reason at hf
  have hWX9 : ∀ w ∈ wsX90, w.before args s = true := fun w h => hts w (List.mem_cons_of_mem _ (List.mem_append_right _ h))
  have hS : va_S A s.heap s.heap [] := hS
  refine lv_aload_n (pc := 0) hexec hb dX9_reason_0 rfl (lv_at hl 0 rfl) ?_
  refine lv_iload_n (pc := 1) hexec hb dX9_reason_1 rfl (lv_at hl 1 rfl) ?_
  refine lv_iload_n (pc := 2) hexec hb dX9_reason_2 rfl (lv_at hl 2 rfl) ?_
  refine lv_iconst (pc := 3) hexec hb dX9_reason_3 ki_m1 ?_
  obtain ⟨r4, hc, hf⟩ := bd1_e hf
  refine kVp (pc := 4) (S := ⟨hexec, hb, hml, hown, hts⟩) hP hD hG hA hS [0, 1] [] [0, 1] (w2 := (w_X9_reason g a0 a1 u0_1 u0_2 u0_3 u0_4 u0_5 u0_6 u0_7 u0_8 u0_9 u0_10 u0_11 u0_12 u0_13 u0_14 u0_15 u0_16 u0_17 u0_18 u0_19 u0_20 u0_21 u0_22 u0_23 u0_24 u0_25 u0_26 u0_27 u0_28 u0_29 u0_30 y1_s)) rfl rfl rfl rfl rfl rfl (by decide) (c_X9_chartReason l g a0 a1 _ u0_1 u0_2 u0_3 u0_4 u0_5 u0_6 u0_7 u0_8 u0_9 u0_10 u0_11 u0_12 u0_13 u0_14 u0_15 u0_16 u0_17 u0_18 u0_19 u0_20 u0_21 u0_22 u0_23 u0_24 u0_25 u0_26 u0_27 u0_28 u0_29 u0_30 y1_s p1 p2 (-1) r4 hc) gX9_reason_X9_chartReason rfl hv_X9_chartReason ⟨nle rfl, nle rfl⟩ 9 0 rfl rfl rfl (rest := []) rfl rfl hl.1 (nle rfl) dX9_reason_4 (fun H locs hP hD hS => ?_)
  refine lv_istore_n (pc := 7) hexec hb dX9_reason_7 rfl hl (nle rfl) rfl (fun ls (hl : lv_has ls 5 [(3, .int r4), (0, .ref a0), (1, .int p1), (2, .int p2)]) => ?_)
  refine lv_iconst (pc := 8) hexec hb dX9_reason_8 ki_0 ?_
  refine lv_istore (pc := 9) hexec hb dX9_reason_9 hl (nle rfl) rfl (fun ls (hl : lv_has ls 5 [(4, .int 0), (3, .int r4), (0, .ref a0), (1, .int p1), (2, .int p2)]) => ?_)
  obtain ⟨l11, el11, hf⟩ := bvf2 hf
  obtain ⟨v3_1, hz, hf⟩ := bd1_e hf
  have hE11 : ∀ (H : Heap) (locs : List Loc) (ls : Array Slot), va_P g.1 vwCl (w_X9_reason g a0 a1 u0_1 u0_2 u0_3 u0_4 u0_5 u0_6 u0_7 u0_8 u0_9 u0_10 u0_11 u0_12 u0_13 u0_14 u0_15 u0_16 u0_17 u0_18 u0_19 u0_20 u0_21 u0_22 u0_23 u0_24 u0_25 u0_26 u0_27 u0_28 u0_29 u0_30 y1_s) H → va_D A (w_X9_reason g a0 a1 u0_1 u0_2 u0_3 u0_4 u0_5 u0_6 u0_7 u0_8 u0_9 u0_10 u0_11 u0_12 u0_13 u0_14 u0_15 u0_16 u0_17 u0_18 u0_19 u0_20 u0_21 u0_22 u0_23 u0_24 u0_25 u0_26 u0_27 u0_28 u0_29 u0_30 y1_s) → va_S A s.heap H locs → lv_has ls 5 [(3, .int v3_1)] → W p l e (RM 5 127) s m args below meth c H locs 0 0 Q (F0 m 79 ls []) := by
    intro H locs ls hP hD hS hl
    refine lv_iload_n (pc := 79) hexec hb dX9_reason_79 rfl (lv_at hl 0 rfl) ?_
    cases hf
    exact ke_i hQ hexec hb hr hP hD hS dX9_reason_80 hlocks
  obtain ⟨n, hz⟩ := lq2_e hz
  have hL11 : ∀ (n : Nat) (v3 : Int32) (v4 : Int32) (H : Heap) (locs : List Loc) (ls : Array Slot), it2 l11 n v3 v4 = some v3_1 → va_P g.1 vwCl (w_X9_reason g a0 a1 u0_1 u0_2 u0_3 u0_4 u0_5 u0_6 u0_7 u0_8 u0_9 u0_10 u0_11 u0_12 u0_13 u0_14 u0_15 u0_16 u0_17 u0_18 u0_19 u0_20 u0_21 u0_22 u0_23 u0_24 u0_25 u0_26 u0_27 u0_28 u0_29 u0_30 y1_s) H → va_D A (w_X9_reason g a0 a1 u0_1 u0_2 u0_3 u0_4 u0_5 u0_6 u0_7 u0_8 u0_9 u0_10 u0_11 u0_12 u0_13 u0_14 u0_15 u0_16 u0_17 u0_18 u0_19 u0_20 u0_21 u0_22 u0_23 u0_24 u0_25 u0_26 u0_27 u0_28 u0_29 u0_30 y1_s) → va_S A s.heap H locs → lv_has ls 5 [(0, .ref a0), (1, .int p1), (2, .int p2), (3, .int v3), (4, .int v4)] → W p l e (RM 5 127) s m args below meth c H locs 0 0 Q (F0 m 11 ls []) := by
    intro n
    induction n with
    | zero =>
      intro v3 v4 H locs ls hf hP hD hS hl
      exact it2_0 hf
    | succ n11 ih11 =>
      intro v3 v4 H locs ls hf hP hD hS hl
      obtain ⟨q11, hf, hk11⟩ := it2_e hf
      have hf := (el11 v3 v4).symm.trans hf
      refine lv_iload (pc := 11) hexec hb dX9_reason_11 (lv_at hl 4 rfl) ?_
      refine lv_aload_n (pc := 13) hexec hb dX9_reason_13 rfl (lv_at hl 0 rfl) ?_
      refine kg_get (pc := 14) hexec hb (own := RX9) hWX9 hown hG hP 0 rfl rfl 0 (nle rfl) (hts _ (List.mem_cons_of_mem _ (List.mem_append_left _ (List.mem_append_left _ (List.mem_of_getElem? (i := 0) rfl))))) rfl rfl dX9_reason_14 ?_
      refine lv_iconst (pc := 17) hexec hb dX9_reason_17 ki_2 ?_
      refine kr_iald (pc := 18) hexec hb hG hP 1 rfl hf dX9_reason_18 (fun hf => ?_)
      refine ki_ge (pc := 19) hexec hb dX9_reason_19 (tgt := 79) rfl hf (fun hc hf => ?_) (fun hc hf => ?_)
      · cases sr2 hf hk11
        exact hE11 _ _ _ hP hD hS (lv_sub hl [3] rfl)
      · refine lv_iload_n (pc := 22) hexec hb dX9_reason_22 rfl (lv_at hl 3 rfl) ?_
        refine kb_ne (pc := 23) hexec hb dX9_reason_23 (tgt := 79) rfl hf (fun hc hf => ?_) (fun hc hf => ?_)
        · cases sr2 hf hk11
          exact hE11 _ _ _ hP hD hS (lv_sub hl [3] rfl)
        · refine lv_iload (pc := 26) hexec hb dX9_reason_26 (lv_at hl 4 rfl) ?_
          refine lv_iload_n (pc := 28) hexec hb dX9_reason_28 rfl (lv_at hl 1 rfl) ?_
          obtain ⟨j73, ej73, hf⟩ := bvf1 hf
          have hj73 : ∀ (v3_2 : Int32) (H : Heap) (locs : List Loc) (ls : Array Slot), j73 v3_2 = some q11 → va_P g.1 vwCl (w_X9_reason g a0 a1 u0_1 u0_2 u0_3 u0_4 u0_5 u0_6 u0_7 u0_8 u0_9 u0_10 u0_11 u0_12 u0_13 u0_14 u0_15 u0_16 u0_17 u0_18 u0_19 u0_20 u0_21 u0_22 u0_23 u0_24 u0_25 u0_26 u0_27 u0_28 u0_29 u0_30 y1_s) H → va_D A (w_X9_reason g a0 a1 u0_1 u0_2 u0_3 u0_4 u0_5 u0_6 u0_7 u0_8 u0_9 u0_10 u0_11 u0_12 u0_13 u0_14 u0_15 u0_16 u0_17 u0_18 u0_19 u0_20 u0_21 u0_22 u0_23 u0_24 u0_25 u0_26 u0_27 u0_28 u0_29 u0_30 y1_s) → va_S A s.heap H locs → lv_has ls 5 [(0, .ref a0), (1, .int p1), (2, .int p2), (3, .int v3_2), (4, .int v4)] → W p l e (RM 5 127) s m args below meth c H locs 0 0 Q (F0 m 73 ls []) := by
            intro v3_2 H locs ls hf hP hD hS hl
            have hf := (ej73 v3_2).symm.trans hf
            obtain ⟨v4_1, ev4_1, hf⟩ := bv_e hf
            refine k_iinc (pc := 73) hexec hb dX9_reason_73 kq_1 hl (k := 4) rfl ev4_1 (nle rfl) rfl (fun ls (hl : lv_has ls 5 [(4, .int v4_1), (0, .ref a0), (1, .int p1), (2, .int p2), (3, .int v3_2)]) => ?_)
            refine lv_goto (pc := 76) hexec hb dX9_reason_76 (tgt := 11) rfl ?_
            exact ih11 _ _ _ _ _ (sl2 hf hk11) hP hD hS (lv_sub hl [1, 2, 3, 4, 0] rfl)
          refine ki_eq (pc := 29) hexec hb dX9_reason_29 (tgt := 73) rfl hf (fun hc hf => ?_) (fun hc hf => ?_)
          · exact hj73 _ _ _ _ hf hP hD hS (lv_sub hl [0, 1, 2, 3, 4] rfl)
          · refine lv_aload_n (pc := 32) hexec hb dX9_reason_32 rfl (lv_at hl 0 rfl) ?_
            refine lv_iload (pc := 33) hexec hb dX9_reason_33 (lv_at hl 4 rfl) ?_
            obtain ⟨r35, hc, hf⟩ := bd1_e hf
            refine kVp (pc := 35) (S := ⟨hexec, hb, hml, hown, hts⟩) hP hD hG hA hS [0, 1] [] [0, 1] (w2 := (w_X9_reason g a0 a1 u0_1 u0_2 u0_3 u0_4 u0_5 u0_6 u0_7 u0_8 u0_9 u0_10 u0_11 u0_12 u0_13 u0_14 u0_15 u0_16 u0_17 u0_18 u0_19 u0_20 u0_21 u0_22 u0_23 u0_24 u0_25 u0_26 u0_27 u0_28 u0_29 u0_30 y1_s)) rfl rfl rfl rfl rfl rfl (by decide) (c_X9_isPlaced l g a0 a1 _ u0_1 u0_2 u0_3 u0_4 u0_5 u0_6 u0_7 u0_8 u0_9 u0_10 u0_11 u0_12 u0_13 u0_14 u0_15 u0_16 u0_17 u0_18 u0_19 u0_20 u0_21 u0_22 u0_23 u0_24 u0_25 u0_26 u0_27 u0_28 u0_29 u0_30 y1_s v4 r35 hc) gX9_reason_X9_isPlaced rfl hv_X9_isPlaced ⟨nle rfl, nle rfl⟩ 9 0 rfl rfl rfl (rest := []) rfl rfl hl.1 (nle rfl) dX9_reason_35 (fun H locs hP hD hS => ?_)
            refine kb_eq (pc := 38) hexec hb dX9_reason_38 (tgt := 73) rfl hf (fun hc hf => ?_) (fun hc hf => ?_)
            · exact hj73 _ _ _ _ hf hP hD hS (lv_sub hl [0, 1, 2, 3, 4] rfl)
            · refine lv_aload_n (pc := 41) hexec hb dX9_reason_41 rfl (lv_at hl 0 rfl) ?_
              refine lv_iload_n (pc := 42) hexec hb dX9_reason_42 rfl (lv_at hl 1 rfl) ?_
              refine lv_iload_n (pc := 43) hexec hb dX9_reason_43 rfl (lv_at hl 2 rfl) ?_
              refine lv_aload_n (pc := 44) hexec hb dX9_reason_44 rfl (lv_at hl 0 rfl) ?_
              refine lv_iload_n (pc := 45) hexec hb dX9_reason_45 rfl (lv_at hl 1 rfl) ?_
              obtain ⟨r46, hc, hf⟩ := bd1_e hf
              refine kVp (pc := 46) (S := ⟨hexec, hb, hml, hown, hts⟩) hP hD hG hA hS [0, 1] [] [0, 1] (w2 := (w_X9_reason g a0 a1 u0_1 u0_2 u0_3 u0_4 u0_5 u0_6 u0_7 u0_8 u0_9 u0_10 u0_11 u0_12 u0_13 u0_14 u0_15 u0_16 u0_17 u0_18 u0_19 u0_20 u0_21 u0_22 u0_23 u0_24 u0_25 u0_26 u0_27 u0_28 u0_29 u0_30 y1_s)) rfl rfl rfl rfl rfl rfl (by decide) (c_X9_isRed l g a0 a1 _ u0_1 u0_2 u0_3 u0_4 u0_5 u0_6 u0_7 u0_8 u0_9 u0_10 u0_11 u0_12 u0_13 u0_14 u0_15 u0_16 u0_17 u0_18 u0_19 u0_20 u0_21 u0_22 u0_23 u0_24 u0_25 u0_26 u0_27 u0_28 u0_29 u0_30 y1_s p1 r46 hc) gX9_reason_X9_isRed rfl hv_X9_isRed ⟨nle rfl, nle rfl⟩ 9 0 rfl rfl rfl (rest := [.int p2, .int p1, .ref a0]) rfl rfl hl.1 (nle rfl) dX9_reason_46 (fun H locs hP hD hS => ?_)
              refine lv_iload (pc := 49) hexec hb dX9_reason_49 (lv_at hl 4 rfl) ?_
              refine lv_aload_n (pc := 51) hexec hb dX9_reason_51 rfl (lv_at hl 0 rfl) ?_
              refine lv_iload (pc := 52) hexec hb dX9_reason_52 (lv_at hl 4 rfl) ?_
              refine lv_iconst (pc := 54) hexec hb dX9_reason_54 ki_2 ?_
              obtain ⟨r55, hc, hf⟩ := bd1_e hf
              refine kVp (pc := 55) (S := ⟨hexec, hb, hml, hown, hts⟩) hP hD hG hA hS [0, 1] [] [0, 1] (w2 := (w_X9_reason g a0 a1 u0_1 u0_2 u0_3 u0_4 u0_5 u0_6 u0_7 u0_8 u0_9 u0_10 u0_11 u0_12 u0_13 u0_14 u0_15 u0_16 u0_17 u0_18 u0_19 u0_20 u0_21 u0_22 u0_23 u0_24 u0_25 u0_26 u0_27 u0_28 u0_29 u0_30 y1_s)) rfl rfl rfl rfl rfl rfl (by decide) (c_X9_of l g a0 a1 _ u0_1 u0_2 u0_3 u0_4 u0_5 u0_6 u0_7 u0_8 u0_9 u0_10 u0_11 u0_12 u0_13 u0_14 u0_15 u0_16 u0_17 u0_18 u0_19 u0_20 u0_21 u0_22 u0_23 u0_24 u0_25 u0_26 u0_27 u0_28 u0_29 u0_30 y1_s v4 2 r55 hc) gX9_reason_X9_of rfl hv_X9_of ⟨nle rfl, nle rfl⟩ 9 0 rfl rfl rfl (rest := [.int v4, .int r46, .int p2, .int p1, .ref a0]) rfl rfl hl.1 (nle rfl) dX9_reason_55 (fun H locs hP hD hS => ?_)
              refine lv_aload_n (pc := 58) hexec hb dX9_reason_58 rfl (lv_at hl 0 rfl) ?_
              refine lv_iload (pc := 59) hexec hb dX9_reason_59 (lv_at hl 4 rfl) ?_
              obtain ⟨r61, hc, hf⟩ := bd1_e hf
              refine kVp (pc := 61) (S := ⟨hexec, hb, hml, hown, hts⟩) hP hD hG hA hS [0, 1] [] [0, 1] (w2 := (w_X9_reason g a0 a1 u0_1 u0_2 u0_3 u0_4 u0_5 u0_6 u0_7 u0_8 u0_9 u0_10 u0_11 u0_12 u0_13 u0_14 u0_15 u0_16 u0_17 u0_18 u0_19 u0_20 u0_21 u0_22 u0_23 u0_24 u0_25 u0_26 u0_27 u0_28 u0_29 u0_30 y1_s)) rfl rfl rfl rfl rfl rfl (by decide) (c_X9_isRed l g a0 a1 _ u0_1 u0_2 u0_3 u0_4 u0_5 u0_6 u0_7 u0_8 u0_9 u0_10 u0_11 u0_12 u0_13 u0_14 u0_15 u0_16 u0_17 u0_18 u0_19 u0_20 u0_21 u0_22 u0_23 u0_24 u0_25 u0_26 u0_27 u0_28 u0_29 u0_30 y1_s v4 r61 hc) gX9_reason_X9_isRed rfl hv_X9_isRed ⟨nle rfl, nle rfl⟩ 9 0 rfl rfl rfl (rest := [.int r55, .int v4, .int r46, .int p2, .int p1, .ref a0]) rfl rfl hl.1 (nle rfl) dX9_reason_61 (fun H locs hP hD hS => ?_)
              obtain ⟨r64, hc, hf⟩ := bd1_e hf
              refine kVp (pc := 64) (S := ⟨hexec, hb, hml, hown, hts⟩) hP hD hG hA hS [0, 1] [] [0, 1] (w2 := (w_X9_reason g a0 a1 u0_1 u0_2 u0_3 u0_4 u0_5 u0_6 u0_7 u0_8 u0_9 u0_10 u0_11 u0_12 u0_13 u0_14 u0_15 u0_16 u0_17 u0_18 u0_19 u0_20 u0_21 u0_22 u0_23 u0_24 u0_25 u0_26 u0_27 u0_28 u0_29 u0_30 y1_s)) rfl rfl rfl rfl rfl rfl (by decide) (c_X9_areAgainst l g a0 a1 _ u0_1 u0_2 u0_3 u0_4 u0_5 u0_6 u0_7 u0_8 u0_9 u0_10 u0_11 u0_12 u0_13 u0_14 u0_15 u0_16 u0_17 u0_18 u0_19 u0_20 u0_21 u0_22 u0_23 u0_24 u0_25 u0_26 u0_27 u0_28 u0_29 u0_30 y1_s p1 p2 r46 v4 r55 r61 r64 hc) gX9_reason_X9_areAgainst rfl hv_X9_areAgainst ⟨nle rfl, nle rfl⟩ 9 0 rfl rfl rfl (rest := []) rfl rfl hl.1 (nle rfl) dX9_reason_64 (fun H locs hP hD hS => ?_)
              refine kb_eq (pc := 67) hexec hb dX9_reason_67 (tgt := 73) rfl hf (fun hc hf => ?_) (fun hc hf => ?_)
              · exact hj73 _ _ _ _ hf hP hD hS (lv_sub hl [0, 1, 2, 3, 4] rfl)
              · refine lv_bipush (pc := 70) hexec hb dX9_reason_70 kb_6 ?_
                refine lv_istore_n (pc := 72) hexec hb dX9_reason_72 rfl hl (nle rfl) rfl (fun ls (hl : lv_has ls 5 [(3, .int 6), (0, .ref a0), (1, .int p1), (2, .int p2), (4, .int v4)]) => ?_)
                exact hj73 _ _ _ _ hf hP hD hS (lv_sub hl [1, 2, 3, 0, 4] rfl)
  exact hL11 n _ _ _ _ _ hz hP hD hS (lv_sub hl [2, 3, 4, 1, 0] rfl)
abbrev w_X9_doCross (g : GE) (a0 a1 : Nat) (u0_1 u0_2 u0_3 u0_4 u0_5 u0_6 u0_7 u0_8 u0_9 u0_10 u0_11 u0_12 u0_13 u0_14 u0_15 u0_16 u0_17 u0_18 u0_19 u0_20 u0_21 u0_22 u0_23 u0_24 u0_25 u0_26 u0_27 u0_28 u0_29 u0_30 : Value) (y1_s : Nat → Int32) : va_W := [(a0, .inr (9, [.ref a1, u0_1, u0_2, u0_3, u0_4, u0_5, u0_6, u0_7, u0_8, u0_9, u0_10, u0_11, u0_12, u0_13, u0_14, u0_15, u0_16, u0_17, u0_18, u0_19, u0_20, u0_21, u0_22, u0_23, u0_24, u0_25, u0_26, u0_27, u0_28, u0_29, u0_30])), (a1, .inl (g.2.1 0, 552, .inl y1_s))]
set_option maxRecDepth 20000 in
theorem c_X9_doCross (l : Launch) (g : GE) (a0 a1 : Nat) (sz : Nat) (u0_1 u0_2 u0_3 u0_4 u0_5 u0_6 u0_7 u0_8 u0_9 u0_10 u0_11 u0_12 u0_13 u0_14 u0_15 u0_16 u0_17 u0_18 u0_19 u0_20 u0_21 u0_22 u0_23 u0_24 u0_25 u0_26 u0_27 u0_28 u0_29 u0_30 : Value) (y1_s : Nat → Int32) (p1 : Int32) (p2 : Int32)  (r : Int32) (hf : f_X9_doCross y1_s p1 p2 = some r) : MI l g yX9_doCross wsX9_doCross 5 120 [.ref a0, .int p1, .int p2] (w_X9_doCross g a0 a1 u0_1 u0_2 u0_3 u0_4 u0_5 u0_6 u0_7 u0_8 u0_9 u0_10 u0_11 u0_12 u0_13 u0_14 u0_15 u0_16 u0_17 u0_18 u0_19 u0_20 u0_21 u0_22 u0_23 u0_24 u0_25 u0_26 u0_27 u0_28 u0_29 u0_30 y1_s) sz (some (.int r)) (w_X9_doCross g a0 a1 u0_1 u0_2 u0_3 u0_4 u0_5 u0_6 u0_7 u0_8 u0_9 u0_10 u0_11 u0_12 u0_13 u0_14 u0_15 u0_16 u0_17 u0_18 u0_19 u0_20 u0_21 u0_22 u0_23 u0_24 u0_25 u0_26 u0_27 u0_28 u0_29 u0_30 y1_s) := by
  refine MI.start (cc := cX9_doCross) (maxL := 5) (ret := (some .boolean)) rfl rfl (nle rfl) ?_
  intro p e s m args below meth c A ls Q hQ hexec hb hr hts hown hlocks hml hA hP hD hG hS hl
  unfold f_X9_doCross at hf
  have hWX9 : ∀ w ∈ wsX90, w.before args s = true := fun w h => hts w (List.mem_cons_of_mem _ (List.mem_append_right _ h))
  have hS : va_S A s.heap s.heap [] := hS
  refine lv_iconst (pc := 0) hexec hb dX9_doCross_0 ki_0 ?_
  refine lv_istore_n (pc := 1) hexec hb dX9_doCross_1 rfl hl (nle rfl) rfl (fun ls (hl : lv_has ls 5 [(3, .int 0), (0, .ref a0), (1, .int p1), (2, .int p2)]) => ?_)
  refine lv_iconst (pc := 2) hexec hb dX9_doCross_2 ki_0 ?_
  refine lv_istore (pc := 3) hexec hb dX9_doCross_3 hl (nle rfl) rfl (fun ls (hl : lv_has ls 5 [(4, .int 0), (3, .int 0), (0, .ref a0), (1, .int p1), (2, .int p2)]) => ?_)
  obtain ⟨l5, el5, hf⟩ := bvf2 hf
  obtain ⟨v3_1, hz, hf⟩ := bd1_e hf
  have hE5 : ∀ (H : Heap) (locs : List Loc) (ls : Array Slot), va_P g.1 vwCl (w_X9_doCross g a0 a1 u0_1 u0_2 u0_3 u0_4 u0_5 u0_6 u0_7 u0_8 u0_9 u0_10 u0_11 u0_12 u0_13 u0_14 u0_15 u0_16 u0_17 u0_18 u0_19 u0_20 u0_21 u0_22 u0_23 u0_24 u0_25 u0_26 u0_27 u0_28 u0_29 u0_30 y1_s) H → va_D A (w_X9_doCross g a0 a1 u0_1 u0_2 u0_3 u0_4 u0_5 u0_6 u0_7 u0_8 u0_9 u0_10 u0_11 u0_12 u0_13 u0_14 u0_15 u0_16 u0_17 u0_18 u0_19 u0_20 u0_21 u0_22 u0_23 u0_24 u0_25 u0_26 u0_27 u0_28 u0_29 u0_30 y1_s) → va_S A s.heap H locs → lv_has ls 5 [(3, .int v3_1)] → W p l e (RM 5 120) s m args below meth c H locs 0 0 Q (F0 m 69 ls []) := by
    intro H locs ls hP hD hS hl
    refine lv_iload_n (pc := 69) hexec hb dX9_doCross_69 rfl (lv_at hl 0 rfl) ?_
    obtain ⟨hx, hf⟩ := zb_e hf
    cases hf
    exact ke_z hQ hexec hb hr hx hP hD hS dX9_doCross_70 hlocks
  obtain ⟨n, hz⟩ := lq2_e hz
  have hL5 : ∀ (n : Nat) (v3 : Int32) (v4 : Int32) (H : Heap) (locs : List Loc) (ls : Array Slot), it2 l5 n v3 v4 = some v3_1 → va_P g.1 vwCl (w_X9_doCross g a0 a1 u0_1 u0_2 u0_3 u0_4 u0_5 u0_6 u0_7 u0_8 u0_9 u0_10 u0_11 u0_12 u0_13 u0_14 u0_15 u0_16 u0_17 u0_18 u0_19 u0_20 u0_21 u0_22 u0_23 u0_24 u0_25 u0_26 u0_27 u0_28 u0_29 u0_30 y1_s) H → va_D A (w_X9_doCross g a0 a1 u0_1 u0_2 u0_3 u0_4 u0_5 u0_6 u0_7 u0_8 u0_9 u0_10 u0_11 u0_12 u0_13 u0_14 u0_15 u0_16 u0_17 u0_18 u0_19 u0_20 u0_21 u0_22 u0_23 u0_24 u0_25 u0_26 u0_27 u0_28 u0_29 u0_30 y1_s) → va_S A s.heap H locs → lv_has ls 5 [(0, .ref a0), (1, .int p1), (2, .int p2), (3, .int v3), (4, .int v4)] → W p l e (RM 5 120) s m args below meth c H locs 0 0 Q (F0 m 5 ls []) := by
    intro n
    induction n with
    | zero =>
      intro v3 v4 H locs ls hf hP hD hS hl
      exact it2_0 hf
    | succ n5 ih5 =>
      intro v3 v4 H locs ls hf hP hD hS hl
      obtain ⟨q5, hf, hk5⟩ := it2_e hf
      have hf := (el5 v3 v4).symm.trans hf
      refine lv_iload (pc := 5) hexec hb dX9_doCross_5 (lv_at hl 4 rfl) ?_
      refine lv_aload_n (pc := 7) hexec hb dX9_doCross_7 rfl (lv_at hl 0 rfl) ?_
      refine lv_iload_n (pc := 8) hexec hb dX9_doCross_8 rfl (lv_at hl 1 rfl) ?_
      refine lv_iconst (pc := 9) hexec hb dX9_doCross_9 ki_3 ?_
      obtain ⟨r10, hc, hf⟩ := bd1_e hf
      refine kVp (pc := 10) (S := ⟨hexec, hb, hml, hown, hts⟩) hP hD hG hA hS [0, 1] [] [0, 1] (w2 := (w_X9_doCross g a0 a1 u0_1 u0_2 u0_3 u0_4 u0_5 u0_6 u0_7 u0_8 u0_9 u0_10 u0_11 u0_12 u0_13 u0_14 u0_15 u0_16 u0_17 u0_18 u0_19 u0_20 u0_21 u0_22 u0_23 u0_24 u0_25 u0_26 u0_27 u0_28 u0_29 u0_30 y1_s)) rfl rfl rfl rfl rfl rfl (by decide) (c_X9_of l g a0 a1 _ u0_1 u0_2 u0_3 u0_4 u0_5 u0_6 u0_7 u0_8 u0_9 u0_10 u0_11 u0_12 u0_13 u0_14 u0_15 u0_16 u0_17 u0_18 u0_19 u0_20 u0_21 u0_22 u0_23 u0_24 u0_25 u0_26 u0_27 u0_28 u0_29 u0_30 y1_s p1 3 r10 hc) gX9_doCross_X9_of rfl hv_X9_of ⟨nle rfl, nle rfl⟩ 9 0 rfl rfl rfl (rest := [.int v4]) rfl rfl hl.1 (nle rfl) dX9_doCross_10 (fun H locs hP hD hS => ?_)
      refine ki_ge (pc := 13) hexec hb dX9_doCross_13 (tgt := 69) rfl hf (fun hc hf => ?_) (fun hc hf => ?_)
      · cases sr2 hf hk5
        exact hE5 _ _ _ hP hD hS (lv_sub hl [3] rfl)
      · refine lv_aload_n (pc := 16) hexec hb dX9_doCross_16 rfl (lv_at hl 0 rfl) ?_
        refine lv_iload_n (pc := 17) hexec hb dX9_doCross_17 rfl (lv_at hl 1 rfl) ?_
        obtain ⟨r18, hc, hf⟩ := bd1_e hf
        refine kVp (pc := 18) (S := ⟨hexec, hb, hml, hown, hts⟩) hP hD hG hA hS [0, 1] [] [0, 1] (w2 := (w_X9_doCross g a0 a1 u0_1 u0_2 u0_3 u0_4 u0_5 u0_6 u0_7 u0_8 u0_9 u0_10 u0_11 u0_12 u0_13 u0_14 u0_15 u0_16 u0_17 u0_18 u0_19 u0_20 u0_21 u0_22 u0_23 u0_24 u0_25 u0_26 u0_27 u0_28 u0_29 u0_30 y1_s)) rfl rfl rfl rfl rfl rfl (by decide) (c_X9_isPlaced l g a0 a1 _ u0_1 u0_2 u0_3 u0_4 u0_5 u0_6 u0_7 u0_8 u0_9 u0_10 u0_11 u0_12 u0_13 u0_14 u0_15 u0_16 u0_17 u0_18 u0_19 u0_20 u0_21 u0_22 u0_23 u0_24 u0_25 u0_26 u0_27 u0_28 u0_29 u0_30 y1_s p1 r18 hc) gX9_doCross_X9_isPlaced rfl hv_X9_isPlaced ⟨nle rfl, nle rfl⟩ 9 0 rfl rfl rfl (rest := []) rfl rfl hl.1 (nle rfl) dX9_doCross_18 (fun H locs hP hD hS => ?_)
        refine kb_eq (pc := 21) hexec hb dX9_doCross_21 (tgt := 69) rfl hf (fun hc hf => ?_) (fun hc hf => ?_)
        · cases sr2 hf hk5
          exact hE5 _ _ _ hP hD hS (lv_sub hl [3] rfl)
        · refine lv_iload_n (pc := 24) hexec hb dX9_doCross_24 rfl (lv_at hl 3 rfl) ?_
          obtain ⟨j62, ej62, hf⟩ := bvf1 hf
          have hj62 : ∀ (t62 : Int32) (H : Heap) (locs : List Loc) (ls : Array Slot), j62 t62 = some q5 → va_P g.1 vwCl (w_X9_doCross g a0 a1 u0_1 u0_2 u0_3 u0_4 u0_5 u0_6 u0_7 u0_8 u0_9 u0_10 u0_11 u0_12 u0_13 u0_14 u0_15 u0_16 u0_17 u0_18 u0_19 u0_20 u0_21 u0_22 u0_23 u0_24 u0_25 u0_26 u0_27 u0_28 u0_29 u0_30 y1_s) H → va_D A (w_X9_doCross g a0 a1 u0_1 u0_2 u0_3 u0_4 u0_5 u0_6 u0_7 u0_8 u0_9 u0_10 u0_11 u0_12 u0_13 u0_14 u0_15 u0_16 u0_17 u0_18 u0_19 u0_20 u0_21 u0_22 u0_23 u0_24 u0_25 u0_26 u0_27 u0_28 u0_29 u0_30 y1_s) → va_S A s.heap H locs → lv_has ls 5 [(0, .ref a0), (1, .int p1), (2, .int p2), (4, .int v4)] → W p l e (RM 5 120) s m args below meth c H locs 0 0 Q (F0 m 62 ls [.int t62]) := by
            intro t62 H locs ls hf hP hD hS hl
            have hf := (ej62 t62).symm.trans hf
            refine lv_istore_n (pc := 62) hexec hb dX9_doCross_62 rfl hl (nle rfl) rfl (fun ls (hl : lv_has ls 5 [(3, .int t62), (0, .ref a0), (1, .int p1), (2, .int p2), (4, .int v4)]) => ?_)
            obtain ⟨v4_1, ev4_1, hf⟩ := bv_e hf
            refine k_iinc (pc := 63) hexec hb dX9_doCross_63 kq_1 hl (k := 4) rfl ev4_1 (nle rfl) rfl (fun ls (hl : lv_has ls 5 [(4, .int v4_1), (3, .int t62), (0, .ref a0), (1, .int p1), (2, .int p2)]) => ?_)
            refine lv_goto (pc := 66) hexec hb dX9_doCross_66 (tgt := 5) rfl ?_
            exact ih5 _ _ _ _ _ (sl2 hf hk5) hP hD hS (lv_sub hl [2, 3, 4, 1, 0] rfl)
          obtain ⟨j57, ej57, hf⟩ := bvf1 hf
          have hj57 : ∀ (u : Unit) (H : Heap) (locs : List Loc) (ls : Array Slot), j57 u = some q5 → va_P g.1 vwCl (w_X9_doCross g a0 a1 u0_1 u0_2 u0_3 u0_4 u0_5 u0_6 u0_7 u0_8 u0_9 u0_10 u0_11 u0_12 u0_13 u0_14 u0_15 u0_16 u0_17 u0_18 u0_19 u0_20 u0_21 u0_22 u0_23 u0_24 u0_25 u0_26 u0_27 u0_28 u0_29 u0_30 y1_s) H → va_D A (w_X9_doCross g a0 a1 u0_1 u0_2 u0_3 u0_4 u0_5 u0_6 u0_7 u0_8 u0_9 u0_10 u0_11 u0_12 u0_13 u0_14 u0_15 u0_16 u0_17 u0_18 u0_19 u0_20 u0_21 u0_22 u0_23 u0_24 u0_25 u0_26 u0_27 u0_28 u0_29 u0_30 y1_s) → va_S A s.heap H locs → lv_has ls 5 [(0, .ref a0), (1, .int p1), (2, .int p2), (4, .int v4)] → W p l e (RM 5 120) s m args below meth c H locs 0 0 Q (F0 m 57 ls []) := by
            intro u H locs ls hf hP hD hS hl
            have hf := (ej57 u).symm.trans hf
            refine lv_iconst (pc := 57) hexec hb dX9_doCross_57 ki_1 ?_
            refine lv_goto (pc := 58) hexec hb dX9_doCross_58 (tgt := 62) rfl ?_
            exact hj62 _ _ _ _ hf hP hD hS (lv_sub hl [0, 1, 2, 3] rfl)
          refine kb_ne (pc := 25) hexec hb dX9_doCross_25 (tgt := 57) rfl hf (fun hc hf => ?_) (fun hc hf => ?_)
          · exact hj57 _ _ _ _ hf hP hD hS (lv_sub hl [0, 1, 2, 4] rfl)
          · refine lv_aload_n (pc := 28) hexec hb dX9_doCross_28 rfl (lv_at hl 0 rfl) ?_
            refine lv_iload_n (pc := 29) hexec hb dX9_doCross_29 rfl (lv_at hl 2 rfl) ?_
            refine lv_aload_n (pc := 30) hexec hb dX9_doCross_30 rfl (lv_at hl 0 rfl) ?_
            refine lv_aload_n (pc := 31) hexec hb dX9_doCross_31 rfl (lv_at hl 0 rfl) ?_
            refine lv_iload_n (pc := 32) hexec hb dX9_doCross_32 rfl (lv_at hl 1 rfl) ?_
            refine lv_iconst (pc := 33) hexec hb dX9_doCross_33 ki_0 ?_
            obtain ⟨r34, hc, hf⟩ := bd1_e hf
            refine kVp (pc := 34) (S := ⟨hexec, hb, hml, hown, hts⟩) hP hD hG hA hS [0, 1] [] [0, 1] (w2 := (w_X9_doCross g a0 a1 u0_1 u0_2 u0_3 u0_4 u0_5 u0_6 u0_7 u0_8 u0_9 u0_10 u0_11 u0_12 u0_13 u0_14 u0_15 u0_16 u0_17 u0_18 u0_19 u0_20 u0_21 u0_22 u0_23 u0_24 u0_25 u0_26 u0_27 u0_28 u0_29 u0_30 y1_s)) rfl rfl rfl rfl rfl rfl (by decide) (c_X9_of l g a0 a1 _ u0_1 u0_2 u0_3 u0_4 u0_5 u0_6 u0_7 u0_8 u0_9 u0_10 u0_11 u0_12 u0_13 u0_14 u0_15 u0_16 u0_17 u0_18 u0_19 u0_20 u0_21 u0_22 u0_23 u0_24 u0_25 u0_26 u0_27 u0_28 u0_29 u0_30 y1_s p1 0 r34 hc) gX9_doCross_X9_of rfl hv_X9_of ⟨nle rfl, nle rfl⟩ 9 0 rfl rfl rfl (rest := [.ref a0, .int p2, .ref a0]) rfl rfl hl.1 (nle rfl) dX9_doCross_34 (fun H locs hP hD hS => ?_)
            refine lv_aload_n (pc := 37) hexec hb dX9_doCross_37 rfl (lv_at hl 0 rfl) ?_
            refine lv_iload_n (pc := 38) hexec hb dX9_doCross_38 rfl (lv_at hl 1 rfl) ?_
            refine lv_iconst (pc := 39) hexec hb dX9_doCross_39 ki_2 ?_
            obtain ⟨r40, hc, hf⟩ := bd1_e hf
            refine kVp (pc := 40) (S := ⟨hexec, hb, hml, hown, hts⟩) hP hD hG hA hS [0, 1] [] [0, 1] (w2 := (w_X9_doCross g a0 a1 u0_1 u0_2 u0_3 u0_4 u0_5 u0_6 u0_7 u0_8 u0_9 u0_10 u0_11 u0_12 u0_13 u0_14 u0_15 u0_16 u0_17 u0_18 u0_19 u0_20 u0_21 u0_22 u0_23 u0_24 u0_25 u0_26 u0_27 u0_28 u0_29 u0_30 y1_s)) rfl rfl rfl rfl rfl rfl (by decide) (c_X9_of l g a0 a1 _ u0_1 u0_2 u0_3 u0_4 u0_5 u0_6 u0_7 u0_8 u0_9 u0_10 u0_11 u0_12 u0_13 u0_14 u0_15 u0_16 u0_17 u0_18 u0_19 u0_20 u0_21 u0_22 u0_23 u0_24 u0_25 u0_26 u0_27 u0_28 u0_29 u0_30 y1_s p1 2 r40 hc) gX9_doCross_X9_of rfl hv_X9_of ⟨nle rfl, nle rfl⟩ 9 0 rfl rfl rfl (rest := [.int r34, .ref a0, .int p2, .ref a0]) rfl rfl hl.1 (nle rfl) dX9_doCross_40 (fun H locs hP hD hS => ?_)
            refine lv_iload (pc := 43) hexec hb dX9_doCross_43 (lv_at hl 4 rfl) ?_
            refine lv_iconst (pc := 45) hexec hb dX9_doCross_45 ki_1 ?_
            refine lv_iadd (pc := 46) hexec hb dX9_doCross_46 ?_
            obtain ⟨r47, hc, hf⟩ := bd1_e hf
            refine kVp (pc := 47) (S := ⟨hexec, hb, hml, hown, hts⟩) hP hD hG hA hS [0, 1] [] [0, 1] (w2 := (w_X9_doCross g a0 a1 u0_1 u0_2 u0_3 u0_4 u0_5 u0_6 u0_7 u0_8 u0_9 u0_10 u0_11 u0_12 u0_13 u0_14 u0_15 u0_16 u0_17 u0_18 u0_19 u0_20 u0_21 u0_22 u0_23 u0_24 u0_25 u0_26 u0_27 u0_28 u0_29 u0_30 y1_s)) rfl rfl rfl rfl rfl rfl (by decide) (c_X9_away l g a0 a1 _ u0_1 u0_2 u0_3 u0_4 u0_5 u0_6 u0_7 u0_8 u0_9 u0_10 u0_11 u0_12 u0_13 u0_14 u0_15 u0_16 u0_17 u0_18 u0_19 u0_20 u0_21 u0_22 u0_23 u0_24 u0_25 u0_26 u0_27 u0_28 u0_29 u0_30 y1_s r34 r40 (v4 + 1) r47 hc) gX9_doCross_X9_away rfl hv_X9_away ⟨nle rfl, nle rfl⟩ 9 0 rfl rfl rfl (rest := [.int p2, .ref a0]) rfl rfl hl.1 (nle rfl) dX9_doCross_47 (fun H locs hP hD hS => ?_)
            obtain ⟨r50, hc, hf⟩ := bd1_e hf
            refine kVp (pc := 50) (S := ⟨hexec, hb, hml, hown, hts⟩) hP hD hG hA hS [0, 1] [] [0, 1] (w2 := (w_X9_doCross g a0 a1 u0_1 u0_2 u0_3 u0_4 u0_5 u0_6 u0_7 u0_8 u0_9 u0_10 u0_11 u0_12 u0_13 u0_14 u0_15 u0_16 u0_17 u0_18 u0_19 u0_20 u0_21 u0_22 u0_23 u0_24 u0_25 u0_26 u0_27 u0_28 u0_29 u0_30 y1_s)) rfl rfl rfl rfl rfl rfl (by decide) (c_X9_letterOf l g a0 a1 _ u0_1 u0_2 u0_3 u0_4 u0_5 u0_6 u0_7 u0_8 u0_9 u0_10 u0_11 u0_12 u0_13 u0_14 u0_15 u0_16 u0_17 u0_18 u0_19 u0_20 u0_21 u0_22 u0_23 u0_24 u0_25 u0_26 u0_27 u0_28 u0_29 u0_30 y1_s p2 r47 r50 hc) gX9_doCross_X9_letterOf rfl hv_X9_letterOf ⟨nle rfl, nle rfl⟩ 9 0 rfl rfl rfl (rest := []) rfl rfl hl.1 (nle rfl) dX9_doCross_50 (fun H locs hP hD hS => ?_)
            refine lv_iconst (pc := 53) hexec hb dX9_doCross_53 ki_m1 ?_
            refine ki_eq (pc := 54) hexec hb dX9_doCross_54 (tgt := 61) rfl hf (fun hc hf => ?_) (fun hc hf => ?_)
            · refine lv_iconst (pc := 61) hexec hb dX9_doCross_61 ki_0 ?_
              exact hj62 _ _ _ _ hf hP hD hS (lv_sub hl [0, 1, 2, 4] rfl)
            · exact hj57 _ _ _ _ hf hP hD hS (lv_sub hl [0, 1, 2, 4] rfl)
  exact hL5 n _ _ _ _ _ hz hP hD hS (lv_sub hl [2, 3, 4, 1, 0] rfl)
abbrev w_X9_crossedBy (g : GE) (a0 a1 : Nat) (u0_1 u0_2 u0_3 u0_4 u0_5 u0_6 u0_7 u0_8 u0_9 u0_10 u0_11 u0_12 u0_13 u0_14 u0_15 u0_16 u0_17 u0_18 u0_19 u0_20 u0_21 u0_22 u0_23 u0_24 u0_25 u0_26 u0_27 u0_28 u0_29 u0_30 : Value) (y1_s : Nat → Int32) : va_W := [(a0, .inr (9, [.ref a1, u0_1, u0_2, u0_3, u0_4, u0_5, u0_6, u0_7, u0_8, u0_9, u0_10, u0_11, u0_12, u0_13, u0_14, u0_15, u0_16, u0_17, u0_18, u0_19, u0_20, u0_21, u0_22, u0_23, u0_24, u0_25, u0_26, u0_27, u0_28, u0_29, u0_30])), (a1, .inl (g.2.1 0, 552, .inl y1_s))]
set_option maxRecDepth 20000 in
theorem c_X9_crossedBy (l : Launch) (g : GE) (a0 a1 : Nat) (sz : Nat) (u0_1 u0_2 u0_3 u0_4 u0_5 u0_6 u0_7 u0_8 u0_9 u0_10 u0_11 u0_12 u0_13 u0_14 u0_15 u0_16 u0_17 u0_18 u0_19 u0_20 u0_21 u0_22 u0_23 u0_24 u0_25 u0_26 u0_27 u0_28 u0_29 u0_30 : Value) (y1_s : Nat → Int32) (p1 : Int32)  (r : Int32) (hf : f_X9_crossedBy y1_s p1 = some r) : MI l g yX9_crossedBy wsX9_crossedBy 6 144 [.ref a0, .int p1] (w_X9_crossedBy g a0 a1 u0_1 u0_2 u0_3 u0_4 u0_5 u0_6 u0_7 u0_8 u0_9 u0_10 u0_11 u0_12 u0_13 u0_14 u0_15 u0_16 u0_17 u0_18 u0_19 u0_20 u0_21 u0_22 u0_23 u0_24 u0_25 u0_26 u0_27 u0_28 u0_29 u0_30 y1_s) sz (some (.int r)) (w_X9_crossedBy g a0 a1 u0_1 u0_2 u0_3 u0_4 u0_5 u0_6 u0_7 u0_8 u0_9 u0_10 u0_11 u0_12 u0_13 u0_14 u0_15 u0_16 u0_17 u0_18 u0_19 u0_20 u0_21 u0_22 u0_23 u0_24 u0_25 u0_26 u0_27 u0_28 u0_29 u0_30 y1_s) := by
  refine MI.start (cc := cX9_crossedBy) (maxL := 4) (ret := (some .int)) rfl rfl (nle rfl) ?_
  intro p e s m args below meth c A ls Q hQ hexec hb hr hts hown hlocks hml hA hP hD hG hS hl
  unfold f_X9_crossedBy at hf
  have hWX9 : ∀ w ∈ wsX90, w.before args s = true := fun w h => hts w (List.mem_cons_of_mem _ (List.mem_append_right _ h))
  have hS : va_S A s.heap s.heap [] := hS
  refine lv_iconst (pc := 0) hexec hb dX9_crossedBy_0 ki_0 ?_
  refine lv_istore_n (pc := 1) hexec hb dX9_crossedBy_1 rfl hl (nle rfl) rfl (fun ls (hl : lv_has ls 4 [(2, .int 0), (0, .ref a0), (1, .int p1)]) => ?_)
  refine lv_iconst (pc := 2) hexec hb dX9_crossedBy_2 ki_0 ?_
  refine lv_istore_n (pc := 3) hexec hb dX9_crossedBy_3 rfl hl (nle rfl) rfl (fun ls (hl : lv_has ls 4 [(3, .int 0), (2, .int 0), (0, .ref a0), (1, .int p1)]) => ?_)
  obtain ⟨l4, el4, hf⟩ := bvf2 hf
  obtain ⟨v2_1, hz, hf⟩ := bd1_e hf
  have hE4 : ∀ (H : Heap) (locs : List Loc) (ls : Array Slot), va_P g.1 vwCl (w_X9_crossedBy g a0 a1 u0_1 u0_2 u0_3 u0_4 u0_5 u0_6 u0_7 u0_8 u0_9 u0_10 u0_11 u0_12 u0_13 u0_14 u0_15 u0_16 u0_17 u0_18 u0_19 u0_20 u0_21 u0_22 u0_23 u0_24 u0_25 u0_26 u0_27 u0_28 u0_29 u0_30 y1_s) H → va_D A (w_X9_crossedBy g a0 a1 u0_1 u0_2 u0_3 u0_4 u0_5 u0_6 u0_7 u0_8 u0_9 u0_10 u0_11 u0_12 u0_13 u0_14 u0_15 u0_16 u0_17 u0_18 u0_19 u0_20 u0_21 u0_22 u0_23 u0_24 u0_25 u0_26 u0_27 u0_28 u0_29 u0_30 y1_s) → va_S A s.heap H locs → lv_has ls 4 [(2, .int v2_1)] → W p l e (RM 6 144) s m args below meth c H locs 0 0 Q (F0 m 44 ls []) := by
    intro H locs ls hP hD hS hl
    refine lv_iload_n (pc := 44) hexec hb dX9_crossedBy_44 rfl (lv_at hl 0 rfl) ?_
    cases hf
    exact ke_i hQ hexec hb hr hP hD hS dX9_crossedBy_45 hlocks
  obtain ⟨n, hz⟩ := lq2_e hz
  have hL4 : ∀ (n : Nat) (v2 : Int32) (v3 : Int32) (H : Heap) (locs : List Loc) (ls : Array Slot), it2 l4 n v2 v3 = some v2_1 → va_P g.1 vwCl (w_X9_crossedBy g a0 a1 u0_1 u0_2 u0_3 u0_4 u0_5 u0_6 u0_7 u0_8 u0_9 u0_10 u0_11 u0_12 u0_13 u0_14 u0_15 u0_16 u0_17 u0_18 u0_19 u0_20 u0_21 u0_22 u0_23 u0_24 u0_25 u0_26 u0_27 u0_28 u0_29 u0_30 y1_s) H → va_D A (w_X9_crossedBy g a0 a1 u0_1 u0_2 u0_3 u0_4 u0_5 u0_6 u0_7 u0_8 u0_9 u0_10 u0_11 u0_12 u0_13 u0_14 u0_15 u0_16 u0_17 u0_18 u0_19 u0_20 u0_21 u0_22 u0_23 u0_24 u0_25 u0_26 u0_27 u0_28 u0_29 u0_30 y1_s) → va_S A s.heap H locs → lv_has ls 4 [(0, .ref a0), (1, .int p1), (2, .int v2), (3, .int v3)] → W p l e (RM 6 144) s m args below meth c H locs 0 0 Q (F0 m 4 ls []) := by
    intro n
    induction n with
    | zero =>
      intro v2 v3 H locs ls hf hP hD hS hl
      exact it2_0 hf
    | succ n4 ih4 =>
      intro v2 v3 H locs ls hf hP hD hS hl
      obtain ⟨q4, hf, hk4⟩ := it2_e hf
      have hf := (el4 v2 v3).symm.trans hf
      refine lv_iload_n (pc := 4) hexec hb dX9_crossedBy_4 rfl (lv_at hl 3 rfl) ?_
      refine lv_aload_n (pc := 5) hexec hb dX9_crossedBy_5 rfl (lv_at hl 0 rfl) ?_
      refine kg_get (pc := 6) hexec hb (own := RX9) hWX9 hown hG hP 0 rfl rfl 0 (nle rfl) (hts _ (List.mem_cons_of_mem _ (List.mem_append_left _ (List.mem_append_left _ (List.mem_of_getElem? (i := 0) rfl))))) rfl rfl dX9_crossedBy_6 ?_
      refine lv_iconst (pc := 9) hexec hb dX9_crossedBy_9 ki_2 ?_
      refine kr_iald (pc := 10) hexec hb hG hP 1 rfl hf dX9_crossedBy_10 (fun hf => ?_)
      refine ki_ge (pc := 11) hexec hb dX9_crossedBy_11 (tgt := 44) rfl hf (fun hc hf => ?_) (fun hc hf => ?_)
      · cases sr2 hf hk4
        exact hE4 _ _ _ hP hD hS (lv_sub hl [2] rfl)
      · refine lv_iload_n (pc := 14) hexec hb dX9_crossedBy_14 rfl (lv_at hl 2 rfl) ?_
        refine lv_iload_n (pc := 15) hexec hb dX9_crossedBy_15 rfl (lv_at hl 3 rfl) ?_
        refine lv_iload_n (pc := 16) hexec hb dX9_crossedBy_16 rfl (lv_at hl 1 rfl) ?_
        obtain ⟨j36, ej36, hf⟩ := bvf1 hf
        have hj36 : ∀ (t36 : Int32) (H : Heap) (locs : List Loc) (ls : Array Slot), j36 t36 = some q4 → va_P g.1 vwCl (w_X9_crossedBy g a0 a1 u0_1 u0_2 u0_3 u0_4 u0_5 u0_6 u0_7 u0_8 u0_9 u0_10 u0_11 u0_12 u0_13 u0_14 u0_15 u0_16 u0_17 u0_18 u0_19 u0_20 u0_21 u0_22 u0_23 u0_24 u0_25 u0_26 u0_27 u0_28 u0_29 u0_30 y1_s) H → va_D A (w_X9_crossedBy g a0 a1 u0_1 u0_2 u0_3 u0_4 u0_5 u0_6 u0_7 u0_8 u0_9 u0_10 u0_11 u0_12 u0_13 u0_14 u0_15 u0_16 u0_17 u0_18 u0_19 u0_20 u0_21 u0_22 u0_23 u0_24 u0_25 u0_26 u0_27 u0_28 u0_29 u0_30 y1_s) → va_S A s.heap H locs → lv_has ls 4 [(0, .ref a0), (1, .int p1), (3, .int v3)] → W p l e (RM 6 144) s m args below meth c H locs 0 0 Q (F0 m 36 ls [.int t36, .int v2]) := by
          intro t36 H locs ls hf hP hD hS hl
          have hf := (ej36 t36).symm.trans hf
          refine lv_ior (pc := 36) hexec hb dX9_crossedBy_36 ?_
          obtain ⟨v2_2, ev2_2, hf⟩ := bv_e hf
          refine kn_i ev2_2 ?_
          refine lv_istore_n (pc := 37) hexec hb dX9_crossedBy_37 rfl hl (nle rfl) rfl (fun ls (hl : lv_has ls 4 [(2, .int v2_2), (0, .ref a0), (1, .int p1), (3, .int v3)]) => ?_)
          obtain ⟨v3_1, ev3_1, hf⟩ := bv_e hf
          refine k_iinc (pc := 38) hexec hb dX9_crossedBy_38 kq_1 hl (k := 3) rfl ev3_1 (nle rfl) rfl (fun ls (hl : lv_has ls 4 [(3, .int v3_1), (2, .int v2_2), (0, .ref a0), (1, .int p1)]) => ?_)
          refine lv_goto (pc := 41) hexec hb dX9_crossedBy_41 (tgt := 4) rfl ?_
          exact ih4 _ _ _ _ _ (sl2 hf hk4) hP hD hS (lv_sub hl [2, 3, 1, 0] rfl)
        obtain ⟨j35, ej35, hf⟩ := bvf1 hf
        have hj35 : ∀ (u : Unit) (H : Heap) (locs : List Loc) (ls : Array Slot), j35 u = some q4 → va_P g.1 vwCl (w_X9_crossedBy g a0 a1 u0_1 u0_2 u0_3 u0_4 u0_5 u0_6 u0_7 u0_8 u0_9 u0_10 u0_11 u0_12 u0_13 u0_14 u0_15 u0_16 u0_17 u0_18 u0_19 u0_20 u0_21 u0_22 u0_23 u0_24 u0_25 u0_26 u0_27 u0_28 u0_29 u0_30 y1_s) H → va_D A (w_X9_crossedBy g a0 a1 u0_1 u0_2 u0_3 u0_4 u0_5 u0_6 u0_7 u0_8 u0_9 u0_10 u0_11 u0_12 u0_13 u0_14 u0_15 u0_16 u0_17 u0_18 u0_19 u0_20 u0_21 u0_22 u0_23 u0_24 u0_25 u0_26 u0_27 u0_28 u0_29 u0_30 y1_s) → va_S A s.heap H locs → lv_has ls 4 [(0, .ref a0), (1, .int p1), (3, .int v3)] → W p l e (RM 6 144) s m args below meth c H locs 0 0 Q (F0 m 35 ls [.int v2]) := by
          intro u H locs ls hf hP hD hS hl
          have hf := (ej35 u).symm.trans hf
          refine lv_iconst (pc := 35) hexec hb dX9_crossedBy_35 ki_0 ?_
          exact hj36 _ _ _ _ hf hP hD hS (lv_sub hl [0, 1, 2] rfl)
        refine ki_eq (pc := 17) hexec hb dX9_crossedBy_17 (tgt := 35) rfl hf (fun hc hf => ?_) (fun hc hf => ?_)
        · exact hj35 _ _ _ _ hf hP hD hS (lv_sub hl [0, 1, 3] rfl)
        · refine lv_aload_n (pc := 20) hexec hb dX9_crossedBy_20 rfl (lv_at hl 0 rfl) ?_
          refine lv_iload_n (pc := 21) hexec hb dX9_crossedBy_21 rfl (lv_at hl 1 rfl) ?_
          refine lv_iload_n (pc := 22) hexec hb dX9_crossedBy_22 rfl (lv_at hl 3 rfl) ?_
          obtain ⟨r23, hc, hf⟩ := bd1_e hf
          refine kVp (pc := 23) (S := ⟨hexec, hb, hml, hown, hts⟩) hP hD hG hA hS [0, 1] [] [0, 1] (w2 := (w_X9_crossedBy g a0 a1 u0_1 u0_2 u0_3 u0_4 u0_5 u0_6 u0_7 u0_8 u0_9 u0_10 u0_11 u0_12 u0_13 u0_14 u0_15 u0_16 u0_17 u0_18 u0_19 u0_20 u0_21 u0_22 u0_23 u0_24 u0_25 u0_26 u0_27 u0_28 u0_29 u0_30 y1_s)) rfl rfl rfl rfl rfl rfl (by decide) (c_X9_doCross l g a0 a1 _ u0_1 u0_2 u0_3 u0_4 u0_5 u0_6 u0_7 u0_8 u0_9 u0_10 u0_11 u0_12 u0_13 u0_14 u0_15 u0_16 u0_17 u0_18 u0_19 u0_20 u0_21 u0_22 u0_23 u0_24 u0_25 u0_26 u0_27 u0_28 u0_29 u0_30 y1_s p1 v3 r23 hc) gX9_crossedBy_X9_doCross rfl hv_X9_doCross ⟨nle rfl, nle rfl⟩ 9 0 rfl rfl rfl (rest := [.int v2]) rfl rfl hl.1 (nle rfl) dX9_crossedBy_23 (fun H locs hP hD hS => ?_)
          refine kb_eq (pc := 26) hexec hb dX9_crossedBy_26 (tgt := 35) rfl hf (fun hc hf => ?_) (fun hc hf => ?_)
          · exact hj35 _ _ _ _ hf hP hD hS (lv_sub hl [0, 1, 3] rfl)
          · refine lv_iconst (pc := 29) hexec hb dX9_crossedBy_29 ki_1 ?_
            refine lv_iload_n (pc := 30) hexec hb dX9_crossedBy_30 rfl (lv_at hl 3 rfl) ?_
            refine lv_ishl (pc := 31) hexec hb dX9_crossedBy_31 ?_
            refine lv_goto (pc := 32) hexec hb dX9_crossedBy_32 (tgt := 36) rfl ?_
            exact hj36 _ _ _ _ hf hP hD hS (lv_sub hl [0, 1, 3] rfl)
  exact hL4 n _ _ _ _ _ hz hP hD hS (lv_sub hl [2, 3, 1, 0] rfl)
abbrev w_X9_lifts (g : GE) (a0 a1 : Nat) (u0_1 u0_2 u0_3 u0_4 u0_5 u0_6 u0_7 u0_8 u0_9 u0_10 u0_11 u0_12 u0_13 u0_14 u0_15 u0_16 u0_17 u0_18 u0_19 u0_20 u0_21 u0_22 u0_23 u0_24 u0_25 u0_26 u0_27 u0_28 u0_29 u0_30 : Value) (y1_s : Nat → Int32) : va_W := [(a0, .inr (9, [.ref a1, u0_1, u0_2, u0_3, u0_4, u0_5, u0_6, u0_7, u0_8, u0_9, u0_10, u0_11, u0_12, u0_13, u0_14, u0_15, u0_16, u0_17, u0_18, u0_19, u0_20, u0_21, u0_22, u0_23, u0_24, u0_25, u0_26, u0_27, u0_28, u0_29, u0_30])), (a1, .inl (g.2.1 0, 552, .inl y1_s))]
set_option maxRecDepth 20000 in
theorem c_X9_lifts (l : Launch) (g : GE) (a0 a1 : Nat) (sz : Nat) (u0_1 u0_2 u0_3 u0_4 u0_5 u0_6 u0_7 u0_8 u0_9 u0_10 u0_11 u0_12 u0_13 u0_14 u0_15 u0_16 u0_17 u0_18 u0_19 u0_20 u0_21 u0_22 u0_23 u0_24 u0_25 u0_26 u0_27 u0_28 u0_29 u0_30 : Value) (y1_s : Nat → Int32) (p1 : Int32)  (r : Int32) (o_y1_s : Nat → Int32) (hf : f_X9_lifts y1_s p1 = some (r, o_y1_s)) : MI l g yX9_lifts wsX9_lifts 2 47 [.ref a0, .int p1] (w_X9_lifts g a0 a1 u0_1 u0_2 u0_3 u0_4 u0_5 u0_6 u0_7 u0_8 u0_9 u0_10 u0_11 u0_12 u0_13 u0_14 u0_15 u0_16 u0_17 u0_18 u0_19 u0_20 u0_21 u0_22 u0_23 u0_24 u0_25 u0_26 u0_27 u0_28 u0_29 u0_30 y1_s) sz (some (.int r)) (w_X9_lifts g a0 a1 u0_1 u0_2 u0_3 u0_4 u0_5 u0_6 u0_7 u0_8 u0_9 u0_10 u0_11 u0_12 u0_13 u0_14 u0_15 u0_16 u0_17 u0_18 u0_19 u0_20 u0_21 u0_22 u0_23 u0_24 u0_25 u0_26 u0_27 u0_28 u0_29 u0_30 o_y1_s) := by
  refine MI.start (cc := cX9_lifts) (maxL := 3) (ret := (some .int)) rfl rfl (nle rfl) ?_
  intro p e s m args below meth c A ls Q hQ hexec hb hr hts hown hlocks hml hA hP hD hG hS hl
  unfold f_X9_lifts at hf
  have hWX9 : ∀ w ∈ wsX90, w.before args s = true := fun w h => hts w (List.mem_cons_of_mem _ (List.mem_append_right _ h))
  have hS : va_S A s.heap s.heap [] := hS
  refine lv_iconst (pc := 0) hexec hb dX9_lifts_0 ki_0 ?_
  refine lv_istore_n (pc := 1) hexec hb dX9_lifts_1 rfl hl (nle rfl) rfl (fun ls (hl : lv_has ls 3 [(2, .int 0), (0, .ref a0), (1, .int p1)]) => ?_)
  obtain ⟨l2, el2, hf⟩ := bvf2 hf
  obtain ⟨y1_s_2, hz, hf⟩ := bd1_e hf
  have hE2 : ∀ (H : Heap) (locs : List Loc) (ls : Array Slot), va_P g.1 vwCl (w_X9_lifts g a0 a1 u0_1 u0_2 u0_3 u0_4 u0_5 u0_6 u0_7 u0_8 u0_9 u0_10 u0_11 u0_12 u0_13 u0_14 u0_15 u0_16 u0_17 u0_18 u0_19 u0_20 u0_21 u0_22 u0_23 u0_24 u0_25 u0_26 u0_27 u0_28 u0_29 u0_30 y1_s_2) H → va_D A (w_X9_lifts g a0 a1 u0_1 u0_2 u0_3 u0_4 u0_5 u0_6 u0_7 u0_8 u0_9 u0_10 u0_11 u0_12 u0_13 u0_14 u0_15 u0_16 u0_17 u0_18 u0_19 u0_20 u0_21 u0_22 u0_23 u0_24 u0_25 u0_26 u0_27 u0_28 u0_29 u0_30 y1_s_2) → va_S A s.heap H locs → lv_has ls 3 [(1, .int p1)] → W p l e (RM 2 47) s m args below meth c H locs 0 0 Q (F0 m 34 ls []) := by
    intro H locs ls hP hD hS hl
    refine lv_iload_n (pc := 34) hexec hb dX9_lifts_34 rfl (lv_at hl 0 rfl) ?_
    obtain ⟨r35, hc, hf⟩ := bd1_e hf
    refine kSp (pc := 35) (S := ⟨hexec, hb, hml, hown, hts⟩) hP hD hG hA hS [] [0, 1] [0, 1] (w2 := (w_X9_lifts g a0 a1 u0_1 u0_2 u0_3 u0_4 u0_5 u0_6 u0_7 u0_8 u0_9 u0_10 u0_11 u0_12 u0_13 u0_14 u0_15 u0_16 u0_17 u0_18 u0_19 u0_20 u0_21 u0_22 u0_23 u0_24 u0_25 u0_26 u0_27 u0_28 u0_29 u0_30 y1_s_2)) rfl rfl rfl rfl rfl rfl (by decide) (c_X9_ones l g _ p1 r35 hc) gX9_lifts_X9_ones rfl hs_X9_ones ⟨nle rfl, nle rfl⟩ (rest := []) rfl rfl hl.1 (nle rfl) dX9_lifts_35 (fun H locs hP hD hS => ?_)
    cases hf
    exact ke_i hQ hexec hb hr hP hD hS dX9_lifts_38 hlocks
  obtain ⟨n, hz⟩ := lq2_e hz
  have hL2 : ∀ (n : Nat) (v2 : Int32) (y1_s_1 : Nat → Int32) (H : Heap) (locs : List Loc) (ls : Array Slot), it2 l2 n v2 y1_s_1 = some y1_s_2 → va_P g.1 vwCl (w_X9_lifts g a0 a1 u0_1 u0_2 u0_3 u0_4 u0_5 u0_6 u0_7 u0_8 u0_9 u0_10 u0_11 u0_12 u0_13 u0_14 u0_15 u0_16 u0_17 u0_18 u0_19 u0_20 u0_21 u0_22 u0_23 u0_24 u0_25 u0_26 u0_27 u0_28 u0_29 u0_30 y1_s_1) H → va_D A (w_X9_lifts g a0 a1 u0_1 u0_2 u0_3 u0_4 u0_5 u0_6 u0_7 u0_8 u0_9 u0_10 u0_11 u0_12 u0_13 u0_14 u0_15 u0_16 u0_17 u0_18 u0_19 u0_20 u0_21 u0_22 u0_23 u0_24 u0_25 u0_26 u0_27 u0_28 u0_29 u0_30 y1_s_1) → va_S A s.heap H locs → lv_has ls 3 [(0, .ref a0), (1, .int p1), (2, .int v2)] → W p l e (RM 2 47) s m args below meth c H locs 0 0 Q (F0 m 2 ls []) := by
    intro n
    induction n with
    | zero =>
      intro v2 y1_s_1 H locs ls hf hP hD hS hl
      exact it2_0 hf
    | succ n2 ih2 =>
      intro v2 y1_s_1 H locs ls hf hP hD hS hl
      obtain ⟨q2, hf, hk2⟩ := it2_e hf
      have hf := (el2 v2 y1_s_1).symm.trans hf
      refine lv_iload_n (pc := 2) hexec hb dX9_lifts_2 rfl (lv_at hl 2 rfl) ?_
      refine lv_aload_n (pc := 3) hexec hb dX9_lifts_3 rfl (lv_at hl 0 rfl) ?_
      refine kg_get (pc := 4) hexec hb (own := RX9) hWX9 hown hG hP 0 rfl rfl 0 (nle rfl) (hts _ (List.mem_cons_of_mem _ (List.mem_append_left _ (List.mem_of_getElem? (i := 0) rfl)))) rfl rfl dX9_lifts_4 ?_
      refine lv_iconst (pc := 7) hexec hb dX9_lifts_7 ki_2 ?_
      refine kr_iald (pc := 8) hexec hb hG hP 1 rfl hf dX9_lifts_8 (fun hf => ?_)
      refine ki_ge (pc := 9) hexec hb dX9_lifts_9 (tgt := 34) rfl hf (fun hc hf => ?_) (fun hc hf => ?_)
      · cases sr2 hf hk2
        exact hE2 _ _ _ hP hD hS (lv_sub hl [1] rfl)
      · refine lv_iload_n (pc := 12) hexec hb dX9_lifts_12 rfl (lv_at hl 1 rfl) ?_
        refine lv_iload_n (pc := 13) hexec hb dX9_lifts_13 rfl (lv_at hl 2 rfl) ?_
        refine lv_ishr (pc := 14) hexec hb dX9_lifts_14 ?_
        refine lv_iconst (pc := 15) hexec hb dX9_lifts_15 ki_1 ?_
        refine lv_iand (pc := 16) hexec hb dX9_lifts_16 ?_
        refine lv_iconst (pc := 17) hexec hb dX9_lifts_17 ki_1 ?_
        obtain ⟨j28, ej28, hf⟩ := bvf1 hf
        have hj28 : ∀ (y1_s_3 : Nat → Int32) (H : Heap) (locs : List Loc) (ls : Array Slot), j28 y1_s_3 = some q2 → va_P g.1 vwCl (w_X9_lifts g a0 a1 u0_1 u0_2 u0_3 u0_4 u0_5 u0_6 u0_7 u0_8 u0_9 u0_10 u0_11 u0_12 u0_13 u0_14 u0_15 u0_16 u0_17 u0_18 u0_19 u0_20 u0_21 u0_22 u0_23 u0_24 u0_25 u0_26 u0_27 u0_28 u0_29 u0_30 y1_s_3) H → va_D A (w_X9_lifts g a0 a1 u0_1 u0_2 u0_3 u0_4 u0_5 u0_6 u0_7 u0_8 u0_9 u0_10 u0_11 u0_12 u0_13 u0_14 u0_15 u0_16 u0_17 u0_18 u0_19 u0_20 u0_21 u0_22 u0_23 u0_24 u0_25 u0_26 u0_27 u0_28 u0_29 u0_30 y1_s_3) → va_S A s.heap H locs → lv_has ls 3 [(0, .ref a0), (1, .int p1), (2, .int v2)] → W p l e (RM 2 47) s m args below meth c H locs 0 0 Q (F0 m 28 ls []) := by
          intro y1_s_3 H locs ls hf hP hD hS hl
          have hf := (ej28 y1_s_3).symm.trans hf
          obtain ⟨v2_1, ev2_1, hf⟩ := bv_e hf
          refine k_iinc (pc := 28) hexec hb dX9_lifts_28 kq_1 hl (k := 2) rfl ev2_1 (nle rfl) rfl (fun ls (hl : lv_has ls 3 [(2, .int v2_1), (0, .ref a0), (1, .int p1)]) => ?_)
          refine lv_goto (pc := 31) hexec hb dX9_lifts_31 (tgt := 2) rfl ?_
          exact ih2 _ _ _ _ _ (sl2 hf hk2) hP hD hS (lv_sub hl [1, 2, 0] rfl)
        refine ki_ne (pc := 18) hexec hb dX9_lifts_18 (tgt := 28) rfl hf (fun hc hf => ?_) (fun hc hf => ?_)
        · exact hj28 _ _ _ _ hf hP hD hS (lv_sub hl [0, 1, 2] rfl)
        · refine lv_aload_n (pc := 21) hexec hb dX9_lifts_21 rfl (lv_at hl 0 rfl) ?_
          refine lv_iload_n (pc := 22) hexec hb dX9_lifts_22 rfl (lv_at hl 2 rfl) ?_
          refine lv_iconst (pc := 23) hexec hb dX9_lifts_23 ki_2 ?_
          refine lv_iconst (pc := 24) hexec hb dX9_lifts_24 ki_m1 ?_
          obtain ⟨y1_s_4, hc, hf⟩ := bd1_e hf
          refine kVp (pc := 25) (S := ⟨hexec, hb, hml, hown, hts⟩) hP hD hG hA hS [0, 1] [] [0, 1] (w2 := (w_X9_lifts g a0 a1 u0_1 u0_2 u0_3 u0_4 u0_5 u0_6 u0_7 u0_8 u0_9 u0_10 u0_11 u0_12 u0_13 u0_14 u0_15 u0_16 u0_17 u0_18 u0_19 u0_20 u0_21 u0_22 u0_23 u0_24 u0_25 u0_26 u0_27 u0_28 u0_29 u0_30 y1_s_4)) rfl rfl rfl rfl rfl rfl (by decide) (c_X9_puts l g a0 a1 _ u0_1 u0_2 u0_3 u0_4 u0_5 u0_6 u0_7 u0_8 u0_9 u0_10 u0_11 u0_12 u0_13 u0_14 u0_15 u0_16 u0_17 u0_18 u0_19 u0_20 u0_21 u0_22 u0_23 u0_24 u0_25 u0_26 u0_27 u0_28 u0_29 u0_30 y1_s_1 v2 2 (-1) y1_s_4 hc) gX9_lifts_X9_puts rfl hv_X9_puts ⟨nle rfl, nle rfl⟩ 9 0 rfl rfl rfl (rest := []) rfl rfl hl.1 (nle rfl) dX9_lifts_25 (fun H locs hP hD hS => ?_)
          exact hj28 _ _ _ _ hf hP hD hS (lv_sub hl [0, 1, 2] rfl)
  exact hL2 n _ _ _ _ _ hz hP hD hS (lv_sub hl [1, 2, 0] rfl)
abbrev w_X9_canBegin (g : GE) (a0 a1 : Nat) (u0_1 u0_2 u0_3 u0_4 u0_5 u0_6 u0_7 u0_8 u0_9 u0_10 u0_11 u0_12 u0_13 u0_14 u0_15 u0_16 u0_17 u0_18 u0_19 u0_20 u0_21 u0_22 u0_23 u0_24 u0_25 u0_26 u0_27 u0_28 u0_29 u0_30 : Value) (y1_s : Nat → Int32) : va_W := [(a0, .inr (9, [.ref a1, u0_1, u0_2, u0_3, u0_4, u0_5, u0_6, u0_7, u0_8, u0_9, u0_10, u0_11, u0_12, u0_13, u0_14, u0_15, u0_16, u0_17, u0_18, u0_19, u0_20, u0_21, u0_22, u0_23, u0_24, u0_25, u0_26, u0_27, u0_28, u0_29, u0_30])), (a1, .inl (g.2.1 0, 552, .inl y1_s))]
set_option maxRecDepth 20000 in
theorem c_X9_canBegin (l : Launch) (g : GE) (a0 a1 : Nat) (sz : Nat) (u0_1 u0_2 u0_3 u0_4 u0_5 u0_6 u0_7 u0_8 u0_9 u0_10 u0_11 u0_12 u0_13 u0_14 u0_15 u0_16 u0_17 u0_18 u0_19 u0_20 u0_21 u0_22 u0_23 u0_24 u0_25 u0_26 u0_27 u0_28 u0_29 u0_30 : Value) (y1_s : Nat → Int32) (p1 : Int32)  (r : Int32) (hf : f_X9_canBegin y1_s p1 = some r) : MI l g yX9_canBegin wsX9_canBegin 3 69 [.ref a0, .int p1] (w_X9_canBegin g a0 a1 u0_1 u0_2 u0_3 u0_4 u0_5 u0_6 u0_7 u0_8 u0_9 u0_10 u0_11 u0_12 u0_13 u0_14 u0_15 u0_16 u0_17 u0_18 u0_19 u0_20 u0_21 u0_22 u0_23 u0_24 u0_25 u0_26 u0_27 u0_28 u0_29 u0_30 y1_s) sz (some (.int r)) (w_X9_canBegin g a0 a1 u0_1 u0_2 u0_3 u0_4 u0_5 u0_6 u0_7 u0_8 u0_9 u0_10 u0_11 u0_12 u0_13 u0_14 u0_15 u0_16 u0_17 u0_18 u0_19 u0_20 u0_21 u0_22 u0_23 u0_24 u0_25 u0_26 u0_27 u0_28 u0_29 u0_30 y1_s) := by
  refine MI.start (cc := cX9_canBegin) (maxL := 2) (ret := (some .boolean)) rfl rfl (nle rfl) ?_
  intro p e s m args below meth c A ls Q hQ hexec hb hr hts hown hlocks hml hA hP hD hG hS hl
  unfold f_X9_canBegin at hf
  have hWX9 : ∀ w ∈ wsX90, w.before args s = true := fun w h => hts w (List.mem_cons_of_mem _ (List.mem_append_right _ h))
  have hS : va_S A s.heap s.heap [] := hS
  refine lv_aload_n (pc := 0) hexec hb dX9_canBegin_0 rfl (lv_at hl 0 rfl) ?_
  refine lv_iload_n (pc := 1) hexec hb dX9_canBegin_1 rfl (lv_at hl 1 rfl) ?_
  obtain ⟨r2, hc, hf⟩ := bd1_e hf
  refine kVp (pc := 2) (S := ⟨hexec, hb, hml, hown, hts⟩) hP hD hG hA hS [0, 1] [] [0, 1] (w2 := (w_X9_canBegin g a0 a1 u0_1 u0_2 u0_3 u0_4 u0_5 u0_6 u0_7 u0_8 u0_9 u0_10 u0_11 u0_12 u0_13 u0_14 u0_15 u0_16 u0_17 u0_18 u0_19 u0_20 u0_21 u0_22 u0_23 u0_24 u0_25 u0_26 u0_27 u0_28 u0_29 u0_30 y1_s)) rfl rfl rfl rfl rfl rfl (by decide) (c_X9_isLand l g a0 a1 _ u0_1 u0_2 u0_3 u0_4 u0_5 u0_6 u0_7 u0_8 u0_9 u0_10 u0_11 u0_12 u0_13 u0_14 u0_15 u0_16 u0_17 u0_18 u0_19 u0_20 u0_21 u0_22 u0_23 u0_24 u0_25 u0_26 u0_27 u0_28 u0_29 u0_30 y1_s p1 r2 hc) gX9_canBegin_X9_isLand rfl hv_X9_isLand ⟨nle rfl, nle rfl⟩ 9 0 rfl rfl rfl (rest := []) rfl rfl hl.1 (nle rfl) dX9_canBegin_2 (fun H locs hP hD hS => ?_)
  obtain ⟨j30, ej30, hf⟩ := bvf1 hf
  have hj30 : ∀ (u : Unit) (H : Heap) (locs : List Loc) (ls : Array Slot), j30 u = some r → va_P g.1 vwCl (w_X9_canBegin g a0 a1 u0_1 u0_2 u0_3 u0_4 u0_5 u0_6 u0_7 u0_8 u0_9 u0_10 u0_11 u0_12 u0_13 u0_14 u0_15 u0_16 u0_17 u0_18 u0_19 u0_20 u0_21 u0_22 u0_23 u0_24 u0_25 u0_26 u0_27 u0_28 u0_29 u0_30 y1_s) H → va_D A (w_X9_canBegin g a0 a1 u0_1 u0_2 u0_3 u0_4 u0_5 u0_6 u0_7 u0_8 u0_9 u0_10 u0_11 u0_12 u0_13 u0_14 u0_15 u0_16 u0_17 u0_18 u0_19 u0_20 u0_21 u0_22 u0_23 u0_24 u0_25 u0_26 u0_27 u0_28 u0_29 u0_30 y1_s) → va_S A s.heap H locs → lv_has ls 2 [] → W p l e (RM 3 69) s m args below meth c H locs 0 0 Q (F0 m 30 ls []) := by
    intro u H locs ls hf hP hD hS hl
    have hf := (ej30 u).symm.trans hf
    refine lv_iconst (pc := 30) hexec hb dX9_canBegin_30 ki_0 ?_
    cases hf
    exact ke_z hQ hexec hb hr (.inl rfl) hP hD hS dX9_canBegin_31 hlocks
  refine kb_eq (pc := 5) hexec hb dX9_canBegin_5 (tgt := 30) rfl hf (fun hc hf => ?_) (fun hc hf => ?_)
  · exact hj30 _ _ _ _ hf hP hD hS (lv_sub hl [] rfl)
  · refine lv_aload_n (pc := 8) hexec hb dX9_canBegin_8 rfl (lv_at hl 0 rfl) ?_
    refine lv_iload_n (pc := 9) hexec hb dX9_canBegin_9 rfl (lv_at hl 1 rfl) ?_
    obtain ⟨r10, hc, hf⟩ := bd1_e hf
    refine kVp (pc := 10) (S := ⟨hexec, hb, hml, hown, hts⟩) hP hD hG hA hS [0, 1] [] [0, 1] (w2 := (w_X9_canBegin g a0 a1 u0_1 u0_2 u0_3 u0_4 u0_5 u0_6 u0_7 u0_8 u0_9 u0_10 u0_11 u0_12 u0_13 u0_14 u0_15 u0_16 u0_17 u0_18 u0_19 u0_20 u0_21 u0_22 u0_23 u0_24 u0_25 u0_26 u0_27 u0_28 u0_29 u0_30 y1_s)) rfl rfl rfl rfl rfl rfl (by decide) (c_X9_isRiver l g a0 a1 _ u0_1 u0_2 u0_3 u0_4 u0_5 u0_6 u0_7 u0_8 u0_9 u0_10 u0_11 u0_12 u0_13 u0_14 u0_15 u0_16 u0_17 u0_18 u0_19 u0_20 u0_21 u0_22 u0_23 u0_24 u0_25 u0_26 u0_27 u0_28 u0_29 u0_30 y1_s p1 r10 hc) gX9_canBegin_X9_isRiver rfl hv_X9_isRiver ⟨nle rfl, nle rfl⟩ 9 0 rfl rfl rfl (rest := []) rfl rfl hl.1 (nle rfl) dX9_canBegin_10 (fun H locs hP hD hS => ?_)
    refine kb_ne (pc := 13) hexec hb dX9_canBegin_13 (tgt := 30) rfl hf (fun hc hf => ?_) (fun hc hf => ?_)
    · exact hj30 _ _ _ _ hf hP hD hS (lv_sub hl [] rfl)
    · refine lv_aload_n (pc := 16) hexec hb dX9_canBegin_16 rfl (lv_at hl 0 rfl) ?_
      refine lv_iload_n (pc := 17) hexec hb dX9_canBegin_17 rfl (lv_at hl 1 rfl) ?_
      refine lv_iconst (pc := 18) hexec hb dX9_canBegin_18 ki_m1 ?_
      obtain ⟨r19, hc, hf⟩ := bd1_e hf
      refine kVp (pc := 19) (S := ⟨hexec, hb, hml, hown, hts⟩) hP hD hG hA hS [0, 1] [] [0, 1] (w2 := (w_X9_canBegin g a0 a1 u0_1 u0_2 u0_3 u0_4 u0_5 u0_6 u0_7 u0_8 u0_9 u0_10 u0_11 u0_12 u0_13 u0_14 u0_15 u0_16 u0_17 u0_18 u0_19 u0_20 u0_21 u0_22 u0_23 u0_24 u0_25 u0_26 u0_27 u0_28 u0_29 u0_30 y1_s)) rfl rfl rfl rfl rfl rfl (by decide) (c_X9_harbourAt l g a0 a1 _ u0_1 u0_2 u0_3 u0_4 u0_5 u0_6 u0_7 u0_8 u0_9 u0_10 u0_11 u0_12 u0_13 u0_14 u0_15 u0_16 u0_17 u0_18 u0_19 u0_20 u0_21 u0_22 u0_23 u0_24 u0_25 u0_26 u0_27 u0_28 u0_29 u0_30 y1_s p1 (-1) r19 hc) gX9_canBegin_X9_harbourAt rfl hv_X9_harbourAt ⟨nle rfl, nle rfl⟩ 9 0 rfl rfl rfl (rest := []) rfl rfl hl.1 (nle rfl) dX9_canBegin_19 (fun H locs hP hD hS => ?_)
      refine lv_iconst (pc := 22) hexec hb dX9_canBegin_22 ki_m1 ?_
      refine ki_ne (pc := 23) hexec hb dX9_canBegin_23 (tgt := 30) rfl hf (fun hc hf => ?_) (fun hc hf => ?_)
      · exact hj30 _ _ _ _ hf hP hD hS (lv_sub hl [] rfl)
      · refine lv_iconst (pc := 26) hexec hb dX9_canBegin_26 ki_1 ?_
        refine lv_goto (pc := 27) hexec hb dX9_canBegin_27 (tgt := 31) rfl ?_
        cases hf
        exact ke_z hQ hexec hb hr (.inr rfl) hP hD hS dX9_canBegin_31 hlocks
abbrev w_X9_isEnd (g : GE) (a0 a1 : Nat) (u0_1 u0_2 u0_3 u0_4 u0_5 u0_6 u0_7 u0_8 u0_9 u0_10 u0_11 u0_12 u0_13 u0_14 u0_15 u0_16 u0_17 u0_18 u0_19 u0_20 u0_21 u0_22 u0_23 u0_24 u0_25 u0_26 u0_27 u0_28 u0_29 u0_30 : Value) (y1_s : Nat → Int32) : va_W := [(a0, .inr (9, [.ref a1, u0_1, u0_2, u0_3, u0_4, u0_5, u0_6, u0_7, u0_8, u0_9, u0_10, u0_11, u0_12, u0_13, u0_14, u0_15, u0_16, u0_17, u0_18, u0_19, u0_20, u0_21, u0_22, u0_23, u0_24, u0_25, u0_26, u0_27, u0_28, u0_29, u0_30])), (a1, .inl (g.2.1 0, 552, .inl y1_s))]
set_option maxRecDepth 20000 in
theorem c_X9_isEnd (l : Launch) (g : GE) (a0 a1 : Nat) (sz : Nat) (u0_1 u0_2 u0_3 u0_4 u0_5 u0_6 u0_7 u0_8 u0_9 u0_10 u0_11 u0_12 u0_13 u0_14 u0_15 u0_16 u0_17 u0_18 u0_19 u0_20 u0_21 u0_22 u0_23 u0_24 u0_25 u0_26 u0_27 u0_28 u0_29 u0_30 : Value) (y1_s : Nat → Int32) (p1 : Int32)  (r : Int32) (hf : f_X9_isEnd y1_s p1 = some r) : MI l g yX9_isEnd wsX9_isEnd 4 97 [.ref a0, .int p1] (w_X9_isEnd g a0 a1 u0_1 u0_2 u0_3 u0_4 u0_5 u0_6 u0_7 u0_8 u0_9 u0_10 u0_11 u0_12 u0_13 u0_14 u0_15 u0_16 u0_17 u0_18 u0_19 u0_20 u0_21 u0_22 u0_23 u0_24 u0_25 u0_26 u0_27 u0_28 u0_29 u0_30 y1_s) sz (some (.int r)) (w_X9_isEnd g a0 a1 u0_1 u0_2 u0_3 u0_4 u0_5 u0_6 u0_7 u0_8 u0_9 u0_10 u0_11 u0_12 u0_13 u0_14 u0_15 u0_16 u0_17 u0_18 u0_19 u0_20 u0_21 u0_22 u0_23 u0_24 u0_25 u0_26 u0_27 u0_28 u0_29 u0_30 y1_s) := by
  refine MI.start (cc := cX9_isEnd) (maxL := 4) (ret := (some .boolean)) rfl rfl (nle rfl) ?_
  intro p e s m args below meth c A ls Q hQ hexec hb hr hts hown hlocks hml hA hP hD hG hS hl
  unfold f_X9_isEnd at hf
  have hWX9 : ∀ w ∈ wsX90, w.before args s = true := fun w h => hts w (List.mem_cons_of_mem _ (List.mem_append_right _ h))
  have hS : va_S A s.heap s.heap [] := hS
  refine lv_aload_n (pc := 0) hexec hb dX9_isEnd_0 rfl (lv_at hl 0 rfl) ?_
  refine lv_iload_n (pc := 1) hexec hb dX9_isEnd_1 rfl (lv_at hl 1 rfl) ?_
  obtain ⟨r2, hc, hf⟩ := bd1_e hf
  refine kVp (pc := 2) (S := ⟨hexec, hb, hml, hown, hts⟩) hP hD hG hA hS [0, 1] [] [0, 1] (w2 := (w_X9_isEnd g a0 a1 u0_1 u0_2 u0_3 u0_4 u0_5 u0_6 u0_7 u0_8 u0_9 u0_10 u0_11 u0_12 u0_13 u0_14 u0_15 u0_16 u0_17 u0_18 u0_19 u0_20 u0_21 u0_22 u0_23 u0_24 u0_25 u0_26 u0_27 u0_28 u0_29 u0_30 y1_s)) rfl rfl rfl rfl rfl rfl (by decide) (c_X9_isCoast l g a0 a1 _ u0_1 u0_2 u0_3 u0_4 u0_5 u0_6 u0_7 u0_8 u0_9 u0_10 u0_11 u0_12 u0_13 u0_14 u0_15 u0_16 u0_17 u0_18 u0_19 u0_20 u0_21 u0_22 u0_23 u0_24 u0_25 u0_26 u0_27 u0_28 u0_29 u0_30 y1_s p1 r2 hc) gX9_isEnd_X9_isCoast rfl hv_X9_isCoast ⟨nle rfl, nle rfl⟩ 9 0 rfl rfl rfl (rest := []) rfl rfl hl.1 (nle rfl) dX9_isEnd_2 (fun H locs hP hD hS => ?_)
  refine lv_istore_n (pc := 5) hexec hb dX9_isEnd_5 rfl hl (nle rfl) rfl (fun ls (hl : lv_has ls 4 [(2, .int r2), (0, .ref a0), (1, .int p1)]) => ?_)
  refine lv_iconst (pc := 6) hexec hb dX9_isEnd_6 ki_0 ?_
  refine lv_istore_n (pc := 7) hexec hb dX9_isEnd_7 rfl hl (nle rfl) rfl (fun ls (hl : lv_has ls 4 [(3, .int 0), (2, .int r2), (0, .ref a0), (1, .int p1)]) => ?_)
  obtain ⟨l8, el8, hf⟩ := bvf2 hf
  obtain ⟨v2_1, hz, hf⟩ := bd1_e hf
  have hE8 : ∀ (H : Heap) (locs : List Loc) (ls : Array Slot), va_P g.1 vwCl (w_X9_isEnd g a0 a1 u0_1 u0_2 u0_3 u0_4 u0_5 u0_6 u0_7 u0_8 u0_9 u0_10 u0_11 u0_12 u0_13 u0_14 u0_15 u0_16 u0_17 u0_18 u0_19 u0_20 u0_21 u0_22 u0_23 u0_24 u0_25 u0_26 u0_27 u0_28 u0_29 u0_30 y1_s) H → va_D A (w_X9_isEnd g a0 a1 u0_1 u0_2 u0_3 u0_4 u0_5 u0_6 u0_7 u0_8 u0_9 u0_10 u0_11 u0_12 u0_13 u0_14 u0_15 u0_16 u0_17 u0_18 u0_19 u0_20 u0_21 u0_22 u0_23 u0_24 u0_25 u0_26 u0_27 u0_28 u0_29 u0_30 y1_s) → va_S A s.heap H locs → lv_has ls 4 [(2, .int v2_1)] → W p l e (RM 4 97) s m args below meth c H locs 0 0 Q (F0 m 43 ls []) := by
    intro H locs ls hP hD hS hl
    refine lv_iload_n (pc := 43) hexec hb dX9_isEnd_43 rfl (lv_at hl 0 rfl) ?_
    obtain ⟨hx, hf⟩ := zb_e hf
    cases hf
    exact ke_z hQ hexec hb hr hx hP hD hS dX9_isEnd_44 hlocks
  obtain ⟨n, hz⟩ := lq2_e hz
  have hL8 : ∀ (n : Nat) (v2 : Int32) (v3 : Int32) (H : Heap) (locs : List Loc) (ls : Array Slot), it2 l8 n v2 v3 = some v2_1 → va_P g.1 vwCl (w_X9_isEnd g a0 a1 u0_1 u0_2 u0_3 u0_4 u0_5 u0_6 u0_7 u0_8 u0_9 u0_10 u0_11 u0_12 u0_13 u0_14 u0_15 u0_16 u0_17 u0_18 u0_19 u0_20 u0_21 u0_22 u0_23 u0_24 u0_25 u0_26 u0_27 u0_28 u0_29 u0_30 y1_s) H → va_D A (w_X9_isEnd g a0 a1 u0_1 u0_2 u0_3 u0_4 u0_5 u0_6 u0_7 u0_8 u0_9 u0_10 u0_11 u0_12 u0_13 u0_14 u0_15 u0_16 u0_17 u0_18 u0_19 u0_20 u0_21 u0_22 u0_23 u0_24 u0_25 u0_26 u0_27 u0_28 u0_29 u0_30 y1_s) → va_S A s.heap H locs → lv_has ls 4 [(0, .ref a0), (1, .int p1), (2, .int v2), (3, .int v3)] → W p l e (RM 4 97) s m args below meth c H locs 0 0 Q (F0 m 8 ls []) := by
    intro n
    induction n with
    | zero =>
      intro v2 v3 H locs ls hf hP hD hS hl
      exact it2_0 hf
    | succ n8 ih8 =>
      intro v2 v3 H locs ls hf hP hD hS hl
      obtain ⟨q8, hf, hk8⟩ := it2_e hf
      have hf := (el8 v2 v3).symm.trans hf
      refine lv_iload_n (pc := 8) hexec hb dX9_isEnd_8 rfl (lv_at hl 3 rfl) ?_
      refine lv_iconst (pc := 9) hexec hb dX9_isEnd_9 ki_4 ?_
      refine ki_ge (pc := 10) hexec hb dX9_isEnd_10 (tgt := 43) rfl hf (fun hc hf => ?_) (fun hc hf => ?_)
      · cases sr2 hf hk8
        exact hE8 _ _ _ hP hD hS (lv_sub hl [2] rfl)
      · refine lv_iload_n (pc := 13) hexec hb dX9_isEnd_13 rfl (lv_at hl 2 rfl) ?_
        obtain ⟨j36, ej36, hf⟩ := bvf1 hf
        have hj36 : ∀ (t36 : Int32) (H : Heap) (locs : List Loc) (ls : Array Slot), j36 t36 = some q8 → va_P g.1 vwCl (w_X9_isEnd g a0 a1 u0_1 u0_2 u0_3 u0_4 u0_5 u0_6 u0_7 u0_8 u0_9 u0_10 u0_11 u0_12 u0_13 u0_14 u0_15 u0_16 u0_17 u0_18 u0_19 u0_20 u0_21 u0_22 u0_23 u0_24 u0_25 u0_26 u0_27 u0_28 u0_29 u0_30 y1_s) H → va_D A (w_X9_isEnd g a0 a1 u0_1 u0_2 u0_3 u0_4 u0_5 u0_6 u0_7 u0_8 u0_9 u0_10 u0_11 u0_12 u0_13 u0_14 u0_15 u0_16 u0_17 u0_18 u0_19 u0_20 u0_21 u0_22 u0_23 u0_24 u0_25 u0_26 u0_27 u0_28 u0_29 u0_30 y1_s) → va_S A s.heap H locs → lv_has ls 4 [(0, .ref a0), (1, .int p1), (3, .int v3)] → W p l e (RM 4 97) s m args below meth c H locs 0 0 Q (F0 m 36 ls [.int t36]) := by
          intro t36 H locs ls hf hP hD hS hl
          have hf := (ej36 t36).symm.trans hf
          refine lv_istore_n (pc := 36) hexec hb dX9_isEnd_36 rfl hl (nle rfl) rfl (fun ls (hl : lv_has ls 4 [(2, .int t36), (0, .ref a0), (1, .int p1), (3, .int v3)]) => ?_)
          obtain ⟨v3_1, ev3_1, hf⟩ := bv_e hf
          refine k_iinc (pc := 37) hexec hb dX9_isEnd_37 kq_1 hl (k := 3) rfl ev3_1 (nle rfl) rfl (fun ls (hl : lv_has ls 4 [(3, .int v3_1), (2, .int t36), (0, .ref a0), (1, .int p1)]) => ?_)
          refine lv_goto (pc := 40) hexec hb dX9_isEnd_40 (tgt := 8) rfl ?_
          exact ih8 _ _ _ _ _ (sl2 hf hk8) hP hD hS (lv_sub hl [2, 3, 1, 0] rfl)
        obtain ⟨j31, ej31, hf⟩ := bvf1 hf
        have hj31 : ∀ (u : Unit) (H : Heap) (locs : List Loc) (ls : Array Slot), j31 u = some q8 → va_P g.1 vwCl (w_X9_isEnd g a0 a1 u0_1 u0_2 u0_3 u0_4 u0_5 u0_6 u0_7 u0_8 u0_9 u0_10 u0_11 u0_12 u0_13 u0_14 u0_15 u0_16 u0_17 u0_18 u0_19 u0_20 u0_21 u0_22 u0_23 u0_24 u0_25 u0_26 u0_27 u0_28 u0_29 u0_30 y1_s) H → va_D A (w_X9_isEnd g a0 a1 u0_1 u0_2 u0_3 u0_4 u0_5 u0_6 u0_7 u0_8 u0_9 u0_10 u0_11 u0_12 u0_13 u0_14 u0_15 u0_16 u0_17 u0_18 u0_19 u0_20 u0_21 u0_22 u0_23 u0_24 u0_25 u0_26 u0_27 u0_28 u0_29 u0_30 y1_s) → va_S A s.heap H locs → lv_has ls 4 [(0, .ref a0), (1, .int p1), (3, .int v3)] → W p l e (RM 4 97) s m args below meth c H locs 0 0 Q (F0 m 31 ls []) := by
          intro u H locs ls hf hP hD hS hl
          have hf := (ej31 u).symm.trans hf
          refine lv_iconst (pc := 31) hexec hb dX9_isEnd_31 ki_1 ?_
          refine lv_goto (pc := 32) hexec hb dX9_isEnd_32 (tgt := 36) rfl ?_
          exact hj36 _ _ _ _ hf hP hD hS (lv_sub hl [0, 1, 2] rfl)
        refine kb_ne (pc := 14) hexec hb dX9_isEnd_14 (tgt := 31) rfl hf (fun hc hf => ?_) (fun hc hf => ?_)
        · exact hj31 _ _ _ _ hf hP hD hS (lv_sub hl [0, 1, 3] rfl)
        · refine lv_aload_n (pc := 17) hexec hb dX9_isEnd_17 rfl (lv_at hl 0 rfl) ?_
          refine lv_aload_n (pc := 18) hexec hb dX9_isEnd_18 rfl (lv_at hl 0 rfl) ?_
          refine lv_iload_n (pc := 19) hexec hb dX9_isEnd_19 rfl (lv_at hl 1 rfl) ?_
          refine lv_iload_n (pc := 20) hexec hb dX9_isEnd_20 rfl (lv_at hl 3 rfl) ?_
          refine lv_iconst (pc := 21) hexec hb dX9_isEnd_21 ki_1 ?_
          obtain ⟨r22, hc, hf⟩ := bd1_e hf
          refine kVp (pc := 22) (S := ⟨hexec, hb, hml, hown, hts⟩) hP hD hG hA hS [0, 1] [] [0, 1] (w2 := (w_X9_isEnd g a0 a1 u0_1 u0_2 u0_3 u0_4 u0_5 u0_6 u0_7 u0_8 u0_9 u0_10 u0_11 u0_12 u0_13 u0_14 u0_15 u0_16 u0_17 u0_18 u0_19 u0_20 u0_21 u0_22 u0_23 u0_24 u0_25 u0_26 u0_27 u0_28 u0_29 u0_30 y1_s)) rfl rfl rfl rfl rfl rfl (by decide) (c_X9_away l g a0 a1 _ u0_1 u0_2 u0_3 u0_4 u0_5 u0_6 u0_7 u0_8 u0_9 u0_10 u0_11 u0_12 u0_13 u0_14 u0_15 u0_16 u0_17 u0_18 u0_19 u0_20 u0_21 u0_22 u0_23 u0_24 u0_25 u0_26 u0_27 u0_28 u0_29 u0_30 y1_s p1 v3 1 r22 hc) gX9_isEnd_X9_away rfl hv_X9_away ⟨nle rfl, nle rfl⟩ 9 0 rfl rfl rfl (rest := [.ref a0]) rfl rfl hl.1 (nle rfl) dX9_isEnd_22 (fun H locs hP hD hS => ?_)
          obtain ⟨r25, hc, hf⟩ := bd1_e hf
          refine kVp (pc := 25) (S := ⟨hexec, hb, hml, hown, hts⟩) hP hD hG hA hS [0, 1] [] [0, 1] (w2 := (w_X9_isEnd g a0 a1 u0_1 u0_2 u0_3 u0_4 u0_5 u0_6 u0_7 u0_8 u0_9 u0_10 u0_11 u0_12 u0_13 u0_14 u0_15 u0_16 u0_17 u0_18 u0_19 u0_20 u0_21 u0_22 u0_23 u0_24 u0_25 u0_26 u0_27 u0_28 u0_29 u0_30 y1_s)) rfl rfl rfl rfl rfl rfl (by decide) (c_X9_isRiver l g a0 a1 _ u0_1 u0_2 u0_3 u0_4 u0_5 u0_6 u0_7 u0_8 u0_9 u0_10 u0_11 u0_12 u0_13 u0_14 u0_15 u0_16 u0_17 u0_18 u0_19 u0_20 u0_21 u0_22 u0_23 u0_24 u0_25 u0_26 u0_27 u0_28 u0_29 u0_30 y1_s r22 r25 hc) gX9_isEnd_X9_isRiver rfl hv_X9_isRiver ⟨nle rfl, nle rfl⟩ 9 0 rfl rfl rfl (rest := []) rfl rfl hl.1 (nle rfl) dX9_isEnd_25 (fun H locs hP hD hS => ?_)
          refine kb_eq (pc := 28) hexec hb dX9_isEnd_28 (tgt := 35) rfl hf (fun hc hf => ?_) (fun hc hf => ?_)
          · refine lv_iconst (pc := 35) hexec hb dX9_isEnd_35 ki_0 ?_
            exact hj36 _ _ _ _ hf hP hD hS (lv_sub hl [0, 1, 3] rfl)
          · exact hj31 _ _ _ _ hf hP hD hS (lv_sub hl [0, 1, 3] rfl)
  exact hL8 n _ _ _ _ _ hz hP hD hS (lv_sub hl [2, 3, 1, 0] rfl)
abbrev w_X9_costOf (g : GE) (a0 a1 : Nat) (u0_1 u0_2 u0_3 u0_4 u0_5 u0_6 u0_7 u0_8 u0_9 u0_10 u0_11 u0_12 u0_13 u0_14 u0_15 u0_16 u0_17 u0_18 u0_19 u0_20 u0_21 u0_22 u0_23 u0_24 u0_25 u0_26 u0_27 u0_28 u0_29 u0_30 : Value) (y1_s : Nat → Int32) : va_W := [(a0, .inr (9, [.ref a1, u0_1, u0_2, u0_3, u0_4, u0_5, u0_6, u0_7, u0_8, u0_9, u0_10, u0_11, u0_12, u0_13, u0_14, u0_15, u0_16, u0_17, u0_18, u0_19, u0_20, u0_21, u0_22, u0_23, u0_24, u0_25, u0_26, u0_27, u0_28, u0_29, u0_30])), (a1, .inl (g.2.1 0, 552, .inl y1_s))]
set_option maxRecDepth 20000 in
theorem c_X9_costOf (l : Launch) (g : GE) (a0 a1 : Nat) (sz : Nat) (u0_1 u0_2 u0_3 u0_4 u0_5 u0_6 u0_7 u0_8 u0_9 u0_10 u0_11 u0_12 u0_13 u0_14 u0_15 u0_16 u0_17 u0_18 u0_19 u0_20 u0_21 u0_22 u0_23 u0_24 u0_25 u0_26 u0_27 u0_28 u0_29 u0_30 : Value) (y1_s : Nat → Int32) (p1 : Int32)  (r : Int32) (hf : f_X9_costOf y1_s p1 = some r) : MI l g yX9_costOf wsX9_costOf 6 143 [.ref a0, .int p1] (w_X9_costOf g a0 a1 u0_1 u0_2 u0_3 u0_4 u0_5 u0_6 u0_7 u0_8 u0_9 u0_10 u0_11 u0_12 u0_13 u0_14 u0_15 u0_16 u0_17 u0_18 u0_19 u0_20 u0_21 u0_22 u0_23 u0_24 u0_25 u0_26 u0_27 u0_28 u0_29 u0_30 y1_s) sz (some (.int r)) (w_X9_costOf g a0 a1 u0_1 u0_2 u0_3 u0_4 u0_5 u0_6 u0_7 u0_8 u0_9 u0_10 u0_11 u0_12 u0_13 u0_14 u0_15 u0_16 u0_17 u0_18 u0_19 u0_20 u0_21 u0_22 u0_23 u0_24 u0_25 u0_26 u0_27 u0_28 u0_29 u0_30 y1_s) := by
  refine MI.start (cc := cX9_costOf) (maxL := 2) (ret := (some .int)) rfl rfl (nle rfl) ?_
  intro p e s m args below meth c A ls Q hQ hexec hb hr hts hown hlocks hml hA hP hD hG hS hl
  unfold f_X9_costOf at hf
  have hWX9 : ∀ w ∈ wsX90, w.before args s = true := fun w h => hts w (List.mem_cons_of_mem _ (List.mem_append_right _ h))
  have hS : va_S A s.heap s.heap [] := hS
  refine lv_aload_n (pc := 0) hexec hb dX9_costOf_0 rfl (lv_at hl 0 rfl) ?_
  refine lv_iload_n (pc := 1) hexec hb dX9_costOf_1 rfl (lv_at hl 1 rfl) ?_
  obtain ⟨r2, hc, hf⟩ := bd1_e hf
  refine kVp (pc := 2) (S := ⟨hexec, hb, hml, hown, hts⟩) hP hD hG hA hS [0, 1] [] [0, 1] (w2 := (w_X9_costOf g a0 a1 u0_1 u0_2 u0_3 u0_4 u0_5 u0_6 u0_7 u0_8 u0_9 u0_10 u0_11 u0_12 u0_13 u0_14 u0_15 u0_16 u0_17 u0_18 u0_19 u0_20 u0_21 u0_22 u0_23 u0_24 u0_25 u0_26 u0_27 u0_28 u0_29 u0_30 y1_s)) rfl rfl rfl rfl rfl rfl (by decide) (c_X9_namesIn l g a0 a1 _ u0_1 u0_2 u0_3 u0_4 u0_5 u0_6 u0_7 u0_8 u0_9 u0_10 u0_11 u0_12 u0_13 u0_14 u0_15 u0_16 u0_17 u0_18 u0_19 u0_20 u0_21 u0_22 u0_23 u0_24 u0_25 u0_26 u0_27 u0_28 u0_29 u0_30 y1_s p1 r2 hc) gX9_costOf_X9_namesIn rfl hv_X9_namesIn ⟨nle rfl, nle rfl⟩ 9 0 rfl rfl rfl (rest := []) rfl rfl hl.1 (nle rfl) dX9_costOf_2 (fun H locs hP hD hS => ?_)
  refine kb_ne (pc := 5) hexec hb dX9_costOf_5 (tgt := 12) rfl hf (fun hc hf => ?_) (fun hc hf => ?_)
  · refine lv_bipush (pc := 12) hexec hb dX9_costOf_12 kb_11 ?_
    cases hf
    exact ke_i hQ hexec hb hr hP hD hS dX9_costOf_14 hlocks
  · refine lv_iconst (pc := 8) hexec hb dX9_costOf_8 ki_1 ?_
    refine lv_goto (pc := 9) hexec hb dX9_costOf_9 (tgt := 14) rfl ?_
    cases hf
    exact ke_i hQ hexec hb hr hP hD hS dX9_costOf_14 hlocks
abbrev w_X9_laysSums (g : GE) (a0 a1 a2 : Nat) (u0_1 u0_2 u0_3 u0_4 u0_5 u0_6 u0_7 u0_9 u0_10 u0_11 u0_12 u0_13 u0_14 u0_15 u0_16 u0_17 u0_18 u0_19 u0_20 u0_21 u0_22 u0_23 u0_24 u0_25 u0_26 u0_27 u0_28 u0_29 u0_30 : Value) (y1_s : Nat → Int32) (y2_sums : Nat → Int32) : va_W := [(a0, .inr (9, [.ref a1, u0_1, u0_2, u0_3, u0_4, u0_5, u0_6, u0_7, .ref a2, u0_9, u0_10, u0_11, u0_12, u0_13, u0_14, u0_15, u0_16, u0_17, u0_18, u0_19, u0_20, u0_21, u0_22, u0_23, u0_24, u0_25, u0_26, u0_27, u0_28, u0_29, u0_30])), (a1, .inl (g.2.1 0, 552, .inl y1_s)), (a2, .inl (g.2.1 0, 144, .inl y2_sums))]
set_option maxRecDepth 20000 in
theorem c_X9_laysSums (l : Launch) (g : GE) (a0 a1 a2 : Nat) (sz : Nat) (u0_1 u0_2 u0_3 u0_4 u0_5 u0_6 u0_7 u0_9 u0_10 u0_11 u0_12 u0_13 u0_14 u0_15 u0_16 u0_17 u0_18 u0_19 u0_20 u0_21 u0_22 u0_23 u0_24 u0_25 u0_26 u0_27 u0_28 u0_29 u0_30 : Value) (y1_s : Nat → Int32) (y2_sums : Nat → Int32)   (o_y2_sums : Nat → Int32) (hf : f_X9_laysSums y1_s y2_sums = some o_y2_sums) : MI l g yX9_laysSums wsX9_laysSums 7 164 [.ref a0] (w_X9_laysSums g a0 a1 a2 u0_1 u0_2 u0_3 u0_4 u0_5 u0_6 u0_7 u0_9 u0_10 u0_11 u0_12 u0_13 u0_14 u0_15 u0_16 u0_17 u0_18 u0_19 u0_20 u0_21 u0_22 u0_23 u0_24 u0_25 u0_26 u0_27 u0_28 u0_29 u0_30 y1_s y2_sums) sz none (w_X9_laysSums g a0 a1 a2 u0_1 u0_2 u0_3 u0_4 u0_5 u0_6 u0_7 u0_9 u0_10 u0_11 u0_12 u0_13 u0_14 u0_15 u0_16 u0_17 u0_18 u0_19 u0_20 u0_21 u0_22 u0_23 u0_24 u0_25 u0_26 u0_27 u0_28 u0_29 u0_30 y1_s o_y2_sums) := by
  refine MI.start (cc := cX9_laysSums) (maxL := 6) (ret := none) rfl rfl (nle rfl) ?_
  intro p e s m args below meth c A ls Q hQ hexec hb hr hts hown hlocks hml hA hP hD hG hS hl
  unfold f_X9_laysSums at hf
  have hWX9 : ∀ w ∈ wsX90, w.before args s = true := fun w h => hts w (List.mem_cons_of_mem _ (List.mem_append_right _ h))
  have hS : va_S A s.heap s.heap [] := hS
  refine lv_iconst (pc := 0) hexec hb dX9_laysSums_0 ki_0 ?_
  refine lv_istore_n (pc := 1) hexec hb dX9_laysSums_1 rfl hl (nle rfl) rfl (fun ls (hl : lv_has ls 6 [(1, .int 0), (0, .ref a0)]) => ?_)
  obtain ⟨l2, el2, hf⟩ := bvf2 hf
  obtain ⟨y2_sums_2, hz, hf⟩ := bd1_e hf
  have hE2 : ∀ (H : Heap) (locs : List Loc) (ls : Array Slot), va_P g.1 vwCl (w_X9_laysSums g a0 a1 a2 u0_1 u0_2 u0_3 u0_4 u0_5 u0_6 u0_7 u0_9 u0_10 u0_11 u0_12 u0_13 u0_14 u0_15 u0_16 u0_17 u0_18 u0_19 u0_20 u0_21 u0_22 u0_23 u0_24 u0_25 u0_26 u0_27 u0_28 u0_29 u0_30 y1_s y2_sums_2) H → va_D A (w_X9_laysSums g a0 a1 a2 u0_1 u0_2 u0_3 u0_4 u0_5 u0_6 u0_7 u0_9 u0_10 u0_11 u0_12 u0_13 u0_14 u0_15 u0_16 u0_17 u0_18 u0_19 u0_20 u0_21 u0_22 u0_23 u0_24 u0_25 u0_26 u0_27 u0_28 u0_29 u0_30 y1_s y2_sums_2) → va_S A s.heap H locs → lv_has ls 6 [(0, .ref a0)] → W p l e (RM 7 164) s m args below meth c H locs 0 0 Q (F0 m 48 ls []) := by
    intro H locs ls hP hD hS hl
    refine lv_iconst (pc := 48) hexec hb dX9_laysSums_48 ki_1 ?_
    refine lv_istore_n (pc := 49) hexec hb dX9_laysSums_49 rfl hl (nle rfl) rfl (fun ls (hl : lv_has ls 6 [(1, .int 1), (0, .ref a0)]) => ?_)
    obtain ⟨l50, el50, hf⟩ := bvf2 hf
    obtain ⟨y2_sums_5, hz, hf⟩ := bd1_e hf
    have hE50 : ∀ (H : Heap) (locs : List Loc) (ls : Array Slot), va_P g.1 vwCl (w_X9_laysSums g a0 a1 a2 u0_1 u0_2 u0_3 u0_4 u0_5 u0_6 u0_7 u0_9 u0_10 u0_11 u0_12 u0_13 u0_14 u0_15 u0_16 u0_17 u0_18 u0_19 u0_20 u0_21 u0_22 u0_23 u0_24 u0_25 u0_26 u0_27 u0_28 u0_29 u0_30 y1_s y2_sums_5) H → va_D A (w_X9_laysSums g a0 a1 a2 u0_1 u0_2 u0_3 u0_4 u0_5 u0_6 u0_7 u0_9 u0_10 u0_11 u0_12 u0_13 u0_14 u0_15 u0_16 u0_17 u0_18 u0_19 u0_20 u0_21 u0_22 u0_23 u0_24 u0_25 u0_26 u0_27 u0_28 u0_29 u0_30 y1_s y2_sums_5) → va_S A s.heap H locs → lv_has ls 6 [] → W p l e (RM 7 164) s m args below meth c H locs 0 0 Q (F0 m 202 ls []) := by
      intro H locs ls hP hD hS hl
      cases hf
      exact ke_v hQ hexec hb hr hP hD hS dX9_laysSums_202 hlocks
    obtain ⟨n, hz⟩ := lq2_e hz
    have hL50 : ∀ (n : Nat) (v1_2 : Int32) (y2_sums_4 : Nat → Int32) (H : Heap) (locs : List Loc) (ls : Array Slot), it2 l50 n v1_2 y2_sums_4 = some y2_sums_5 → va_P g.1 vwCl (w_X9_laysSums g a0 a1 a2 u0_1 u0_2 u0_3 u0_4 u0_5 u0_6 u0_7 u0_9 u0_10 u0_11 u0_12 u0_13 u0_14 u0_15 u0_16 u0_17 u0_18 u0_19 u0_20 u0_21 u0_22 u0_23 u0_24 u0_25 u0_26 u0_27 u0_28 u0_29 u0_30 y1_s y2_sums_4) H → va_D A (w_X9_laysSums g a0 a1 a2 u0_1 u0_2 u0_3 u0_4 u0_5 u0_6 u0_7 u0_9 u0_10 u0_11 u0_12 u0_13 u0_14 u0_15 u0_16 u0_17 u0_18 u0_19 u0_20 u0_21 u0_22 u0_23 u0_24 u0_25 u0_26 u0_27 u0_28 u0_29 u0_30 y1_s y2_sums_4) → va_S A s.heap H locs → lv_has ls 6 [(0, .ref a0), (1, .int v1_2)] → W p l e (RM 7 164) s m args below meth c H locs 0 0 Q (F0 m 50 ls []) := by
      intro n
      induction n with
      | zero =>
        intro v1_2 y2_sums_4 H locs ls hf hP hD hS hl
        exact it2_0 hf
      | succ n50 ih50 =>
        intro v1_2 y2_sums_4 H locs ls hf hP hD hS hl
        obtain ⟨q50, hf, hk50⟩ := it2_e hf
        have hf := (el50 v1_2 y2_sums_4).symm.trans hf
        refine lv_iload_n (pc := 50) hexec hb dX9_laysSums_50 rfl (lv_at hl 1 rfl) ?_
        refine kb_eq (pc := 51) hexec hb dX9_laysSums_51 (tgt := 202) rfl hf (fun hc hf => ?_) (fun hc hf => ?_)
        · cases sr2 hf hk50
          exact hE50 _ _ _ hP hD hS (lv_sub hl [] rfl)
        · refine lv_iconst (pc := 54) hexec hb dX9_laysSums_54 ki_0 ?_
          refine lv_istore_n (pc := 55) hexec hb dX9_laysSums_55 rfl hl (nle rfl) rfl (fun ls (hl : lv_has ls 6 [(1, .int 0), (0, .ref a0)]) => ?_)
          refine lv_iconst (pc := 56) hexec hb dX9_laysSums_56 ki_0 ?_
          refine lv_istore_n (pc := 57) hexec hb dX9_laysSums_57 rfl hl (nle rfl) rfl (fun ls (hl : lv_has ls 6 [(2, .int 0), (1, .int 0), (0, .ref a0)]) => ?_)
          obtain ⟨l58, el58, hf⟩ := bvf3 hf
          obtain ⟨v1_4, y2_sums_7, hz, hf⟩ := bd2_e hf
          have hE58 : ∀ (H : Heap) (locs : List Loc) (ls : Array Slot), va_P g.1 vwCl (w_X9_laysSums g a0 a1 a2 u0_1 u0_2 u0_3 u0_4 u0_5 u0_6 u0_7 u0_9 u0_10 u0_11 u0_12 u0_13 u0_14 u0_15 u0_16 u0_17 u0_18 u0_19 u0_20 u0_21 u0_22 u0_23 u0_24 u0_25 u0_26 u0_27 u0_28 u0_29 u0_30 y1_s y2_sums_7) H → va_D A (w_X9_laysSums g a0 a1 a2 u0_1 u0_2 u0_3 u0_4 u0_5 u0_6 u0_7 u0_9 u0_10 u0_11 u0_12 u0_13 u0_14 u0_15 u0_16 u0_17 u0_18 u0_19 u0_20 u0_21 u0_22 u0_23 u0_24 u0_25 u0_26 u0_27 u0_28 u0_29 u0_30 y1_s y2_sums_7) → va_S A s.heap H locs → lv_has ls 6 [(0, .ref a0), (1, .int v1_4)] → W p l e (RM 7 164) s m args below meth c H locs 0 0 Q (F0 m 199 ls []) := by
            intro H locs ls hP hD hS hl
            refine lv_goto (pc := 199) hexec hb dX9_laysSums_199 (tgt := 50) rfl ?_
            exact ih50 _ _ _ _ _ (sl2 hf hk50) hP hD hS (lv_sub hl [0, 1] rfl)
          obtain ⟨n, hz⟩ := lq3_e hz
          have hL58 : ∀ (n : Nat) (v1_3 : Int32) (v2 : Int32) (y2_sums_6 : Nat → Int32) (H : Heap) (locs : List Loc) (ls : Array Slot), it3 l58 n v1_3 v2 y2_sums_6 = some (v1_4, y2_sums_7) → va_P g.1 vwCl (w_X9_laysSums g a0 a1 a2 u0_1 u0_2 u0_3 u0_4 u0_5 u0_6 u0_7 u0_9 u0_10 u0_11 u0_12 u0_13 u0_14 u0_15 u0_16 u0_17 u0_18 u0_19 u0_20 u0_21 u0_22 u0_23 u0_24 u0_25 u0_26 u0_27 u0_28 u0_29 u0_30 y1_s y2_sums_6) H → va_D A (w_X9_laysSums g a0 a1 a2 u0_1 u0_2 u0_3 u0_4 u0_5 u0_6 u0_7 u0_9 u0_10 u0_11 u0_12 u0_13 u0_14 u0_15 u0_16 u0_17 u0_18 u0_19 u0_20 u0_21 u0_22 u0_23 u0_24 u0_25 u0_26 u0_27 u0_28 u0_29 u0_30 y1_s y2_sums_6) → va_S A s.heap H locs → lv_has ls 6 [(0, .ref a0), (1, .int v1_3), (2, .int v2)] → W p l e (RM 7 164) s m args below meth c H locs 0 0 Q (F0 m 58 ls []) := by
            intro n
            induction n with
            | zero =>
              intro v1_3 v2 y2_sums_6 H locs ls hf hP hD hS hl
              exact it3_0 hf
            | succ n58 ih58 =>
              intro v1_3 v2 y2_sums_6 H locs ls hf hP hD hS hl
              obtain ⟨q58, hf, hk58⟩ := it3_e hf
              have hf := (el58 v1_3 v2 y2_sums_6).symm.trans hf
              refine lv_iload_n (pc := 58) hexec hb dX9_laysSums_58 rfl (lv_at hl 2 rfl) ?_
              refine lv_aload_n (pc := 59) hexec hb dX9_laysSums_59 rfl (lv_at hl 0 rfl) ?_
              obtain ⟨r60, hc, hf⟩ := bd1_e hf
              refine kVp (pc := 60) (S := ⟨hexec, hb, hml, hown, hts⟩) hP hD hG hA hS [0, 1] [2] [1, 2, 0] (w2 := (w_X9_laysSums g a0 a1 a2 u0_1 u0_2 u0_3 u0_4 u0_5 u0_6 u0_7 u0_9 u0_10 u0_11 u0_12 u0_13 u0_14 u0_15 u0_16 u0_17 u0_18 u0_19 u0_20 u0_21 u0_22 u0_23 u0_24 u0_25 u0_26 u0_27 u0_28 u0_29 u0_30 y1_s y2_sums_6)) rfl rfl rfl rfl rfl rfl (by decide) (c_X9_cells l g a0 a1 _ u0_1 u0_2 u0_3 u0_4 u0_5 u0_6 u0_7 (.ref a2) u0_9 u0_10 u0_11 u0_12 u0_13 u0_14 u0_15 u0_16 u0_17 u0_18 u0_19 u0_20 u0_21 u0_22 u0_23 u0_24 u0_25 u0_26 u0_27 u0_28 u0_29 u0_30 y1_s r60 hc) gX9_laysSums_X9_cells rfl hv_X9_cells ⟨nle rfl, nle rfl⟩ 9 0 rfl rfl rfl (rest := [.int v2]) rfl rfl hl.1 (nle rfl) dX9_laysSums_60 (fun H locs hP hD hS => ?_)
              refine ki_ge (pc := 63) hexec hb dX9_laysSums_63 (tgt := 199) rfl hf (fun hc hf => ?_) (fun hc hf => ?_)
              · cases sr3 hf hk58
                exact hE58 _ _ _ hP hD hS (lv_sub hl [0, 1] rfl)
              · refine lv_aload_n (pc := 66) hexec hb dX9_laysSums_66 rfl (lv_at hl 0 rfl) ?_
                refine lv_iload_n (pc := 67) hexec hb dX9_laysSums_67 rfl (lv_at hl 2 rfl) ?_
                obtain ⟨r68, hc, hf⟩ := bd1_e hf
                refine kVp (pc := 68) (S := ⟨hexec, hb, hml, hown, hts⟩) hP hD hG hA hS [0, 1] [2] [1, 2, 0] (w2 := (w_X9_laysSums g a0 a1 a2 u0_1 u0_2 u0_3 u0_4 u0_5 u0_6 u0_7 u0_9 u0_10 u0_11 u0_12 u0_13 u0_14 u0_15 u0_16 u0_17 u0_18 u0_19 u0_20 u0_21 u0_22 u0_23 u0_24 u0_25 u0_26 u0_27 u0_28 u0_29 u0_30 y1_s y2_sums_6)) rfl rfl rfl rfl rfl rfl (by decide) (c_X9_canBegin l g a0 a1 _ u0_1 u0_2 u0_3 u0_4 u0_5 u0_6 u0_7 (.ref a2) u0_9 u0_10 u0_11 u0_12 u0_13 u0_14 u0_15 u0_16 u0_17 u0_18 u0_19 u0_20 u0_21 u0_22 u0_23 u0_24 u0_25 u0_26 u0_27 u0_28 u0_29 u0_30 y1_s v2 r68 hc) gX9_laysSums_X9_canBegin rfl hv_X9_canBegin ⟨nle rfl, nle rfl⟩ 9 0 rfl rfl rfl (rest := []) rfl rfl hl.1 (nle rfl) dX9_laysSums_68 (fun H locs hP hD hS => ?_)
                obtain ⟨j193, ej193, hf⟩ := bvf2 hf
                have hj193 : ∀ (v1_5 : Int32) (y2_sums_8 : Nat → Int32) (H : Heap) (locs : List Loc) (ls : Array Slot), j193 v1_5 y2_sums_8 = some q58 → va_P g.1 vwCl (w_X9_laysSums g a0 a1 a2 u0_1 u0_2 u0_3 u0_4 u0_5 u0_6 u0_7 u0_9 u0_10 u0_11 u0_12 u0_13 u0_14 u0_15 u0_16 u0_17 u0_18 u0_19 u0_20 u0_21 u0_22 u0_23 u0_24 u0_25 u0_26 u0_27 u0_28 u0_29 u0_30 y1_s y2_sums_8) H → va_D A (w_X9_laysSums g a0 a1 a2 u0_1 u0_2 u0_3 u0_4 u0_5 u0_6 u0_7 u0_9 u0_10 u0_11 u0_12 u0_13 u0_14 u0_15 u0_16 u0_17 u0_18 u0_19 u0_20 u0_21 u0_22 u0_23 u0_24 u0_25 u0_26 u0_27 u0_28 u0_29 u0_30 y1_s y2_sums_8) → va_S A s.heap H locs → lv_has ls 6 [(0, .ref a0), (1, .int v1_5), (2, .int v2)] → W p l e (RM 7 164) s m args below meth c H locs 0 0 Q (F0 m 193 ls []) := by
                  intro v1_5 y2_sums_8 H locs ls hf hP hD hS hl
                  have hf := (ej193 v1_5 y2_sums_8).symm.trans hf
                  obtain ⟨v2_1, ev2_1, hf⟩ := bv_e hf
                  refine k_iinc (pc := 193) hexec hb dX9_laysSums_193 kq_1 hl (k := 2) rfl ev2_1 (nle rfl) rfl (fun ls (hl : lv_has ls 6 [(2, .int v2_1), (0, .ref a0), (1, .int v1_5)]) => ?_)
                  refine lv_goto (pc := 196) hexec hb dX9_laysSums_196 (tgt := 58) rfl ?_
                  exact ih58 _ _ _ _ _ _ (sl3 hf hk58) hP hD hS (lv_sub hl [1, 2, 0] rfl)
                refine kb_eq (pc := 71) hexec hb dX9_laysSums_71 (tgt := 193) rfl hf (fun hc hf => ?_) (fun hc hf => ?_)
                · exact hj193 _ _ _ _ _ hf hP hD hS (lv_sub hl [0, 1, 2] rfl)
                · refine lv_aload_n (pc := 74) hexec hb dX9_laysSums_74 rfl (lv_at hl 0 rfl) ?_
                  refine lv_iload_n (pc := 75) hexec hb dX9_laysSums_75 rfl (lv_at hl 2 rfl) ?_
                  obtain ⟨r76, hc, hf⟩ := bd1_e hf
                  refine kVp (pc := 76) (S := ⟨hexec, hb, hml, hown, hts⟩) hP hD hG hA hS [0, 1] [2] [1, 2, 0] (w2 := (w_X9_laysSums g a0 a1 a2 u0_1 u0_2 u0_3 u0_4 u0_5 u0_6 u0_7 u0_9 u0_10 u0_11 u0_12 u0_13 u0_14 u0_15 u0_16 u0_17 u0_18 u0_19 u0_20 u0_21 u0_22 u0_23 u0_24 u0_25 u0_26 u0_27 u0_28 u0_29 u0_30 y1_s y2_sums_6)) rfl rfl rfl rfl rfl rfl (by decide) (c_X9_isEnd l g a0 a1 _ u0_1 u0_2 u0_3 u0_4 u0_5 u0_6 u0_7 (.ref a2) u0_9 u0_10 u0_11 u0_12 u0_13 u0_14 u0_15 u0_16 u0_17 u0_18 u0_19 u0_20 u0_21 u0_22 u0_23 u0_24 u0_25 u0_26 u0_27 u0_28 u0_29 u0_30 y1_s v2 r76 hc) gX9_laysSums_X9_isEnd rfl hv_X9_isEnd ⟨nle rfl, nle rfl⟩ 9 0 rfl rfl rfl (rest := []) rfl rfl hl.1 (nle rfl) dX9_laysSums_76 (fun H locs hP hD hS => ?_)
                  refine kb_eq (pc := 79) hexec hb dX9_laysSums_79 (tgt := 85) rfl hf (fun hc hf => ?_) (fun hc hf => ?_)
                  · refine lv_ldc (pc := 85) hexec hb (own := RX9) hown (hts _ (List.mem_cons_of_mem _ (List.mem_append_left _ (List.mem_append_left _ (List.mem_of_getElem? (i := 1) rfl))))) dX9_laysSums_85 ?_
                    refine lv_istore_n (pc := 87) hexec hb dX9_laysSums_87 rfl hl (nle rfl) rfl (fun ls (hl : lv_has ls 6 [(3, .int 1000000), (0, .ref a0), (1, .int v1_3), (2, .int v2)]) => ?_)
                    refine lv_iconst (pc := 88) hexec hb dX9_laysSums_88 ki_0 ?_
                    refine lv_istore (pc := 89) hexec hb dX9_laysSums_89 hl (nle rfl) rfl (fun ls (hl : lv_has ls 6 [(4, .int 0), (3, .int 1000000), (0, .ref a0), (1, .int v1_3), (2, .int v2)]) => ?_)
                    obtain ⟨l91, el91, hf⟩ := bvf2 hf
                    obtain ⟨v3_1, hz, hf⟩ := bd1_e hf
                    have hE91 : ∀ (H : Heap) (locs : List Loc) (ls : Array Slot), va_P g.1 vwCl (w_X9_laysSums g a0 a1 a2 u0_1 u0_2 u0_3 u0_4 u0_5 u0_6 u0_7 u0_9 u0_10 u0_11 u0_12 u0_13 u0_14 u0_15 u0_16 u0_17 u0_18 u0_19 u0_20 u0_21 u0_22 u0_23 u0_24 u0_25 u0_26 u0_27 u0_28 u0_29 u0_30 y1_s y2_sums_6) H → va_D A (w_X9_laysSums g a0 a1 a2 u0_1 u0_2 u0_3 u0_4 u0_5 u0_6 u0_7 u0_9 u0_10 u0_11 u0_12 u0_13 u0_14 u0_15 u0_16 u0_17 u0_18 u0_19 u0_20 u0_21 u0_22 u0_23 u0_24 u0_25 u0_26 u0_27 u0_28 u0_29 u0_30 y1_s y2_sums_6) → va_S A s.heap H locs → lv_has ls 6 [(0, .ref a0), (1, .int v1_3), (2, .int v2), (3, .int v3_1)] → W p l e (RM 7 164) s m args below meth c H locs 0 0 Q (F0 m 135 ls []) := by
                      intro H locs ls hP hD hS hl
                      refine lv_iload_n (pc := 135) hexec hb dX9_laysSums_135 rfl (lv_at hl 3 rfl) ?_
                      refine lv_ldc (pc := 136) hexec hb (own := RX9) hown (hts _ (List.mem_cons_of_mem _ (List.mem_append_left _ (List.mem_append_left _ (List.mem_of_getElem? (i := 1) rfl))))) dX9_laysSums_136 ?_
                      obtain ⟨j153, ej153, hf⟩ := bvf1 hf
                      have hj153 : ∀ (t153 : Int32) (H : Heap) (locs : List Loc) (ls : Array Slot), j153 t153 = some q58 → va_P g.1 vwCl (w_X9_laysSums g a0 a1 a2 u0_1 u0_2 u0_3 u0_4 u0_5 u0_6 u0_7 u0_9 u0_10 u0_11 u0_12 u0_13 u0_14 u0_15 u0_16 u0_17 u0_18 u0_19 u0_20 u0_21 u0_22 u0_23 u0_24 u0_25 u0_26 u0_27 u0_28 u0_29 u0_30 y1_s y2_sums_6) H → va_D A (w_X9_laysSums g a0 a1 a2 u0_1 u0_2 u0_3 u0_4 u0_5 u0_6 u0_7 u0_9 u0_10 u0_11 u0_12 u0_13 u0_14 u0_15 u0_16 u0_17 u0_18 u0_19 u0_20 u0_21 u0_22 u0_23 u0_24 u0_25 u0_26 u0_27 u0_28 u0_29 u0_30 y1_s y2_sums_6) → va_S A s.heap H locs → lv_has ls 6 [(0, .ref a0), (1, .int v1_3), (2, .int v2)] → W p l e (RM 7 164) s m args below meth c H locs 0 0 Q (F0 m 153 ls [.int t153]) := by
                        intro t153 H locs ls hf hP hD hS hl
                        have hf := (ej153 t153).symm.trans hf
                        refine lv_istore (pc := 153) hexec hb dX9_laysSums_153 hl (nle rfl) rfl (fun ls (hl : lv_has ls 6 [(4, .int t153), (0, .ref a0), (1, .int v1_3), (2, .int v2)]) => ?_)
                        refine lv_iload_n (pc := 155) hexec hb dX9_laysSums_155 rfl (lv_at hl 2 rfl) ?_
                        obtain ⟨j175, ej175, hf⟩ := bvf1 hf
                        have hj175 : ∀ (t175 : Int32) (H : Heap) (locs : List Loc) (ls : Array Slot), j175 t175 = some q58 → va_P g.1 vwCl (w_X9_laysSums g a0 a1 a2 u0_1 u0_2 u0_3 u0_4 u0_5 u0_6 u0_7 u0_9 u0_10 u0_11 u0_12 u0_13 u0_14 u0_15 u0_16 u0_17 u0_18 u0_19 u0_20 u0_21 u0_22 u0_23 u0_24 u0_25 u0_26 u0_27 u0_28 u0_29 u0_30 y1_s y2_sums_6) H → va_D A (w_X9_laysSums g a0 a1 a2 u0_1 u0_2 u0_3 u0_4 u0_5 u0_6 u0_7 u0_9 u0_10 u0_11 u0_12 u0_13 u0_14 u0_15 u0_16 u0_17 u0_18 u0_19 u0_20 u0_21 u0_22 u0_23 u0_24 u0_25 u0_26 u0_27 u0_28 u0_29 u0_30 y1_s y2_sums_6) → va_S A s.heap H locs → lv_has ls 6 [(0, .ref a0), (2, .int v2), (4, .int t153)] → W p l e (RM 7 164) s m args below meth c H locs 0 0 Q (F0 m 175 ls [.int t175]) := by
                          intro t175 H locs ls hf hP hD hS hl
                          have hf := (ej175 t175).symm.trans hf
                          refine lv_istore_n (pc := 175) hexec hb dX9_laysSums_175 rfl hl (nle rfl) rfl (fun ls (hl : lv_has ls 6 [(1, .int t175), (0, .ref a0), (2, .int v2), (4, .int t153)]) => ?_)
                          refine lv_aload_n (pc := 176) hexec hb dX9_laysSums_176 rfl (lv_at hl 1 rfl) ?_
                          refine kg_get (pc := 177) hexec hb (own := RX9) hWX9 hown hG hP 0 rfl rfl 8 (nle rfl) (hts _ (List.mem_cons_of_mem _ (List.mem_append_left _ (List.mem_append_left _ (List.mem_of_getElem? (i := 0) rfl))))) rfl rfl dX9_laysSums_177 ?_
                          refine lv_iload_n (pc := 180) hexec hb dX9_laysSums_180 rfl (lv_at hl 2 rfl) ?_
                          refine lv_iload (pc := 181) hexec hb dX9_laysSums_181 (lv_at hl 3 rfl) ?_
                          refine lv_aload_n (pc := 183) hexec hb dX9_laysSums_183 rfl (lv_at hl 1 rfl) ?_
                          refine kg_get (pc := 184) hexec hb (own := RX9) hWX9 hown hG hP 0 rfl rfl 8 (nle rfl) (hts _ (List.mem_cons_of_mem _ (List.mem_append_left _ (List.mem_append_left _ (List.mem_of_getElem? (i := 0) rfl))))) rfl rfl dX9_laysSums_184 ?_
                          refine lv_iload_n (pc := 187) hexec hb dX9_laysSums_187 rfl (lv_at hl 2 rfl) ?_
                          refine kr_iald (pc := 188) hexec hb hG hP 2 rfl hf dX9_laysSums_188 (fun hf => ?_)
                          refine va_mmin (pc := 189) hexec hb (hml.trans hl.1.symm) (own := RX9) hown (hts _ (List.mem_cons_of_mem _ (List.mem_append_left _ (List.mem_append_left _ (List.mem_of_getElem? (i := 2) rfl))))) (hts _ (List.mem_cons_of_mem _ (List.mem_append_left _ (List.mem_append_left _ (List.mem_of_getElem? (i := 3) rfl))))) (hts _ (List.mem_cons_of_mem _ (List.mem_append_left _ (List.mem_append_left _ (List.mem_of_getElem? (i := 4) rfl))))) (hts _ (List.mem_cons_of_mem _ (List.mem_append_left _ (List.mem_append_left _ (List.mem_of_getElem? (i := 5) rfl))))) (nle rfl) (nle rfl) (nle rfl) (nle rfl) dX9_laysSums_189 ?_
                          refine kw_iast (pc := 192) hexec hb hG hP hD hS 2 rfl hf dX9_laysSums_192 (fun y2_sums_9 H locs hf (hP : va_P g.1 vwCl (w_X9_laysSums g a0 a1 a2 u0_1 u0_2 u0_3 u0_4 u0_5 u0_6 u0_7 u0_9 u0_10 u0_11 u0_12 u0_13 u0_14 u0_15 u0_16 u0_17 u0_18 u0_19 u0_20 u0_21 u0_22 u0_23 u0_24 u0_25 u0_26 u0_27 u0_28 u0_29 u0_30 y1_s y2_sums_9) H) (hD : va_D A (w_X9_laysSums g a0 a1 a2 u0_1 u0_2 u0_3 u0_4 u0_5 u0_6 u0_7 u0_9 u0_10 u0_11 u0_12 u0_13 u0_14 u0_15 u0_16 u0_17 u0_18 u0_19 u0_20 u0_21 u0_22 u0_23 u0_24 u0_25 u0_26 u0_27 u0_28 u0_29 u0_30 y1_s y2_sums_9)) hS => ?_)
                          exact hj193 _ _ _ _ _ hf hP hD hS (lv_sub hl [1, 0, 2] rfl)
                        obtain ⟨j170, ej170, hf⟩ := bvf1 hf
                        have hj170 : ∀ (u : Unit) (H : Heap) (locs : List Loc) (ls : Array Slot), j170 u = some q58 → va_P g.1 vwCl (w_X9_laysSums g a0 a1 a2 u0_1 u0_2 u0_3 u0_4 u0_5 u0_6 u0_7 u0_9 u0_10 u0_11 u0_12 u0_13 u0_14 u0_15 u0_16 u0_17 u0_18 u0_19 u0_20 u0_21 u0_22 u0_23 u0_24 u0_25 u0_26 u0_27 u0_28 u0_29 u0_30 y1_s y2_sums_6) H → va_D A (w_X9_laysSums g a0 a1 a2 u0_1 u0_2 u0_3 u0_4 u0_5 u0_6 u0_7 u0_9 u0_10 u0_11 u0_12 u0_13 u0_14 u0_15 u0_16 u0_17 u0_18 u0_19 u0_20 u0_21 u0_22 u0_23 u0_24 u0_25 u0_26 u0_27 u0_28 u0_29 u0_30 y1_s y2_sums_6) → va_S A s.heap H locs → lv_has ls 6 [(0, .ref a0), (2, .int v2), (4, .int t153)] → W p l e (RM 7 164) s m args below meth c H locs 0 0 Q (F0 m 170 ls []) := by
                          intro u H locs ls hf hP hD hS hl
                          have hf := (ej170 u).symm.trans hf
                          refine lv_iconst (pc := 170) hexec hb dX9_laysSums_170 ki_1 ?_
                          refine lv_goto (pc := 171) hexec hb dX9_laysSums_171 (tgt := 175) rfl ?_
                          exact hj175 _ _ _ _ hf hP hD hS (lv_sub hl [0, 1, 2] rfl)
                        refine kb_ne (pc := 156) hexec hb dX9_laysSums_156 (tgt := 170) rfl hf (fun hc hf => ?_) (fun hc hf => ?_)
                        · exact hj170 _ _ _ _ hf hP hD hS (lv_sub hl [1, 3, 0] rfl)
                        · refine lv_iload (pc := 159) hexec hb dX9_laysSums_159 (lv_at hl 0 rfl) ?_
                          refine lv_aload_n (pc := 161) hexec hb dX9_laysSums_161 rfl (lv_at hl 1 rfl) ?_
                          refine kg_get (pc := 162) hexec hb (own := RX9) hWX9 hown hG hP 0 rfl rfl 8 (nle rfl) (hts _ (List.mem_cons_of_mem _ (List.mem_append_left _ (List.mem_append_left _ (List.mem_of_getElem? (i := 0) rfl))))) rfl rfl dX9_laysSums_162 ?_
                          refine lv_iload_n (pc := 165) hexec hb dX9_laysSums_165 rfl (lv_at hl 3 rfl) ?_
                          refine kr_iald (pc := 166) hexec hb hG hP 2 rfl hf dX9_laysSums_166 (fun hf => ?_)
                          refine ki_ge (pc := 167) hexec hb dX9_laysSums_167 (tgt := 174) rfl hf (fun hc hf => ?_) (fun hc hf => ?_)
                          · refine lv_iconst (pc := 174) hexec hb dX9_laysSums_174 ki_0 ?_
                            exact hj175 _ _ _ _ hf hP hD hS (lv_sub hl [1, 3, 0] rfl)
                          · exact hj170 _ _ _ _ hf hP hD hS (lv_sub hl [1, 3, 0] rfl)
                      refine ki_ne (pc := 138) hexec hb dX9_laysSums_138 (tgt := 146) rfl hf (fun hc hf => ?_) (fun hc hf => ?_)
                      · refine lv_iload_n (pc := 146) hexec hb dX9_laysSums_146 rfl (lv_at hl 3 rfl) ?_
                        refine lv_aload_n (pc := 147) hexec hb dX9_laysSums_147 rfl (lv_at hl 0 rfl) ?_
                        refine lv_iload_n (pc := 148) hexec hb dX9_laysSums_148 rfl (lv_at hl 2 rfl) ?_
                        obtain ⟨r149, hc, hf⟩ := bd1_e hf
                        refine kVp (pc := 149) (S := ⟨hexec, hb, hml, hown, hts⟩) hP hD hG hA hS [0, 1] [2] [1, 2, 0] (w2 := (w_X9_laysSums g a0 a1 a2 u0_1 u0_2 u0_3 u0_4 u0_5 u0_6 u0_7 u0_9 u0_10 u0_11 u0_12 u0_13 u0_14 u0_15 u0_16 u0_17 u0_18 u0_19 u0_20 u0_21 u0_22 u0_23 u0_24 u0_25 u0_26 u0_27 u0_28 u0_29 u0_30 y1_s y2_sums_6)) rfl rfl rfl rfl rfl rfl (by decide) (c_X9_costOf l g a0 a1 _ u0_1 u0_2 u0_3 u0_4 u0_5 u0_6 u0_7 (.ref a2) u0_9 u0_10 u0_11 u0_12 u0_13 u0_14 u0_15 u0_16 u0_17 u0_18 u0_19 u0_20 u0_21 u0_22 u0_23 u0_24 u0_25 u0_26 u0_27 u0_28 u0_29 u0_30 y1_s v2 r149 hc) gX9_laysSums_X9_costOf rfl hv_X9_costOf ⟨nle rfl, nle rfl⟩ 9 0 rfl rfl rfl (rest := [.int v3_1]) rfl rfl hl.1 (nle rfl) dX9_laysSums_149 (fun H locs hP hD hS => ?_)
                        refine lv_iadd (pc := 152) hexec hb dX9_laysSums_152 ?_
                        exact hj153 _ _ _ _ hf hP hD hS (lv_sub hl [0, 1, 2] rfl)
                      · refine lv_ldc (pc := 141) hexec hb (own := RX9) hown (hts _ (List.mem_cons_of_mem _ (List.mem_append_left _ (List.mem_append_left _ (List.mem_of_getElem? (i := 1) rfl))))) dX9_laysSums_141 ?_
                        refine lv_goto (pc := 143) hexec hb dX9_laysSums_143 (tgt := 153) rfl ?_
                        exact hj153 _ _ _ _ hf hP hD hS (lv_sub hl [0, 1, 2] rfl)
                    obtain ⟨n, hz⟩ := lq2_e hz
                    have hL91 : ∀ (n : Nat) (v3 : Int32) (v4 : Int32) (H : Heap) (locs : List Loc) (ls : Array Slot), it2 l91 n v3 v4 = some v3_1 → va_P g.1 vwCl (w_X9_laysSums g a0 a1 a2 u0_1 u0_2 u0_3 u0_4 u0_5 u0_6 u0_7 u0_9 u0_10 u0_11 u0_12 u0_13 u0_14 u0_15 u0_16 u0_17 u0_18 u0_19 u0_20 u0_21 u0_22 u0_23 u0_24 u0_25 u0_26 u0_27 u0_28 u0_29 u0_30 y1_s y2_sums_6) H → va_D A (w_X9_laysSums g a0 a1 a2 u0_1 u0_2 u0_3 u0_4 u0_5 u0_6 u0_7 u0_9 u0_10 u0_11 u0_12 u0_13 u0_14 u0_15 u0_16 u0_17 u0_18 u0_19 u0_20 u0_21 u0_22 u0_23 u0_24 u0_25 u0_26 u0_27 u0_28 u0_29 u0_30 y1_s y2_sums_6) → va_S A s.heap H locs → lv_has ls 6 [(0, .ref a0), (1, .int v1_3), (2, .int v2), (3, .int v3), (4, .int v4)] → W p l e (RM 7 164) s m args below meth c H locs 0 0 Q (F0 m 91 ls []) := by
                      intro n
                      induction n with
                      | zero =>
                        intro v3 v4 H locs ls hf hP hD hS hl
                        exact it2_0 hf
                      | succ n91 ih91 =>
                        intro v3 v4 H locs ls hf hP hD hS hl
                        obtain ⟨q91, hf, hk91⟩ := it2_e hf
                        have hf := (el91 v3 v4).symm.trans hf
                        refine lv_iload (pc := 91) hexec hb dX9_laysSums_91 (lv_at hl 4 rfl) ?_
                        refine lv_iconst (pc := 93) hexec hb dX9_laysSums_93 ki_4 ?_
                        refine ki_ge (pc := 94) hexec hb dX9_laysSums_94 (tgt := 135) rfl hf (fun hc hf => ?_) (fun hc hf => ?_)
                        · cases sr2 hf hk91
                          exact hE91 _ _ _ hP hD hS (lv_sub hl [0, 1, 2, 3] rfl)
                        · refine lv_aload_n (pc := 97) hexec hb dX9_laysSums_97 rfl (lv_at hl 0 rfl) ?_
                          refine lv_iload_n (pc := 98) hexec hb dX9_laysSums_98 rfl (lv_at hl 2 rfl) ?_
                          refine lv_iload (pc := 99) hexec hb dX9_laysSums_99 (lv_at hl 4 rfl) ?_
                          refine lv_iconst (pc := 101) hexec hb dX9_laysSums_101 ki_1 ?_
                          obtain ⟨r102, hc, hf⟩ := bd1_e hf
                          refine kVp (pc := 102) (S := ⟨hexec, hb, hml, hown, hts⟩) hP hD hG hA hS [0, 1] [2] [1, 2, 0] (w2 := (w_X9_laysSums g a0 a1 a2 u0_1 u0_2 u0_3 u0_4 u0_5 u0_6 u0_7 u0_9 u0_10 u0_11 u0_12 u0_13 u0_14 u0_15 u0_16 u0_17 u0_18 u0_19 u0_20 u0_21 u0_22 u0_23 u0_24 u0_25 u0_26 u0_27 u0_28 u0_29 u0_30 y1_s y2_sums_6)) rfl rfl rfl rfl rfl rfl (by decide) (c_X9_away l g a0 a1 _ u0_1 u0_2 u0_3 u0_4 u0_5 u0_6 u0_7 (.ref a2) u0_9 u0_10 u0_11 u0_12 u0_13 u0_14 u0_15 u0_16 u0_17 u0_18 u0_19 u0_20 u0_21 u0_22 u0_23 u0_24 u0_25 u0_26 u0_27 u0_28 u0_29 u0_30 y1_s v2 v4 1 r102 hc) gX9_laysSums_X9_away rfl hv_X9_away ⟨nle rfl, nle rfl⟩ 9 0 rfl rfl rfl (rest := []) rfl rfl hl.1 (nle rfl) dX9_laysSums_102 (fun H locs hP hD hS => ?_)
                          refine lv_istore (pc := 105) hexec hb dX9_laysSums_105 hl (nle rfl) rfl (fun ls (hl : lv_has ls 6 [(5, .int r102), (0, .ref a0), (1, .int v1_3), (2, .int v2), (3, .int v3), (4, .int v4)]) => ?_)
                          refine lv_iload (pc := 107) hexec hb dX9_laysSums_107 (lv_at hl 0 rfl) ?_
                          refine lv_iconst (pc := 109) hexec hb dX9_laysSums_109 ki_m1 ?_
                          obtain ⟨j128, ej128, hf⟩ := bvf1 hf
                          have hj128 : ∀ (t128 : Int32) (H : Heap) (locs : List Loc) (ls : Array Slot), j128 t128 = some q91 → va_P g.1 vwCl (w_X9_laysSums g a0 a1 a2 u0_1 u0_2 u0_3 u0_4 u0_5 u0_6 u0_7 u0_9 u0_10 u0_11 u0_12 u0_13 u0_14 u0_15 u0_16 u0_17 u0_18 u0_19 u0_20 u0_21 u0_22 u0_23 u0_24 u0_25 u0_26 u0_27 u0_28 u0_29 u0_30 y1_s y2_sums_6) H → va_D A (w_X9_laysSums g a0 a1 a2 u0_1 u0_2 u0_3 u0_4 u0_5 u0_6 u0_7 u0_9 u0_10 u0_11 u0_12 u0_13 u0_14 u0_15 u0_16 u0_17 u0_18 u0_19 u0_20 u0_21 u0_22 u0_23 u0_24 u0_25 u0_26 u0_27 u0_28 u0_29 u0_30 y1_s y2_sums_6) → va_S A s.heap H locs → lv_has ls 6 [(0, .ref a0), (1, .int v1_3), (2, .int v2), (4, .int v4)] → W p l e (RM 7 164) s m args below meth c H locs 0 0 Q (F0 m 128 ls [.int t128]) := by
                            intro t128 H locs ls hf hP hD hS hl
                            have hf := (ej128 t128).symm.trans hf
                            refine lv_istore_n (pc := 128) hexec hb dX9_laysSums_128 rfl hl (nle rfl) rfl (fun ls (hl : lv_has ls 6 [(3, .int t128), (0, .ref a0), (1, .int v1_3), (2, .int v2), (4, .int v4)]) => ?_)
                            obtain ⟨v4_1, ev4_1, hf⟩ := bv_e hf
                            refine k_iinc (pc := 129) hexec hb dX9_laysSums_129 kq_1 hl (k := 4) rfl ev4_1 (nle rfl) rfl (fun ls (hl : lv_has ls 6 [(4, .int v4_1), (3, .int t128), (0, .ref a0), (1, .int v1_3), (2, .int v2)]) => ?_)
                            refine lv_goto (pc := 132) hexec hb dX9_laysSums_132 (tgt := 91) rfl ?_
                            exact ih91 _ _ _ _ _ (sl2 hf hk91) hP hD hS (lv_sub hl [2, 3, 4, 1, 0] rfl)
                          refine ki_ne (pc := 110) hexec hb dX9_laysSums_110 (tgt := 117) rfl hf (fun hc hf => ?_) (fun hc hf => ?_)
                          · refine lv_iload_n (pc := 117) hexec hb dX9_laysSums_117 rfl (lv_at hl 4 rfl) ?_
                            refine lv_aload_n (pc := 118) hexec hb dX9_laysSums_118 rfl (lv_at hl 1 rfl) ?_
                            refine kg_get (pc := 119) hexec hb (own := RX9) hWX9 hown hG hP 0 rfl rfl 8 (nle rfl) (hts _ (List.mem_cons_of_mem _ (List.mem_append_left _ (List.mem_append_left _ (List.mem_of_getElem? (i := 0) rfl))))) rfl rfl dX9_laysSums_119 ?_
                            refine lv_iload (pc := 122) hexec hb dX9_laysSums_122 (lv_at hl 0 rfl) ?_
                            refine kr_iald (pc := 124) hexec hb hG hP 2 rfl hf dX9_laysSums_124 (fun hf => ?_)
                            refine va_mmin (pc := 125) hexec hb (hml.trans hl.1.symm) (own := RX9) hown (hts _ (List.mem_cons_of_mem _ (List.mem_append_left _ (List.mem_append_left _ (List.mem_of_getElem? (i := 2) rfl))))) (hts _ (List.mem_cons_of_mem _ (List.mem_append_left _ (List.mem_append_left _ (List.mem_of_getElem? (i := 3) rfl))))) (hts _ (List.mem_cons_of_mem _ (List.mem_append_left _ (List.mem_append_left _ (List.mem_of_getElem? (i := 4) rfl))))) (hts _ (List.mem_cons_of_mem _ (List.mem_append_left _ (List.mem_append_left _ (List.mem_of_getElem? (i := 5) rfl))))) (nle rfl) (nle rfl) (nle rfl) (nle rfl) dX9_laysSums_125 ?_
                            exact hj128 _ _ _ _ hf hP hD hS (lv_sub hl [1, 2, 3, 5] rfl)
                          · refine lv_iload_n (pc := 113) hexec hb dX9_laysSums_113 rfl (lv_at hl 4 rfl) ?_
                            refine lv_goto (pc := 114) hexec hb dX9_laysSums_114 (tgt := 128) rfl ?_
                            exact hj128 _ _ _ _ hf hP hD hS (lv_sub hl [1, 2, 3, 5] rfl)
                    exact hL91 n _ _ _ _ _ hz hP hD hS (lv_sub hl [2, 3, 4, 1, 0] rfl)
                  · refine lv_goto (pc := 82) hexec hb dX9_laysSums_82 (tgt := 193) rfl ?_
                    exact hj193 _ _ _ _ _ hf hP hD hS (lv_sub hl [0, 1, 2] rfl)
          exact hL58 n _ _ _ _ _ _ hz hP hD hS (lv_sub hl [2, 1, 0] rfl)
    exact hL50 n _ _ _ _ _ hz hP hD hS (lv_sub hl [1, 0] rfl)
  obtain ⟨n, hz⟩ := lq2_e hz
  have hL2 : ∀ (n : Nat) (v1 : Int32) (y2_sums_1 : Nat → Int32) (H : Heap) (locs : List Loc) (ls : Array Slot), it2 l2 n v1 y2_sums_1 = some y2_sums_2 → va_P g.1 vwCl (w_X9_laysSums g a0 a1 a2 u0_1 u0_2 u0_3 u0_4 u0_5 u0_6 u0_7 u0_9 u0_10 u0_11 u0_12 u0_13 u0_14 u0_15 u0_16 u0_17 u0_18 u0_19 u0_20 u0_21 u0_22 u0_23 u0_24 u0_25 u0_26 u0_27 u0_28 u0_29 u0_30 y1_s y2_sums_1) H → va_D A (w_X9_laysSums g a0 a1 a2 u0_1 u0_2 u0_3 u0_4 u0_5 u0_6 u0_7 u0_9 u0_10 u0_11 u0_12 u0_13 u0_14 u0_15 u0_16 u0_17 u0_18 u0_19 u0_20 u0_21 u0_22 u0_23 u0_24 u0_25 u0_26 u0_27 u0_28 u0_29 u0_30 y1_s y2_sums_1) → va_S A s.heap H locs → lv_has ls 6 [(0, .ref a0), (1, .int v1)] → W p l e (RM 7 164) s m args below meth c H locs 0 0 Q (F0 m 2 ls []) := by
    intro n
    induction n with
    | zero =>
      intro v1 y2_sums_1 H locs ls hf hP hD hS hl
      exact it2_0 hf
    | succ n2 ih2 =>
      intro v1 y2_sums_1 H locs ls hf hP hD hS hl
      obtain ⟨q2, hf, hk2⟩ := it2_e hf
      have hf := (el2 v1 y2_sums_1).symm.trans hf
      refine lv_iload_n (pc := 2) hexec hb dX9_laysSums_2 rfl (lv_at hl 1 rfl) ?_
      refine lv_aload_n (pc := 3) hexec hb dX9_laysSums_3 rfl (lv_at hl 0 rfl) ?_
      obtain ⟨r4, hc, hf⟩ := bd1_e hf
      refine kVp (pc := 4) (S := ⟨hexec, hb, hml, hown, hts⟩) hP hD hG hA hS [0, 1] [2] [1, 2, 0] (w2 := (w_X9_laysSums g a0 a1 a2 u0_1 u0_2 u0_3 u0_4 u0_5 u0_6 u0_7 u0_9 u0_10 u0_11 u0_12 u0_13 u0_14 u0_15 u0_16 u0_17 u0_18 u0_19 u0_20 u0_21 u0_22 u0_23 u0_24 u0_25 u0_26 u0_27 u0_28 u0_29 u0_30 y1_s y2_sums_1)) rfl rfl rfl rfl rfl rfl (by decide) (c_X9_cells l g a0 a1 _ u0_1 u0_2 u0_3 u0_4 u0_5 u0_6 u0_7 (.ref a2) u0_9 u0_10 u0_11 u0_12 u0_13 u0_14 u0_15 u0_16 u0_17 u0_18 u0_19 u0_20 u0_21 u0_22 u0_23 u0_24 u0_25 u0_26 u0_27 u0_28 u0_29 u0_30 y1_s r4 hc) gX9_laysSums_X9_cells rfl hv_X9_cells ⟨nle rfl, nle rfl⟩ 9 0 rfl rfl rfl (rest := [.int v1]) rfl rfl hl.1 (nle rfl) dX9_laysSums_4 (fun H locs hP hD hS => ?_)
      refine ki_ge (pc := 7) hexec hb dX9_laysSums_7 (tgt := 48) rfl hf (fun hc hf => ?_) (fun hc hf => ?_)
      · cases sr2 hf hk2
        exact hE2 _ _ _ hP hD hS (lv_sub hl [0] rfl)
      · refine lv_aload_n (pc := 10) hexec hb dX9_laysSums_10 rfl (lv_at hl 0 rfl) ?_
        refine kg_get (pc := 11) hexec hb (own := RX9) hWX9 hown hG hP 0 rfl rfl 8 (nle rfl) (hts _ (List.mem_cons_of_mem _ (List.mem_append_left _ (List.mem_append_left _ (List.mem_of_getElem? (i := 0) rfl))))) rfl rfl dX9_laysSums_11 ?_
        refine lv_iload_n (pc := 14) hexec hb dX9_laysSums_14 rfl (lv_at hl 1 rfl) ?_
        refine lv_aload_n (pc := 15) hexec hb dX9_laysSums_15 rfl (lv_at hl 0 rfl) ?_
        refine lv_iload_n (pc := 16) hexec hb dX9_laysSums_16 rfl (lv_at hl 1 rfl) ?_
        obtain ⟨r17, hc, hf⟩ := bd1_e hf
        refine kVp (pc := 17) (S := ⟨hexec, hb, hml, hown, hts⟩) hP hD hG hA hS [0, 1] [2] [1, 2, 0] (w2 := (w_X9_laysSums g a0 a1 a2 u0_1 u0_2 u0_3 u0_4 u0_5 u0_6 u0_7 u0_9 u0_10 u0_11 u0_12 u0_13 u0_14 u0_15 u0_16 u0_17 u0_18 u0_19 u0_20 u0_21 u0_22 u0_23 u0_24 u0_25 u0_26 u0_27 u0_28 u0_29 u0_30 y1_s y2_sums_1)) rfl rfl rfl rfl rfl rfl (by decide) (c_X9_canBegin l g a0 a1 _ u0_1 u0_2 u0_3 u0_4 u0_5 u0_6 u0_7 (.ref a2) u0_9 u0_10 u0_11 u0_12 u0_13 u0_14 u0_15 u0_16 u0_17 u0_18 u0_19 u0_20 u0_21 u0_22 u0_23 u0_24 u0_25 u0_26 u0_27 u0_28 u0_29 u0_30 y1_s v1 r17 hc) gX9_laysSums_X9_canBegin rfl hv_X9_canBegin ⟨nle rfl, nle rfl⟩ 9 0 rfl rfl rfl (rest := [.int v1, .ref a2]) rfl rfl hl.1 (nle rfl) dX9_laysSums_17 (fun H locs hP hD hS => ?_)
        obtain ⟨j41, ej41, hf⟩ := bvf1 hf
        have hj41 : ∀ (t41 : Int32) (H : Heap) (locs : List Loc) (ls : Array Slot), j41 t41 = some q2 → va_P g.1 vwCl (w_X9_laysSums g a0 a1 a2 u0_1 u0_2 u0_3 u0_4 u0_5 u0_6 u0_7 u0_9 u0_10 u0_11 u0_12 u0_13 u0_14 u0_15 u0_16 u0_17 u0_18 u0_19 u0_20 u0_21 u0_22 u0_23 u0_24 u0_25 u0_26 u0_27 u0_28 u0_29 u0_30 y1_s y2_sums_1) H → va_D A (w_X9_laysSums g a0 a1 a2 u0_1 u0_2 u0_3 u0_4 u0_5 u0_6 u0_7 u0_9 u0_10 u0_11 u0_12 u0_13 u0_14 u0_15 u0_16 u0_17 u0_18 u0_19 u0_20 u0_21 u0_22 u0_23 u0_24 u0_25 u0_26 u0_27 u0_28 u0_29 u0_30 y1_s y2_sums_1) → va_S A s.heap H locs → lv_has ls 6 [(0, .ref a0), (1, .int v1)] → W p l e (RM 7 164) s m args below meth c H locs 0 0 Q (F0 m 41 ls [.int t41, .int v1, .ref a2]) := by
          intro t41 H locs ls hf hP hD hS hl
          have hf := (ej41 t41).symm.trans hf
          refine kw_iast (pc := 41) hexec hb hG hP hD hS 2 rfl hf dX9_laysSums_41 (fun y2_sums_3 H locs hf (hP : va_P g.1 vwCl (w_X9_laysSums g a0 a1 a2 u0_1 u0_2 u0_3 u0_4 u0_5 u0_6 u0_7 u0_9 u0_10 u0_11 u0_12 u0_13 u0_14 u0_15 u0_16 u0_17 u0_18 u0_19 u0_20 u0_21 u0_22 u0_23 u0_24 u0_25 u0_26 u0_27 u0_28 u0_29 u0_30 y1_s y2_sums_3) H) (hD : va_D A (w_X9_laysSums g a0 a1 a2 u0_1 u0_2 u0_3 u0_4 u0_5 u0_6 u0_7 u0_9 u0_10 u0_11 u0_12 u0_13 u0_14 u0_15 u0_16 u0_17 u0_18 u0_19 u0_20 u0_21 u0_22 u0_23 u0_24 u0_25 u0_26 u0_27 u0_28 u0_29 u0_30 y1_s y2_sums_3)) hS => ?_)
          obtain ⟨v1_1, ev1_1, hf⟩ := bv_e hf
          refine k_iinc (pc := 42) hexec hb dX9_laysSums_42 kq_1 hl (k := 1) rfl ev1_1 (nle rfl) rfl (fun ls (hl : lv_has ls 6 [(1, .int v1_1), (0, .ref a0)]) => ?_)
          refine lv_goto (pc := 45) hexec hb dX9_laysSums_45 (tgt := 2) rfl ?_
          exact ih2 _ _ _ _ _ (sl2 hf hk2) hP hD hS (lv_sub hl [1, 0] rfl)
        obtain ⟨j39, ej39, hf⟩ := bvf1 hf
        have hj39 : ∀ (u : Unit) (H : Heap) (locs : List Loc) (ls : Array Slot), j39 u = some q2 → va_P g.1 vwCl (w_X9_laysSums g a0 a1 a2 u0_1 u0_2 u0_3 u0_4 u0_5 u0_6 u0_7 u0_9 u0_10 u0_11 u0_12 u0_13 u0_14 u0_15 u0_16 u0_17 u0_18 u0_19 u0_20 u0_21 u0_22 u0_23 u0_24 u0_25 u0_26 u0_27 u0_28 u0_29 u0_30 y1_s y2_sums_1) H → va_D A (w_X9_laysSums g a0 a1 a2 u0_1 u0_2 u0_3 u0_4 u0_5 u0_6 u0_7 u0_9 u0_10 u0_11 u0_12 u0_13 u0_14 u0_15 u0_16 u0_17 u0_18 u0_19 u0_20 u0_21 u0_22 u0_23 u0_24 u0_25 u0_26 u0_27 u0_28 u0_29 u0_30 y1_s y2_sums_1) → va_S A s.heap H locs → lv_has ls 6 [(0, .ref a0), (1, .int v1)] → W p l e (RM 7 164) s m args below meth c H locs 0 0 Q (F0 m 39 ls [.int v1, .ref a2]) := by
          intro u H locs ls hf hP hD hS hl
          have hf := (ej39 u).symm.trans hf
          refine lv_ldc (pc := 39) hexec hb (own := RX9) hown (hts _ (List.mem_cons_of_mem _ (List.mem_append_left _ (List.mem_append_left _ (List.mem_of_getElem? (i := 1) rfl))))) dX9_laysSums_39 ?_
          exact hj41 _ _ _ _ hf hP hD hS (lv_sub hl [0, 1] rfl)
        refine kb_eq (pc := 20) hexec hb dX9_laysSums_20 (tgt := 39) rfl hf (fun hc hf => ?_) (fun hc hf => ?_)
        · exact hj39 _ _ _ _ hf hP hD hS (lv_sub hl [0, 1] rfl)
        · refine lv_aload_n (pc := 23) hexec hb dX9_laysSums_23 rfl (lv_at hl 0 rfl) ?_
          refine lv_iload_n (pc := 24) hexec hb dX9_laysSums_24 rfl (lv_at hl 1 rfl) ?_
          obtain ⟨r25, hc, hf⟩ := bd1_e hf
          refine kVp (pc := 25) (S := ⟨hexec, hb, hml, hown, hts⟩) hP hD hG hA hS [0, 1] [2] [1, 2, 0] (w2 := (w_X9_laysSums g a0 a1 a2 u0_1 u0_2 u0_3 u0_4 u0_5 u0_6 u0_7 u0_9 u0_10 u0_11 u0_12 u0_13 u0_14 u0_15 u0_16 u0_17 u0_18 u0_19 u0_20 u0_21 u0_22 u0_23 u0_24 u0_25 u0_26 u0_27 u0_28 u0_29 u0_30 y1_s y2_sums_1)) rfl rfl rfl rfl rfl rfl (by decide) (c_X9_isEnd l g a0 a1 _ u0_1 u0_2 u0_3 u0_4 u0_5 u0_6 u0_7 (.ref a2) u0_9 u0_10 u0_11 u0_12 u0_13 u0_14 u0_15 u0_16 u0_17 u0_18 u0_19 u0_20 u0_21 u0_22 u0_23 u0_24 u0_25 u0_26 u0_27 u0_28 u0_29 u0_30 y1_s v1 r25 hc) gX9_laysSums_X9_isEnd rfl hv_X9_isEnd ⟨nle rfl, nle rfl⟩ 9 0 rfl rfl rfl (rest := [.int v1, .ref a2]) rfl rfl hl.1 (nle rfl) dX9_laysSums_25 (fun H locs hP hD hS => ?_)
          refine kb_eq (pc := 28) hexec hb dX9_laysSums_28 (tgt := 39) rfl hf (fun hc hf => ?_) (fun hc hf => ?_)
          · exact hj39 _ _ _ _ hf hP hD hS (lv_sub hl [0, 1] rfl)
          · refine lv_aload_n (pc := 31) hexec hb dX9_laysSums_31 rfl (lv_at hl 0 rfl) ?_
            refine lv_iload_n (pc := 32) hexec hb dX9_laysSums_32 rfl (lv_at hl 1 rfl) ?_
            obtain ⟨r33, hc, hf⟩ := bd1_e hf
            refine kVp (pc := 33) (S := ⟨hexec, hb, hml, hown, hts⟩) hP hD hG hA hS [0, 1] [2] [1, 2, 0] (w2 := (w_X9_laysSums g a0 a1 a2 u0_1 u0_2 u0_3 u0_4 u0_5 u0_6 u0_7 u0_9 u0_10 u0_11 u0_12 u0_13 u0_14 u0_15 u0_16 u0_17 u0_18 u0_19 u0_20 u0_21 u0_22 u0_23 u0_24 u0_25 u0_26 u0_27 u0_28 u0_29 u0_30 y1_s y2_sums_1)) rfl rfl rfl rfl rfl rfl (by decide) (c_X9_costOf l g a0 a1 _ u0_1 u0_2 u0_3 u0_4 u0_5 u0_6 u0_7 (.ref a2) u0_9 u0_10 u0_11 u0_12 u0_13 u0_14 u0_15 u0_16 u0_17 u0_18 u0_19 u0_20 u0_21 u0_22 u0_23 u0_24 u0_25 u0_26 u0_27 u0_28 u0_29 u0_30 y1_s v1 r33 hc) gX9_laysSums_X9_costOf rfl hv_X9_costOf ⟨nle rfl, nle rfl⟩ 9 0 rfl rfl rfl (rest := [.int v1, .ref a2]) rfl rfl hl.1 (nle rfl) dX9_laysSums_33 (fun H locs hP hD hS => ?_)
            refine lv_goto (pc := 36) hexec hb dX9_laysSums_36 (tgt := 41) rfl ?_
            exact hj41 _ _ _ _ hf hP hD hS (lv_sub hl [0, 1] rfl)
  exact hL2 n _ _ _ _ _ hz hP hD hS (lv_sub hl [1, 0] rfl)
