abbrev w_X5_namedHarbour (g : GE) (a0 a1 a2 a3 a4 a5 : Nat) (u0_1 u0_4 u0_5 u0_8 u0_9 u0_10 u0_11 u0_12 u0_13 u1_0 u1_2 u1_3 u1_4 u3_1 u3_2 u3_3 : Value) (x0_length : Int32) (x0_wordStart : Int32) (x0_wordLength : Int32) (y2_text : Nat → Int32) (x3_count : Int32) (y4_length : Nat → Int32) (y5_letters : Nat → Int32) : va_W := [(a0, .inr (5, [.ref a1, u0_1, .ref a2, .int x0_length, u0_4, u0_5, .int x0_wordStart, .int x0_wordLength, u0_8, u0_9, u0_10, u0_11, u0_12, u0_13])), (a1, .inr (6, [u1_0, .ref a3, u1_2, u1_3, u1_4])), (a2, .inl (g.2.1 0, 500, .inl y2_text)), (a3, .inr (2, [.int x3_count, u3_1, u3_2, u3_3, .ref a4, .ref a5])), (a4, .inl (g.2.1 0, 8, .inl y4_length)), (a5, .inl (g.2.1 0, 64, .inl y5_letters))]
set_option maxRecDepth 20000 in
theorem c_X5_namedHarbour (l : Launch) (g : GE) (a0 a1 a2 a3 a4 a5 : Nat) (sz : Nat) (u0_1 u0_4 u0_5 u0_8 u0_9 u0_10 u0_11 u0_12 u0_13 u1_0 u1_2 u1_3 u1_4 u3_1 u3_2 u3_3 : Value) (x0_length : Int32) (x0_wordStart : Int32) (x0_wordLength : Int32) (y2_text : Nat → Int32) (x3_count : Int32) (y4_length : Nat → Int32) (y5_letters : Nat → Int32)   (r : Int32) (hf : f_X5_namedHarbour x0_length x0_wordStart x0_wordLength y2_text x3_count y4_length y5_letters = some r) : MI l g yX5_namedHarbour wsX5_namedHarbour 3 68 [.ref a0] (w_X5_namedHarbour g a0 a1 a2 a3 a4 a5 u0_1 u0_4 u0_5 u0_8 u0_9 u0_10 u0_11 u0_12 u0_13 u1_0 u1_2 u1_3 u1_4 u3_1 u3_2 u3_3 x0_length x0_wordStart x0_wordLength y2_text x3_count y4_length y5_letters) sz (some (.int r)) (w_X5_namedHarbour g a0 a1 a2 a3 a4 a5 u0_1 u0_4 u0_5 u0_8 u0_9 u0_10 u0_11 u0_12 u0_13 u1_0 u1_2 u1_3 u1_4 u3_1 u3_2 u3_3 x0_length x0_wordStart x0_wordLength y2_text x3_count y4_length y5_letters) := by
  refine MI.start (cc := cX5_namedHarbour) (maxL := 4) (ret := (some .int)) rfl rfl (nle rfl) ?_
  intro p e s m args below meth c A ls Q hQ hexec hb hr hts hown hlocks hml hA hP hD hG hS hl
  unfold f_X5_namedHarbour at hf
  have hWX2 : ∀ w ∈ wsX20, w.before args s = true := fun w h => hts w (List.mem_cons_of_mem _ (List.mem_append_right _ h))
  have hWX5 : ∀ w ∈ wsX50, w.before args s = true := fun w h => hts w (List.mem_cons_of_mem _ (List.mem_append_left _ (List.mem_append_left _ (List.mem_append_right _ h))))
  have hWX6 : ∀ w ∈ wsX60, w.before args s = true := fun w h => hts w (List.mem_cons_of_mem _ (List.mem_append_left _ (List.mem_append_right _ h)))
  have hS : va_S A s.heap s.heap [] := hS
  refine lv_iconst (pc := 0) hexec hb dX5_namedHarbour_0 ki_0 ?_
  refine lv_istore_n (pc := 1) hexec hb dX5_namedHarbour_1 rfl hl (nle rfl) rfl (fun ls (hl : lv_has ls 4 [(1, .int 0), (0, .ref a0)]) => ?_)
  obtain ⟨l2, el2, hf⟩ := bvf1 hf
  obtain ⟨n, hz⟩ := lq1_e hf
  have hL2 : ∀ (n : Nat) (v1 : Int32) (H : Heap) (locs : List Loc) (ls : Array Slot), it1 l2 n v1 = some r → va_P g.1 vwCl (w_X5_namedHarbour g a0 a1 a2 a3 a4 a5 u0_1 u0_4 u0_5 u0_8 u0_9 u0_10 u0_11 u0_12 u0_13 u1_0 u1_2 u1_3 u1_4 u3_1 u3_2 u3_3 x0_length x0_wordStart x0_wordLength y2_text x3_count y4_length y5_letters) H → va_D A (w_X5_namedHarbour g a0 a1 a2 a3 a4 a5 u0_1 u0_4 u0_5 u0_8 u0_9 u0_10 u0_11 u0_12 u0_13 u1_0 u1_2 u1_3 u1_4 u3_1 u3_2 u3_3 x0_length x0_wordStart x0_wordLength y2_text x3_count y4_length y5_letters) → va_S A s.heap H locs → lv_has ls 4 [(0, .ref a0), (1, .int v1)] → W p l e (RM 3 68) s m args below meth c H locs 0 0 Q (F0 m 2 ls []) := by
    intro n
    induction n with
    | zero =>
      intro v1 H locs ls hf hP hD hS hl
      exact it1_0 hf
    | succ n2 ih2 =>
      intro v1 H locs ls hf hP hD hS hl
      obtain ⟨q2, hf, hk2⟩ := it1_e hf
      have hf := (el2 v1).symm.trans hf
      refine lv_iload_n (pc := 2) hexec hb dX5_namedHarbour_2 rfl (lv_at hl 1 rfl) ?_
      refine lv_aload_n (pc := 3) hexec hb dX5_namedHarbour_3 rfl (lv_at hl 0 rfl) ?_
      refine kg_get (pc := 4) hexec hb (own := RX5) hWX5 hown hG hP 0 rfl rfl 0 (nle rfl) (hts _ (List.mem_cons_of_mem _ (List.mem_append_left _ (List.mem_append_left _ (List.mem_append_left _ (List.mem_of_getElem? (i := 0) rfl)))))) rfl rfl dX5_namedHarbour_4 ?_
      refine kg_getN (pc := 7) hexec hb (own := RX5) hWX6 hown hG hP 1 rfl rfl 1 (nle rfl) 26 rfl rfl rfl dX5_namedHarbour_7 ?_
      refine kg_getN (pc := 10) hexec hb (own := RX5) hWX2 hown hG hP 3 rfl rfl 0 (nle rfl) 9 rfl rfl rfl dX5_namedHarbour_10 ?_
      refine ki_ge (pc := 13) hexec hb dX5_namedHarbour_13 (tgt := 103) rfl hf (fun hc hf => ?_) (fun hc hf => ?_)
      · have hf := mk1 hf hk2
        refine lv_iconst (pc := 103) hexec hb dX5_namedHarbour_103 ki_m1 ?_
        cases hf
        exact ke_i hQ hexec hb hr hP hD hS dX5_namedHarbour_104 hlocks
      · refine lv_aload_n (pc := 16) hexec hb dX5_namedHarbour_16 rfl (lv_at hl 0 rfl) ?_
        refine kg_get (pc := 17) hexec hb (own := RX5) hWX5 hown hG hP 0 rfl rfl 0 (nle rfl) (hts _ (List.mem_cons_of_mem _ (List.mem_append_left _ (List.mem_append_left _ (List.mem_append_left _ (List.mem_of_getElem? (i := 0) rfl)))))) rfl rfl dX5_namedHarbour_17 ?_
        refine kg_getN (pc := 20) hexec hb (own := RX5) hWX6 hown hG hP 1 rfl rfl 1 (nle rfl) 26 rfl rfl rfl dX5_namedHarbour_20 ?_
        refine lv_iload_n (pc := 23) hexec hb dX5_namedHarbour_23 rfl (lv_at hl 1 rfl) ?_
        obtain ⟨r24, hc, hf⟩ := bd1_e hf
        refine kVp (pc := 24) (S := ⟨hexec, hb, hml, hown, hts⟩) hP hD hG hA hS [3, 4] [0, 1, 2, 5] [0, 1, 2, 4, 5, 3] (w2 := (w_X5_namedHarbour g a0 a1 a2 a3 a4 a5 u0_1 u0_4 u0_5 u0_8 u0_9 u0_10 u0_11 u0_12 u0_13 u1_0 u1_2 u1_3 u1_4 u3_1 u3_2 u3_3 x0_length x0_wordStart x0_wordLength y2_text x3_count y4_length y5_letters)) rfl rfl rfl rfl rfl rfl (by decide) (c_X2_lengthOf l g a3 a4 _ u3_1 u3_2 u3_3 (.ref a5) x3_count y4_length v1 r24 hc) gX5_namedHarbour_X2_lengthOf rfl hv_X2_lengthOf ⟨nle rfl, nle rfl⟩ 2 0 rfl rfl rfl (rest := []) rfl rfl hl.1 (nle rfl) dX5_namedHarbour_24 (fun H locs hP hD hS => ?_)
        refine lv_aload_n (pc := 27) hexec hb dX5_namedHarbour_27 rfl (lv_at hl 0 rfl) ?_
        refine kg_get (pc := 28) hexec hb (own := RX5) hWX5 hown hG hP 0 rfl rfl 7 (nle rfl) (hts _ (List.mem_cons_of_mem _ (List.mem_append_left _ (List.mem_append_left _ (List.mem_append_left _ (List.mem_of_getElem? (i := 1) rfl)))))) rfl rfl dX5_namedHarbour_28 ?_
        obtain ⟨j39, ej39, hf⟩ := bvf1 hf
        have hj39 : ∀ (t39 : Int32) (H : Heap) (locs : List Loc) (ls : Array Slot), j39 t39 = some q2 → va_P g.1 vwCl (w_X5_namedHarbour g a0 a1 a2 a3 a4 a5 u0_1 u0_4 u0_5 u0_8 u0_9 u0_10 u0_11 u0_12 u0_13 u1_0 u1_2 u1_3 u1_4 u3_1 u3_2 u3_3 x0_length x0_wordStart x0_wordLength y2_text x3_count y4_length y5_letters) H → va_D A (w_X5_namedHarbour g a0 a1 a2 a3 a4 a5 u0_1 u0_4 u0_5 u0_8 u0_9 u0_10 u0_11 u0_12 u0_13 u1_0 u1_2 u1_3 u1_4 u3_1 u3_2 u3_3 x0_length x0_wordStart x0_wordLength y2_text x3_count y4_length y5_letters) → va_S A s.heap H locs → lv_has ls 4 [(0, .ref a0), (1, .int v1)] → W p l e (RM 3 68) s m args below meth c H locs 0 0 Q (F0 m 39 ls [.int t39]) := by
          intro t39 H locs ls hf hP hD hS hl
          have hf := (ej39 t39).symm.trans hf
          refine lv_istore_n (pc := 39) hexec hb dX5_namedHarbour_39 rfl hl (nle rfl) rfl (fun ls (hl : lv_has ls 4 [(2, .int t39), (0, .ref a0), (1, .int v1)]) => ?_)
          refine lv_iconst (pc := 40) hexec hb dX5_namedHarbour_40 ki_0 ?_
          refine lv_istore_n (pc := 41) hexec hb dX5_namedHarbour_41 rfl hl (nle rfl) rfl (fun ls (hl : lv_has ls 4 [(3, .int 0), (2, .int t39), (0, .ref a0), (1, .int v1)]) => ?_)
          obtain ⟨l42, el42, hf⟩ := bvf2 hf
          obtain ⟨v2_1, hz, hf⟩ := bd1_e hf
          have hE42 : ∀ (H : Heap) (locs : List Loc) (ls : Array Slot), va_P g.1 vwCl (w_X5_namedHarbour g a0 a1 a2 a3 a4 a5 u0_1 u0_4 u0_5 u0_8 u0_9 u0_10 u0_11 u0_12 u0_13 u1_0 u1_2 u1_3 u1_4 u3_1 u3_2 u3_3 x0_length x0_wordStart x0_wordLength y2_text x3_count y4_length y5_letters) H → va_D A (w_X5_namedHarbour g a0 a1 a2 a3 a4 a5 u0_1 u0_4 u0_5 u0_8 u0_9 u0_10 u0_11 u0_12 u0_13 u1_0 u1_2 u1_3 u1_4 u3_1 u3_2 u3_3 x0_length x0_wordStart x0_wordLength y2_text x3_count y4_length y5_letters) → va_S A s.heap H locs → lv_has ls 4 [(0, .ref a0), (1, .int v1), (2, .int v2_1)] → W p l e (RM 3 68) s m args below meth c H locs 0 0 Q (F0 m 91 ls []) := by
            intro H locs ls hP hD hS hl
            refine lv_iload_n (pc := 91) hexec hb dX5_namedHarbour_91 rfl (lv_at hl 2 rfl) ?_
            refine kb_eq (pc := 92) hexec hb dX5_namedHarbour_92 (tgt := 97) rfl hf (fun hc hf => ?_) (fun hc hf => ?_)
            · obtain ⟨v1_1, ev1_1, hf⟩ := bv_e hf
              refine k_iinc (pc := 97) hexec hb dX5_namedHarbour_97 kq_1 hl (k := 1) rfl ev1_1 (nle rfl) rfl (fun ls (hl : lv_has ls 4 [(1, .int v1_1), (0, .ref a0), (2, .int v2_1)]) => ?_)
              refine lv_goto (pc := 100) hexec hb dX5_namedHarbour_100 (tgt := 2) rfl ?_
              exact ih2 _ _ _ _ (sl1 hf hk2) hP hD hS (lv_sub hl [1, 0] rfl)
            · have hf := mk1 hf hk2
              refine lv_iload_n (pc := 95) hexec hb dX5_namedHarbour_95 rfl (lv_at hl 1 rfl) ?_
              cases hf
              exact ke_i hQ hexec hb hr hP hD hS dX5_namedHarbour_96 hlocks
          obtain ⟨n, hz⟩ := lq2_e hz
          have hL42 : ∀ (n : Nat) (v2 : Int32) (v3 : Int32) (H : Heap) (locs : List Loc) (ls : Array Slot), it2 l42 n v2 v3 = some v2_1 → va_P g.1 vwCl (w_X5_namedHarbour g a0 a1 a2 a3 a4 a5 u0_1 u0_4 u0_5 u0_8 u0_9 u0_10 u0_11 u0_12 u0_13 u1_0 u1_2 u1_3 u1_4 u3_1 u3_2 u3_3 x0_length x0_wordStart x0_wordLength y2_text x3_count y4_length y5_letters) H → va_D A (w_X5_namedHarbour g a0 a1 a2 a3 a4 a5 u0_1 u0_4 u0_5 u0_8 u0_9 u0_10 u0_11 u0_12 u0_13 u1_0 u1_2 u1_3 u1_4 u3_1 u3_2 u3_3 x0_length x0_wordStart x0_wordLength y2_text x3_count y4_length y5_letters) → va_S A s.heap H locs → lv_has ls 4 [(0, .ref a0), (1, .int v1), (2, .int v2), (3, .int v3)] → W p l e (RM 3 68) s m args below meth c H locs 0 0 Q (F0 m 42 ls []) := by
            intro n
            induction n with
            | zero =>
              intro v2 v3 H locs ls hf hP hD hS hl
              exact it2_0 hf
            | succ n42 ih42 =>
              intro v2 v3 H locs ls hf hP hD hS hl
              obtain ⟨q42, hf, hk42⟩ := it2_e hf
              have hf := (el42 v2 v3).symm.trans hf
              refine lv_iload_n (pc := 42) hexec hb dX5_namedHarbour_42 rfl (lv_at hl 3 rfl) ?_
              refine lv_aload_n (pc := 43) hexec hb dX5_namedHarbour_43 rfl (lv_at hl 0 rfl) ?_
              refine kg_get (pc := 44) hexec hb (own := RX5) hWX5 hown hG hP 0 rfl rfl 7 (nle rfl) (hts _ (List.mem_cons_of_mem _ (List.mem_append_left _ (List.mem_append_left _ (List.mem_append_left _ (List.mem_of_getElem? (i := 1) rfl)))))) rfl rfl dX5_namedHarbour_44 ?_
              refine ki_ge (pc := 47) hexec hb dX5_namedHarbour_47 (tgt := 91) rfl hf (fun hc hf => ?_) (fun hc hf => ?_)
              · cases sr2 hf hk42
                exact hE42 _ _ _ hP hD hS (lv_sub hl [0, 1, 2] rfl)
              · refine lv_iload_n (pc := 50) hexec hb dX5_namedHarbour_50 rfl (lv_at hl 2 rfl) ?_
                refine kb_eq (pc := 51) hexec hb dX5_namedHarbour_51 (tgt := 91) rfl hf (fun hc hf => ?_) (fun hc hf => ?_)
                · cases sr2 hf hk42
                  exact hE42 _ _ _ hP hD hS (lv_sub hl [0, 1, 2] rfl)
                · refine lv_aload_n (pc := 54) hexec hb dX5_namedHarbour_54 rfl (lv_at hl 0 rfl) ?_
                  refine kg_get (pc := 55) hexec hb (own := RX5) hWX5 hown hG hP 0 rfl rfl 0 (nle rfl) (hts _ (List.mem_cons_of_mem _ (List.mem_append_left _ (List.mem_append_left _ (List.mem_append_left _ (List.mem_of_getElem? (i := 0) rfl)))))) rfl rfl dX5_namedHarbour_55 ?_
                  refine kg_getN (pc := 58) hexec hb (own := RX5) hWX6 hown hG hP 1 rfl rfl 1 (nle rfl) 26 rfl rfl rfl dX5_namedHarbour_58 ?_
                  refine lv_iload_n (pc := 61) hexec hb dX5_namedHarbour_61 rfl (lv_at hl 1 rfl) ?_
                  refine lv_iload_n (pc := 62) hexec hb dX5_namedHarbour_62 rfl (lv_at hl 3 rfl) ?_
                  obtain ⟨r63, hc, hf⟩ := bd1_e hf
                  refine kVp (pc := 63) (S := ⟨hexec, hb, hml, hown, hts⟩) hP hD hG hA hS [3, 4, 5] [0, 1, 2] [0, 1, 2, 3, 4, 5] (w2 := (w_X5_namedHarbour g a0 a1 a2 a3 a4 a5 u0_1 u0_4 u0_5 u0_8 u0_9 u0_10 u0_11 u0_12 u0_13 u1_0 u1_2 u1_3 u1_4 u3_1 u3_2 u3_3 x0_length x0_wordStart x0_wordLength y2_text x3_count y4_length y5_letters)) rfl rfl rfl rfl rfl rfl (by decide) (c_X2_letterOf l g a3 a4 a5 _ u3_1 u3_2 u3_3 x3_count y4_length y5_letters v1 v3 r63 hc) gX5_namedHarbour_X2_letterOf rfl hv_X2_letterOf ⟨nle rfl, nle rfl⟩ 2 0 rfl rfl rfl (rest := []) rfl rfl hl.1 (nle rfl) dX5_namedHarbour_63 (fun H locs hP hD hS => ?_)
                  refine lv_aload_n (pc := 66) hexec hb dX5_namedHarbour_66 rfl (lv_at hl 0 rfl) ?_
                  refine lv_aload_n (pc := 67) hexec hb dX5_namedHarbour_67 rfl (lv_at hl 0 rfl) ?_
                  refine kg_get (pc := 68) hexec hb (own := RX5) hWX5 hown hG hP 0 rfl rfl 6 (nle rfl) (hts _ (List.mem_cons_of_mem _ (List.mem_append_left _ (List.mem_append_left _ (List.mem_append_left _ (List.mem_of_getElem? (i := 2) rfl)))))) rfl rfl dX5_namedHarbour_68 ?_
                  refine lv_iload_n (pc := 71) hexec hb dX5_namedHarbour_71 rfl (lv_at hl 3 rfl) ?_
                  refine lv_iadd (pc := 72) hexec hb dX5_namedHarbour_72 ?_
                  obtain ⟨r73, hc, hf⟩ := bd1_e hf
                  refine kVp (pc := 73) (S := ⟨hexec, hb, hml, hown, hts⟩) hP hD hG hA hS [0, 2] [1, 3, 4, 5] [4, 0, 5, 1, 2, 3] (w2 := (w_X5_namedHarbour g a0 a1 a2 a3 a4 a5 u0_1 u0_4 u0_5 u0_8 u0_9 u0_10 u0_11 u0_12 u0_13 u1_0 u1_2 u1_3 u1_4 u3_1 u3_2 u3_3 x0_length x0_wordStart x0_wordLength y2_text x3_count y4_length y5_letters)) rfl rfl rfl rfl rfl rfl (by decide) (c_X5_signAt l g a0 a2 _ (.ref a1) u0_1 u0_4 u0_5 (.int x0_wordStart) (.int x0_wordLength) u0_8 u0_9 u0_10 u0_11 u0_12 u0_13 x0_length y2_text (x0_wordStart + v3) r73 hc) gX5_namedHarbour_X5_signAt rfl hv_X5_signAt ⟨nle rfl, nle rfl⟩ 5 0 rfl rfl rfl (rest := [.int r63]) rfl rfl hl.1 (nle rfl) dX5_namedHarbour_73 (fun H locs hP hD hS => ?_)
                  obtain ⟨j84, ej84, hf⟩ := bvf1 hf
                  have hj84 : ∀ (t84 : Int32) (H : Heap) (locs : List Loc) (ls : Array Slot), j84 t84 = some q42 → va_P g.1 vwCl (w_X5_namedHarbour g a0 a1 a2 a3 a4 a5 u0_1 u0_4 u0_5 u0_8 u0_9 u0_10 u0_11 u0_12 u0_13 u1_0 u1_2 u1_3 u1_4 u3_1 u3_2 u3_3 x0_length x0_wordStart x0_wordLength y2_text x3_count y4_length y5_letters) H → va_D A (w_X5_namedHarbour g a0 a1 a2 a3 a4 a5 u0_1 u0_4 u0_5 u0_8 u0_9 u0_10 u0_11 u0_12 u0_13 u1_0 u1_2 u1_3 u1_4 u3_1 u3_2 u3_3 x0_length x0_wordStart x0_wordLength y2_text x3_count y4_length y5_letters) → va_S A s.heap H locs → lv_has ls 4 [(0, .ref a0), (1, .int v1), (3, .int v3)] → W p l e (RM 3 68) s m args below meth c H locs 0 0 Q (F0 m 84 ls [.int t84]) := by
                    intro t84 H locs ls hf hP hD hS hl
                    have hf := (ej84 t84).symm.trans hf
                    refine lv_istore_n (pc := 84) hexec hb dX5_namedHarbour_84 rfl hl (nle rfl) rfl (fun ls (hl : lv_has ls 4 [(2, .int t84), (0, .ref a0), (1, .int v1), (3, .int v3)]) => ?_)
                    obtain ⟨v3_1, ev3_1, hf⟩ := bv_e hf
                    refine k_iinc (pc := 85) hexec hb dX5_namedHarbour_85 kq_1 hl (k := 3) rfl ev3_1 (nle rfl) rfl (fun ls (hl : lv_has ls 4 [(3, .int v3_1), (2, .int t84), (0, .ref a0), (1, .int v1)]) => ?_)
                    refine lv_goto (pc := 88) hexec hb dX5_namedHarbour_88 (tgt := 42) rfl ?_
                    exact ih42 _ _ _ _ _ (sl2 hf hk42) hP hD hS (lv_sub hl [2, 3, 1, 0] rfl)
                  refine ki_ne (pc := 76) hexec hb dX5_namedHarbour_76 (tgt := 83) rfl hf (fun hc hf => ?_) (fun hc hf => ?_)
                  · refine lv_iconst (pc := 83) hexec hb dX5_namedHarbour_83 ki_0 ?_
                    exact hj84 _ _ _ _ hf hP hD hS (lv_sub hl [0, 1, 3] rfl)
                  · refine lv_iconst (pc := 79) hexec hb dX5_namedHarbour_79 ki_1 ?_
                    refine lv_goto (pc := 80) hexec hb dX5_namedHarbour_80 (tgt := 84) rfl ?_
                    exact hj84 _ _ _ _ hf hP hD hS (lv_sub hl [0, 1, 3] rfl)
          exact hL42 n _ _ _ _ _ hz hP hD hS (lv_sub hl [2, 3, 1, 0] rfl)
        refine ki_ne (pc := 31) hexec hb dX5_namedHarbour_31 (tgt := 38) rfl hf (fun hc hf => ?_) (fun hc hf => ?_)
        · refine lv_iconst (pc := 38) hexec hb dX5_namedHarbour_38 ki_0 ?_
          exact hj39 _ _ _ _ hf hP hD hS (lv_sub hl [0, 1] rfl)
        · refine lv_iconst (pc := 34) hexec hb dX5_namedHarbour_34 ki_1 ?_
          refine lv_goto (pc := 35) hexec hb dX5_namedHarbour_35 (tgt := 39) rfl ?_
          exact hj39 _ _ _ _ hf hP hD hS (lv_sub hl [0, 1] rfl)
  exact hL2 n _ _ _ _ hz hP hD hS (lv_sub hl [1, 0] rfl)
abbrev w_X5_readRed (g : GE) (a0 a1 a2 a3 : Nat) (u0_1 u0_5 u0_8 u0_9 u0_10 u0_11 u1_0 u1_2 u1_3 u1_4 u3_0 u3_2 u3_3 u3_4 u3_5 : Value) (x0_length : Int32) (x0_at : Int32) (x0_wordStart : Int32) (x0_wordLength : Int32) (x0_error : Int32) (x0_errorAt : Int32) (y2_text : Nat → Int32) (x3_reds : Int32) : va_W := [(a0, .inr (5, [.ref a1, u0_1, .ref a2, .int x0_length, .int x0_at, u0_5, .int x0_wordStart, .int x0_wordLength, u0_8, u0_9, u0_10, u0_11, .int x0_error, .int x0_errorAt])), (a1, .inr (6, [u1_0, .ref a3, u1_2, u1_3, u1_4])), (a2, .inl (g.2.1 0, 500, .inl y2_text)), (a3, .inr (2, [u3_0, .int x3_reds, u3_2, u3_3, u3_4, u3_5]))]
set_option maxRecDepth 20000 in
theorem c_X5_readRed (l : Launch) (g : GE) (a0 a1 a2 a3 : Nat) (sz : Nat) (u0_1 u0_5 u0_8 u0_9 u0_10 u0_11 u1_0 u1_2 u1_3 u1_4 u3_0 u3_2 u3_3 u3_4 u3_5 : Value) (x0_length : Int32) (x0_at : Int32) (x0_wordStart : Int32) (x0_wordLength : Int32) (x0_error : Int32) (x0_errorAt : Int32) (y2_text : Nat → Int32) (x3_reds : Int32) (p1 : Int32)  (r : Int32) (o_x0_at : Int32) (o_x0_wordStart : Int32) (o_x0_wordLength : Int32) (o_x0_error : Int32) (o_x0_errorAt : Int32) (o_x3_reds : Int32) (hf : f_X5_readRed x0_length x0_at x0_wordStart x0_wordLength x0_error x0_errorAt y2_text x3_reds p1 = some (r, o_x0_at, o_x0_wordStart, o_x0_wordLength, o_x0_error, o_x0_errorAt, o_x3_reds)) : MI l g yX5_readRed wsX5_readRed 6 133 [.ref a0, .int p1] (w_X5_readRed g a0 a1 a2 a3 u0_1 u0_5 u0_8 u0_9 u0_10 u0_11 u1_0 u1_2 u1_3 u1_4 u3_0 u3_2 u3_3 u3_4 u3_5 x0_length x0_at x0_wordStart x0_wordLength x0_error x0_errorAt y2_text x3_reds) sz (some (.int r)) (w_X5_readRed g a0 a1 a2 a3 u0_1 u0_5 u0_8 u0_9 u0_10 u0_11 u1_0 u1_2 u1_3 u1_4 u3_0 u3_2 u3_3 u3_4 u3_5 x0_length o_x0_at o_x0_wordStart o_x0_wordLength o_x0_error o_x0_errorAt y2_text o_x3_reds) := by
  refine MI.start (cc := cX5_readRed) (maxL := 2) (ret := (some .boolean)) rfl rfl (nle rfl) ?_
  intro p e s m args below meth c A ls Q hQ hexec hb hr hts hown hlocks hml hA hP hD hG hS hl
  unfold f_X5_readRed at hf
  have hWX2 : ∀ w ∈ wsX20, w.before args s = true := fun w h => hts w (List.mem_cons_of_mem _ (List.mem_append_right _ h))
  have hWX5 : ∀ w ∈ wsX50, w.before args s = true := fun w h => hts w (List.mem_cons_of_mem _ (List.mem_append_left _ (List.mem_append_left _ (List.mem_append_right _ h))))
  have hWX6 : ∀ w ∈ wsX60, w.before args s = true := fun w h => hts w (List.mem_cons_of_mem _ (List.mem_append_left _ (List.mem_append_right _ h)))
  have hS : va_S A s.heap s.heap [] := hS
  refine lv_aload_n (pc := 0) hexec hb dX5_readRed_0 rfl (lv_at hl 0 rfl) ?_
  obtain ⟨r1, x0_at_1, hc, hf⟩ := bd2_e hf
  refine kVp (pc := 1) (S := ⟨hexec, hb, hml, hown, hts⟩) hP hD hG hA hS [0, 2] [1, 3] [2, 0, 3, 1] (w2 := (w_X5_readRed g a0 a1 a2 a3 u0_1 u0_5 u0_8 u0_9 u0_10 u0_11 u1_0 u1_2 u1_3 u1_4 u3_0 u3_2 u3_3 u3_4 u3_5 x0_length x0_at_1 x0_wordStart x0_wordLength x0_error x0_errorAt y2_text x3_reds)) rfl rfl rfl rfl rfl rfl (by decide) (c_X5_nextSign l g a0 a2 _ (.ref a1) u0_1 u0_5 (.int x0_wordStart) (.int x0_wordLength) u0_8 u0_9 u0_10 u0_11 (.int x0_error) (.int x0_errorAt) x0_length x0_at y2_text r1 x0_at_1 hc) gX5_readRed_X5_nextSign rfl hv_X5_nextSign ⟨nle rfl, nle rfl⟩ 5 0 rfl rfl rfl (rest := []) rfl rfl hl.1 (nle rfl) dX5_readRed_1 (fun H locs hP hD hS => ?_)
  obtain ⟨r4, hc, hf⟩ := bd1_e hf
  refine kSp (pc := 4) (S := ⟨hexec, hb, hml, hown, hts⟩) hP hD hG hA hS [] [0, 1, 2, 3] [0, 1, 2, 3] (w2 := (w_X5_readRed g a0 a1 a2 a3 u0_1 u0_5 u0_8 u0_9 u0_10 u0_11 u1_0 u1_2 u1_3 u1_4 u3_0 u3_2 u3_3 u3_4 u3_5 x0_length x0_at_1 x0_wordStart x0_wordLength x0_error x0_errorAt y2_text x3_reds)) rfl rfl rfl rfl rfl rfl (by decide) (c_X5_isLetter l g _ r1 r4 hc) gX5_readRed_X5_isLetter rfl hs_X5_isLetter ⟨nle rfl, nle rfl⟩ (rest := []) rfl rfl hl.1 (nle rfl) dX5_readRed_4 (fun H locs hP hD hS => ?_)
  refine kb_ne (pc := 7) hexec hb dX5_readRed_7 (tgt := 12) rfl hf (fun hc hf => ?_) (fun hc hf => ?_)
  · refine lv_aload_n (pc := 12) hexec hb dX5_readRed_12 rfl (lv_at hl 0 rfl) ?_
    obtain ⟨r13, x0_at_2, x0_wordStart_1, x0_wordLength_1, x0_error_1, x0_errorAt_1, hc, hf⟩ := bd6_e hf
    refine kVp (pc := 13) (S := ⟨hexec, hb, hml, hown, hts⟩) hP hD hG hA hS [0, 2] [1, 3] [2, 0, 3, 1] (w2 := (w_X5_readRed g a0 a1 a2 a3 u0_1 u0_5 u0_8 u0_9 u0_10 u0_11 u1_0 u1_2 u1_3 u1_4 u3_0 u3_2 u3_3 u3_4 u3_5 x0_length x0_at_2 x0_wordStart_1 x0_wordLength_1 x0_error_1 x0_errorAt_1 y2_text x3_reds)) rfl rfl rfl rfl rfl rfl (by decide) (c_X5_takeWord l g a0 a2 _ (.ref a1) u0_1 u0_5 u0_8 u0_9 u0_10 u0_11 x0_length x0_at_1 x0_wordStart x0_wordLength x0_error x0_errorAt y2_text r13 x0_at_2 x0_wordStart_1 x0_wordLength_1 x0_error_1 x0_errorAt_1 hc) gX5_readRed_X5_takeWord rfl hv_X5_takeWord ⟨nle rfl, nle rfl⟩ 5 0 rfl rfl rfl (rest := []) rfl rfl hl.1 (nle rfl) dX5_readRed_13 (fun H locs hP hD hS => ?_)
    refine lv_pop (pc := 16) hexec hb dX5_readRed_16 rfl ?_
    refine lv_aload_n (pc := 17) hexec hb dX5_readRed_17 rfl (lv_at hl 0 rfl) ?_
    refine k_lds (pc := 18) hexec hb (own := RX5) hown hG 7 rfl dX5_readRed_18 ?_
    obtain ⟨r20, hc, hf⟩ := bd1_e hf
    refine kVp (pc := 20) (S := ⟨hexec, hb, hml, hown, hts⟩) hP hD hG hA hS [0, 2] [1, 3] [2, 0, 3, 1] (w2 := (w_X5_readRed g a0 a1 a2 a3 u0_1 u0_5 u0_8 u0_9 u0_10 u0_11 u1_0 u1_2 u1_3 u1_4 u3_0 u3_2 u3_3 u3_4 u3_5 x0_length x0_at_2 x0_wordStart_1 x0_wordLength_1 x0_error_1 x0_errorAt_1 y2_text x3_reds)) rfl rfl rfl rfl rfl rfl (by decide) (c_X5_wordIs l g a0 a2 _ (.ref a1) u0_1 (.int x0_at_2) u0_5 u0_8 u0_9 u0_10 u0_11 (.int x0_error_1) (.int x0_errorAt_1) x0_length x0_wordStart_1 x0_wordLength_1 y2_text 7 (nle rfl) r20 hc) gX5_readRed_X5_wordIs rfl hv_X5_wordIs ⟨nle rfl, nle rfl⟩ 5 0 rfl rfl rfl (rest := []) rfl rfl hl.1 (nle rfl) dX5_readRed_20 (fun H locs hP hD hS => ?_)
    refine kb_ne (pc := 23) hexec hb dX5_readRed_23 (tgt := 36) rfl hf (fun hc hf => ?_) (fun hc hf => ?_)
    · refine lv_aload_n (pc := 36) hexec hb dX5_readRed_36 rfl (lv_at hl 0 rfl) ?_
      refine kg_get (pc := 37) hexec hb (own := RX5) hWX5 hown hG hP 0 rfl rfl 0 (nle rfl) (hts _ (List.mem_cons_of_mem _ (List.mem_append_left _ (List.mem_append_left _ (List.mem_append_left _ (List.mem_append_left _ (List.mem_of_getElem? (i := 1) rfl))))))) rfl rfl dX5_readRed_37 ?_
      refine kg_getN (pc := 40) hexec hb (own := RX5) hWX6 hown hG hP 1 rfl rfl 1 (nle rfl) 26 rfl rfl rfl dX5_readRed_40 ?_
      refine lv_aload_n (pc := 43) hexec hb dX5_readRed_43 rfl (lv_at hl 0 rfl) ?_
      refine kg_get (pc := 44) hexec hb (own := RX5) hWX5 hown hG hP 0 rfl rfl 0 (nle rfl) (hts _ (List.mem_cons_of_mem _ (List.mem_append_left _ (List.mem_append_left _ (List.mem_append_left _ (List.mem_append_left _ (List.mem_of_getElem? (i := 1) rfl))))))) rfl rfl dX5_readRed_44 ?_
      refine kg_getN (pc := 47) hexec hb (own := RX5) hWX6 hown hG hP 1 rfl rfl 1 (nle rfl) 26 rfl rfl rfl dX5_readRed_47 ?_
      refine lv_iload_n (pc := 50) hexec hb dX5_readRed_50 rfl (lv_at hl 1 rfl) ?_
      refine lv_iconst (pc := 51) hexec hb dX5_readRed_51 ki_1 ?_
      obtain ⟨r52, hc, hf⟩ := bd1_e hf
      refine kVp (pc := 52) (S := ⟨hexec, hb, hml, hown, hts⟩) hP hD hG hA hS [3] [0, 1, 2] [0, 1, 2, 3] (w2 := (w_X5_readRed g a0 a1 a2 a3 u0_1 u0_5 u0_8 u0_9 u0_10 u0_11 u1_0 u1_2 u1_3 u1_4 u3_0 u3_2 u3_3 u3_4 u3_5 x0_length x0_at_2 x0_wordStart_1 x0_wordLength_1 x0_error_1 x0_errorAt_1 y2_text x3_reds)) rfl rfl rfl rfl rfl rfl (by decide) (c_X2_redsIf l g a3 _ u3_0 u3_2 u3_3 u3_4 u3_5 x3_reds p1 1 r52 hc) gX5_readRed_X2_redsIf rfl hv_X2_redsIf ⟨nle rfl, nle rfl⟩ 2 0 rfl rfl rfl (rest := [.ref a3]) rfl rfl hl.1 (nle rfl) dX5_readRed_52 (fun H locs hP hD hS => ?_)
      refine kp_putN (pc := 55) hexec hb (own := RX5) hWX2 tyX2 tyX2_ok nmX2 hown hG hP hD hS 3 rfl rfl 1 (nle rfl) 12 rfl rfl rfl rfl rfl (nle rfl) dX5_readRed_55 (fun H locs (hP : va_P g.1 vwCl (w_X5_readRed g a0 a1 a2 a3 u0_1 u0_5 u0_8 u0_9 u0_10 u0_11 u1_0 u1_2 u1_3 u1_4 u3_0 u3_2 u3_3 u3_4 u3_5 x0_length x0_at_2 x0_wordStart_1 x0_wordLength_1 x0_error_1 x0_errorAt_1 y2_text r52) H) (hD : va_D A (w_X5_readRed g a0 a1 a2 a3 u0_1 u0_5 u0_8 u0_9 u0_10 u0_11 u1_0 u1_2 u1_3 u1_4 u3_0 u3_2 u3_3 u3_4 u3_5 x0_length x0_at_2 x0_wordStart_1 x0_wordLength_1 x0_error_1 x0_errorAt_1 y2_text r52)) hS => ?_)
      refine lv_iconst (pc := 58) hexec hb dX5_readRed_58 ki_1 ?_
      cases hf
      exact ke_z hQ hexec hb hr (.inr rfl) hP hD hS dX5_readRed_59 hlocks
    · refine lv_aload_n (pc := 26) hexec hb dX5_readRed_26 rfl (lv_at hl 0 rfl) ?_
      refine lv_iconst (pc := 27) hexec hb dX5_readRed_27 ki_1 ?_
      refine lv_aload_n (pc := 28) hexec hb dX5_readRed_28 rfl (lv_at hl 0 rfl) ?_
      refine kg_get (pc := 29) hexec hb (own := RX5) hWX5 hown hG hP 0 rfl rfl 6 (nle rfl) (hts _ (List.mem_cons_of_mem _ (List.mem_append_left _ (List.mem_append_left _ (List.mem_append_left _ (List.mem_append_left _ (List.mem_of_getElem? (i := 0) rfl))))))) rfl rfl dX5_readRed_29 ?_
      obtain ⟨r32, x0_error_2, x0_errorAt_2, hc, hf⟩ := bd3_e hf
      refine kVp (pc := 32) (S := ⟨hexec, hb, hml, hown, hts⟩) hP hD hG hA hS [0] [1, 2, 3] [3, 0, 1, 2] (w2 := (w_X5_readRed g a0 a1 a2 a3 u0_1 u0_5 u0_8 u0_9 u0_10 u0_11 u1_0 u1_2 u1_3 u1_4 u3_0 u3_2 u3_3 u3_4 u3_5 x0_length x0_at_2 x0_wordStart_1 x0_wordLength_1 x0_error_2 x0_errorAt_2 y2_text x3_reds)) rfl rfl rfl rfl rfl rfl (by decide) (c_X5_fail l g a0 _ (.ref a1) u0_1 (.ref a2) (.int x0_length) (.int x0_at_2) u0_5 (.int x0_wordStart_1) (.int x0_wordLength_1) u0_8 u0_9 u0_10 u0_11 x0_error_1 x0_errorAt_1 1 x0_wordStart_1 r32 x0_error_2 x0_errorAt_2 hc) gX5_readRed_X5_fail rfl hv_X5_fail ⟨nle rfl, nle rfl⟩ 5 0 rfl rfl rfl (rest := []) rfl rfl hl.1 (nle rfl) dX5_readRed_32 (fun H locs hP hD hS => ?_)
      obtain ⟨hx, hf⟩ := zb_e hf
      cases hf
      exact ke_z hQ hexec hb hr hx hP hD hS dX5_readRed_35 hlocks
  · refine lv_iconst (pc := 10) hexec hb dX5_readRed_10 ki_1 ?_
    cases hf
    exact ke_z hQ hexec hb hr (.inr rfl) hP hD hS dX5_readRed_11 hlocks
abbrev w_X5_readHarbour (g : GE) (a0 a1 a2 a3 a4 a5 a6 a7 a8 a9 a10 a11 : Nat) (u0_1 u0_5 u0_11 u1_2 u1_4 u3_2 u3_5 : Value) (x0_length : Int32) (x0_at : Int32) (x0_wordStart : Int32) (x0_wordLength : Int32) (x0_numberStart : Int32) (x0_number : Int32) (x0_cell : Int32) (x0_error : Int32) (x0_errorAt : Int32) (y2_text : Nat → Int32) (x3_rows : Int32) (x3_columns : Int32) (x4_count : Int32) (x4_reds : Int32) (y5_namesOn : Nat → Int32) (y6_land : Nat → Int32) (y7_riverOf : Nat → Int32) (y8_direction : Nat → Int32) (y9_home : Nat → Int32) (y10_length : Nat → Int32) (y11_letters : Nat → Int32) : va_W := [(a0, .inr (5, [.ref a1, u0_1, .ref a2, .int x0_length, .int x0_at, u0_5, .int x0_wordStart, .int x0_wordLength, .int x0_numberStart, .int x0_number, .int x0_cell, u0_11, .int x0_error, .int x0_errorAt])), (a1, .inr (6, [.ref a3, .ref a4, u1_2, .ref a5, u1_4])), (a2, .inl (g.2.1 0, 500, .inl y2_text)), (a3, .inr (1, [.int x3_rows, .int x3_columns, u3_2, .ref a6, .ref a7, u3_5])), (a4, .inr (2, [.int x4_count, .int x4_reds, .ref a9, .ref a8, .ref a10, .ref a11])), (a5, .inl (g.2.1 0, 144, .inl y5_namesOn)), (a6, .inl (g.2.1 1, 144, .inl y6_land)), (a7, .inl (g.2.1 0, 144, .inl y7_riverOf)), (a8, .inl (g.2.1 0, 8, .inl y8_direction)), (a9, .inl (g.2.1 0, 8, .inl y9_home)), (a10, .inl (g.2.1 0, 8, .inl y10_length)), (a11, .inl (g.2.1 0, 64, .inl y11_letters))]
set_option maxRecDepth 20000 in
theorem c_X5_readHarbour (l : Launch) (g : GE) (a0 a1 a2 a3 a4 a5 a6 a7 a8 a9 a10 a11 : Nat) (sz : Nat) (u0_1 u0_5 u0_11 u1_2 u1_4 u3_2 u3_5 : Value) (x0_length : Int32) (x0_at : Int32) (x0_wordStart : Int32) (x0_wordLength : Int32) (x0_numberStart : Int32) (x0_number : Int32) (x0_cell : Int32) (x0_error : Int32) (x0_errorAt : Int32) (y2_text : Nat → Int32) (x3_rows : Int32) (x3_columns : Int32) (x4_count : Int32) (x4_reds : Int32) (y5_namesOn : Nat → Int32) (y6_land : Nat → Int32) (y7_riverOf : Nat → Int32) (y8_direction : Nat → Int32) (y9_home : Nat → Int32) (y10_length : Nat → Int32) (y11_letters : Nat → Int32)   (r : Int32) (o_x0_at : Int32) (o_x0_wordStart : Int32) (o_x0_wordLength : Int32) (o_x0_numberStart : Int32) (o_x0_number : Int32) (o_x0_cell : Int32) (o_x0_error : Int32) (o_x0_errorAt : Int32) (o_x4_count : Int32) (o_x4_reds : Int32) (o_y8_direction : Nat → Int32) (o_y9_home : Nat → Int32) (o_y10_length : Nat → Int32) (o_y11_letters : Nat → Int32) (hf : f_X5_readHarbour x0_length x0_at x0_wordStart x0_wordLength x0_numberStart x0_number x0_cell x0_error x0_errorAt y2_text x3_rows x3_columns x4_count x4_reds y5_namesOn y6_land y7_riverOf y8_direction y9_home y10_length y11_letters = some (r, o_x0_at, o_x0_wordStart, o_x0_wordLength, o_x0_numberStart, o_x0_number, o_x0_cell, o_x0_error, o_x0_errorAt, o_x4_count, o_x4_reds, o_y8_direction, o_y9_home, o_y10_length, o_y11_letters)) : MI l g yX5_readHarbour wsX5_readHarbour 7 154 [.ref a0] (w_X5_readHarbour g a0 a1 a2 a3 a4 a5 a6 a7 a8 a9 a10 a11 u0_1 u0_5 u0_11 u1_2 u1_4 u3_2 u3_5 x0_length x0_at x0_wordStart x0_wordLength x0_numberStart x0_number x0_cell x0_error x0_errorAt y2_text x3_rows x3_columns x4_count x4_reds y5_namesOn y6_land y7_riverOf y8_direction y9_home y10_length y11_letters) sz (some (.int r)) (w_X5_readHarbour g a0 a1 a2 a3 a4 a5 a6 a7 a8 a9 a10 a11 u0_1 u0_5 u0_11 u1_2 u1_4 u3_2 u3_5 x0_length o_x0_at o_x0_wordStart o_x0_wordLength o_x0_numberStart o_x0_number o_x0_cell o_x0_error o_x0_errorAt y2_text x3_rows x3_columns o_x4_count o_x4_reds y5_namesOn y6_land y7_riverOf o_y8_direction o_y9_home o_y10_length o_y11_letters) := by
  refine MI.start (cc := cX5_readHarbour) (maxL := 3) (ret := (some .boolean)) rfl rfl (nle rfl) ?_
  intro p e s m args below meth c A ls Q hQ hexec hb hr hts hown hlocks hml hA hP hD hG hS hl
  unfold f_X5_readHarbour at hf
  have hWX1 : ∀ w ∈ wsX10, w.before args s = true := fun w h => hts w (List.mem_cons_of_mem _ (List.mem_append_right _ h))
  have hWX2 : ∀ w ∈ wsX20, w.before args s = true := fun w h => hts w (List.mem_cons_of_mem _ (List.mem_append_left _ (List.mem_append_right _ h)))
  have hWX5 : ∀ w ∈ wsX50, w.before args s = true := fun w h => hts w (List.mem_cons_of_mem _ (List.mem_append_left _ (List.mem_append_left _ (List.mem_append_left _ (List.mem_append_right _ h)))))
  have hWX6 : ∀ w ∈ wsX60, w.before args s = true := fun w h => hts w (List.mem_cons_of_mem _ (List.mem_append_left _ (List.mem_append_left _ (List.mem_append_right _ h))))
  have hS : va_S A s.heap s.heap [] := hS
  refine lv_aload_n (pc := 0) hexec hb dX5_readHarbour_0 rfl (lv_at hl 0 rfl) ?_
  refine kg_get (pc := 1) hexec hb (own := RX5) hWX5 hown hG hP 0 rfl rfl 0 (nle rfl) (hts _ (List.mem_cons_of_mem _ (List.mem_append_left _ (List.mem_append_left _ (List.mem_append_left _ (List.mem_append_left _ (List.mem_append_left _ (List.mem_of_getElem? (i := 0) rfl)))))))) rfl rfl dX5_readHarbour_1 ?_
  refine kg_getN (pc := 4) hexec hb (own := RX5) hWX6 hown hG hP 1 rfl rfl 1 (nle rfl) 26 rfl rfl rfl dX5_readHarbour_4 ?_
  refine kg_getN (pc := 7) hexec hb (own := RX5) hWX2 hown hG hP 4 rfl rfl 0 (nle rfl) 9 rfl rfl rfl dX5_readHarbour_7 ?_
  refine lv_bipush (pc := 10) hexec hb dX5_readHarbour_10 kb_8 ?_
  refine ki_lt (pc := 12) hexec hb dX5_readHarbour_12 (tgt := 25) rfl hf (fun hc hf => ?_) (fun hc hf => ?_)
  · refine lv_aload_n (pc := 25) hexec hb dX5_readHarbour_25 rfl (lv_at hl 0 rfl) ?_
    obtain ⟨r26, x0_at_1, x0_wordStart_1, x0_wordLength_1, x0_error_1, x0_errorAt_1, hc, hf⟩ := bd6_e hf
    refine kVp (pc := 26) (S := ⟨hexec, hb, hml, hown, hts⟩) hP hD hG hA hS [0, 2] [1, 3, 4, 5, 6, 7, 8, 9, 10, 11] [10, 0, 11, 1, 2, 3, 4, 5, 6, 7, 8, 9] (w2 := (w_X5_readHarbour g a0 a1 a2 a3 a4 a5 a6 a7 a8 a9 a10 a11 u0_1 u0_5 u0_11 u1_2 u1_4 u3_2 u3_5 x0_length x0_at_1 x0_wordStart_1 x0_wordLength_1 x0_numberStart x0_number x0_cell x0_error_1 x0_errorAt_1 y2_text x3_rows x3_columns x4_count x4_reds y5_namesOn y6_land y7_riverOf y8_direction y9_home y10_length y11_letters)) rfl rfl rfl rfl rfl rfl (by decide) (c_X5_takeName l g a0 a2 _ (.ref a1) u0_1 u0_5 (.int x0_numberStart) (.int x0_number) (.int x0_cell) u0_11 x0_length x0_at x0_wordStart x0_wordLength x0_error x0_errorAt y2_text r26 x0_at_1 x0_wordStart_1 x0_wordLength_1 x0_error_1 x0_errorAt_1 hc) gX5_readHarbour_X5_takeName rfl hv_X5_takeName ⟨nle rfl, nle rfl⟩ 5 0 rfl rfl rfl (rest := []) rfl rfl hl.1 (nle rfl) dX5_readHarbour_26 (fun H locs hP hD hS => ?_)
    refine kb_ne (pc := 29) hexec hb dX5_readHarbour_29 (tgt := 34) rfl hf (fun hc hf => ?_) (fun hc hf => ?_)
    · refine lv_aload_n (pc := 34) hexec hb dX5_readHarbour_34 rfl (lv_at hl 0 rfl) ?_
      obtain ⟨r35, hc, hf⟩ := bd1_e hf
      refine kVp (pc := 35) (S := ⟨hexec, hb, hml, hown, hts⟩) hP hD hG hA hS [0, 1, 2, 4, 10, 11] [3, 5, 6, 7, 8, 9] [6, 7, 8, 0, 9, 1, 2, 3, 4, 5, 10, 11] (w2 := (w_X5_readHarbour g a0 a1 a2 a3 a4 a5 a6 a7 a8 a9 a10 a11 u0_1 u0_5 u0_11 u1_2 u1_4 u3_2 u3_5 x0_length x0_at_1 x0_wordStart_1 x0_wordLength_1 x0_numberStart x0_number x0_cell x0_error_1 x0_errorAt_1 y2_text x3_rows x3_columns x4_count x4_reds y5_namesOn y6_land y7_riverOf y8_direction y9_home y10_length y11_letters)) rfl rfl rfl rfl rfl rfl (by decide) (c_X5_namedHarbour l g a0 a1 a2 a4 a10 a11 _ u0_1 (.int x0_at_1) u0_5 (.int x0_numberStart) (.int x0_number) (.int x0_cell) u0_11 (.int x0_error_1) (.int x0_errorAt_1) (.ref a3) u1_2 (.ref a5) u1_4 (.int x4_reds) (.ref a9) (.ref a8) x0_length x0_wordStart_1 x0_wordLength_1 y2_text x4_count y10_length y11_letters r35 hc) gX5_readHarbour_X5_namedHarbour rfl hv_X5_namedHarbour ⟨nle rfl, nle rfl⟩ 5 0 rfl rfl rfl (rest := []) rfl rfl hl.1 (nle rfl) dX5_readHarbour_35 (fun H locs hP hD hS => ?_)
      refine lv_iconst (pc := 38) hexec hb dX5_readHarbour_38 ki_m1 ?_
      refine ki_eq (pc := 39) hexec hb dX5_readHarbour_39 (tgt := 52) rfl hf (fun hc hf => ?_) (fun hc hf => ?_)
      · refine lv_aload_n (pc := 52) hexec hb dX5_readHarbour_52 rfl (lv_at hl 0 rfl) ?_
        refine kg_get (pc := 53) hexec hb (own := RX5) hWX5 hown hG hP 0 rfl rfl 6 (nle rfl) (hts _ (List.mem_cons_of_mem _ (List.mem_append_left _ (List.mem_append_left _ (List.mem_append_left _ (List.mem_append_left _ (List.mem_append_left _ (List.mem_of_getElem? (i := 1) rfl)))))))) rfl rfl dX5_readHarbour_53 ?_
        refine lv_istore_n (pc := 56) hexec hb dX5_readHarbour_56 rfl hl (nle rfl) rfl (fun ls (hl : lv_has ls 3 [(1, .int x0_wordStart_1), (0, .ref a0)]) => ?_)
        refine lv_aload_n (pc := 57) hexec hb dX5_readHarbour_57 rfl (lv_at hl 1 rfl) ?_
        refine kg_get (pc := 58) hexec hb (own := RX5) hWX5 hown hG hP 0 rfl rfl 7 (nle rfl) (hts _ (List.mem_cons_of_mem _ (List.mem_append_left _ (List.mem_append_left _ (List.mem_append_left _ (List.mem_append_left _ (List.mem_append_left _ (List.mem_of_getElem? (i := 2) rfl)))))))) rfl rfl dX5_readHarbour_58 ?_
        refine lv_istore_n (pc := 61) hexec hb dX5_readHarbour_61 rfl hl (nle rfl) rfl (fun ls (hl : lv_has ls 3 [(2, .int x0_wordLength_1), (1, .int x0_wordStart_1), (0, .ref a0)]) => ?_)
        refine lv_aload_n (pc := 62) hexec hb dX5_readHarbour_62 rfl (lv_at hl 2 rfl) ?_
        obtain ⟨r63, x0_at_2, x0_numberStart_1, x0_number_1, x0_cell_1, x0_error_2, x0_errorAt_2, hc, hf⟩ := bd7_e hf
        refine kVp (pc := 63) (S := ⟨hexec, hb, hml, hown, hts⟩) hP hD hG hA hS [0, 1, 2, 3] [4, 5, 6, 7, 8, 9, 10, 11] [8, 9, 10, 11, 0, 1, 2, 3, 4, 5, 6, 7] (w2 := (w_X5_readHarbour g a0 a1 a2 a3 a4 a5 a6 a7 a8 a9 a10 a11 u0_1 u0_5 u0_11 u1_2 u1_4 u3_2 u3_5 x0_length x0_at_2 x0_wordStart_1 x0_wordLength_1 x0_numberStart_1 x0_number_1 x0_cell_1 x0_error_2 x0_errorAt_2 y2_text x3_rows x3_columns x4_count x4_reds y5_namesOn y6_land y7_riverOf y8_direction y9_home y10_length y11_letters)) rfl rfl rfl rfl rfl rfl (by decide) (c_X5_takeCell l g a0 a1 a2 a3 _ u0_1 u0_5 (.int x0_wordStart_1) (.int x0_wordLength_1) u0_11 (.ref a4) u1_2 (.ref a5) u1_4 u3_2 (.ref a6) (.ref a7) u3_5 x0_length x0_at_1 x0_numberStart x0_number x0_cell x0_error_1 x0_errorAt_1 y2_text x3_rows x3_columns r63 x0_at_2 x0_numberStart_1 x0_number_1 x0_cell_1 x0_error_2 x0_errorAt_2 hc) gX5_readHarbour_X5_takeCell rfl hv_X5_takeCell ⟨nle rfl, nle rfl⟩ 5 0 rfl rfl rfl (rest := []) rfl rfl hl.1 (nle rfl) dX5_readHarbour_63 (fun H locs hP hD hS => ?_)
        refine kb_ne (pc := 66) hexec hb dX5_readHarbour_66 (tgt := 71) rfl hf (fun hc hf => ?_) (fun hc hf => ?_)
        · refine lv_aload_n (pc := 71) hexec hb dX5_readHarbour_71 rfl (lv_at hl 2 rfl) ?_
          refine kg_get (pc := 72) hexec hb (own := RX5) hWX5 hown hG hP 0 rfl rfl 0 (nle rfl) (hts _ (List.mem_cons_of_mem _ (List.mem_append_left _ (List.mem_append_left _ (List.mem_append_left _ (List.mem_append_left _ (List.mem_append_left _ (List.mem_of_getElem? (i := 0) rfl)))))))) rfl rfl dX5_readHarbour_72 ?_
          refine lv_aload_n (pc := 75) hexec hb dX5_readHarbour_75 rfl (lv_at hl 2 rfl) ?_
          refine kg_get (pc := 76) hexec hb (own := RX5) hWX5 hown hG hP 0 rfl rfl 10 (nle rfl) (hts _ (List.mem_cons_of_mem _ (List.mem_append_left _ (List.mem_append_left _ (List.mem_append_left _ (List.mem_append_left _ (List.mem_append_left _ (List.mem_of_getElem? (i := 3) rfl)))))))) rfl rfl dX5_readHarbour_76 ?_
          obtain ⟨r79, hc, hf⟩ := bd1_e hf
          refine kVp (pc := 79) (S := ⟨hexec, hb, hml, hown, hts⟩) hP hD hG hA hS [1, 3, 4, 6, 7, 9] [0, 2, 5, 8, 10, 11] [0, 6, 1, 7, 8, 2, 9, 10, 3, 11, 4, 5] (w2 := (w_X5_readHarbour g a0 a1 a2 a3 a4 a5 a6 a7 a8 a9 a10 a11 u0_1 u0_5 u0_11 u1_2 u1_4 u3_2 u3_5 x0_length x0_at_2 x0_wordStart_1 x0_wordLength_1 x0_numberStart_1 x0_number_1 x0_cell_1 x0_error_2 x0_errorAt_2 y2_text x3_rows x3_columns x4_count x4_reds y5_namesOn y6_land y7_riverOf y8_direction y9_home y10_length y11_letters)) rfl rfl rfl rfl rfl rfl (by decide) (c_X6_isOpen l g a1 a3 a4 a6 a7 a9 _ u1_2 (.ref a5) u1_4 (.int x3_rows) (.int x3_columns) u3_2 u3_5 (.int x4_reds) (.ref a8) (.ref a10) (.ref a11) x4_count y6_land y7_riverOf y9_home x0_cell_1 r79 hc) gX5_readHarbour_X6_isOpen rfl hv_X6_isOpen ⟨nle rfl, nle rfl⟩ 6 0 rfl rfl rfl (rest := []) rfl rfl hl.1 (nle rfl) dX5_readHarbour_79 (fun H locs hP hD hS => ?_)
          obtain ⟨j117, ej117, hf⟩ := bvf1 hf
          have hj117 : ∀ (u : Unit) (H : Heap) (locs : List Loc) (ls : Array Slot), j117 u = some (r, o_x0_at, o_x0_wordStart, o_x0_wordLength, o_x0_numberStart, o_x0_number, o_x0_cell, o_x0_error, o_x0_errorAt, o_x4_count, o_x4_reds, o_y8_direction, o_y9_home, o_y10_length, o_y11_letters) → va_P g.1 vwCl (w_X5_readHarbour g a0 a1 a2 a3 a4 a5 a6 a7 a8 a9 a10 a11 u0_1 u0_5 u0_11 u1_2 u1_4 u3_2 u3_5 x0_length x0_at_2 x0_wordStart_1 x0_wordLength_1 x0_numberStart_1 x0_number_1 x0_cell_1 x0_error_2 x0_errorAt_2 y2_text x3_rows x3_columns x4_count x4_reds y5_namesOn y6_land y7_riverOf y8_direction y9_home y10_length y11_letters) H → va_D A (w_X5_readHarbour g a0 a1 a2 a3 a4 a5 a6 a7 a8 a9 a10 a11 u0_1 u0_5 u0_11 u1_2 u1_4 u3_2 u3_5 x0_length x0_at_2 x0_wordStart_1 x0_wordLength_1 x0_numberStart_1 x0_number_1 x0_cell_1 x0_error_2 x0_errorAt_2 y2_text x3_rows x3_columns x4_count x4_reds y5_namesOn y6_land y7_riverOf y8_direction y9_home y10_length y11_letters) → va_S A s.heap H locs → lv_has ls 3 [(0, .ref a0)] → W p l e (RM 7 154) s m args below meth c H locs 0 0 Q (F0 m 117 ls []) := by
            intro u H locs ls hf hP hD hS hl
            have hf := (ej117 u).symm.trans hf
            refine lv_aload_n (pc := 117) hexec hb dX5_readHarbour_117 rfl (lv_at hl 0 rfl) ?_
            refine lv_iconst (pc := 118) hexec hb dX5_readHarbour_118 ki_3 ?_
            refine lv_aload_n (pc := 119) hexec hb dX5_readHarbour_119 rfl (lv_at hl 0 rfl) ?_
            refine kg_get (pc := 120) hexec hb (own := RX5) hWX5 hown hG hP 0 rfl rfl 8 (nle rfl) (hts _ (List.mem_cons_of_mem _ (List.mem_append_left _ (List.mem_append_left _ (List.mem_append_left _ (List.mem_append_left _ (List.mem_append_left _ (List.mem_of_getElem? (i := 4) rfl)))))))) rfl rfl dX5_readHarbour_120 ?_
            obtain ⟨r123, x0_error_3, x0_errorAt_3, hc, hf⟩ := bd3_e hf
            refine kVp (pc := 123) (S := ⟨hexec, hb, hml, hown, hts⟩) hP hD hG hA hS [0] [1, 2, 3, 4, 5, 6, 7, 8, 9, 10, 11] [11, 0, 1, 2, 3, 4, 5, 6, 7, 8, 9, 10] (w2 := (w_X5_readHarbour g a0 a1 a2 a3 a4 a5 a6 a7 a8 a9 a10 a11 u0_1 u0_5 u0_11 u1_2 u1_4 u3_2 u3_5 x0_length x0_at_2 x0_wordStart_1 x0_wordLength_1 x0_numberStart_1 x0_number_1 x0_cell_1 x0_error_3 x0_errorAt_3 y2_text x3_rows x3_columns x4_count x4_reds y5_namesOn y6_land y7_riverOf y8_direction y9_home y10_length y11_letters)) rfl rfl rfl rfl rfl rfl (by decide) (c_X5_fail l g a0 _ (.ref a1) u0_1 (.ref a2) (.int x0_length) (.int x0_at_2) u0_5 (.int x0_wordStart_1) (.int x0_wordLength_1) (.int x0_numberStart_1) (.int x0_number_1) (.int x0_cell_1) u0_11 x0_error_2 x0_errorAt_2 3 x0_numberStart_1 r123 x0_error_3 x0_errorAt_3 hc) gX5_readHarbour_X5_fail rfl hv_X5_fail ⟨nle rfl, nle rfl⟩ 5 0 rfl rfl rfl (rest := []) rfl rfl hl.1 (nle rfl) dX5_readHarbour_123 (fun H locs hP hD hS => ?_)
            obtain ⟨hx, hf⟩ := zb_e hf
            simp only [Option.some.injEq, Prod.mk.injEq] at hf
            obtain ⟨rfl, rfl, rfl, rfl, rfl, rfl, rfl, rfl, rfl, rfl, rfl, rfl, rfl, rfl, rfl⟩ := hf
            exact ke_z hQ hexec hb hr hx hP hD hS dX5_readHarbour_126 hlocks
          refine kb_eq (pc := 82) hexec hb dX5_readHarbour_82 (tgt := 117) rfl hf (fun hc hf => ?_) (fun hc hf => ?_)
          · exact hj117 _ _ _ _ hf hP hD hS (lv_sub hl [2] rfl)
          · refine lv_aload_n (pc := 85) hexec hb dX5_readHarbour_85 rfl (lv_at hl 2 rfl) ?_
            refine kg_get (pc := 86) hexec hb (own := RX5) hWX5 hown hG hP 0 rfl rfl 0 (nle rfl) (hts _ (List.mem_cons_of_mem _ (List.mem_append_left _ (List.mem_append_left _ (List.mem_append_left _ (List.mem_append_left _ (List.mem_append_left _ (List.mem_of_getElem? (i := 0) rfl)))))))) rfl rfl dX5_readHarbour_86 ?_
            refine lv_aload_n (pc := 89) hexec hb dX5_readHarbour_89 rfl (lv_at hl 2 rfl) ?_
            refine kg_get (pc := 90) hexec hb (own := RX5) hWX5 hown hG hP 0 rfl rfl 10 (nle rfl) (hts _ (List.mem_cons_of_mem _ (List.mem_append_left _ (List.mem_append_left _ (List.mem_append_left _ (List.mem_append_left _ (List.mem_append_left _ (List.mem_of_getElem? (i := 3) rfl)))))))) rfl rfl dX5_readHarbour_90 ?_
            obtain ⟨r93, hc, hf⟩ := bd1_e hf
            refine kVp (pc := 93) (S := ⟨hexec, hb, hml, hown, hts⟩) hP hD hG hA hS [1, 5] [0, 2, 3, 4, 6, 7, 8, 9, 10, 11] [0, 10, 1, 2, 3, 11, 4, 5, 6, 7, 8, 9] (w2 := (w_X5_readHarbour g a0 a1 a2 a3 a4 a5 a6 a7 a8 a9 a10 a11 u0_1 u0_5 u0_11 u1_2 u1_4 u3_2 u3_5 x0_length x0_at_2 x0_wordStart_1 x0_wordLength_1 x0_numberStart_1 x0_number_1 x0_cell_1 x0_error_2 x0_errorAt_2 y2_text x3_rows x3_columns x4_count x4_reds y5_namesOn y6_land y7_riverOf y8_direction y9_home y10_length y11_letters)) rfl rfl rfl rfl rfl rfl (by decide) (c_X6_namesIn l g a1 a5 _ (.ref a3) (.ref a4) u1_2 u1_4 y5_namesOn x0_cell_1 r93 hc) gX5_readHarbour_X6_namesIn rfl hv_X6_namesIn ⟨nle rfl, nle rfl⟩ 6 0 rfl rfl rfl (rest := []) rfl rfl hl.1 (nle rfl) dX5_readHarbour_93 (fun H locs hP hD hS => ?_)
            refine kb_ne (pc := 96) hexec hb dX5_readHarbour_96 (tgt := 117) rfl hf (fun hc hf => ?_) (fun hc hf => ?_)
            · exact hj117 _ _ _ _ hf hP hD hS (lv_sub hl [2] rfl)
            · refine lv_aload_n (pc := 99) hexec hb dX5_readHarbour_99 rfl (lv_at hl 2 rfl) ?_
              refine kg_get (pc := 100) hexec hb (own := RX5) hWX5 hown hG hP 0 rfl rfl 0 (nle rfl) (hts _ (List.mem_cons_of_mem _ (List.mem_append_left _ (List.mem_append_left _ (List.mem_append_left _ (List.mem_append_left _ (List.mem_append_left _ (List.mem_of_getElem? (i := 0) rfl)))))))) rfl rfl dX5_readHarbour_100 ?_
              refine kg_getN (pc := 103) hexec hb (own := RX5) hWX6 hown hG hP 1 rfl rfl 0 (nle rfl) 23 rfl rfl rfl dX5_readHarbour_103 ?_
              refine lv_aload_n (pc := 106) hexec hb dX5_readHarbour_106 rfl (lv_at hl 2 rfl) ?_
              refine kg_get (pc := 107) hexec hb (own := RX5) hWX5 hown hG hP 0 rfl rfl 10 (nle rfl) (hts _ (List.mem_cons_of_mem _ (List.mem_append_left _ (List.mem_append_left _ (List.mem_append_left _ (List.mem_append_left _ (List.mem_append_left _ (List.mem_of_getElem? (i := 3) rfl)))))))) rfl rfl dX5_readHarbour_107 ?_
              refine lv_iconst (pc := 110) hexec hb dX5_readHarbour_110 ki_m1 ?_
              obtain ⟨r111, hc, hf⟩ := bd1_e hf
              refine kVp (pc := 111) (S := ⟨hexec, hb, hml, hown, hts⟩) hP hD hG hA hS [3, 6] [0, 1, 2, 4, 5, 7, 8, 9, 10, 11] [0, 1, 2, 10, 3, 4, 11, 5, 6, 7, 8, 9] (w2 := (w_X5_readHarbour g a0 a1 a2 a3 a4 a5 a6 a7 a8 a9 a10 a11 u0_1 u0_5 u0_11 u1_2 u1_4 u3_2 u3_5 x0_length x0_at_2 x0_wordStart_1 x0_wordLength_1 x0_numberStart_1 x0_number_1 x0_cell_1 x0_error_2 x0_errorAt_2 y2_text x3_rows x3_columns x4_count x4_reds y5_namesOn y6_land y7_riverOf y8_direction y9_home y10_length y11_letters)) rfl rfl rfl rfl rfl rfl (by decide) (c_X1_hasSeaBeside l g a3 a6 _ u3_2 (.ref a7) u3_5 x3_rows x3_columns y6_land x0_cell_1 (-1) r111 hc) gX5_readHarbour_X1_hasSeaBeside rfl hv_X1_hasSeaBeside ⟨nle rfl, nle rfl⟩ 1 0 rfl rfl rfl (rest := []) rfl rfl hl.1 (nle rfl) dX5_readHarbour_111 (fun H locs hP hD hS => ?_)
              refine kb_ne (pc := 114) hexec hb dX5_readHarbour_114 (tgt := 127) rfl hf (fun hc hf => ?_) (fun hc hf => ?_)
              · refine lv_aload_n (pc := 127) hexec hb dX5_readHarbour_127 rfl (lv_at hl 2 rfl) ?_
                refine kg_get (pc := 128) hexec hb (own := RX5) hWX5 hown hG hP 0 rfl rfl 0 (nle rfl) (hts _ (List.mem_cons_of_mem _ (List.mem_append_left _ (List.mem_append_left _ (List.mem_append_left _ (List.mem_append_left _ (List.mem_append_left _ (List.mem_of_getElem? (i := 0) rfl)))))))) rfl rfl dX5_readHarbour_128 ?_
                refine kg_getN (pc := 131) hexec hb (own := RX5) hWX6 hown hG hP 1 rfl rfl 1 (nle rfl) 26 rfl rfl rfl dX5_readHarbour_131 ?_
                refine lv_aload_n (pc := 134) hexec hb dX5_readHarbour_134 rfl (lv_at hl 2 rfl) ?_
                refine kg_get (pc := 135) hexec hb (own := RX5) hWX5 hown hG hP 0 rfl rfl 10 (nle rfl) (hts _ (List.mem_cons_of_mem _ (List.mem_append_left _ (List.mem_append_left _ (List.mem_append_left _ (List.mem_append_left _ (List.mem_append_left _ (List.mem_of_getElem? (i := 3) rfl)))))))) rfl rfl dX5_readHarbour_135 ?_
                refine lv_aload_n (pc := 138) hexec hb dX5_readHarbour_138 rfl (lv_at hl 2 rfl) ?_
                refine kg_get (pc := 139) hexec hb (own := RX5) hWX5 hown hG hP 0 rfl rfl 2 (nle rfl) (hts _ (List.mem_cons_of_mem _ (List.mem_append_left _ (List.mem_append_left _ (List.mem_append_left _ (List.mem_append_left _ (List.mem_append_left _ (List.mem_of_getElem? (i := 5) rfl)))))))) rfl rfl dX5_readHarbour_139 ?_
                refine lv_iload_n (pc := 142) hexec hb dX5_readHarbour_142 rfl (lv_at hl 1 rfl) ?_
                refine lv_iload_n (pc := 143) hexec hb dX5_readHarbour_143 rfl (lv_at hl 0 rfl) ?_
                obtain ⟨x4_count_1, y8_direction_1, y9_home_1, y10_length_1, y11_letters_1, hc, hf⟩ := bd5_e hf
                refine kVp (pc := 144) (S := ⟨hexec, hb, hml, hown, hts⟩) hP hD hG hA hS [4, 8, 9, 10, 11, 2] [0, 1, 3, 5, 6, 7] [0, 1, 11, 2, 6, 3, 4, 5, 7, 8, 9, 10] (w2 := (w_X5_readHarbour g a0 a1 a2 a3 a4 a5 a6 a7 a8 a9 a10 a11 u0_1 u0_5 u0_11 u1_2 u1_4 u3_2 u3_5 x0_length x0_at_2 x0_wordStart_1 x0_wordLength_1 x0_numberStart_1 x0_number_1 x0_cell_1 x0_error_2 x0_errorAt_2 y2_text x3_rows x3_columns x4_count_1 x4_reds y5_namesOn y6_land y7_riverOf y8_direction_1 y9_home_1 y10_length_1 y11_letters_1)) rfl rfl rfl rfl rfl rfl (by decide) (c_X2_addHarbour l g a4 a8 a9 a10 a11 a2 _ (.int x4_reds) x4_count y8_direction y9_home y10_length y11_letters y2_text x0_cell_1 x0_wordStart_1 x0_wordLength_1 x4_count_1 y8_direction_1 y9_home_1 y10_length_1 y11_letters_1 hc) gX5_readHarbour_X2_addHarbour rfl hv_X2_addHarbour ⟨nle rfl, nle rfl⟩ 2 0 rfl rfl rfl (rest := []) rfl rfl hl.1 (nle rfl) dX5_readHarbour_144 (fun H locs hP hD hS => ?_)
                refine lv_aload_n (pc := 147) hexec hb dX5_readHarbour_147 rfl (lv_at hl 2 rfl) ?_
                refine lv_aload_n (pc := 148) hexec hb dX5_readHarbour_148 rfl (lv_at hl 2 rfl) ?_
                refine kg_get (pc := 149) hexec hb (own := RX5) hWX5 hown hG hP 0 rfl rfl 0 (nle rfl) (hts _ (List.mem_cons_of_mem _ (List.mem_append_left _ (List.mem_append_left _ (List.mem_append_left _ (List.mem_append_left _ (List.mem_append_left _ (List.mem_of_getElem? (i := 0) rfl)))))))) rfl rfl dX5_readHarbour_149 ?_
                refine kg_getN (pc := 152) hexec hb (own := RX5) hWX6 hown hG hP 1 rfl rfl 1 (nle rfl) 26 rfl rfl rfl dX5_readHarbour_152 ?_
                refine kg_getN (pc := 155) hexec hb (own := RX5) hWX2 hown hG hP 4 rfl rfl 0 (nle rfl) 9 rfl rfl rfl dX5_readHarbour_155 ?_
                refine lv_iconst (pc := 158) hexec hb dX5_readHarbour_158 ki_1 ?_
                refine lv_isub (pc := 159) hexec hb dX5_readHarbour_159 ?_
                obtain ⟨r160, x0_at_3, x0_wordStart_2, x0_wordLength_2, x0_error_4, x0_errorAt_4, x4_reds_1, hc, hf⟩ := bd7_e hf
                refine kVp (pc := 160) (S := ⟨hexec, hb, hml, hown, hts⟩) hP hD hG hA hS [0, 1, 2, 4] [3, 5, 6, 7, 8, 9, 10, 11] [8, 9, 10, 0, 11, 1, 2, 3, 4, 5, 6, 7] (w2 := (w_X5_readHarbour g a0 a1 a2 a3 a4 a5 a6 a7 a8 a9 a10 a11 u0_1 u0_5 u0_11 u1_2 u1_4 u3_2 u3_5 x0_length x0_at_3 x0_wordStart_2 x0_wordLength_2 x0_numberStart_1 x0_number_1 x0_cell_1 x0_error_4 x0_errorAt_4 y2_text x3_rows x3_columns x4_count_1 x4_reds_1 y5_namesOn y6_land y7_riverOf y8_direction_1 y9_home_1 y10_length_1 y11_letters_1)) rfl rfl rfl rfl rfl rfl (by decide) (c_X5_readRed l g a0 a1 a2 a4 _ u0_1 u0_5 (.int x0_numberStart_1) (.int x0_number_1) (.int x0_cell_1) u0_11 (.ref a3) u1_2 (.ref a5) u1_4 (.int x4_count_1) (.ref a9) (.ref a8) (.ref a10) (.ref a11) x0_length x0_at_2 x0_wordStart_1 x0_wordLength_1 x0_error_2 x0_errorAt_2 y2_text x4_reds (x4_count_1 - 1) r160 x0_at_3 x0_wordStart_2 x0_wordLength_2 x0_error_4 x0_errorAt_4 x4_reds_1 hc) gX5_readHarbour_X5_readRed rfl hv_X5_readRed ⟨nle rfl, nle rfl⟩ 5 0 rfl rfl rfl (rest := []) rfl rfl hl.1 (nle rfl) dX5_readHarbour_160 (fun H locs hP hD hS => ?_)
                obtain ⟨hx, hf⟩ := zb_e hf
                simp only [Option.some.injEq, Prod.mk.injEq] at hf
                obtain ⟨rfl, rfl, rfl, rfl, rfl, rfl, rfl, rfl, rfl, rfl, rfl, rfl, rfl, rfl, rfl⟩ := hf
                exact ke_z hQ hexec hb hr hx hP hD hS dX5_readHarbour_163 hlocks
              · exact hj117 _ _ _ _ hf hP hD hS (lv_sub hl [2] rfl)
        · refine lv_iconst (pc := 69) hexec hb dX5_readHarbour_69 ki_0 ?_
          simp only [Option.some.injEq, Prod.mk.injEq] at hf
          obtain ⟨rfl, rfl, rfl, rfl, rfl, rfl, rfl, rfl, rfl, rfl, rfl, rfl, rfl, rfl, rfl⟩ := hf
          exact ke_z hQ hexec hb hr (.inl rfl) hP hD hS dX5_readHarbour_70 hlocks
      · refine lv_aload_n (pc := 42) hexec hb dX5_readHarbour_42 rfl (lv_at hl 0 rfl) ?_
        refine lv_iconst (pc := 43) hexec hb dX5_readHarbour_43 ki_3 ?_
        refine lv_aload_n (pc := 44) hexec hb dX5_readHarbour_44 rfl (lv_at hl 0 rfl) ?_
        refine kg_get (pc := 45) hexec hb (own := RX5) hWX5 hown hG hP 0 rfl rfl 6 (nle rfl) (hts _ (List.mem_cons_of_mem _ (List.mem_append_left _ (List.mem_append_left _ (List.mem_append_left _ (List.mem_append_left _ (List.mem_append_left _ (List.mem_of_getElem? (i := 1) rfl)))))))) rfl rfl dX5_readHarbour_45 ?_
        obtain ⟨r48, x0_error_5, x0_errorAt_5, hc, hf⟩ := bd3_e hf
        refine kVp (pc := 48) (S := ⟨hexec, hb, hml, hown, hts⟩) hP hD hG hA hS [0] [1, 2, 3, 4, 5, 6, 7, 8, 9, 10, 11] [11, 0, 1, 2, 3, 4, 5, 6, 7, 8, 9, 10] (w2 := (w_X5_readHarbour g a0 a1 a2 a3 a4 a5 a6 a7 a8 a9 a10 a11 u0_1 u0_5 u0_11 u1_2 u1_4 u3_2 u3_5 x0_length x0_at_1 x0_wordStart_1 x0_wordLength_1 x0_numberStart x0_number x0_cell x0_error_5 x0_errorAt_5 y2_text x3_rows x3_columns x4_count x4_reds y5_namesOn y6_land y7_riverOf y8_direction y9_home y10_length y11_letters)) rfl rfl rfl rfl rfl rfl (by decide) (c_X5_fail l g a0 _ (.ref a1) u0_1 (.ref a2) (.int x0_length) (.int x0_at_1) u0_5 (.int x0_wordStart_1) (.int x0_wordLength_1) (.int x0_numberStart) (.int x0_number) (.int x0_cell) u0_11 x0_error_1 x0_errorAt_1 3 x0_wordStart_1 r48 x0_error_5 x0_errorAt_5 hc) gX5_readHarbour_X5_fail rfl hv_X5_fail ⟨nle rfl, nle rfl⟩ 5 0 rfl rfl rfl (rest := []) rfl rfl hl.1 (nle rfl) dX5_readHarbour_48 (fun H locs hP hD hS => ?_)
        obtain ⟨hx, hf⟩ := zb_e hf
        simp only [Option.some.injEq, Prod.mk.injEq] at hf
        obtain ⟨rfl, rfl, rfl, rfl, rfl, rfl, rfl, rfl, rfl, rfl, rfl, rfl, rfl, rfl, rfl⟩ := hf
        exact ke_z hQ hexec hb hr hx hP hD hS dX5_readHarbour_51 hlocks
    · refine lv_iconst (pc := 32) hexec hb dX5_readHarbour_32 ki_0 ?_
      simp only [Option.some.injEq, Prod.mk.injEq] at hf
      obtain ⟨rfl, rfl, rfl, rfl, rfl, rfl, rfl, rfl, rfl, rfl, rfl, rfl, rfl, rfl, rfl⟩ := hf
      exact ke_z hQ hexec hb hr (.inl rfl) hP hD hS dX5_readHarbour_33 hlocks
  · refine lv_aload_n (pc := 15) hexec hb dX5_readHarbour_15 rfl (lv_at hl 0 rfl) ?_
    refine lv_iconst (pc := 16) hexec hb dX5_readHarbour_16 ki_3 ?_
    refine lv_aload_n (pc := 17) hexec hb dX5_readHarbour_17 rfl (lv_at hl 0 rfl) ?_
    refine kg_get (pc := 18) hexec hb (own := RX5) hWX5 hown hG hP 0 rfl rfl 6 (nle rfl) (hts _ (List.mem_cons_of_mem _ (List.mem_append_left _ (List.mem_append_left _ (List.mem_append_left _ (List.mem_append_left _ (List.mem_append_left _ (List.mem_of_getElem? (i := 1) rfl)))))))) rfl rfl dX5_readHarbour_18 ?_
    obtain ⟨r21, x0_error_6, x0_errorAt_6, hc, hf⟩ := bd3_e hf
    refine kVp (pc := 21) (S := ⟨hexec, hb, hml, hown, hts⟩) hP hD hG hA hS [0] [1, 2, 3, 4, 5, 6, 7, 8, 9, 10, 11] [11, 0, 1, 2, 3, 4, 5, 6, 7, 8, 9, 10] (w2 := (w_X5_readHarbour g a0 a1 a2 a3 a4 a5 a6 a7 a8 a9 a10 a11 u0_1 u0_5 u0_11 u1_2 u1_4 u3_2 u3_5 x0_length x0_at x0_wordStart x0_wordLength x0_numberStart x0_number x0_cell x0_error_6 x0_errorAt_6 y2_text x3_rows x3_columns x4_count x4_reds y5_namesOn y6_land y7_riverOf y8_direction y9_home y10_length y11_letters)) rfl rfl rfl rfl rfl rfl (by decide) (c_X5_fail l g a0 _ (.ref a1) u0_1 (.ref a2) (.int x0_length) (.int x0_at) u0_5 (.int x0_wordStart) (.int x0_wordLength) (.int x0_numberStart) (.int x0_number) (.int x0_cell) u0_11 x0_error x0_errorAt 3 x0_wordStart r21 x0_error_6 x0_errorAt_6 hc) gX5_readHarbour_X5_fail rfl hv_X5_fail ⟨nle rfl, nle rfl⟩ 5 0 rfl rfl rfl (rest := []) rfl rfl hl.1 (nle rfl) dX5_readHarbour_21 (fun H locs hP hD hS => ?_)
    obtain ⟨hx, hf⟩ := zb_e hf
    simp only [Option.some.injEq, Prod.mk.injEq] at hf
    obtain ⟨rfl, rfl, rfl, rfl, rfl, rfl, rfl, rfl, rfl, rfl, rfl, rfl, rfl, rfl, rfl⟩ := hf
    exact ke_z hQ hexec hb hr hx hP hD hS dX5_readHarbour_24 hlocks
abbrev w_X5_readRiver (g : GE) (a0 a1 a2 a3 a4 a5 a6 a7 a8 a9 a10 a11 a12 a13 a14 a15 : Nat) (u0_5 u0_7 u0_11 u1_2 u1_4 u5_1 u5_5 : Value) (x0_length : Int32) (x0_at : Int32) (x0_wordStart : Int32) (x0_numberStart : Int32) (x0_number : Int32) (x0_cell : Int32) (x0_error : Int32) (x0_errorAt : Int32) (x2_length : Int32) (y3_text : Nat → Int32) (x4_rows : Int32) (x4_columns : Int32) (x4_rivers : Int32) (x5_count : Int32) (y6_namesOn : Nat → Int32) (y7_costs : Nat → Int32) (y8_sums : Nat → Int32) (y9_way : Nat → Int32) (y10_land : Nat → Int32) (y11_riverOf : Nat → Int32) (y12_riverPlace : Nat → Int32) (y13_direction : Nat → Int32) (y14_home : Nat → Int32) (y15_length : Nat → Int32) : va_W := [(a0, .inr (5, [.ref a1, .ref a2, .ref a3, .int x0_length, .int x0_at, u0_5, .int x0_wordStart, u0_7, .int x0_numberStart, .int x0_number, .int x0_cell, u0_11, .int x0_error, .int x0_errorAt])), (a1, .inr (6, [.ref a4, .ref a5, u1_2, .ref a6, u1_4])), (a2, .inr (7, [.ref a7, .ref a8, .ref a9, .int x2_length])), (a3, .inl (g.2.1 0, 500, .inl y3_text)), (a4, .inr (1, [.int x4_rows, .int x4_columns, .int x4_rivers, .ref a10, .ref a11, .ref a12])), (a5, .inr (2, [.int x5_count, u5_1, .ref a14, .ref a13, .ref a15, u5_5])), (a6, .inl (g.2.1 0, 144, .inl y6_namesOn)), (a7, .inl (g.2.1 0, 144, .inl y7_costs)), (a8, .inl (g.2.1 0, 144, .inl y8_sums)), (a9, .inl (g.2.1 0, 144, .inl y9_way)), (a10, .inl (g.2.1 1, 144, .inl y10_land)), (a11, .inl (g.2.1 0, 144, .inl y11_riverOf)), (a12, .inl (g.2.1 0, 144, .inl y12_riverPlace)), (a13, .inl (g.2.1 0, 8, .inl y13_direction)), (a14, .inl (g.2.1 0, 8, .inl y14_home)), (a15, .inl (g.2.1 0, 8, .inl y15_length))]
set_option maxRecDepth 20000 in
theorem c_X5_readRiver (l : Launch) (g : GE) (a0 a1 a2 a3 a4 a5 a6 a7 a8 a9 a10 a11 a12 a13 a14 a15 : Nat) (sz : Nat) (u0_5 u0_7 u0_11 u1_2 u1_4 u5_1 u5_5 : Value) (x0_length : Int32) (x0_at : Int32) (x0_wordStart : Int32) (x0_numberStart : Int32) (x0_number : Int32) (x0_cell : Int32) (x0_error : Int32) (x0_errorAt : Int32) (x2_length : Int32) (y3_text : Nat → Int32) (x4_rows : Int32) (x4_columns : Int32) (x4_rivers : Int32) (x5_count : Int32) (y6_namesOn : Nat → Int32) (y7_costs : Nat → Int32) (y8_sums : Nat → Int32) (y9_way : Nat → Int32) (y10_land : Nat → Int32) (y11_riverOf : Nat → Int32) (y12_riverPlace : Nat → Int32) (y13_direction : Nat → Int32) (y14_home : Nat → Int32) (y15_length : Nat → Int32)   (r : Int32) (o_x0_at : Int32) (o_x0_numberStart : Int32) (o_x0_number : Int32) (o_x0_cell : Int32) (o_x0_error : Int32) (o_x0_errorAt : Int32) (o_x2_length : Int32) (o_x4_rivers : Int32) (o_y6_namesOn : Nat → Int32) (o_y7_costs : Nat → Int32) (o_y8_sums : Nat → Int32) (o_y9_way : Nat → Int32) (o_y11_riverOf : Nat → Int32) (o_y12_riverPlace : Nat → Int32) (o_y13_direction : Nat → Int32) (hf : f_X5_readRiver x0_length x0_at x0_wordStart x0_numberStart x0_number x0_cell x0_error x0_errorAt x2_length y3_text x4_rows x4_columns x4_rivers x5_count y6_namesOn y7_costs y8_sums y9_way y10_land y11_riverOf y12_riverPlace y13_direction y14_home y15_length = some (r, o_x0_at, o_x0_numberStart, o_x0_number, o_x0_cell, o_x0_error, o_x0_errorAt, o_x2_length, o_x4_rivers, o_y6_namesOn, o_y7_costs, o_y8_sums, o_y9_way, o_y11_riverOf, o_y12_riverPlace, o_y13_direction)) : MI l g yX5_readRiver wsX5_readRiver 5 110 [.ref a0] (w_X5_readRiver g a0 a1 a2 a3 a4 a5 a6 a7 a8 a9 a10 a11 a12 a13 a14 a15 u0_5 u0_7 u0_11 u1_2 u1_4 u5_1 u5_5 x0_length x0_at x0_wordStart x0_numberStart x0_number x0_cell x0_error x0_errorAt x2_length y3_text x4_rows x4_columns x4_rivers x5_count y6_namesOn y7_costs y8_sums y9_way y10_land y11_riverOf y12_riverPlace y13_direction y14_home y15_length) sz (some (.int r)) (w_X5_readRiver g a0 a1 a2 a3 a4 a5 a6 a7 a8 a9 a10 a11 a12 a13 a14 a15 u0_5 u0_7 u0_11 u1_2 u1_4 u5_1 u5_5 x0_length o_x0_at x0_wordStart o_x0_numberStart o_x0_number o_x0_cell o_x0_error o_x0_errorAt o_x2_length y3_text x4_rows x4_columns o_x4_rivers x5_count o_y6_namesOn o_y7_costs o_y8_sums o_y9_way y10_land o_y11_riverOf o_y12_riverPlace o_y13_direction y14_home y15_length) := by
  refine MI.start (cc := cX5_readRiver) (maxL := 1) (ret := (some .boolean)) rfl rfl (nle rfl) ?_
  intro p e s m args below meth c A ls Q hQ hexec hb hr hts hown hlocks hml hA hP hD hG hS hl
  unfold f_X5_readRiver at hf
  have hWX1 : ∀ w ∈ wsX10, w.before args s = true := fun w h => hts w (List.mem_cons_of_mem _ (List.mem_append_left _ (List.mem_append_left _ (List.mem_append_right _ h))))
  have hWX2 : ∀ w ∈ wsX20, w.before args s = true := fun w h => hts w (List.mem_cons_of_mem _ (List.mem_append_right _ h))
  have hWX5 : ∀ w ∈ wsX50, w.before args s = true := fun w h => hts w (List.mem_cons_of_mem _ (List.mem_append_left _ (List.mem_append_left _ (List.mem_append_left _ (List.mem_append_left _ (List.mem_append_right _ h))))))
  have hWX6 : ∀ w ∈ wsX60, w.before args s = true := fun w h => hts w (List.mem_cons_of_mem _ (List.mem_append_left _ (List.mem_append_left _ (List.mem_append_left _ (List.mem_append_right _ h)))))
  have hWX7 : ∀ w ∈ wsX70, w.before args s = true := fun w h => hts w (List.mem_cons_of_mem _ (List.mem_append_left _ (List.mem_append_right _ h)))
  have hS : va_S A s.heap s.heap [] := hS
  refine lv_aload_n (pc := 0) hexec hb dX5_readRiver_0 rfl (lv_at hl 0 rfl) ?_
  refine kg_get (pc := 1) hexec hb (own := RX5) hWX5 hown hG hP 0 rfl rfl 0 (nle rfl) (hts _ (List.mem_cons_of_mem _ (List.mem_append_left _ (List.mem_append_left _ (List.mem_append_left _ (List.mem_append_left _ (List.mem_append_left _ (List.mem_append_left _ (List.mem_of_getElem? (i := 0) rfl))))))))) rfl rfl dX5_readRiver_1 ?_
  refine kg_getN (pc := 4) hexec hb (own := RX5) hWX6 hown hG hP 1 rfl rfl 0 (nle rfl) 23 rfl rfl rfl dX5_readRiver_4 ?_
  refine kg_getN (pc := 7) hexec hb (own := RX5) hWX1 hown hG hP 4 rfl rfl 2 (nle rfl) 5 rfl rfl rfl dX5_readRiver_7 ?_
  refine lv_bipush (pc := 10) hexec hb dX5_readRiver_10 kb_8 ?_
  refine ki_lt (pc := 12) hexec hb dX5_readRiver_12 (tgt := 25) rfl hf (fun hc hf => ?_) (fun hc hf => ?_)
  · refine lv_aload_n (pc := 25) hexec hb dX5_readRiver_25 rfl (lv_at hl 0 rfl) ?_
    obtain ⟨r26, x0_at_1, x0_numberStart_1, x0_number_1, x0_cell_1, x0_error_1, x0_errorAt_1, hc, hf⟩ := bd7_e hf
    refine kVp (pc := 26) (S := ⟨hexec, hb, hml, hown, hts⟩) hP hD hG hA hS [0, 1, 3, 4] [2, 5, 6, 7, 8, 9, 10, 11, 12, 13, 14, 15] [12, 13, 0, 14, 15, 1, 2, 3, 4, 5, 6, 7, 8, 9, 10, 11] (w2 := (w_X5_readRiver g a0 a1 a2 a3 a4 a5 a6 a7 a8 a9 a10 a11 a12 a13 a14 a15 u0_5 u0_7 u0_11 u1_2 u1_4 u5_1 u5_5 x0_length x0_at_1 x0_wordStart x0_numberStart_1 x0_number_1 x0_cell_1 x0_error_1 x0_errorAt_1 x2_length y3_text x4_rows x4_columns x4_rivers x5_count y6_namesOn y7_costs y8_sums y9_way y10_land y11_riverOf y12_riverPlace y13_direction y14_home y15_length)) rfl rfl rfl rfl rfl rfl (by decide) (c_X5_takeCell l g a0 a1 a3 a4 _ (.ref a2) u0_5 (.int x0_wordStart) u0_7 u0_11 (.ref a5) u1_2 (.ref a6) u1_4 (.int x4_rivers) (.ref a10) (.ref a11) (.ref a12) x0_length x0_at x0_numberStart x0_number x0_cell x0_error x0_errorAt y3_text x4_rows x4_columns r26 x0_at_1 x0_numberStart_1 x0_number_1 x0_cell_1 x0_error_1 x0_errorAt_1 hc) gX5_readRiver_X5_takeCell rfl hv_X5_takeCell ⟨nle rfl, nle rfl⟩ 5 0 rfl rfl rfl (rest := []) rfl rfl hl.1 (nle rfl) dX5_readRiver_26 (fun H locs hP hD hS => ?_)
    refine kb_ne (pc := 29) hexec hb dX5_readRiver_29 (tgt := 34) rfl hf (fun hc hf => ?_) (fun hc hf => ?_)
    · refine lv_aload_n (pc := 34) hexec hb dX5_readRiver_34 rfl (lv_at hl 0 rfl) ?_
      refine kg_get (pc := 35) hexec hb (own := RX5) hWX5 hown hG hP 0 rfl rfl 1 (nle rfl) (hts _ (List.mem_cons_of_mem _ (List.mem_append_left _ (List.mem_append_left _ (List.mem_append_left _ (List.mem_append_left _ (List.mem_append_left _ (List.mem_append_left _ (List.mem_of_getElem? (i := 2) rfl))))))))) rfl rfl dX5_readRiver_35 ?_
      refine lv_aload_n (pc := 38) hexec hb dX5_readRiver_38 rfl (lv_at hl 0 rfl) ?_
      refine kg_get (pc := 39) hexec hb (own := RX5) hWX5 hown hG hP 0 rfl rfl 0 (nle rfl) (hts _ (List.mem_cons_of_mem _ (List.mem_append_left _ (List.mem_append_left _ (List.mem_append_left _ (List.mem_append_left _ (List.mem_append_left _ (List.mem_append_left _ (List.mem_of_getElem? (i := 0) rfl))))))))) rfl rfl dX5_readRiver_39 ?_
      obtain ⟨y7_costs_1, y8_sums_1, hc, hf⟩ := bd2_e hf
      refine kVp (pc := 42) (S := ⟨hexec, hb, hml, hown, hts⟩) hP hD hG hA hS [2, 7, 8, 1, 4, 5, 6, 10, 11, 14] [0, 3, 9, 12, 13, 15] [0, 9, 6, 1, 10, 11, 12, 7, 8, 2, 13, 14, 3, 4, 15, 5] (w2 := (w_X5_readRiver g a0 a1 a2 a3 a4 a5 a6 a7 a8 a9 a10 a11 a12 a13 a14 a15 u0_5 u0_7 u0_11 u1_2 u1_4 u5_1 u5_5 x0_length x0_at_1 x0_wordStart x0_numberStart_1 x0_number_1 x0_cell_1 x0_error_1 x0_errorAt_1 x2_length y3_text x4_rows x4_columns x4_rivers x5_count y6_namesOn y7_costs_1 y8_sums_1 y9_way y10_land y11_riverOf y12_riverPlace y13_direction y14_home y15_length)) rfl rfl rfl rfl rfl rfl (by decide) (c_X7_survey l g a2 a7 a8 a1 a4 a5 a6 a10 a11 a14 _ (.ref a9) (.int x2_length) u1_2 u1_4 (.int x4_rivers) (.ref a12) u5_1 (.ref a13) (.ref a15) u5_5 y7_costs y8_sums x4_rows x4_columns x5_count y6_namesOn y10_land y11_riverOf y14_home y7_costs_1 y8_sums_1 hc) gX5_readRiver_X7_survey rfl hv_X7_survey ⟨nle rfl, nle rfl⟩ 7 0 rfl rfl rfl (rest := []) rfl rfl hl.1 (nle rfl) dX5_readRiver_42 (fun H locs hP hD hS => ?_)
      refine lv_aload_n (pc := 45) hexec hb dX5_readRiver_45 rfl (lv_at hl 0 rfl) ?_
      refine kg_get (pc := 46) hexec hb (own := RX5) hWX5 hown hG hP 0 rfl rfl 1 (nle rfl) (hts _ (List.mem_cons_of_mem _ (List.mem_append_left _ (List.mem_append_left _ (List.mem_append_left _ (List.mem_append_left _ (List.mem_append_left _ (List.mem_append_left _ (List.mem_of_getElem? (i := 2) rfl))))))))) rfl rfl dX5_readRiver_46 ?_
      refine lv_aload_n (pc := 49) hexec hb dX5_readRiver_49 rfl (lv_at hl 0 rfl) ?_
      refine kg_get (pc := 50) hexec hb (own := RX5) hWX5 hown hG hP 0 rfl rfl 0 (nle rfl) (hts _ (List.mem_cons_of_mem _ (List.mem_append_left _ (List.mem_append_left _ (List.mem_append_left _ (List.mem_append_left _ (List.mem_append_left _ (List.mem_append_left _ (List.mem_of_getElem? (i := 0) rfl))))))))) rfl rfl dX5_readRiver_50 ?_
      refine kg_getN (pc := 53) hexec hb (own := RX5) hWX6 hown hG hP 1 rfl rfl 0 (nle rfl) 23 rfl rfl rfl dX5_readRiver_53 ?_
      refine lv_aload_n (pc := 56) hexec hb dX5_readRiver_56 rfl (lv_at hl 0 rfl) ?_
      refine kg_get (pc := 57) hexec hb (own := RX5) hWX5 hown hG hP 0 rfl rfl 10 (nle rfl) (hts _ (List.mem_cons_of_mem _ (List.mem_append_left _ (List.mem_append_left _ (List.mem_append_left _ (List.mem_append_left _ (List.mem_append_left _ (List.mem_append_left _ (List.mem_of_getElem? (i := 3) rfl))))))))) rfl rfl dX5_readRiver_57 ?_
      obtain ⟨r60, x2_length_1, y9_way_1, hc, hf⟩ := bd3_e hf
      refine kVp (pc := 60) (S := ⟨hexec, hb, hml, hown, hts⟩) hP hD hG hA hS [2, 7, 8, 9, 4] [0, 1, 3, 5, 6, 10, 11, 12, 13, 14, 15] [0, 1, 11, 2, 15, 3, 4, 12, 13, 14, 5, 6, 7, 8, 9, 10] (w2 := (w_X5_readRiver g a0 a1 a2 a3 a4 a5 a6 a7 a8 a9 a10 a11 a12 a13 a14 a15 u0_5 u0_7 u0_11 u1_2 u1_4 u5_1 u5_5 x0_length x0_at_1 x0_wordStart x0_numberStart_1 x0_number_1 x0_cell_1 x0_error_1 x0_errorAt_1 x2_length_1 y3_text x4_rows x4_columns x4_rivers x5_count y6_namesOn y7_costs_1 y8_sums_1 y9_way_1 y10_land y11_riverOf y12_riverPlace y13_direction y14_home y15_length)) rfl rfl rfl rfl rfl rfl (by decide) (c_X7_trace l g a2 a7 a8 a9 a4 _ (.int x4_rivers) (.ref a10) (.ref a11) (.ref a12) x2_length y7_costs_1 y8_sums_1 y9_way x4_rows x4_columns x0_cell_1 r60 x2_length_1 y9_way_1 hc) gX5_readRiver_X7_trace rfl hv_X7_trace ⟨nle rfl, nle rfl⟩ 7 0 rfl rfl rfl (rest := []) rfl rfl hl.1 (nle rfl) dX5_readRiver_60 (fun H locs hP hD hS => ?_)
      refine kb_ne (pc := 63) hexec hb dX5_readRiver_63 (tgt := 76) rfl hf (fun hc hf => ?_) (fun hc hf => ?_)
      · refine lv_aload_n (pc := 76) hexec hb dX5_readRiver_76 rfl (lv_at hl 0 rfl) ?_
        refine kg_get (pc := 77) hexec hb (own := RX5) hWX5 hown hG hP 0 rfl rfl 0 (nle rfl) (hts _ (List.mem_cons_of_mem _ (List.mem_append_left _ (List.mem_append_left _ (List.mem_append_left _ (List.mem_append_left _ (List.mem_append_left _ (List.mem_append_left _ (List.mem_of_getElem? (i := 0) rfl))))))))) rfl rfl dX5_readRiver_77 ?_
        refine lv_aload_n (pc := 80) hexec hb dX5_readRiver_80 rfl (lv_at hl 0 rfl) ?_
        refine kg_get (pc := 81) hexec hb (own := RX5) hWX5 hown hG hP 0 rfl rfl 1 (nle rfl) (hts _ (List.mem_cons_of_mem _ (List.mem_append_left _ (List.mem_append_left _ (List.mem_append_left _ (List.mem_append_left _ (List.mem_append_left _ (List.mem_append_left _ (List.mem_of_getElem? (i := 2) rfl))))))))) rfl rfl dX5_readRiver_81 ?_
        refine lv_aload_n (pc := 84) hexec hb dX5_readRiver_84 rfl (lv_at hl 0 rfl) ?_
        refine kg_get (pc := 85) hexec hb (own := RX5) hWX5 hown hG hP 0 rfl rfl 0 (nle rfl) (hts _ (List.mem_cons_of_mem _ (List.mem_append_left _ (List.mem_append_left _ (List.mem_append_left _ (List.mem_append_left _ (List.mem_append_left _ (List.mem_append_left _ (List.mem_of_getElem? (i := 0) rfl))))))))) rfl rfl dX5_readRiver_85 ?_
        obtain ⟨r88, hc, hf⟩ := bd1_e hf
        refine kVp (pc := 88) (S := ⟨hexec, hb, hml, hown, hts⟩) hP hD hG hA hS [2, 9, 1, 6] [0, 3, 4, 5, 7, 8, 10, 11, 12, 13, 14, 15] [0, 14, 12, 1, 2, 3, 15, 4, 5, 13, 6, 7, 8, 9, 10, 11] (w2 := (w_X5_readRiver g a0 a1 a2 a3 a4 a5 a6 a7 a8 a9 a10 a11 a12 a13 a14 a15 u0_5 u0_7 u0_11 u1_2 u1_4 u5_1 u5_5 x0_length x0_at_1 x0_wordStart x0_numberStart_1 x0_number_1 x0_cell_1 x0_error_1 x0_errorAt_1 x2_length_1 y3_text x4_rows x4_columns x4_rivers x5_count y6_namesOn y7_costs_1 y8_sums_1 y9_way_1 y10_land y11_riverOf y12_riverPlace y13_direction y14_home y15_length)) rfl rfl rfl rfl rfl rfl (by decide) (c_X7_namesOnWay l g a2 a9 a1 a6 _ (.ref a7) (.ref a8) (.ref a4) (.ref a5) u1_2 u1_4 x2_length_1 y9_way_1 y6_namesOn r88 hc) gX5_readRiver_X7_namesOnWay rfl hv_X7_namesOnWay ⟨nle rfl, nle rfl⟩ 7 0 rfl rfl rfl (rest := [.ref a1]) rfl rfl hl.1 (nle rfl) dX5_readRiver_88 (fun H locs hP hD hS => ?_)
        obtain ⟨y6_namesOn_1, y13_direction_1, hc, hf⟩ := bd2_e hf
        refine kVp (pc := 91) (S := ⟨hexec, hb, hml, hown, hts⟩) hP hD hG hA hS [1, 4, 5, 6, 13, 14, 15] [0, 2, 3, 7, 8, 9, 10, 11, 12] [0, 9, 1, 2, 10, 11, 12, 3, 4, 5, 6, 7, 8, 13, 14, 15] (w2 := (w_X5_readRiver g a0 a1 a2 a3 a4 a5 a6 a7 a8 a9 a10 a11 a12 a13 a14 a15 u0_5 u0_7 u0_11 u1_2 u1_4 u5_1 u5_5 x0_length x0_at_1 x0_wordStart x0_numberStart_1 x0_number_1 x0_cell_1 x0_error_1 x0_errorAt_1 x2_length_1 y3_text x4_rows x4_columns x4_rivers x5_count y6_namesOn_1 y7_costs_1 y8_sums_1 y9_way_1 y10_land y11_riverOf y12_riverPlace y13_direction_1 y14_home y15_length)) rfl rfl rfl rfl rfl rfl (by decide) (c_X6_takeNames l g a1 a4 a5 a6 a13 a14 a15 _ u1_2 u1_4 (.int x4_rivers) (.ref a10) (.ref a11) (.ref a12) u5_1 u5_5 x4_rows x4_columns x5_count y6_namesOn y13_direction y14_home y15_length r88 y6_namesOn_1 y13_direction_1 hc) gX5_readRiver_X6_takeNames rfl hv_X6_takeNames ⟨nle rfl, nle rfl⟩ 6 0 rfl rfl rfl (rest := []) rfl rfl hl.1 (nle rfl) dX5_readRiver_91 (fun H locs hP hD hS => ?_)
        refine lv_aload_n (pc := 94) hexec hb dX5_readRiver_94 rfl (lv_at hl 0 rfl) ?_
        refine kg_get (pc := 95) hexec hb (own := RX5) hWX5 hown hG hP 0 rfl rfl 0 (nle rfl) (hts _ (List.mem_cons_of_mem _ (List.mem_append_left _ (List.mem_append_left _ (List.mem_append_left _ (List.mem_append_left _ (List.mem_append_left _ (List.mem_append_left _ (List.mem_of_getElem? (i := 0) rfl))))))))) rfl rfl dX5_readRiver_95 ?_
        refine kg_getN (pc := 98) hexec hb (own := RX5) hWX6 hown hG hP 1 rfl rfl 0 (nle rfl) 23 rfl rfl rfl dX5_readRiver_98 ?_
        refine lv_aload_n (pc := 101) hexec hb dX5_readRiver_101 rfl (lv_at hl 0 rfl) ?_
        refine kg_get (pc := 102) hexec hb (own := RX5) hWX5 hown hG hP 0 rfl rfl 1 (nle rfl) (hts _ (List.mem_cons_of_mem _ (List.mem_append_left _ (List.mem_append_left _ (List.mem_append_left _ (List.mem_append_left _ (List.mem_append_left _ (List.mem_append_left _ (List.mem_of_getElem? (i := 2) rfl))))))))) rfl rfl dX5_readRiver_102 ?_
        refine kg_getN (pc := 105) hexec hb (own := RX5) hWX7 hown hG hP 2 rfl rfl 2 (nle rfl) 31 rfl rfl rfl dX5_readRiver_105 ?_
        refine lv_aload_n (pc := 108) hexec hb dX5_readRiver_108 rfl (lv_at hl 0 rfl) ?_
        refine kg_get (pc := 109) hexec hb (own := RX5) hWX5 hown hG hP 0 rfl rfl 1 (nle rfl) (hts _ (List.mem_cons_of_mem _ (List.mem_append_left _ (List.mem_append_left _ (List.mem_append_left _ (List.mem_append_left _ (List.mem_append_left _ (List.mem_append_left _ (List.mem_of_getElem? (i := 2) rfl))))))))) rfl rfl dX5_readRiver_109 ?_
        refine kg_getN (pc := 112) hexec hb (own := RX5) hWX7 hown hG hP 2 rfl rfl 3 (nle rfl) 33 rfl rfl rfl dX5_readRiver_112 ?_
        obtain ⟨x4_rivers_1, y11_riverOf_1, y12_riverPlace_1, hc, hf⟩ := bd3_e hf
        refine kVp (pc := 115) (S := ⟨hexec, hb, hml, hown, hts⟩) hP hD hG hA hS [4, 11, 12, 9] [0, 1, 2, 3, 5, 6, 7, 8, 10, 13, 14, 15] [0, 1, 2, 3, 12, 4, 5, 6, 7, 15, 8, 13, 14, 9, 10, 11] (w2 := (w_X5_readRiver g a0 a1 a2 a3 a4 a5 a6 a7 a8 a9 a10 a11 a12 a13 a14 a15 u0_5 u0_7 u0_11 u1_2 u1_4 u5_1 u5_5 x0_length x0_at_1 x0_wordStart x0_numberStart_1 x0_number_1 x0_cell_1 x0_error_1 x0_errorAt_1 x2_length_1 y3_text x4_rows x4_columns x4_rivers_1 x5_count y6_namesOn_1 y7_costs_1 y8_sums_1 y9_way_1 y10_land y11_riverOf_1 y12_riverPlace_1 y13_direction_1 y14_home y15_length)) rfl rfl rfl rfl rfl rfl (by decide) (c_X1_layRiver l g a4 a11 a12 a9 _ (.int x4_rows) (.int x4_columns) (.ref a10) x4_rivers y11_riverOf y12_riverPlace y9_way_1 x2_length_1 x4_rivers_1 y11_riverOf_1 y12_riverPlace_1 hc) gX5_readRiver_X1_layRiver rfl hv_X1_layRiver ⟨nle rfl, nle rfl⟩ 1 0 rfl rfl rfl (rest := []) rfl rfl hl.1 (nle rfl) dX5_readRiver_115 (fun H locs hP hD hS => ?_)
        refine lv_iconst (pc := 118) hexec hb dX5_readRiver_118 ki_1 ?_
        simp only [Option.some.injEq, Prod.mk.injEq] at hf
        obtain ⟨rfl, rfl, rfl, rfl, rfl, rfl, rfl, rfl, rfl, rfl, rfl, rfl, rfl, rfl, rfl, rfl⟩ := hf
        exact ke_z hQ hexec hb hr (.inr rfl) hP hD hS dX5_readRiver_119 hlocks
      · refine lv_aload_n (pc := 66) hexec hb dX5_readRiver_66 rfl (lv_at hl 0 rfl) ?_
        refine lv_iconst (pc := 67) hexec hb dX5_readRiver_67 ki_3 ?_
        refine lv_aload_n (pc := 68) hexec hb dX5_readRiver_68 rfl (lv_at hl 0 rfl) ?_
        refine kg_get (pc := 69) hexec hb (own := RX5) hWX5 hown hG hP 0 rfl rfl 8 (nle rfl) (hts _ (List.mem_cons_of_mem _ (List.mem_append_left _ (List.mem_append_left _ (List.mem_append_left _ (List.mem_append_left _ (List.mem_append_left _ (List.mem_append_left _ (List.mem_of_getElem? (i := 4) rfl))))))))) rfl rfl dX5_readRiver_69 ?_
        obtain ⟨r72, x0_error_2, x0_errorAt_2, hc, hf⟩ := bd3_e hf
        refine kVp (pc := 72) (S := ⟨hexec, hb, hml, hown, hts⟩) hP hD hG hA hS [0] [1, 2, 3, 4, 5, 6, 7, 8, 9, 10, 11, 12, 13, 14, 15] [15, 0, 1, 2, 3, 4, 5, 6, 7, 8, 9, 10, 11, 12, 13, 14] (w2 := (w_X5_readRiver g a0 a1 a2 a3 a4 a5 a6 a7 a8 a9 a10 a11 a12 a13 a14 a15 u0_5 u0_7 u0_11 u1_2 u1_4 u5_1 u5_5 x0_length x0_at_1 x0_wordStart x0_numberStart_1 x0_number_1 x0_cell_1 x0_error_2 x0_errorAt_2 x2_length_1 y3_text x4_rows x4_columns x4_rivers x5_count y6_namesOn y7_costs_1 y8_sums_1 y9_way_1 y10_land y11_riverOf y12_riverPlace y13_direction y14_home y15_length)) rfl rfl rfl rfl rfl rfl (by decide) (c_X5_fail l g a0 _ (.ref a1) (.ref a2) (.ref a3) (.int x0_length) (.int x0_at_1) u0_5 (.int x0_wordStart) u0_7 (.int x0_numberStart_1) (.int x0_number_1) (.int x0_cell_1) u0_11 x0_error_1 x0_errorAt_1 3 x0_numberStart_1 r72 x0_error_2 x0_errorAt_2 hc) gX5_readRiver_X5_fail rfl hv_X5_fail ⟨nle rfl, nle rfl⟩ 5 0 rfl rfl rfl (rest := []) rfl rfl hl.1 (nle rfl) dX5_readRiver_72 (fun H locs hP hD hS => ?_)
        obtain ⟨hx, hf⟩ := zb_e hf
        simp only [Option.some.injEq, Prod.mk.injEq] at hf
        obtain ⟨rfl, rfl, rfl, rfl, rfl, rfl, rfl, rfl, rfl, rfl, rfl, rfl, rfl, rfl, rfl, rfl⟩ := hf
        exact ke_z hQ hexec hb hr hx hP hD hS dX5_readRiver_75 hlocks
    · refine lv_iconst (pc := 32) hexec hb dX5_readRiver_32 ki_0 ?_
      simp only [Option.some.injEq, Prod.mk.injEq] at hf
      obtain ⟨rfl, rfl, rfl, rfl, rfl, rfl, rfl, rfl, rfl, rfl, rfl, rfl, rfl, rfl, rfl, rfl⟩ := hf
      exact ke_z hQ hexec hb hr (.inl rfl) hP hD hS dX5_readRiver_33 hlocks
  · refine lv_aload_n (pc := 15) hexec hb dX5_readRiver_15 rfl (lv_at hl 0 rfl) ?_
    refine lv_iconst (pc := 16) hexec hb dX5_readRiver_16 ki_3 ?_
    refine lv_aload_n (pc := 17) hexec hb dX5_readRiver_17 rfl (lv_at hl 0 rfl) ?_
    refine kg_get (pc := 18) hexec hb (own := RX5) hWX5 hown hG hP 0 rfl rfl 6 (nle rfl) (hts _ (List.mem_cons_of_mem _ (List.mem_append_left _ (List.mem_append_left _ (List.mem_append_left _ (List.mem_append_left _ (List.mem_append_left _ (List.mem_append_left _ (List.mem_of_getElem? (i := 1) rfl))))))))) rfl rfl dX5_readRiver_18 ?_
    obtain ⟨r21, x0_error_3, x0_errorAt_3, hc, hf⟩ := bd3_e hf
    refine kVp (pc := 21) (S := ⟨hexec, hb, hml, hown, hts⟩) hP hD hG hA hS [0] [1, 2, 3, 4, 5, 6, 7, 8, 9, 10, 11, 12, 13, 14, 15] [15, 0, 1, 2, 3, 4, 5, 6, 7, 8, 9, 10, 11, 12, 13, 14] (w2 := (w_X5_readRiver g a0 a1 a2 a3 a4 a5 a6 a7 a8 a9 a10 a11 a12 a13 a14 a15 u0_5 u0_7 u0_11 u1_2 u1_4 u5_1 u5_5 x0_length x0_at x0_wordStart x0_numberStart x0_number x0_cell x0_error_3 x0_errorAt_3 x2_length y3_text x4_rows x4_columns x4_rivers x5_count y6_namesOn y7_costs y8_sums y9_way y10_land y11_riverOf y12_riverPlace y13_direction y14_home y15_length)) rfl rfl rfl rfl rfl rfl (by decide) (c_X5_fail l g a0 _ (.ref a1) (.ref a2) (.ref a3) (.int x0_length) (.int x0_at) u0_5 (.int x0_wordStart) u0_7 (.int x0_numberStart) (.int x0_number) (.int x0_cell) u0_11 x0_error x0_errorAt 3 x0_wordStart r21 x0_error_3 x0_errorAt_3 hc) gX5_readRiver_X5_fail rfl hv_X5_fail ⟨nle rfl, nle rfl⟩ 5 0 rfl rfl rfl (rest := []) rfl rfl hl.1 (nle rfl) dX5_readRiver_21 (fun H locs hP hD hS => ?_)
    obtain ⟨hx, hf⟩ := zb_e hf
    simp only [Option.some.injEq, Prod.mk.injEq] at hf
    obtain ⟨rfl, rfl, rfl, rfl, rfl, rfl, rfl, rfl, rfl, rfl, rfl, rfl, rfl, rfl, rfl, rfl⟩ := hf
    exact ke_z hQ hexec hb hr hx hP hD hS dX5_readRiver_24 hlocks
abbrev w_X5_directionWord (g : GE) (a0 a1 : Nat) (u0_0 u0_1 u0_4 u0_5 u0_8 u0_9 u0_10 u0_11 u0_12 u0_13 : Value) (x0_length : Int32) (x0_wordStart : Int32) (x0_wordLength : Int32) (y1_text : Nat → Int32) : va_W := [(a0, .inr (5, [u0_0, u0_1, .ref a1, .int x0_length, u0_4, u0_5, .int x0_wordStart, .int x0_wordLength, u0_8, u0_9, u0_10, u0_11, u0_12, u0_13])), (a1, .inl (g.2.1 0, 500, .inl y1_text))]
set_option maxRecDepth 20000 in
theorem c_X5_directionWord (l : Launch) (g : GE) (a0 a1 : Nat) (sz : Nat) (u0_0 u0_1 u0_4 u0_5 u0_8 u0_9 u0_10 u0_11 u0_12 u0_13 : Value) (x0_length : Int32) (x0_wordStart : Int32) (x0_wordLength : Int32) (y1_text : Nat → Int32)   (r : Int32) (hf : f_X5_directionWord x0_length x0_wordStart x0_wordLength y1_text = some r) : MI l g yX5_directionWord wsX5_directionWord 6 133 [.ref a0] (w_X5_directionWord g a0 a1 u0_0 u0_1 u0_4 u0_5 u0_8 u0_9 u0_10 u0_11 u0_12 u0_13 x0_length x0_wordStart x0_wordLength y1_text) sz (some (.int r)) (w_X5_directionWord g a0 a1 u0_0 u0_1 u0_4 u0_5 u0_8 u0_9 u0_10 u0_11 u0_12 u0_13 x0_length x0_wordStart x0_wordLength y1_text) := by
  refine MI.start (cc := cX5_directionWord) (maxL := 1) (ret := (some .int)) rfl rfl (nle rfl) ?_
  intro p e s m args below meth c A ls Q hQ hexec hb hr hts hown hlocks hml hA hP hD hG hS hl
  unfold f_X5_directionWord at hf
  have hWX5 : ∀ w ∈ wsX50, w.before args s = true := fun w h => hts w (List.mem_cons_of_mem _ (List.mem_append_right _ h))
  have hS : va_S A s.heap s.heap [] := hS
  refine lv_aload_n (pc := 0) hexec hb dX5_directionWord_0 rfl (lv_at hl 0 rfl) ?_
  refine k_lds (pc := 1) hexec hb (own := RX5) hown hG 8 rfl dX5_directionWord_1 ?_
  obtain ⟨r3, hc, hf⟩ := bd1_e hf
  refine kVp (pc := 3) (S := ⟨hexec, hb, hml, hown, hts⟩) hP hD hG hA hS [0, 1] [] [0, 1] (w2 := (w_X5_directionWord g a0 a1 u0_0 u0_1 u0_4 u0_5 u0_8 u0_9 u0_10 u0_11 u0_12 u0_13 x0_length x0_wordStart x0_wordLength y1_text)) rfl rfl rfl rfl rfl rfl (by decide) (c_X5_wordIs l g a0 a1 _ u0_0 u0_1 u0_4 u0_5 u0_8 u0_9 u0_10 u0_11 u0_12 u0_13 x0_length x0_wordStart x0_wordLength y1_text 8 (nle rfl) r3 hc) gX5_directionWord_X5_wordIs rfl hv_X5_wordIs ⟨nle rfl, nle rfl⟩ 5 0 rfl rfl rfl (rest := []) rfl rfl hl.1 (nle rfl) dX5_directionWord_3 (fun H locs hP hD hS => ?_)
  refine kb_eq (pc := 6) hexec hb dX5_directionWord_6 (tgt := 13) rfl hf (fun hc hf => ?_) (fun hc hf => ?_)
  · refine lv_aload_n (pc := 13) hexec hb dX5_directionWord_13 rfl (lv_at hl 0 rfl) ?_
    refine k_lds (pc := 14) hexec hb (own := RX5) hown hG 9 rfl dX5_directionWord_14 ?_
    obtain ⟨r16, hc, hf⟩ := bd1_e hf
    refine kVp (pc := 16) (S := ⟨hexec, hb, hml, hown, hts⟩) hP hD hG hA hS [0, 1] [] [0, 1] (w2 := (w_X5_directionWord g a0 a1 u0_0 u0_1 u0_4 u0_5 u0_8 u0_9 u0_10 u0_11 u0_12 u0_13 x0_length x0_wordStart x0_wordLength y1_text)) rfl rfl rfl rfl rfl rfl (by decide) (c_X5_wordIs l g a0 a1 _ u0_0 u0_1 u0_4 u0_5 u0_8 u0_9 u0_10 u0_11 u0_12 u0_13 x0_length x0_wordStart x0_wordLength y1_text 9 (nle rfl) r16 hc) gX5_directionWord_X5_wordIs rfl hv_X5_wordIs ⟨nle rfl, nle rfl⟩ 5 0 rfl rfl rfl (rest := []) rfl rfl hl.1 (nle rfl) dX5_directionWord_16 (fun H locs hP hD hS => ?_)
    refine kb_eq (pc := 19) hexec hb dX5_directionWord_19 (tgt := 26) rfl hf (fun hc hf => ?_) (fun hc hf => ?_)
    · refine lv_aload_n (pc := 26) hexec hb dX5_directionWord_26 rfl (lv_at hl 0 rfl) ?_
      refine k_lds (pc := 27) hexec hb (own := RX5) hown hG 10 rfl dX5_directionWord_27 ?_
      obtain ⟨r29, hc, hf⟩ := bd1_e hf
      refine kVp (pc := 29) (S := ⟨hexec, hb, hml, hown, hts⟩) hP hD hG hA hS [0, 1] [] [0, 1] (w2 := (w_X5_directionWord g a0 a1 u0_0 u0_1 u0_4 u0_5 u0_8 u0_9 u0_10 u0_11 u0_12 u0_13 x0_length x0_wordStart x0_wordLength y1_text)) rfl rfl rfl rfl rfl rfl (by decide) (c_X5_wordIs l g a0 a1 _ u0_0 u0_1 u0_4 u0_5 u0_8 u0_9 u0_10 u0_11 u0_12 u0_13 x0_length x0_wordStart x0_wordLength y1_text 10 (nle rfl) r29 hc) gX5_directionWord_X5_wordIs rfl hv_X5_wordIs ⟨nle rfl, nle rfl⟩ 5 0 rfl rfl rfl (rest := []) rfl rfl hl.1 (nle rfl) dX5_directionWord_29 (fun H locs hP hD hS => ?_)
      refine kb_eq (pc := 32) hexec hb dX5_directionWord_32 (tgt := 39) rfl hf (fun hc hf => ?_) (fun hc hf => ?_)
      · refine lv_aload_n (pc := 39) hexec hb dX5_directionWord_39 rfl (lv_at hl 0 rfl) ?_
        refine k_lds (pc := 40) hexec hb (own := RX5) hown hG 11 rfl dX5_directionWord_40 ?_
        obtain ⟨r42, hc, hf⟩ := bd1_e hf
        refine kVp (pc := 42) (S := ⟨hexec, hb, hml, hown, hts⟩) hP hD hG hA hS [0, 1] [] [0, 1] (w2 := (w_X5_directionWord g a0 a1 u0_0 u0_1 u0_4 u0_5 u0_8 u0_9 u0_10 u0_11 u0_12 u0_13 x0_length x0_wordStart x0_wordLength y1_text)) rfl rfl rfl rfl rfl rfl (by decide) (c_X5_wordIs l g a0 a1 _ u0_0 u0_1 u0_4 u0_5 u0_8 u0_9 u0_10 u0_11 u0_12 u0_13 x0_length x0_wordStart x0_wordLength y1_text 11 (nle rfl) r42 hc) gX5_directionWord_X5_wordIs rfl hv_X5_wordIs ⟨nle rfl, nle rfl⟩ 5 0 rfl rfl rfl (rest := []) rfl rfl hl.1 (nle rfl) dX5_directionWord_42 (fun H locs hP hD hS => ?_)
        refine kb_eq (pc := 45) hexec hb dX5_directionWord_45 (tgt := 52) rfl hf (fun hc hf => ?_) (fun hc hf => ?_)
        · refine lv_iconst (pc := 52) hexec hb dX5_directionWord_52 ki_m1 ?_
          cases hf
          exact ke_i hQ hexec hb hr hP hD hS dX5_directionWord_53 hlocks
        · refine lv_iconst (pc := 48) hexec hb dX5_directionWord_48 ki_3 ?_
          refine lv_goto (pc := 49) hexec hb dX5_directionWord_49 (tgt := 53) rfl ?_
          cases hf
          exact ke_i hQ hexec hb hr hP hD hS dX5_directionWord_53 hlocks
      · refine lv_iconst (pc := 35) hexec hb dX5_directionWord_35 ki_2 ?_
        refine lv_goto (pc := 36) hexec hb dX5_directionWord_36 (tgt := 53) rfl ?_
        cases hf
        exact ke_i hQ hexec hb hr hP hD hS dX5_directionWord_53 hlocks
    · refine lv_iconst (pc := 22) hexec hb dX5_directionWord_22 ki_1 ?_
      refine lv_goto (pc := 23) hexec hb dX5_directionWord_23 (tgt := 53) rfl ?_
      cases hf
      exact ke_i hQ hexec hb hr hP hD hS dX5_directionWord_53 hlocks
  · refine lv_iconst (pc := 9) hexec hb dX5_directionWord_9 ki_0 ?_
    refine lv_goto (pc := 10) hexec hb dX5_directionWord_10 (tgt := 53) rfl ?_
    cases hf
    exact ke_i hQ hexec hb hr hP hD hS dX5_directionWord_53 hlocks
abbrev w_X5_readPlace (g : GE) (a0 a1 a2 a3 a4 a5 a6 a7 a8 a9 a10 a11 a12 : Nat) (u0_1 u0_5 u0_8 u0_9 u0_10 u0_11 u1_2 u3_2 u3_5 : Value) (x0_length : Int32) (x0_at : Int32) (x0_wordStart : Int32) (x0_wordLength : Int32) (x0_error : Int32) (x0_errorAt : Int32) (y2_text : Nat → Int32) (x3_rows : Int32) (x3_columns : Int32) (x4_count : Int32) (x4_reds : Int32) (y5_letterOn : Nat → Int32) (y6_namesOn : Nat → Int32) (y7_land : Nat → Int32) (y8_riverOf : Nat → Int32) (y9_direction : Nat → Int32) (y10_home : Nat → Int32) (y11_length : Nat → Int32) (y12_letters : Nat → Int32) : va_W := [(a0, .inr (5, [.ref a1, u0_1, .ref a2, .int x0_length, .int x0_at, u0_5, .int x0_wordStart, .int x0_wordLength, u0_8, u0_9, u0_10, u0_11, .int x0_error, .int x0_errorAt])), (a1, .inr (6, [.ref a3, .ref a4, u1_2, .ref a6, .ref a5])), (a2, .inl (g.2.1 0, 500, .inl y2_text)), (a3, .inr (1, [.int x3_rows, .int x3_columns, u3_2, .ref a7, .ref a8, u3_5])), (a4, .inr (2, [.int x4_count, .int x4_reds, .ref a10, .ref a9, .ref a11, .ref a12])), (a5, .inl (g.2.1 0, 144, .inl y5_letterOn)), (a6, .inl (g.2.1 0, 144, .inl y6_namesOn)), (a7, .inl (g.2.1 1, 144, .inl y7_land)), (a8, .inl (g.2.1 0, 144, .inl y8_riverOf)), (a9, .inl (g.2.1 0, 8, .inl y9_direction)), (a10, .inl (g.2.1 0, 8, .inl y10_home)), (a11, .inl (g.2.1 0, 8, .inl y11_length)), (a12, .inl (g.2.1 0, 64, .inl y12_letters))]
set_option maxRecDepth 20000 in
theorem c_X5_readPlace (l : Launch) (g : GE) (a0 a1 a2 a3 a4 a5 a6 a7 a8 a9 a10 a11 a12 : Nat) (sz : Nat) (u0_1 u0_5 u0_8 u0_9 u0_10 u0_11 u1_2 u3_2 u3_5 : Value) (x0_length : Int32) (x0_at : Int32) (x0_wordStart : Int32) (x0_wordLength : Int32) (x0_error : Int32) (x0_errorAt : Int32) (y2_text : Nat → Int32) (x3_rows : Int32) (x3_columns : Int32) (x4_count : Int32) (x4_reds : Int32) (y5_letterOn : Nat → Int32) (y6_namesOn : Nat → Int32) (y7_land : Nat → Int32) (y8_riverOf : Nat → Int32) (y9_direction : Nat → Int32) (y10_home : Nat → Int32) (y11_length : Nat → Int32) (y12_letters : Nat → Int32)   (r : Int32) (o_x0_at : Int32) (o_x0_wordStart : Int32) (o_x0_wordLength : Int32) (o_x0_error : Int32) (o_x0_errorAt : Int32) (o_y5_letterOn : Nat → Int32) (o_y6_namesOn : Nat → Int32) (o_y9_direction : Nat → Int32) (hf : f_X5_readPlace x0_length x0_at x0_wordStart x0_wordLength x0_error x0_errorAt y2_text x3_rows x3_columns x4_count x4_reds y5_letterOn y6_namesOn y7_land y8_riverOf y9_direction y10_home y11_length y12_letters = some (r, o_x0_at, o_x0_wordStart, o_x0_wordLength, o_x0_error, o_x0_errorAt, o_y5_letterOn, o_y6_namesOn, o_y9_direction)) : MI l g yX5_readPlace wsX5_readPlace 7 153 [.ref a0] (w_X5_readPlace g a0 a1 a2 a3 a4 a5 a6 a7 a8 a9 a10 a11 a12 u0_1 u0_5 u0_8 u0_9 u0_10 u0_11 u1_2 u3_2 u3_5 x0_length x0_at x0_wordStart x0_wordLength x0_error x0_errorAt y2_text x3_rows x3_columns x4_count x4_reds y5_letterOn y6_namesOn y7_land y8_riverOf y9_direction y10_home y11_length y12_letters) sz (some (.int r)) (w_X5_readPlace g a0 a1 a2 a3 a4 a5 a6 a7 a8 a9 a10 a11 a12 u0_1 u0_5 u0_8 u0_9 u0_10 u0_11 u1_2 u3_2 u3_5 x0_length o_x0_at o_x0_wordStart o_x0_wordLength o_x0_error o_x0_errorAt y2_text x3_rows x3_columns x4_count x4_reds o_y5_letterOn o_y6_namesOn y7_land y8_riverOf o_y9_direction y10_home y11_length y12_letters) := by
  refine MI.start (cc := cX5_readPlace) (maxL := 3) (ret := (some .boolean)) rfl rfl (nle rfl) ?_
  intro p e s m args below meth c A ls Q hQ hexec hb hr hts hown hlocks hml hA hP hD hG hS hl
  unfold f_X5_readPlace at hf
  have hWX1 : ∀ w ∈ wsX10, w.before args s = true := fun w h => hts w (List.mem_cons_of_mem _ (List.mem_append_right _ h))
  have hWX2 : ∀ w ∈ wsX20, w.before args s = true := fun w h => hts w (List.mem_cons_of_mem _ (List.mem_append_left _ (List.mem_append_right _ h)))
  have hWX5 : ∀ w ∈ wsX50, w.before args s = true := fun w h => hts w (List.mem_cons_of_mem _ (List.mem_append_left _ (List.mem_append_left _ (List.mem_append_left _ (List.mem_append_right _ h)))))
  have hWX6 : ∀ w ∈ wsX60, w.before args s = true := fun w h => hts w (List.mem_cons_of_mem _ (List.mem_append_left _ (List.mem_append_left _ (List.mem_append_right _ h))))
  have hS : va_S A s.heap s.heap [] := hS
  refine lv_aload_n (pc := 0) hexec hb dX5_readPlace_0 rfl (lv_at hl 0 rfl) ?_
  obtain ⟨r1, x0_at_1, x0_wordStart_1, x0_wordLength_1, x0_error_1, x0_errorAt_1, hc, hf⟩ := bd6_e hf
  refine kVp (pc := 1) (S := ⟨hexec, hb, hml, hown, hts⟩) hP hD hG hA hS [0, 2] [1, 3, 4, 5, 6, 7, 8, 9, 10, 11, 12] [11, 0, 12, 1, 2, 3, 4, 5, 6, 7, 8, 9, 10] (w2 := (w_X5_readPlace g a0 a1 a2 a3 a4 a5 a6 a7 a8 a9 a10 a11 a12 u0_1 u0_5 u0_8 u0_9 u0_10 u0_11 u1_2 u3_2 u3_5 x0_length x0_at_1 x0_wordStart_1 x0_wordLength_1 x0_error_1 x0_errorAt_1 y2_text x3_rows x3_columns x4_count x4_reds y5_letterOn y6_namesOn y7_land y8_riverOf y9_direction y10_home y11_length y12_letters)) rfl rfl rfl rfl rfl rfl (by decide) (c_X5_takeName l g a0 a2 _ (.ref a1) u0_1 u0_5 u0_8 u0_9 u0_10 u0_11 x0_length x0_at x0_wordStart x0_wordLength x0_error x0_errorAt y2_text r1 x0_at_1 x0_wordStart_1 x0_wordLength_1 x0_error_1 x0_errorAt_1 hc) gX5_readPlace_X5_takeName rfl hv_X5_takeName ⟨nle rfl, nle rfl⟩ 5 0 rfl rfl rfl (rest := []) rfl rfl hl.1 (nle rfl) dX5_readPlace_1 (fun H locs hP hD hS => ?_)
  refine kb_ne (pc := 4) hexec hb dX5_readPlace_4 (tgt := 9) rfl hf (fun hc hf => ?_) (fun hc hf => ?_)
  · refine lv_aload_n (pc := 9) hexec hb dX5_readPlace_9 rfl (lv_at hl 0 rfl) ?_
    obtain ⟨r10, hc, hf⟩ := bd1_e hf
    refine kVp (pc := 10) (S := ⟨hexec, hb, hml, hown, hts⟩) hP hD hG hA hS [0, 1, 2, 4, 11, 12] [3, 5, 6, 7, 8, 9, 10] [7, 8, 9, 0, 10, 1, 2, 3, 4, 5, 6, 11, 12] (w2 := (w_X5_readPlace g a0 a1 a2 a3 a4 a5 a6 a7 a8 a9 a10 a11 a12 u0_1 u0_5 u0_8 u0_9 u0_10 u0_11 u1_2 u3_2 u3_5 x0_length x0_at_1 x0_wordStart_1 x0_wordLength_1 x0_error_1 x0_errorAt_1 y2_text x3_rows x3_columns x4_count x4_reds y5_letterOn y6_namesOn y7_land y8_riverOf y9_direction y10_home y11_length y12_letters)) rfl rfl rfl rfl rfl rfl (by decide) (c_X5_namedHarbour l g a0 a1 a2 a4 a11 a12 _ u0_1 (.int x0_at_1) u0_5 u0_8 u0_9 u0_10 u0_11 (.int x0_error_1) (.int x0_errorAt_1) (.ref a3) u1_2 (.ref a6) (.ref a5) (.int x4_reds) (.ref a10) (.ref a9) x0_length x0_wordStart_1 x0_wordLength_1 y2_text x4_count y11_length y12_letters r10 hc) gX5_readPlace_X5_namedHarbour rfl hv_X5_namedHarbour ⟨nle rfl, nle rfl⟩ 5 0 rfl rfl rfl (rest := []) rfl rfl hl.1 (nle rfl) dX5_readPlace_10 (fun H locs hP hD hS => ?_)
    refine lv_istore_n (pc := 13) hexec hb dX5_readPlace_13 rfl hl (nle rfl) rfl (fun ls (hl : lv_has ls 3 [(1, .int r10), (0, .ref a0)]) => ?_)
    refine lv_iload_n (pc := 14) hexec hb dX5_readPlace_14 rfl (lv_at hl 0 rfl) ?_
    refine lv_iconst (pc := 15) hexec hb dX5_readPlace_15 ki_m1 ?_
    refine ki_ne (pc := 16) hexec hb dX5_readPlace_16 (tgt := 29) rfl hf (fun hc hf => ?_) (fun hc hf => ?_)
    · refine lv_aload_n (pc := 29) hexec hb dX5_readPlace_29 rfl (lv_at hl 1 rfl) ?_
      obtain ⟨r30, x0_at_2, x0_wordStart_2, x0_wordLength_2, x0_error_2, x0_errorAt_2, hc, hf⟩ := bd6_e hf
      refine kVp (pc := 30) (S := ⟨hexec, hb, hml, hown, hts⟩) hP hD hG hA hS [0, 2] [1, 3, 4, 5, 6, 7, 8, 9, 10, 11, 12] [11, 0, 12, 1, 2, 3, 4, 5, 6, 7, 8, 9, 10] (w2 := (w_X5_readPlace g a0 a1 a2 a3 a4 a5 a6 a7 a8 a9 a10 a11 a12 u0_1 u0_5 u0_8 u0_9 u0_10 u0_11 u1_2 u3_2 u3_5 x0_length x0_at_2 x0_wordStart_2 x0_wordLength_2 x0_error_2 x0_errorAt_2 y2_text x3_rows x3_columns x4_count x4_reds y5_letterOn y6_namesOn y7_land y8_riverOf y9_direction y10_home y11_length y12_letters)) rfl rfl rfl rfl rfl rfl (by decide) (c_X5_takeWord l g a0 a2 _ (.ref a1) u0_1 u0_5 u0_8 u0_9 u0_10 u0_11 x0_length x0_at_1 x0_wordStart_1 x0_wordLength_1 x0_error_1 x0_errorAt_1 y2_text r30 x0_at_2 x0_wordStart_2 x0_wordLength_2 x0_error_2 x0_errorAt_2 hc) gX5_readPlace_X5_takeWord rfl hv_X5_takeWord ⟨nle rfl, nle rfl⟩ 5 0 rfl rfl rfl (rest := []) rfl rfl hl.1 (nle rfl) dX5_readPlace_30 (fun H locs hP hD hS => ?_)
      refine kb_ne (pc := 33) hexec hb dX5_readPlace_33 (tgt := 38) rfl hf (fun hc hf => ?_) (fun hc hf => ?_)
      · refine lv_aload_n (pc := 38) hexec hb dX5_readPlace_38 rfl (lv_at hl 1 rfl) ?_
        obtain ⟨r39, hc, hf⟩ := bd1_e hf
        refine kVp (pc := 39) (S := ⟨hexec, hb, hml, hown, hts⟩) hP hD hG hA hS [0, 2] [1, 3, 4, 5, 6, 7, 8, 9, 10, 11, 12] [11, 0, 12, 1, 2, 3, 4, 5, 6, 7, 8, 9, 10] (w2 := (w_X5_readPlace g a0 a1 a2 a3 a4 a5 a6 a7 a8 a9 a10 a11 a12 u0_1 u0_5 u0_8 u0_9 u0_10 u0_11 u1_2 u3_2 u3_5 x0_length x0_at_2 x0_wordStart_2 x0_wordLength_2 x0_error_2 x0_errorAt_2 y2_text x3_rows x3_columns x4_count x4_reds y5_letterOn y6_namesOn y7_land y8_riverOf y9_direction y10_home y11_length y12_letters)) rfl rfl rfl rfl rfl rfl (by decide) (c_X5_directionWord l g a0 a2 _ (.ref a1) u0_1 (.int x0_at_2) u0_5 u0_8 u0_9 u0_10 u0_11 (.int x0_error_2) (.int x0_errorAt_2) x0_length x0_wordStart_2 x0_wordLength_2 y2_text r39 hc) gX5_readPlace_X5_directionWord rfl hv_X5_directionWord ⟨nle rfl, nle rfl⟩ 5 0 rfl rfl rfl (rest := []) rfl rfl hl.1 (nle rfl) dX5_readPlace_39 (fun H locs hP hD hS => ?_)
        refine lv_istore_n (pc := 42) hexec hb dX5_readPlace_42 rfl hl (nle rfl) rfl (fun ls (hl : lv_has ls 3 [(2, .int r39), (1, .int r10), (0, .ref a0)]) => ?_)
        refine lv_iload_n (pc := 43) hexec hb dX5_readPlace_43 rfl (lv_at hl 0 rfl) ?_
        refine lv_iconst (pc := 44) hexec hb dX5_readPlace_44 ki_m1 ?_
        refine ki_ne (pc := 45) hexec hb dX5_readPlace_45 (tgt := 58) rfl hf (fun hc hf => ?_) (fun hc hf => ?_)
        · refine lv_aload_n (pc := 58) hexec hb dX5_readPlace_58 rfl (lv_at hl 2 rfl) ?_
          refine kg_get (pc := 59) hexec hb (own := RX5) hWX5 hown hG hP 0 rfl rfl 0 (nle rfl) (hts _ (List.mem_cons_of_mem _ (List.mem_append_left _ (List.mem_append_left _ (List.mem_append_left _ (List.mem_append_left _ (List.mem_append_left _ (List.mem_of_getElem? (i := 1) rfl)))))))) rfl rfl dX5_readPlace_59 ?_
          refine lv_iload_n (pc := 62) hexec hb dX5_readPlace_62 rfl (lv_at hl 1 rfl) ?_
          refine lv_iload_n (pc := 63) hexec hb dX5_readPlace_63 rfl (lv_at hl 0 rfl) ?_
          obtain ⟨r64, hc, hf⟩ := bd1_e hf
          refine kVp (pc := 64) (S := ⟨hexec, hb, hml, hown, hts⟩) hP hD hG hA hS [1, 3, 4, 5, 6, 7, 8, 10, 11, 12] [0, 2, 9] [0, 3, 1, 4, 5, 6, 7, 8, 9, 2, 10, 11, 12] (w2 := (w_X5_readPlace g a0 a1 a2 a3 a4 a5 a6 a7 a8 a9 a10 a11 a12 u0_1 u0_5 u0_8 u0_9 u0_10 u0_11 u1_2 u3_2 u3_5 x0_length x0_at_2 x0_wordStart_2 x0_wordLength_2 x0_error_2 x0_errorAt_2 y2_text x3_rows x3_columns x4_count x4_reds y5_letterOn y6_namesOn y7_land y8_riverOf y9_direction y10_home y11_length y12_letters)) rfl rfl rfl rfl rfl rfl (by decide) (c_X6_reasonAgainst l g a1 a3 a4 a5 a6 a7 a8 a10 a11 a12 _ u1_2 u3_2 u3_5 (.ref a9) x3_rows x3_columns x4_count x4_reds y5_letterOn y6_namesOn y7_land y8_riverOf y10_home y11_length y12_letters r10 r39 r64 hc) gX5_readPlace_X6_reasonAgainst rfl hv_X6_reasonAgainst ⟨nle rfl, nle rfl⟩ 6 0 rfl rfl rfl (rest := []) rfl rfl hl.1 (nle rfl) dX5_readPlace_64 (fun H locs hP hD hS => ?_)
          refine kb_eq (pc := 67) hexec hb dX5_readPlace_67 (tgt := 80) rfl hf (fun hc hf => ?_) (fun hc hf => ?_)
          · refine lv_aload_n (pc := 80) hexec hb dX5_readPlace_80 rfl (lv_at hl 2 rfl) ?_
            refine kg_get (pc := 81) hexec hb (own := RX5) hWX5 hown hG hP 0 rfl rfl 0 (nle rfl) (hts _ (List.mem_cons_of_mem _ (List.mem_append_left _ (List.mem_append_left _ (List.mem_append_left _ (List.mem_append_left _ (List.mem_append_left _ (List.mem_of_getElem? (i := 1) rfl)))))))) rfl rfl dX5_readPlace_81 ?_
            refine lv_iload_n (pc := 84) hexec hb dX5_readPlace_84 rfl (lv_at hl 1 rfl) ?_
            refine lv_iload_n (pc := 85) hexec hb dX5_readPlace_85 rfl (lv_at hl 0 rfl) ?_
            obtain ⟨y5_letterOn_1, y6_namesOn_1, y9_direction_1, hc, hf⟩ := bd3_e hf
            refine kVp (pc := 86) (S := ⟨hexec, hb, hml, hown, hts⟩) hP hD hG hA hS [1, 3, 4, 5, 6, 9, 10, 11, 12] [0, 2, 7, 8] [0, 4, 1, 5, 6, 7, 8, 2, 3, 9, 10, 11, 12] (w2 := (w_X5_readPlace g a0 a1 a2 a3 a4 a5 a6 a7 a8 a9 a10 a11 a12 u0_1 u0_5 u0_8 u0_9 u0_10 u0_11 u1_2 u3_2 u3_5 x0_length x0_at_2 x0_wordStart_2 x0_wordLength_2 x0_error_2 x0_errorAt_2 y2_text x3_rows x3_columns x4_count x4_reds y5_letterOn_1 y6_namesOn_1 y7_land y8_riverOf y9_direction_1 y10_home y11_length y12_letters)) rfl rfl rfl rfl rfl rfl (by decide) (c_X6_putName l g a1 a3 a4 a5 a6 a9 a10 a11 a12 _ u1_2 u3_2 (.ref a7) (.ref a8) u3_5 (.int x4_reds) x3_rows x3_columns x4_count y5_letterOn y6_namesOn y9_direction y10_home y11_length y12_letters r10 r39 y5_letterOn_1 y6_namesOn_1 y9_direction_1 hc) gX5_readPlace_X6_putName rfl hv_X6_putName ⟨nle rfl, nle rfl⟩ 6 0 rfl rfl rfl (rest := []) rfl rfl hl.1 (nle rfl) dX5_readPlace_86 (fun H locs hP hD hS => ?_)
            refine lv_iconst (pc := 89) hexec hb dX5_readPlace_89 ki_1 ?_
            cases hf
            exact ke_z hQ hexec hb hr (.inr rfl) hP hD hS dX5_readPlace_90 hlocks
          · refine lv_aload_n (pc := 70) hexec hb dX5_readPlace_70 rfl (lv_at hl 2 rfl) ?_
            refine lv_iconst (pc := 71) hexec hb dX5_readPlace_71 ki_3 ?_
            refine lv_aload_n (pc := 72) hexec hb dX5_readPlace_72 rfl (lv_at hl 2 rfl) ?_
            refine kg_get (pc := 73) hexec hb (own := RX5) hWX5 hown hG hP 0 rfl rfl 6 (nle rfl) (hts _ (List.mem_cons_of_mem _ (List.mem_append_left _ (List.mem_append_left _ (List.mem_append_left _ (List.mem_append_left _ (List.mem_append_left _ (List.mem_of_getElem? (i := 0) rfl)))))))) rfl rfl dX5_readPlace_73 ?_
            obtain ⟨r76, x0_error_3, x0_errorAt_3, hc, hf⟩ := bd3_e hf
            refine kVp (pc := 76) (S := ⟨hexec, hb, hml, hown, hts⟩) hP hD hG hA hS [0] [1, 2, 3, 4, 5, 6, 7, 8, 9, 10, 11, 12] [12, 0, 1, 2, 3, 4, 5, 6, 7, 8, 9, 10, 11] (w2 := (w_X5_readPlace g a0 a1 a2 a3 a4 a5 a6 a7 a8 a9 a10 a11 a12 u0_1 u0_5 u0_8 u0_9 u0_10 u0_11 u1_2 u3_2 u3_5 x0_length x0_at_2 x0_wordStart_2 x0_wordLength_2 x0_error_3 x0_errorAt_3 y2_text x3_rows x3_columns x4_count x4_reds y5_letterOn y6_namesOn y7_land y8_riverOf y9_direction y10_home y11_length y12_letters)) rfl rfl rfl rfl rfl rfl (by decide) (c_X5_fail l g a0 _ (.ref a1) u0_1 (.ref a2) (.int x0_length) (.int x0_at_2) u0_5 (.int x0_wordStart_2) (.int x0_wordLength_2) u0_8 u0_9 u0_10 u0_11 x0_error_2 x0_errorAt_2 3 x0_wordStart_2 r76 x0_error_3 x0_errorAt_3 hc) gX5_readPlace_X5_fail rfl hv_X5_fail ⟨nle rfl, nle rfl⟩ 5 0 rfl rfl rfl (rest := []) rfl rfl hl.1 (nle rfl) dX5_readPlace_76 (fun H locs hP hD hS => ?_)
            obtain ⟨hx, hf⟩ := zb_e hf
            cases hf
            exact ke_z hQ hexec hb hr hx hP hD hS dX5_readPlace_79 hlocks
        · refine lv_aload_n (pc := 48) hexec hb dX5_readPlace_48 rfl (lv_at hl 2 rfl) ?_
          refine lv_iconst (pc := 49) hexec hb dX5_readPlace_49 ki_1 ?_
          refine lv_aload_n (pc := 50) hexec hb dX5_readPlace_50 rfl (lv_at hl 2 rfl) ?_
          refine kg_get (pc := 51) hexec hb (own := RX5) hWX5 hown hG hP 0 rfl rfl 6 (nle rfl) (hts _ (List.mem_cons_of_mem _ (List.mem_append_left _ (List.mem_append_left _ (List.mem_append_left _ (List.mem_append_left _ (List.mem_append_left _ (List.mem_of_getElem? (i := 0) rfl)))))))) rfl rfl dX5_readPlace_51 ?_
          obtain ⟨r54, x0_error_4, x0_errorAt_4, hc, hf⟩ := bd3_e hf
          refine kVp (pc := 54) (S := ⟨hexec, hb, hml, hown, hts⟩) hP hD hG hA hS [0] [1, 2, 3, 4, 5, 6, 7, 8, 9, 10, 11, 12] [12, 0, 1, 2, 3, 4, 5, 6, 7, 8, 9, 10, 11] (w2 := (w_X5_readPlace g a0 a1 a2 a3 a4 a5 a6 a7 a8 a9 a10 a11 a12 u0_1 u0_5 u0_8 u0_9 u0_10 u0_11 u1_2 u3_2 u3_5 x0_length x0_at_2 x0_wordStart_2 x0_wordLength_2 x0_error_4 x0_errorAt_4 y2_text x3_rows x3_columns x4_count x4_reds y5_letterOn y6_namesOn y7_land y8_riverOf y9_direction y10_home y11_length y12_letters)) rfl rfl rfl rfl rfl rfl (by decide) (c_X5_fail l g a0 _ (.ref a1) u0_1 (.ref a2) (.int x0_length) (.int x0_at_2) u0_5 (.int x0_wordStart_2) (.int x0_wordLength_2) u0_8 u0_9 u0_10 u0_11 x0_error_2 x0_errorAt_2 1 x0_wordStart_2 r54 x0_error_4 x0_errorAt_4 hc) gX5_readPlace_X5_fail rfl hv_X5_fail ⟨nle rfl, nle rfl⟩ 5 0 rfl rfl rfl (rest := []) rfl rfl hl.1 (nle rfl) dX5_readPlace_54 (fun H locs hP hD hS => ?_)
          obtain ⟨hx, hf⟩ := zb_e hf
          cases hf
          exact ke_z hQ hexec hb hr hx hP hD hS dX5_readPlace_57 hlocks
      · refine lv_iconst (pc := 36) hexec hb dX5_readPlace_36 ki_0 ?_
        cases hf
        exact ke_z hQ hexec hb hr (.inl rfl) hP hD hS dX5_readPlace_37 hlocks
    · refine lv_aload_n (pc := 19) hexec hb dX5_readPlace_19 rfl (lv_at hl 1 rfl) ?_
      refine lv_iconst (pc := 20) hexec hb dX5_readPlace_20 ki_4 ?_
      refine lv_aload_n (pc := 21) hexec hb dX5_readPlace_21 rfl (lv_at hl 1 rfl) ?_
      refine kg_get (pc := 22) hexec hb (own := RX5) hWX5 hown hG hP 0 rfl rfl 6 (nle rfl) (hts _ (List.mem_cons_of_mem _ (List.mem_append_left _ (List.mem_append_left _ (List.mem_append_left _ (List.mem_append_left _ (List.mem_append_left _ (List.mem_of_getElem? (i := 0) rfl)))))))) rfl rfl dX5_readPlace_22 ?_
      obtain ⟨r25, x0_error_5, x0_errorAt_5, hc, hf⟩ := bd3_e hf
      refine kVp (pc := 25) (S := ⟨hexec, hb, hml, hown, hts⟩) hP hD hG hA hS [0] [1, 2, 3, 4, 5, 6, 7, 8, 9, 10, 11, 12] [12, 0, 1, 2, 3, 4, 5, 6, 7, 8, 9, 10, 11] (w2 := (w_X5_readPlace g a0 a1 a2 a3 a4 a5 a6 a7 a8 a9 a10 a11 a12 u0_1 u0_5 u0_8 u0_9 u0_10 u0_11 u1_2 u3_2 u3_5 x0_length x0_at_1 x0_wordStart_1 x0_wordLength_1 x0_error_5 x0_errorAt_5 y2_text x3_rows x3_columns x4_count x4_reds y5_letterOn y6_namesOn y7_land y8_riverOf y9_direction y10_home y11_length y12_letters)) rfl rfl rfl rfl rfl rfl (by decide) (c_X5_fail l g a0 _ (.ref a1) u0_1 (.ref a2) (.int x0_length) (.int x0_at_1) u0_5 (.int x0_wordStart_1) (.int x0_wordLength_1) u0_8 u0_9 u0_10 u0_11 x0_error_1 x0_errorAt_1 4 x0_wordStart_1 r25 x0_error_5 x0_errorAt_5 hc) gX5_readPlace_X5_fail rfl hv_X5_fail ⟨nle rfl, nle rfl⟩ 5 0 rfl rfl rfl (rest := []) rfl rfl hl.1 (nle rfl) dX5_readPlace_25 (fun H locs hP hD hS => ?_)
      obtain ⟨hx, hf⟩ := zb_e hf
      cases hf
      exact ke_z hQ hexec hb hr hx hP hD hS dX5_readPlace_28 hlocks
  · refine lv_iconst (pc := 7) hexec hb dX5_readPlace_7 ki_0 ?_
    cases hf
    exact ke_z hQ hexec hb hr (.inl rfl) hP hD hS dX5_readPlace_8 hlocks
abbrev w_X5_readVoyage (g : GE) (a0 a1 a2 a3 a4 a5 a6 a7 : Nat) (u0_1 u0_8 u0_9 u0_10 u0_11 u1_0 u1_3 u1_4 u3_1 u3_2 u3_3 u4_1 u4_2 u4_3 : Value) (x0_length : Int32) (x0_at : Int32) (x0_voyageTold : Int32) (x0_wordStart : Int32) (x0_wordLength : Int32) (x0_error : Int32) (x0_errorAt : Int32) (y2_text : Nat → Int32) (x3_count : Int32) (x4_count : Int32) (y5_length : Nat → Int32) (y6_letters : Nat → Int32) (y7_stops : Nat → Int32) : va_W := [(a0, .inr (5, [.ref a1, u0_1, .ref a2, .int x0_length, .int x0_at, .int x0_voyageTold, .int x0_wordStart, .int x0_wordLength, u0_8, u0_9, u0_10, u0_11, .int x0_error, .int x0_errorAt])), (a1, .inr (6, [u1_0, .ref a3, .ref a4, u1_3, u1_4])), (a2, .inl (g.2.1 0, 500, .inl y2_text)), (a3, .inr (2, [.int x3_count, u3_1, u3_2, u3_3, .ref a5, .ref a6])), (a4, .inr (4, [.int x4_count, u4_1, u4_2, u4_3, .ref a7])), (a5, .inl (g.2.1 0, 8, .inl y5_length)), (a6, .inl (g.2.1 0, 64, .inl y6_letters)), (a7, .inl (g.2.1 0, 16, .inl y7_stops))]
set_option maxRecDepth 20000 in
theorem c_X5_readVoyage (l : Launch) (g : GE) (a0 a1 a2 a3 a4 a5 a6 a7 : Nat) (sz : Nat) (u0_1 u0_8 u0_9 u0_10 u0_11 u1_0 u1_3 u1_4 u3_1 u3_2 u3_3 u4_1 u4_2 u4_3 : Value) (x0_length : Int32) (x0_at : Int32) (x0_voyageTold : Int32) (x0_wordStart : Int32) (x0_wordLength : Int32) (x0_error : Int32) (x0_errorAt : Int32) (y2_text : Nat → Int32) (x3_count : Int32) (x4_count : Int32) (y5_length : Nat → Int32) (y6_letters : Nat → Int32) (y7_stops : Nat → Int32)   (r : Int32) (o_x0_at : Int32) (o_x0_voyageTold : Int32) (o_x0_wordStart : Int32) (o_x0_wordLength : Int32) (o_x0_error : Int32) (o_x0_errorAt : Int32) (o_x4_count : Int32) (o_y7_stops : Nat → Int32) (hf : f_X5_readVoyage x0_length x0_at x0_voyageTold x0_wordStart x0_wordLength x0_error x0_errorAt y2_text x3_count x4_count y5_length y6_letters y7_stops = some (r, o_x0_at, o_x0_voyageTold, o_x0_wordStart, o_x0_wordLength, o_x0_error, o_x0_errorAt, o_x4_count, o_y7_stops)) : MI l g yX5_readVoyage wsX5_readVoyage 5 107 [.ref a0] (w_X5_readVoyage g a0 a1 a2 a3 a4 a5 a6 a7 u0_1 u0_8 u0_9 u0_10 u0_11 u1_0 u1_3 u1_4 u3_1 u3_2 u3_3 u4_1 u4_2 u4_3 x0_length x0_at x0_voyageTold x0_wordStart x0_wordLength x0_error x0_errorAt y2_text x3_count x4_count y5_length y6_letters y7_stops) sz (some (.int r)) (w_X5_readVoyage g a0 a1 a2 a3 a4 a5 a6 a7 u0_1 u0_8 u0_9 u0_10 u0_11 u1_0 u1_3 u1_4 u3_1 u3_2 u3_3 u4_1 u4_2 u4_3 x0_length o_x0_at o_x0_voyageTold o_x0_wordStart o_x0_wordLength o_x0_error o_x0_errorAt y2_text x3_count o_x4_count y5_length y6_letters o_y7_stops) := by
  refine MI.start (cc := cX5_readVoyage) (maxL := 3) (ret := (some .boolean)) rfl rfl (nle rfl) ?_
  intro p e s m args below meth c A ls Q hQ hexec hb hr hts hown hlocks hml hA hP hD hG hS hl
  unfold f_X5_readVoyage at hf
  have hWX2 : ∀ w ∈ wsX20, w.before args s = true := fun w h => hts w (List.mem_cons_of_mem _ (List.mem_append_left _ (List.mem_append_right _ h)))
  have hWX4 : ∀ w ∈ wsX40, w.before args s = true := fun w h => hts w (List.mem_cons_of_mem _ (List.mem_append_right _ h))
  have hWX5 : ∀ w ∈ wsX50, w.before args s = true := fun w h => hts w (List.mem_cons_of_mem _ (List.mem_append_left _ (List.mem_append_left _ (List.mem_append_left _ (List.mem_append_right _ h)))))
  have hWX6 : ∀ w ∈ wsX60, w.before args s = true := fun w h => hts w (List.mem_cons_of_mem _ (List.mem_append_left _ (List.mem_append_left _ (List.mem_append_right _ h))))
  have hS : va_S A s.heap s.heap [] := hS
  refine lv_aload_n (pc := 0) hexec hb dX5_readVoyage_0 rfl (lv_at hl 0 rfl) ?_
  refine kg_get (pc := 1) hexec hb (own := RX5) hWX5 hown hG hP 0 rfl rfl 5 (nle rfl) (hts _ (List.mem_cons_of_mem _ (List.mem_append_left _ (List.mem_append_left _ (List.mem_append_left _ (List.mem_append_left _ (List.mem_append_left _ (List.mem_of_getElem? (i := 0) rfl)))))))) rfl rfl dX5_readVoyage_1 ?_
  refine kb_eq (pc := 4) hexec hb dX5_readVoyage_4 (tgt := 17) rfl hf (fun hc hf => ?_) (fun hc hf => ?_)
  · refine lv_aload_n (pc := 17) hexec hb dX5_readVoyage_17 rfl (lv_at hl 0 rfl) ?_
    refine lv_iconst (pc := 18) hexec hb dX5_readVoyage_18 ki_1 ?_
    refine kp_put (pc := 19) hexec hb (own := RX5) hWX5 tyX5 tyX5_ok nmX5 hown hG hP hD hS 0 rfl rfl 5 (nle rfl) (hts _ (List.mem_cons_of_mem _ (List.mem_append_left _ (List.mem_append_left _ (List.mem_append_left _ (List.mem_append_left _ (List.mem_append_left _ (List.mem_of_getElem? (i := 0) rfl)))))))) rfl rfl rfl rfl (nle rfl) dX5_readVoyage_19 (fun H locs (hP : va_P g.1 vwCl (w_X5_readVoyage g a0 a1 a2 a3 a4 a5 a6 a7 u0_1 u0_8 u0_9 u0_10 u0_11 u1_0 u1_3 u1_4 u3_1 u3_2 u3_3 u4_1 u4_2 u4_3 x0_length x0_at 1 x0_wordStart x0_wordLength x0_error x0_errorAt y2_text x3_count x4_count y5_length y6_letters y7_stops) H) (hD : va_D A (w_X5_readVoyage g a0 a1 a2 a3 a4 a5 a6 a7 u0_1 u0_8 u0_9 u0_10 u0_11 u1_0 u1_3 u1_4 u3_1 u3_2 u3_3 u4_1 u4_2 u4_3 x0_length x0_at 1 x0_wordStart x0_wordLength x0_error x0_errorAt y2_text x3_count x4_count y5_length y6_letters y7_stops)) hS => ?_)
    refine lv_iconst (pc := 22) hexec hb dX5_readVoyage_22 ki_0 ?_
    refine lv_istore_n (pc := 23) hexec hb dX5_readVoyage_23 rfl hl (nle rfl) rfl (fun ls (hl : lv_has ls 3 [(1, .int 0), (0, .ref a0)]) => ?_)
    obtain ⟨l24, el24, hf⟩ := bvf8 hf
    obtain ⟨n, hz⟩ := lq8_e hf
    have hL24 : ∀ (n : Nat) (v1 : Int32) (x0_at_1 : Int32) (x0_wordStart_1 : Int32) (x0_wordLength_1 : Int32) (x0_error_1 : Int32) (x0_errorAt_1 : Int32) (x4_count_1 : Int32) (y7_stops_1 : Nat → Int32) (H : Heap) (locs : List Loc) (ls : Array Slot), it8 l24 n v1 x0_at_1 x0_wordStart_1 x0_wordLength_1 x0_error_1 x0_errorAt_1 x4_count_1 y7_stops_1 = some (r, o_x0_at, o_x0_voyageTold, o_x0_wordStart, o_x0_wordLength, o_x0_error, o_x0_errorAt, o_x4_count, o_y7_stops) → va_P g.1 vwCl (w_X5_readVoyage g a0 a1 a2 a3 a4 a5 a6 a7 u0_1 u0_8 u0_9 u0_10 u0_11 u1_0 u1_3 u1_4 u3_1 u3_2 u3_3 u4_1 u4_2 u4_3 x0_length x0_at_1 1 x0_wordStart_1 x0_wordLength_1 x0_error_1 x0_errorAt_1 y2_text x3_count x4_count_1 y5_length y6_letters y7_stops_1) H → va_D A (w_X5_readVoyage g a0 a1 a2 a3 a4 a5 a6 a7 u0_1 u0_8 u0_9 u0_10 u0_11 u1_0 u1_3 u1_4 u3_1 u3_2 u3_3 u4_1 u4_2 u4_3 x0_length x0_at_1 1 x0_wordStart_1 x0_wordLength_1 x0_error_1 x0_errorAt_1 y2_text x3_count x4_count_1 y5_length y6_letters y7_stops_1) → va_S A s.heap H locs → lv_has ls 3 [(0, .ref a0), (1, .int v1)] → W p l e (RM 5 107) s m args below meth c H locs 0 0 Q (F0 m 24 ls []) := by
      intro n
      induction n with
      | zero =>
        intro v1 x0_at_1 x0_wordStart_1 x0_wordLength_1 x0_error_1 x0_errorAt_1 x4_count_1 y7_stops_1 H locs ls hf hP hD hS hl
        exact it8_0 hf
      | succ n24 ih24 =>
        intro v1 x0_at_1 x0_wordStart_1 x0_wordLength_1 x0_error_1 x0_errorAt_1 x4_count_1 y7_stops_1 H locs ls hf hP hD hS hl
        obtain ⟨q24, hf, hk24⟩ := it8_e hf
        have hf := (el24 v1 x0_at_1 x0_wordStart_1 x0_wordLength_1 x0_error_1 x0_errorAt_1 x4_count_1 y7_stops_1).symm.trans hf
        refine lv_iload_n (pc := 24) hexec hb dX5_readVoyage_24 rfl (lv_at hl 1 rfl) ?_
        obtain ⟨j44, ej44, hf⟩ := bvf1 hf
        have hj44 : ∀ (x0_at_2 : Int32) (H : Heap) (locs : List Loc) (ls : Array Slot), j44 x0_at_2 = some q24 → va_P g.1 vwCl (w_X5_readVoyage g a0 a1 a2 a3 a4 a5 a6 a7 u0_1 u0_8 u0_9 u0_10 u0_11 u1_0 u1_3 u1_4 u3_1 u3_2 u3_3 u4_1 u4_2 u4_3 x0_length x0_at_2 1 x0_wordStart_1 x0_wordLength_1 x0_error_1 x0_errorAt_1 y2_text x3_count x4_count_1 y5_length y6_letters y7_stops_1) H → va_D A (w_X5_readVoyage g a0 a1 a2 a3 a4 a5 a6 a7 u0_1 u0_8 u0_9 u0_10 u0_11 u1_0 u1_3 u1_4 u3_1 u3_2 u3_3 u4_1 u4_2 u4_3 x0_length x0_at_2 1 x0_wordStart_1 x0_wordLength_1 x0_error_1 x0_errorAt_1 y2_text x3_count x4_count_1 y5_length y6_letters y7_stops_1) → va_S A s.heap H locs → lv_has ls 3 [(0, .ref a0), (1, .int v1)] → W p l e (RM 5 107) s m args below meth c H locs 0 0 Q (F0 m 44 ls []) := by
          intro x0_at_2 H locs ls hf hP hD hS hl
          have hf := (ej44 x0_at_2).symm.trans hf
          refine lv_aload_n (pc := 44) hexec hb dX5_readVoyage_44 rfl (lv_at hl 0 rfl) ?_
          obtain ⟨r45, x0_at_3, x0_wordStart_2, x0_wordLength_2, x0_error_2, x0_errorAt_2, hc, hf⟩ := bd6_e hf
          refine kVp (pc := 45) (S := ⟨hexec, hb, hml, hown, hts⟩) hP hD hG hA hS [0, 2] [1, 3, 4, 5, 6, 7] [6, 0, 7, 1, 2, 3, 4, 5] (w2 := (w_X5_readVoyage g a0 a1 a2 a3 a4 a5 a6 a7 u0_1 u0_8 u0_9 u0_10 u0_11 u1_0 u1_3 u1_4 u3_1 u3_2 u3_3 u4_1 u4_2 u4_3 x0_length x0_at_3 1 x0_wordStart_2 x0_wordLength_2 x0_error_2 x0_errorAt_2 y2_text x3_count x4_count_1 y5_length y6_letters y7_stops_1)) rfl rfl rfl rfl rfl rfl (by decide) (c_X5_takeName l g a0 a2 _ (.ref a1) u0_1 (.int 1) u0_8 u0_9 u0_10 u0_11 x0_length x0_at_2 x0_wordStart_1 x0_wordLength_1 x0_error_1 x0_errorAt_1 y2_text r45 x0_at_3 x0_wordStart_2 x0_wordLength_2 x0_error_2 x0_errorAt_2 hc) gX5_readVoyage_X5_takeName rfl hv_X5_takeName ⟨nle rfl, nle rfl⟩ 5 0 rfl rfl rfl (rest := []) rfl rfl hl.1 (nle rfl) dX5_readVoyage_45 (fun H locs hP hD hS => ?_)
          refine kb_ne (pc := 48) hexec hb dX5_readVoyage_48 (tgt := 53) rfl hf (fun hc hf => ?_) (fun hc hf => ?_)
          · refine lv_iload_n (pc := 53) hexec hb dX5_readVoyage_53 rfl (lv_at hl 1 rfl) ?_
            refine lv_bipush (pc := 54) hexec hb dX5_readVoyage_54 kb_16 ?_
            refine ki_ne (pc := 56) hexec hb dX5_readVoyage_56 (tgt := 69) rfl hf (fun hc hf => ?_) (fun hc hf => ?_)
            · refine lv_aload_n (pc := 69) hexec hb dX5_readVoyage_69 rfl (lv_at hl 0 rfl) ?_
              obtain ⟨r70, hc, hf⟩ := bd1_e hf
              refine kVp (pc := 70) (S := ⟨hexec, hb, hml, hown, hts⟩) hP hD hG hA hS [0, 1, 2, 3, 5, 6] [4, 7] [2, 3, 4, 5, 0, 6, 7, 1] (w2 := (w_X5_readVoyage g a0 a1 a2 a3 a4 a5 a6 a7 u0_1 u0_8 u0_9 u0_10 u0_11 u1_0 u1_3 u1_4 u3_1 u3_2 u3_3 u4_1 u4_2 u4_3 x0_length x0_at_3 1 x0_wordStart_2 x0_wordLength_2 x0_error_2 x0_errorAt_2 y2_text x3_count x4_count_1 y5_length y6_letters y7_stops_1)) rfl rfl rfl rfl rfl rfl (by decide) (c_X5_namedHarbour l g a0 a1 a2 a3 a5 a6 _ u0_1 (.int x0_at_3) (.int 1) u0_8 u0_9 u0_10 u0_11 (.int x0_error_2) (.int x0_errorAt_2) u1_0 (.ref a4) u1_3 u1_4 u3_1 u3_2 u3_3 x0_length x0_wordStart_2 x0_wordLength_2 y2_text x3_count y5_length y6_letters r70 hc) gX5_readVoyage_X5_namedHarbour rfl hv_X5_namedHarbour ⟨nle rfl, nle rfl⟩ 5 0 rfl rfl rfl (rest := []) rfl rfl hl.1 (nle rfl) dX5_readVoyage_70 (fun H locs hP hD hS => ?_)
              refine lv_istore_n (pc := 73) hexec hb dX5_readVoyage_73 rfl hl (nle rfl) rfl (fun ls (hl : lv_has ls 3 [(2, .int r70), (0, .ref a0), (1, .int v1)]) => ?_)
              refine lv_iload_n (pc := 74) hexec hb dX5_readVoyage_74 rfl (lv_at hl 0 rfl) ?_
              refine lv_iconst (pc := 75) hexec hb dX5_readVoyage_75 ki_m1 ?_
              refine ki_ne (pc := 76) hexec hb dX5_readVoyage_76 (tgt := 89) rfl hf (fun hc hf => ?_) (fun hc hf => ?_)
              · refine lv_aload_n (pc := 89) hexec hb dX5_readVoyage_89 rfl (lv_at hl 1 rfl) ?_
                refine kg_get (pc := 90) hexec hb (own := RX5) hWX5 hown hG hP 0 rfl rfl 0 (nle rfl) (hts _ (List.mem_cons_of_mem _ (List.mem_append_left _ (List.mem_append_left _ (List.mem_append_left _ (List.mem_append_left _ (List.mem_append_left _ (List.mem_of_getElem? (i := 2) rfl)))))))) rfl rfl dX5_readVoyage_90 ?_
                refine kg_getN (pc := 93) hexec hb (own := RX5) hWX6 hown hG hP 1 rfl rfl 2 (nle rfl) 29 rfl rfl rfl dX5_readVoyage_93 ?_
                refine lv_iload_n (pc := 96) hexec hb dX5_readVoyage_96 rfl (lv_at hl 0 rfl) ?_
                obtain ⟨x4_count_2, y7_stops_2, hc, hf⟩ := bd2_e hf
                refine kVp (pc := 97) (S := ⟨hexec, hb, hml, hown, hts⟩) hP hD hG hA hS [4, 7] [0, 1, 2, 3, 5, 6] [0, 1, 2, 3, 6, 4, 5, 7] (w2 := (w_X5_readVoyage g a0 a1 a2 a3 a4 a5 a6 a7 u0_1 u0_8 u0_9 u0_10 u0_11 u1_0 u1_3 u1_4 u3_1 u3_2 u3_3 u4_1 u4_2 u4_3 x0_length x0_at_3 1 x0_wordStart_2 x0_wordLength_2 x0_error_2 x0_errorAt_2 y2_text x3_count x4_count_2 y5_length y6_letters y7_stops_2)) rfl rfl rfl rfl rfl rfl (by decide) (c_X4_addStop l g a4 a7 _ u4_1 u4_2 u4_3 x4_count_1 y7_stops_1 r70 x4_count_2 y7_stops_2 hc) gX5_readVoyage_X4_addStop rfl hv_X4_addStop ⟨nle rfl, nle rfl⟩ 4 0 rfl rfl rfl (rest := []) rfl rfl hl.1 (nle rfl) dX5_readVoyage_97 (fun H locs hP hD hS => ?_)
                obtain ⟨v1_1, ev1_1, hf⟩ := bv_e hf
                refine k_iinc (pc := 100) hexec hb dX5_readVoyage_100 kq_1 hl (k := 2) rfl ev1_1 (nle rfl) rfl (fun ls (hl : lv_has ls 3 [(1, .int v1_1), (2, .int r70), (0, .ref a0)]) => ?_)
                refine lv_goto (pc := 103) hexec hb dX5_readVoyage_103 (tgt := 24) rfl ?_
                exact ih24 _ _ _ _ _ _ _ _ _ _ _ (sl8 hf hk24) hP hD hS (lv_sub hl [2, 0] rfl)
              · have hf := mk8 hf hk24
                refine lv_aload_n (pc := 79) hexec hb dX5_readVoyage_79 rfl (lv_at hl 1 rfl) ?_
                refine lv_iconst (pc := 80) hexec hb dX5_readVoyage_80 ki_4 ?_
                refine lv_aload_n (pc := 81) hexec hb dX5_readVoyage_81 rfl (lv_at hl 1 rfl) ?_
                refine kg_get (pc := 82) hexec hb (own := RX5) hWX5 hown hG hP 0 rfl rfl 6 (nle rfl) (hts _ (List.mem_cons_of_mem _ (List.mem_append_left _ (List.mem_append_left _ (List.mem_append_left _ (List.mem_append_left _ (List.mem_append_left _ (List.mem_of_getElem? (i := 1) rfl)))))))) rfl rfl dX5_readVoyage_82 ?_
                obtain ⟨r85, x0_error_3, x0_errorAt_3, hc, hf⟩ := bd3_e hf
                refine kVp (pc := 85) (S := ⟨hexec, hb, hml, hown, hts⟩) hP hD hG hA hS [0] [1, 2, 3, 4, 5, 6, 7] [7, 0, 1, 2, 3, 4, 5, 6] (w2 := (w_X5_readVoyage g a0 a1 a2 a3 a4 a5 a6 a7 u0_1 u0_8 u0_9 u0_10 u0_11 u1_0 u1_3 u1_4 u3_1 u3_2 u3_3 u4_1 u4_2 u4_3 x0_length x0_at_3 1 x0_wordStart_2 x0_wordLength_2 x0_error_3 x0_errorAt_3 y2_text x3_count x4_count_1 y5_length y6_letters y7_stops_1)) rfl rfl rfl rfl rfl rfl (by decide) (c_X5_fail l g a0 _ (.ref a1) u0_1 (.ref a2) (.int x0_length) (.int x0_at_3) (.int 1) (.int x0_wordStart_2) (.int x0_wordLength_2) u0_8 u0_9 u0_10 u0_11 x0_error_2 x0_errorAt_2 4 x0_wordStart_2 r85 x0_error_3 x0_errorAt_3 hc) gX5_readVoyage_X5_fail rfl hv_X5_fail ⟨nle rfl, nle rfl⟩ 5 0 rfl rfl rfl (rest := []) rfl rfl hl.1 (nle rfl) dX5_readVoyage_85 (fun H locs hP hD hS => ?_)
                obtain ⟨hx, hf⟩ := zb_e hf
                cases hf
                exact ke_z hQ hexec hb hr hx hP hD hS dX5_readVoyage_88 hlocks
            · have hf := mk8 hf hk24
              refine lv_aload_n (pc := 59) hexec hb dX5_readVoyage_59 rfl (lv_at hl 0 rfl) ?_
              refine lv_iconst (pc := 60) hexec hb dX5_readVoyage_60 ki_3 ?_
              refine lv_aload_n (pc := 61) hexec hb dX5_readVoyage_61 rfl (lv_at hl 0 rfl) ?_
              refine kg_get (pc := 62) hexec hb (own := RX5) hWX5 hown hG hP 0 rfl rfl 6 (nle rfl) (hts _ (List.mem_cons_of_mem _ (List.mem_append_left _ (List.mem_append_left _ (List.mem_append_left _ (List.mem_append_left _ (List.mem_append_left _ (List.mem_of_getElem? (i := 1) rfl)))))))) rfl rfl dX5_readVoyage_62 ?_
              obtain ⟨r65, x0_error_4, x0_errorAt_4, hc, hf⟩ := bd3_e hf
              refine kVp (pc := 65) (S := ⟨hexec, hb, hml, hown, hts⟩) hP hD hG hA hS [0] [1, 2, 3, 4, 5, 6, 7] [7, 0, 1, 2, 3, 4, 5, 6] (w2 := (w_X5_readVoyage g a0 a1 a2 a3 a4 a5 a6 a7 u0_1 u0_8 u0_9 u0_10 u0_11 u1_0 u1_3 u1_4 u3_1 u3_2 u3_3 u4_1 u4_2 u4_3 x0_length x0_at_3 1 x0_wordStart_2 x0_wordLength_2 x0_error_4 x0_errorAt_4 y2_text x3_count x4_count_1 y5_length y6_letters y7_stops_1)) rfl rfl rfl rfl rfl rfl (by decide) (c_X5_fail l g a0 _ (.ref a1) u0_1 (.ref a2) (.int x0_length) (.int x0_at_3) (.int 1) (.int x0_wordStart_2) (.int x0_wordLength_2) u0_8 u0_9 u0_10 u0_11 x0_error_2 x0_errorAt_2 3 x0_wordStart_2 r65 x0_error_4 x0_errorAt_4 hc) gX5_readVoyage_X5_fail rfl hv_X5_fail ⟨nle rfl, nle rfl⟩ 5 0 rfl rfl rfl (rest := []) rfl rfl hl.1 (nle rfl) dX5_readVoyage_65 (fun H locs hP hD hS => ?_)
              obtain ⟨hx, hf⟩ := zb_e hf
              cases hf
              exact ke_z hQ hexec hb hr hx hP hD hS dX5_readVoyage_68 hlocks
          · have hf := mk8 hf hk24
            refine lv_iconst (pc := 51) hexec hb dX5_readVoyage_51 ki_0 ?_
            cases hf
            exact ke_z hQ hexec hb hr (.inl rfl) hP hD hS dX5_readVoyage_52 hlocks
        refine kb_eq (pc := 25) hexec hb dX5_readVoyage_25 (tgt := 44) rfl hf (fun hc hf => ?_) (fun hc hf => ?_)
        · exact hj44 _ _ _ _ hf hP hD hS (lv_sub hl [0, 1] rfl)
        · refine lv_aload_n (pc := 28) hexec hb dX5_readVoyage_28 rfl (lv_at hl 0 rfl) ?_
          obtain ⟨r29, x0_at_4, hc, hf⟩ := bd2_e hf
          refine kVp (pc := 29) (S := ⟨hexec, hb, hml, hown, hts⟩) hP hD hG hA hS [0, 2] [1, 3, 4, 5, 6, 7] [6, 0, 7, 1, 2, 3, 4, 5] (w2 := (w_X5_readVoyage g a0 a1 a2 a3 a4 a5 a6 a7 u0_1 u0_8 u0_9 u0_10 u0_11 u1_0 u1_3 u1_4 u3_1 u3_2 u3_3 u4_1 u4_2 u4_3 x0_length x0_at_4 1 x0_wordStart_1 x0_wordLength_1 x0_error_1 x0_errorAt_1 y2_text x3_count x4_count_1 y5_length y6_letters y7_stops_1)) rfl rfl rfl rfl rfl rfl (by decide) (c_X5_nextSign l g a0 a2 _ (.ref a1) u0_1 (.int 1) (.int x0_wordStart_1) (.int x0_wordLength_1) u0_8 u0_9 u0_10 u0_11 (.int x0_error_1) (.int x0_errorAt_1) x0_length x0_at_1 y2_text r29 x0_at_4 hc) gX5_readVoyage_X5_nextSign rfl hv_X5_nextSign ⟨nle rfl, nle rfl⟩ 5 0 rfl rfl rfl (rest := []) rfl rfl hl.1 (nle rfl) dX5_readVoyage_29 (fun H locs hP hD hS => ?_)
          obtain ⟨r32, hc, hf⟩ := bd1_e hf
          refine kSp (pc := 32) (S := ⟨hexec, hb, hml, hown, hts⟩) hP hD hG hA hS [] [0, 1, 2, 3, 4, 5, 6, 7] [0, 1, 2, 3, 4, 5, 6, 7] (w2 := (w_X5_readVoyage g a0 a1 a2 a3 a4 a5 a6 a7 u0_1 u0_8 u0_9 u0_10 u0_11 u1_0 u1_3 u1_4 u3_1 u3_2 u3_3 u4_1 u4_2 u4_3 x0_length x0_at_4 1 x0_wordStart_1 x0_wordLength_1 x0_error_1 x0_errorAt_1 y2_text x3_count x4_count_1 y5_length y6_letters y7_stops_1)) rfl rfl rfl rfl rfl rfl (by decide) (c_X5_isLetter l g _ r29 r32 hc) gX5_readVoyage_X5_isLetter rfl hs_X5_isLetter ⟨nle rfl, nle rfl⟩ (rest := []) rfl rfl hl.1 (nle rfl) dX5_readVoyage_32 (fun H locs hP hD hS => ?_)
          refine kb_eq (pc := 35) hexec hb dX5_readVoyage_35 (tgt := 106) rfl hf (fun hc hf => ?_) (fun hc hf => ?_)
          · have hf := mk8 hf hk24
            refine lv_iconst (pc := 106) hexec hb dX5_readVoyage_106 ki_1 ?_
            cases hf
            exact ke_z hQ hexec hb hr (.inr rfl) hP hD hS dX5_readVoyage_107 hlocks
          · refine lv_iload_n (pc := 38) hexec hb dX5_readVoyage_38 rfl (lv_at hl 1 rfl) ?_
            refine lv_bipush (pc := 39) hexec hb dX5_readVoyage_39 kb_16 ?_
            refine ki_gt (pc := 41) hexec hb dX5_readVoyage_41 (tgt := 106) rfl hf (fun hc hf => ?_) (fun hc hf => ?_)
            · have hf := mk8 hf hk24
              refine lv_iconst (pc := 106) hexec hb dX5_readVoyage_106 ki_1 ?_
              cases hf
              exact ke_z hQ hexec hb hr (.inr rfl) hP hD hS dX5_readVoyage_107 hlocks
            · exact hj44 _ _ _ _ hf hP hD hS (lv_sub hl [0, 1] rfl)
    exact hL24 n _ _ _ _ _ _ _ _ _ _ _ hz hP hD hS (lv_sub hl [1, 0] rfl)
  · refine lv_aload_n (pc := 7) hexec hb dX5_readVoyage_7 rfl (lv_at hl 0 rfl) ?_
    refine lv_iconst (pc := 8) hexec hb dX5_readVoyage_8 ki_3 ?_
    refine lv_aload_n (pc := 9) hexec hb dX5_readVoyage_9 rfl (lv_at hl 0 rfl) ?_
    refine kg_get (pc := 10) hexec hb (own := RX5) hWX5 hown hG hP 0 rfl rfl 6 (nle rfl) (hts _ (List.mem_cons_of_mem _ (List.mem_append_left _ (List.mem_append_left _ (List.mem_append_left _ (List.mem_append_left _ (List.mem_append_left _ (List.mem_of_getElem? (i := 1) rfl)))))))) rfl rfl dX5_readVoyage_10 ?_
    obtain ⟨r13, x0_error_5, x0_errorAt_5, hc, hf⟩ := bd3_e hf
    refine kVp (pc := 13) (S := ⟨hexec, hb, hml, hown, hts⟩) hP hD hG hA hS [0] [1, 2, 3, 4, 5, 6, 7] [7, 0, 1, 2, 3, 4, 5, 6] (w2 := (w_X5_readVoyage g a0 a1 a2 a3 a4 a5 a6 a7 u0_1 u0_8 u0_9 u0_10 u0_11 u1_0 u1_3 u1_4 u3_1 u3_2 u3_3 u4_1 u4_2 u4_3 x0_length x0_at x0_voyageTold x0_wordStart x0_wordLength x0_error_5 x0_errorAt_5 y2_text x3_count x4_count y5_length y6_letters y7_stops)) rfl rfl rfl rfl rfl rfl (by decide) (c_X5_fail l g a0 _ (.ref a1) u0_1 (.ref a2) (.int x0_length) (.int x0_at) (.int x0_voyageTold) (.int x0_wordStart) (.int x0_wordLength) u0_8 u0_9 u0_10 u0_11 x0_error x0_errorAt 3 x0_wordStart r13 x0_error_5 x0_errorAt_5 hc) gX5_readVoyage_X5_fail rfl hv_X5_fail ⟨nle rfl, nle rfl⟩ 5 0 rfl rfl rfl (rest := []) rfl rfl hl.1 (nle rfl) dX5_readVoyage_13 (fun H locs hP hD hS => ?_)
    obtain ⟨hx, hf⟩ := zb_e hf
    cases hf
    exact ke_z hQ hexec hb hr hx hP hD hS dX5_readVoyage_16 hlocks
abbrev w_X5_readTurn (g : GE) (a0 a1 a2 a3 : Nat) (u0_1 u0_5 u0_6 u0_7 u0_10 u0_11 u1_0 u1_1 u1_3 u1_4 u3_0 u3_1 u3_3 u3_4 : Value) (x0_length : Int32) (x0_at : Int32) (x0_numberStart : Int32) (x0_number : Int32) (x0_error : Int32) (x0_errorAt : Int32) (y2_text : Nat → Int32) (x3_turn : Int32) : va_W := [(a0, .inr (5, [.ref a1, u0_1, .ref a2, .int x0_length, .int x0_at, u0_5, u0_6, u0_7, .int x0_numberStart, .int x0_number, u0_10, u0_11, .int x0_error, .int x0_errorAt])), (a1, .inr (6, [u1_0, u1_1, .ref a3, u1_3, u1_4])), (a2, .inl (g.2.1 0, 500, .inl y2_text)), (a3, .inr (4, [u3_0, u3_1, .int x3_turn, u3_3, u3_4]))]
set_option maxRecDepth 20000 in
theorem c_X5_readTurn (l : Launch) (g : GE) (a0 a1 a2 a3 : Nat) (sz : Nat) (u0_1 u0_5 u0_6 u0_7 u0_10 u0_11 u1_0 u1_1 u1_3 u1_4 u3_0 u3_1 u3_3 u3_4 : Value) (x0_length : Int32) (x0_at : Int32) (x0_numberStart : Int32) (x0_number : Int32) (x0_error : Int32) (x0_errorAt : Int32) (y2_text : Nat → Int32) (x3_turn : Int32)   (r : Int32) (o_x0_at : Int32) (o_x0_numberStart : Int32) (o_x0_number : Int32) (o_x0_error : Int32) (o_x0_errorAt : Int32) (o_x3_turn : Int32) (hf : f_X5_readTurn x0_length x0_at x0_numberStart x0_number x0_error x0_errorAt y2_text x3_turn = some (r, o_x0_at, o_x0_numberStart, o_x0_number, o_x0_error, o_x0_errorAt, o_x3_turn)) : MI l g yX5_readTurn wsX5_readTurn 4 89 [.ref a0] (w_X5_readTurn g a0 a1 a2 a3 u0_1 u0_5 u0_6 u0_7 u0_10 u0_11 u1_0 u1_1 u1_3 u1_4 u3_0 u3_1 u3_3 u3_4 x0_length x0_at x0_numberStart x0_number x0_error x0_errorAt y2_text x3_turn) sz (some (.int r)) (w_X5_readTurn g a0 a1 a2 a3 u0_1 u0_5 u0_6 u0_7 u0_10 u0_11 u1_0 u1_1 u1_3 u1_4 u3_0 u3_1 u3_3 u3_4 x0_length o_x0_at o_x0_numberStart o_x0_number o_x0_error o_x0_errorAt y2_text o_x3_turn) := by
  refine MI.start (cc := cX5_readTurn) (maxL := 1) (ret := (some .boolean)) rfl rfl (nle rfl) ?_
  intro p e s m args below meth c A ls Q hQ hexec hb hr hts hown hlocks hml hA hP hD hG hS hl
  unfold f_X5_readTurn at hf
  have hWX4 : ∀ w ∈ wsX40, w.before args s = true := fun w h => hts w (List.mem_cons_of_mem _ (List.mem_append_right _ h))
  have hWX5 : ∀ w ∈ wsX50, w.before args s = true := fun w h => hts w (List.mem_cons_of_mem _ (List.mem_append_left _ (List.mem_append_left _ (List.mem_append_right _ h))))
  have hWX6 : ∀ w ∈ wsX60, w.before args s = true := fun w h => hts w (List.mem_cons_of_mem _ (List.mem_append_left _ (List.mem_append_right _ h)))
  have hS : va_S A s.heap s.heap [] := hS
  refine lv_aload_n (pc := 0) hexec hb dX5_readTurn_0 rfl (lv_at hl 0 rfl) ?_
  refine lv_iconst (pc := 1) hexec hb dX5_readTurn_1 ki_0 ?_
  refine lv_iconst (pc := 2) hexec hb dX5_readTurn_2 ki_3 ?_
  obtain ⟨r3, x0_at_1, x0_numberStart_1, x0_number_1, x0_error_1, x0_errorAt_1, hc, hf⟩ := bd6_e hf
  refine kVp (pc := 3) (S := ⟨hexec, hb, hml, hown, hts⟩) hP hD hG hA hS [0, 2] [1, 3] [2, 0, 3, 1] (w2 := (w_X5_readTurn g a0 a1 a2 a3 u0_1 u0_5 u0_6 u0_7 u0_10 u0_11 u1_0 u1_1 u1_3 u1_4 u3_0 u3_1 u3_3 u3_4 x0_length x0_at_1 x0_numberStart_1 x0_number_1 x0_error_1 x0_errorAt_1 y2_text x3_turn)) rfl rfl rfl rfl rfl rfl (by decide) (c_X5_takeNumber l g a0 a2 _ (.ref a1) u0_1 u0_5 u0_6 u0_7 u0_10 u0_11 x0_length x0_at x0_numberStart x0_number x0_error x0_errorAt y2_text 0 3 r3 x0_at_1 x0_numberStart_1 x0_number_1 x0_error_1 x0_errorAt_1 hc) gX5_readTurn_X5_takeNumber rfl hv_X5_takeNumber ⟨nle rfl, nle rfl⟩ 5 0 rfl rfl rfl (rest := []) rfl rfl hl.1 (nle rfl) dX5_readTurn_3 (fun H locs hP hD hS => ?_)
  refine kb_ne (pc := 6) hexec hb dX5_readTurn_6 (tgt := 11) rfl hf (fun hc hf => ?_) (fun hc hf => ?_)
  · refine lv_aload_n (pc := 11) hexec hb dX5_readTurn_11 rfl (lv_at hl 0 rfl) ?_
    refine kg_get (pc := 12) hexec hb (own := RX5) hWX5 hown hG hP 0 rfl rfl 0 (nle rfl) (hts _ (List.mem_cons_of_mem _ (List.mem_append_left _ (List.mem_append_left _ (List.mem_append_left _ (List.mem_append_left _ (List.mem_of_getElem? (i := 0) rfl))))))) rfl rfl dX5_readTurn_12 ?_
    refine kg_getN (pc := 15) hexec hb (own := RX5) hWX6 hown hG hP 1 rfl rfl 2 (nle rfl) 29 rfl rfl rfl dX5_readTurn_15 ?_
    refine lv_aload_n (pc := 18) hexec hb dX5_readTurn_18 rfl (lv_at hl 0 rfl) ?_
    refine kg_get (pc := 19) hexec hb (own := RX5) hWX5 hown hG hP 0 rfl rfl 9 (nle rfl) (hts _ (List.mem_cons_of_mem _ (List.mem_append_left _ (List.mem_append_left _ (List.mem_append_left _ (List.mem_append_left _ (List.mem_of_getElem? (i := 1) rfl))))))) rfl rfl dX5_readTurn_19 ?_
    refine kp_putN (pc := 22) hexec hb (own := RX5) hWX4 tyX4 tyX4_ok nmX4 hown hG hP hD hS 3 rfl rfl 2 (nle rfl) 18 rfl rfl rfl rfl rfl (nle rfl) dX5_readTurn_22 (fun H locs (hP : va_P g.1 vwCl (w_X5_readTurn g a0 a1 a2 a3 u0_1 u0_5 u0_6 u0_7 u0_10 u0_11 u1_0 u1_1 u1_3 u1_4 u3_0 u3_1 u3_3 u3_4 x0_length x0_at_1 x0_numberStart_1 x0_number_1 x0_error_1 x0_errorAt_1 y2_text x0_number_1) H) (hD : va_D A (w_X5_readTurn g a0 a1 a2 a3 u0_1 u0_5 u0_6 u0_7 u0_10 u0_11 u1_0 u1_1 u1_3 u1_4 u3_0 u3_1 u3_3 u3_4 x0_length x0_at_1 x0_numberStart_1 x0_number_1 x0_error_1 x0_errorAt_1 y2_text x0_number_1)) hS => ?_)
    refine lv_iconst (pc := 25) hexec hb dX5_readTurn_25 ki_1 ?_
    cases hf
    exact ke_z hQ hexec hb hr (.inr rfl) hP hD hS dX5_readTurn_26 hlocks
  · refine lv_iconst (pc := 9) hexec hb dX5_readTurn_9 ki_0 ?_
    cases hf
    exact ke_z hQ hexec hb hr (.inl rfl) hP hD hS dX5_readTurn_10 hlocks
