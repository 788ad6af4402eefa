abbrev w_X7_sumOf (g : GE) (a0 a1 : Nat) (u0_0 u0_2 u0_3 : Value) (y1_sums : Nat → Int32) : va_W := [(a0, .inr (7, [u0_0, .ref a1, u0_2, u0_3])), (a1, .inl (g.2.1 0, 144, .inl y1_sums))]
set_option maxRecDepth 20000 in
theorem c_X7_sumOf (l : Launch) (g : GE) (a0 a1 : Nat) (sz : Nat) (u0_0 u0_2 u0_3 : Value) (y1_sums : Nat → Int32) (p1 : Int32)  (r : Int32) (hf : f_X7_sumOf y1_sums p1 = some r) : MI l g yX7_sumOf wsX7_sumOf 1 24 [.ref a0, .int p1] (w_X7_sumOf g a0 a1 u0_0 u0_2 u0_3 y1_sums) sz (some (.int r)) (w_X7_sumOf g a0 a1 u0_0 u0_2 u0_3 y1_sums) := by
  refine MI.start (cc := cX7_sumOf) (maxL := 2) (ret := (some .int)) rfl rfl (nle rfl) ?_
  intro p e s m args below meth c A ls Q hQ hexec hb hr hts hown hlocks hml hA hP hD hG hS hl
  unfold f_X7_sumOf at hf
  have hWX7 : ∀ w ∈ wsX70, w.before args s = true := fun w h => hts w (List.mem_cons_of_mem _ (List.mem_append_right _ h))
  have hS : va_S A s.heap s.heap [] := hS
  refine lv_iload_n (pc := 0) hexec hb dX7_sumOf_0 rfl (lv_at hl 1 rfl) ?_
  obtain ⟨j20, ej20, hf⟩ := bvf1 hf
  have hj20 : ∀ (u : Unit) (H : Heap) (locs : List Loc) (ls : Array Slot), j20 u = some r → va_P g.1 vwCl (w_X7_sumOf g a0 a1 u0_0 u0_2 u0_3 y1_sums) H → va_D A (w_X7_sumOf g a0 a1 u0_0 u0_2 u0_3 y1_sums) → va_S A s.heap H locs → lv_has ls 2 [] → W p l e (RM 1 24) s m args below meth c H locs 0 0 Q (F0 m 20 ls []) := by
    intro u H locs ls hf hP hD hS hl
    have hf := (ej20 u).symm.trans hf
    refine lv_iconst (pc := 20) hexec hb dX7_sumOf_20 ki_m1 ?_
    cases hf
    exact ke_i hQ hexec hb hr hP hD hS dX7_sumOf_21 hlocks
  refine kb_lt (pc := 1) hexec hb dX7_sumOf_1 (tgt := 20) rfl hf (fun hc hf => ?_) (fun hc hf => ?_)
  · exact hj20 _ _ _ _ hf hP hD hS (lv_sub hl [] rfl)
  · refine lv_iload_n (pc := 4) hexec hb dX7_sumOf_4 rfl (lv_at hl 1 rfl) ?_
    refine lv_sipush (pc := 5) hexec hb dX7_sumOf_5 ks_144 ?_
    refine ki_ge (pc := 8) hexec hb dX7_sumOf_8 (tgt := 20) rfl hf (fun hc hf => ?_) (fun hc hf => ?_)
    · exact hj20 _ _ _ _ hf hP hD hS (lv_sub hl [] rfl)
    · refine lv_aload_n (pc := 11) hexec hb dX7_sumOf_11 rfl (lv_at hl 0 rfl) ?_
      refine kg_get (pc := 12) hexec hb (own := RX7) hWX7 hown hG hP 0 rfl rfl 1 (nle rfl) (hts _ (List.mem_cons_of_mem _ (List.mem_append_left _ (List.mem_of_getElem? (i := 0) rfl)))) rfl rfl dX7_sumOf_12 ?_
      refine lv_iload_n (pc := 15) hexec hb dX7_sumOf_15 rfl (lv_at hl 1 rfl) ?_
      refine kr_iald (pc := 16) hexec hb hG hP 1 rfl hf dX7_sumOf_16 (fun hf => ?_)
      refine lv_goto (pc := 17) hexec hb dX7_sumOf_17 (tgt := 21) rfl ?_
      cases hf
      exact ke_i hQ hexec hb hr hP hD hS dX7_sumOf_21 hlocks
abbrev w_X7_improve (g : GE) (a0 a1 a2 a3 : Nat) (u0_2 u0_3 u3_2 u3_3 u3_4 u3_5 : Value) (y1_costs : Nat → Int32) (y2_sums : Nat → Int32) (x3_rows : Int32) (x3_columns : Int32) : va_W := [(a0, .inr (7, [.ref a1, .ref a2, u0_2, u0_3])), (a1, .inl (g.2.1 0, 144, .inl y1_costs)), (a2, .inl (g.2.1 0, 144, .inl y2_sums)), (a3, .inr (1, [.int x3_rows, .int x3_columns, u3_2, u3_3, u3_4, u3_5]))]
set_option maxRecDepth 20000 in
theorem c_X7_improve (l : Launch) (g : GE) (a0 a1 a2 a3 : Nat) (sz : Nat) (u0_2 u0_3 u3_2 u3_3 u3_4 u3_5 : Value) (y1_costs : Nat → Int32) (y2_sums : Nat → Int32) (x3_rows : Int32) (x3_columns : Int32) (p2 : Int32)  (r : Int32) (o_y2_sums : Nat → Int32) (hf : f_X7_improve y1_costs y2_sums x3_rows x3_columns p2 = some (r, o_y2_sums)) : MI l g yX7_improve wsX7_improve 2 50 [.ref a0, .ref a3, .int p2] (w_X7_improve g a0 a1 a2 a3 u0_2 u0_3 u3_2 u3_3 u3_4 u3_5 y1_costs y2_sums x3_rows x3_columns) sz (some (.int r)) (w_X7_improve g a0 a1 a2 a3 u0_2 u0_3 u3_2 u3_3 u3_4 u3_5 y1_costs o_y2_sums x3_rows x3_columns) := by
  refine MI.start (cc := cX7_improve) (maxL := 7) (ret := (some .boolean)) rfl rfl (nle rfl) ?_
  intro p e s m args below meth c A ls Q hQ hexec hb hr hts hown hlocks hml hA hP hD hG hS hl
  unfold f_X7_improve at hf
  have hWX1 : ∀ w ∈ wsX10, w.before args s = true := fun w h => hts w (List.mem_cons_of_mem _ (List.mem_append_right _ h))
  have hWX7 : ∀ w ∈ wsX70, w.before args s = true := fun w h => hts w (List.mem_cons_of_mem _ (List.mem_append_left _ (List.mem_append_right _ h)))
  have hS : va_S A s.heap s.heap [] := hS
  refine lv_iconst (pc := 0) hexec hb dX7_improve_0 ki_0 ?_
  refine lv_istore_n (pc := 1) hexec hb dX7_improve_1 rfl hl (nle rfl) rfl (fun ls (hl : lv_has ls 7 [(3, .int 0), (0, .ref a0), (1, .ref a3), (2, .int p2)]) => ?_)
  refine lv_iconst (pc := 2) hexec hb dX7_improve_2 ki_0 ?_
  refine lv_istore (pc := 3) hexec hb dX7_improve_3 hl (nle rfl) rfl (fun ls (hl : lv_has ls 7 [(4, .int 0), (3, .int 0), (0, .ref a0), (1, .ref a3), (2, .int p2)]) => ?_)
  obtain ⟨l5, el5, hf⟩ := bvf3 hf
  obtain ⟨v3_1, y2_sums_2, hz, hf⟩ := bd2_e hf
  have hE5 : ∀ (H : Heap) (locs : List Loc) (ls : Array Slot), va_P g.1 vwCl (w_X7_improve g a0 a1 a2 a3 u0_2 u0_3 u3_2 u3_3 u3_4 u3_5 y1_costs y2_sums_2 x3_rows x3_columns) H → va_D A (w_X7_improve g a0 a1 a2 a3 u0_2 u0_3 u3_2 u3_3 u3_4 u3_5 y1_costs y2_sums_2 x3_rows x3_columns) → va_S A s.heap H locs → lv_has ls 7 [(3, .int v3_1)] → W p l e (RM 2 50) s m args below meth c H locs 0 0 Q (F0 m 113 ls []) := by
    intro H locs ls hP hD hS hl
    refine lv_iload_n (pc := 113) hexec hb dX7_improve_113 rfl (lv_at hl 0 rfl) ?_
    obtain ⟨hx, hf⟩ := zb_e hf
    cases hf
    exact ke_z hQ hexec hb hr hx hP hD hS dX7_improve_114 hlocks
  obtain ⟨n, hz⟩ := lq3_e hz
  have hL5 : ∀ (n : Nat) (v3 : Int32) (v4 : Int32) (y2_sums_1 : Nat → Int32) (H : Heap) (locs : List Loc) (ls : Array Slot), it3 l5 n v3 v4 y2_sums_1 = some (v3_1, y2_sums_2) → va_P g.1 vwCl (w_X7_improve g a0 a1 a2 a3 u0_2 u0_3 u3_2 u3_3 u3_4 u3_5 y1_costs y2_sums_1 x3_rows x3_columns) H → va_D A (w_X7_improve g a0 a1 a2 a3 u0_2 u0_3 u3_2 u3_3 u3_4 u3_5 y1_costs y2_sums_1 x3_rows x3_columns) → va_S A s.heap H locs → lv_has ls 7 [(0, .ref a0), (1, .ref a3), (2, .int p2), (3, .int v3), (4, .int v4)] → W p l e (RM 2 50) s m args below meth c H locs 0 0 Q (F0 m 5 ls []) := by
    intro n
    induction n with
    | zero =>
      intro v3 v4 y2_sums_1 H locs ls hf hP hD hS hl
      exact it3_0 hf
    | succ n5 ih5 =>
      intro v3 v4 y2_sums_1 H locs ls hf hP hD hS hl
      obtain ⟨q5, hf, hk5⟩ := it3_e hf
      have hf := (el5 v3 v4 y2_sums_1).symm.trans hf
      refine lv_iload (pc := 5) hexec hb dX7_improve_5 (lv_at hl 4 rfl) ?_
      refine lv_iload_n (pc := 7) hexec hb dX7_improve_7 rfl (lv_at hl 2 rfl) ?_
      refine ki_ge (pc := 8) hexec hb dX7_improve_8 (tgt := 113) rfl hf (fun hc hf => ?_) (fun hc hf => ?_)
      · cases sr3 hf hk5
        exact hE5 _ _ _ hP hD hS (lv_sub hl [3] rfl)
      · refine lv_iconst (pc := 11) hexec hb dX7_improve_11 ki_0 ?_
        refine lv_istore (pc := 12) hexec hb dX7_improve_12 hl (nle rfl) rfl (fun ls (hl : lv_has ls 7 [(5, .int 0), (0, .ref a0), (1, .ref a3), (2, .int p2), (3, .int v3), (4, .int v4)]) => ?_)
        obtain ⟨l14, el14, hf⟩ := bvf3 hf
        obtain ⟨v3_3, y2_sums_4, hz, hf⟩ := bd2_e hf
        have hE14 : ∀ (H : Heap) (locs : List Loc) (ls : Array Slot), va_P g.1 vwCl (w_X7_improve g a0 a1 a2 a3 u0_2 u0_3 u3_2 u3_3 u3_4 u3_5 y1_costs y2_sums_4 x3_rows x3_columns) H → va_D A (w_X7_improve g a0 a1 a2 a3 u0_2 u0_3 u3_2 u3_3 u3_4 u3_5 y1_costs y2_sums_4 x3_rows x3_columns) → va_S A s.heap H locs → lv_has ls 7 [(0, .ref a0), (1, .ref a3), (2, .int p2), (3, .int v3_3), (4, .int v4)] → W p l e (RM 2 50) s m args below meth c H locs 0 0 Q (F0 m 107 ls []) := by
          intro H locs ls hP hD hS hl
          obtain ⟨v4_1, ev4_1, hf⟩ := bv_e hf
          refine k_iinc (pc := 107) hexec hb dX7_improve_107 kq_1 hl (k := 4) rfl ev4_1 (nle rfl) rfl (fun ls (hl : lv_has ls 7 [(4, .int v4_1), (0, .ref a0), (1, .ref a3), (2, .int p2), (3, .int v3_3)]) => ?_)
          refine lv_goto (pc := 110) hexec hb dX7_improve_110 (tgt := 5) rfl ?_
          exact ih5 _ _ _ _ _ _ (sl3 hf hk5) hP hD hS (lv_sub hl [1, 2, 3, 4, 0] rfl)
        obtain ⟨n, hz⟩ := lq3_e hz
        have hL14 : ∀ (n : Nat) (v3_2 : Int32) (v5 : Int32) (y2_sums_3 : Nat → Int32) (H : Heap) (locs : List Loc) (ls : Array Slot), it3 l14 n v3_2 v5 y2_sums_3 = some (v3_3, y2_sums_4) → va_P g.1 vwCl (w_X7_improve g a0 a1 a2 a3 u0_2 u0_3 u3_2 u3_3 u3_4 u3_5 y1_costs y2_sums_3 x3_rows x3_columns) H → va_D A (w_X7_improve g a0 a1 a2 a3 u0_2 u0_3 u3_2 u3_3 u3_4 u3_5 y1_costs y2_sums_3 x3_rows x3_columns) → va_S A s.heap H locs → lv_has ls 7 [(0, .ref a0), (1, .ref a3), (2, .int p2), (3, .int v3_2), (4, .int v4), (5, .int v5)] → W p l e (RM 2 50) s m args below meth c H locs 0 0 Q (F0 m 14 ls []) := by
          intro n
          induction n with
          | zero =>
            intro v3_2 v5 y2_sums_3 H locs ls hf hP hD hS hl
            exact it3_0 hf
          | succ n14 ih14 =>
            intro v3_2 v5 y2_sums_3 H locs ls hf hP hD hS hl
            obtain ⟨q14, hf, hk14⟩ := it3_e hf
            have hf := (el14 v3_2 v5 y2_sums_3).symm.trans hf
            refine lv_iload (pc := 14) hexec hb dX7_improve_14 (lv_at hl 5 rfl) ?_
            refine lv_iconst (pc := 16) hexec hb dX7_improve_16 ki_4 ?_
            refine ki_ge (pc := 17) hexec hb dX7_improve_17 (tgt := 107) rfl hf (fun hc hf => ?_) (fun hc hf => ?_)
            · cases sr3 hf hk14
              exact hE14 _ _ _ hP hD hS (lv_sub hl [0, 1, 2, 3, 4] rfl)
            · refine lv_aload_n (pc := 20) hexec hb dX7_improve_20 rfl (lv_at hl 0 rfl) ?_
              refine kg_get (pc := 21) hexec hb (own := RX7) hWX7 hown hG hP 0 rfl rfl 0 (nle rfl) (hts _ (List.mem_cons_of_mem _ (List.mem_append_left _ (List.mem_append_left _ (List.mem_of_getElem? (i := 0) rfl))))) rfl rfl dX7_improve_21 ?_
              refine lv_iload (pc := 24) hexec hb dX7_improve_24 (lv_at hl 4 rfl) ?_
              refine kr_iald (pc := 26) hexec hb hG hP 1 rfl hf dX7_improve_26 (fun hf => ?_)
              refine kb_eq (pc := 27) hexec hb dX7_improve_27 (tgt := 107) rfl hf (fun hc hf => ?_) (fun hc hf => ?_)
              · cases sr3 hf hk14
                exact hE14 _ _ _ hP hD hS (lv_sub hl [0, 1, 2, 3, 4] rfl)
              · refine lv_aload_n (pc := 30) hexec hb dX7_improve_30 rfl (lv_at hl 0 rfl) ?_
                refine lv_aload_n (pc := 31) hexec hb dX7_improve_31 rfl (lv_at hl 1 rfl) ?_
                refine lv_iload (pc := 32) hexec hb dX7_improve_32 (lv_at hl 4 rfl) ?_
                refine lv_iload (pc := 34) hexec hb dX7_improve_34 (lv_at hl 5 rfl) ?_
                refine lv_iconst (pc := 36) hexec hb dX7_improve_36 ki_1 ?_
                obtain ⟨r37, hc, hf⟩ := bd1_e hf
                refine kVp (pc := 37) (S := ⟨hexec, hb, hml, hown, hts⟩) hP hD hG hA hS [3] [0, 1, 2] [0, 1, 2, 3] (w2 := (w_X7_improve g a0 a1 a2 a3 u0_2 u0_3 u3_2 u3_3 u3_4 u3_5 y1_costs y2_sums_3 x3_rows x3_columns)) rfl rfl rfl rfl rfl rfl (by decide) (c_X1_ahead l g a3 _ u3_2 u3_3 u3_4 u3_5 x3_rows x3_columns v4 v5 1 r37 hc) gX7_improve_X1_ahead rfl hv_X1_ahead ⟨nle rfl, nle rfl⟩ 1 0 rfl rfl rfl (rest := [.ref a0]) rfl rfl hl.1 (nle rfl) dX7_improve_37 (fun H locs hP hD hS => ?_)
                obtain ⟨r40, hc, hf⟩ := bd1_e hf
                refine kVp (pc := 40) (S := ⟨hexec, hb, hml, hown, hts⟩) hP hD hG hA hS [0, 2] [1, 3] [2, 0, 3, 1] (w2 := (w_X7_improve g a0 a1 a2 a3 u0_2 u0_3 u3_2 u3_3 u3_4 u3_5 y1_costs y2_sums_3 x3_rows x3_columns)) rfl rfl rfl rfl rfl rfl (by decide) (c_X7_sumOf l g a0 a2 _ (.ref a1) u0_2 u0_3 y2_sums_3 r37 r40 hc) gX7_improve_X7_sumOf rfl hv_X7_sumOf ⟨nle rfl, nle rfl⟩ 7 0 rfl rfl rfl (rest := []) rfl rfl hl.1 (nle rfl) dX7_improve_40 (fun H locs hP hD hS => ?_)
                refine lv_istore (pc := 43) hexec hb dX7_improve_43 hl (nle rfl) rfl (fun ls (hl : lv_has ls 7 [(6, .int r40), (0, .ref a0), (1, .ref a3), (2, .int p2), (3, .int v3_2), (4, .int v4), (5, .int v5)]) => ?_)
                refine lv_iload (pc := 45) hexec hb dX7_improve_45 (lv_at hl 0 rfl) ?_
                refine lv_iconst (pc := 47) hexec hb dX7_improve_47 ki_m1 ?_
                obtain ⟨j101, ej101, hf⟩ := bvf2 hf
                have hj101 : ∀ (v3_4 : Int32) (y2_sums_5 : Nat → Int32) (H : Heap) (locs : List Loc) (ls : Array Slot), j101 v3_4 y2_sums_5 = some q14 → va_P g.1 vwCl (w_X7_improve g a0 a1 a2 a3 u0_2 u0_3 u3_2 u3_3 u3_4 u3_5 y1_costs y2_sums_5 x3_rows x3_columns) H → va_D A (w_X7_improve g a0 a1 a2 a3 u0_2 u0_3 u3_2 u3_3 u3_4 u3_5 y1_costs y2_sums_5 x3_rows x3_columns) → va_S A s.heap H locs → lv_has ls 7 [(0, .ref a0), (1, .ref a3), (2, .int p2), (3, .int v3_4), (4, .int v4), (5, .int v5)] → W p l e (RM 2 50) s m args below meth c H locs 0 0 Q (F0 m 101 ls []) := by
                  intro v3_4 y2_sums_5 H locs ls hf hP hD hS hl
                  have hf := (ej101 v3_4 y2_sums_5).symm.trans hf
                  obtain ⟨v5_1, ev5_1, hf⟩ := bv_e hf
                  refine k_iinc (pc := 101) hexec hb dX7_improve_101 kq_1 hl (k := 5) rfl ev5_1 (nle rfl) rfl (fun ls (hl : lv_has ls 7 [(5, .int v5_1), (0, .ref a0), (1, .ref a3), (2, .int p2), (3, .int v3_4), (4, .int v4)]) => ?_)
                  refine lv_goto (pc := 104) hexec hb dX7_improve_104 (tgt := 14) rfl ?_
                  exact ih14 _ _ _ _ _ _ (sl3 hf hk14) hP hD hS (lv_sub hl [1, 2, 3, 4, 5, 0] rfl)
                refine ki_eq (pc := 48) hexec hb dX7_improve_48 (tgt := 101) rfl hf (fun hc hf => ?_) (fun hc hf => ?_)
                · exact hj101 _ _ _ _ _ hf hP hD hS (lv_sub hl [1, 2, 3, 4, 5, 6] rfl)
                · refine lv_aload_n (pc := 51) hexec hb dX7_improve_51 rfl (lv_at hl 1 rfl) ?_
                  refine kg_get (pc := 52) hexec hb (own := RX7) hWX7 hown hG hP 0 rfl rfl 1 (nle rfl) (hts _ (List.mem_cons_of_mem _ (List.mem_append_left _ (List.mem_append_left _ (List.mem_of_getElem? (i := 1) rfl))))) rfl rfl dX7_improve_52 ?_
                  refine lv_iload (pc := 55) hexec hb dX7_improve_55 (lv_at hl 5 rfl) ?_
                  refine kr_iald (pc := 57) hexec hb hG hP 2 rfl hf dX7_improve_57 (fun hf => ?_)
                  refine lv_iconst (pc := 58) hexec hb dX7_improve_58 ki_m1 ?_
                  obtain ⟨j82, ej82, hf⟩ := bvf1 hf
                  have hj82 : ∀ (u : Unit) (H : Heap) (locs : List Loc) (ls : Array Slot), j82 u = some q14 → va_P g.1 vwCl (w_X7_improve g a0 a1 a2 a3 u0_2 u0_3 u3_2 u3_3 u3_4 u3_5 y1_costs y2_sums_3 x3_rows x3_columns) H → va_D A (w_X7_improve g a0 a1 a2 a3 u0_2 u0_3 u3_2 u3_3 u3_4 u3_5 y1_costs y2_sums_3 x3_rows x3_columns) → va_S A s.heap H locs → lv_has ls 7 [(0, .ref a0), (1, .ref a3), (2, .int p2), (4, .int v4), (5, .int v5), (6, .int r40)] → W p l e (RM 2 50) s m args below meth c H locs 0 0 Q (F0 m 82 ls []) := by
                    intro u H locs ls hf hP hD hS hl
                    have hf := (ej82 u).symm.trans hf
                    refine lv_aload_n (pc := 82) hexec hb dX7_improve_82 rfl (lv_at hl 0 rfl) ?_
                    refine kg_get (pc := 83) hexec hb (own := RX7) hWX7 hown hG hP 0 rfl rfl 1 (nle rfl) (hts _ (List.mem_cons_of_mem _ (List.mem_append_left _ (List.mem_append_left _ (List.mem_of_getElem? (i := 1) rfl))))) rfl rfl dX7_improve_83 ?_
                    refine lv_iload (pc := 86) hexec hb dX7_improve_86 (lv_at hl 3 rfl) ?_
                    refine lv_iload (pc := 88) hexec hb dX7_improve_88 (lv_at hl 5 rfl) ?_
                    refine lv_aload_n (pc := 90) hexec hb dX7_improve_90 rfl (lv_at hl 0 rfl) ?_
                    refine kg_get (pc := 91) hexec hb (own := RX7) hWX7 hown hG hP 0 rfl rfl 0 (nle rfl) (hts _ (List.mem_cons_of_mem _ (List.mem_append_left _ (List.mem_append_left _ (List.mem_of_getElem? (i := 0) rfl))))) rfl rfl dX7_improve_91 ?_
                    refine lv_iload (pc := 94) hexec hb dX7_improve_94 (lv_at hl 3 rfl) ?_
                    refine kr_iald (pc := 96) hexec hb hG hP 1 rfl hf dX7_improve_96 (fun hf => ?_)
                    refine lv_iadd (pc := 97) hexec hb dX7_improve_97 ?_
                    refine kw_iast (pc := 98) hexec hb hG hP hD hS 2 rfl hf dX7_improve_98 (fun y2_sums_6 H locs hf (hP : va_P g.1 vwCl (w_X7_improve g a0 a1 a2 a3 u0_2 u0_3 u3_2 u3_3 u3_4 u3_5 y1_costs y2_sums_6 x3_rows x3_columns) H) (hD : va_D A (w_X7_improve g a0 a1 a2 a3 u0_2 u0_3 u3_2 u3_3 u3_4 u3_5 y1_costs y2_sums_6 x3_rows x3_columns)) hS => ?_)
                    refine lv_iconst (pc := 99) hexec hb dX7_improve_99 ki_1 ?_
                    refine lv_istore_n (pc := 100) hexec hb dX7_improve_100 rfl hl (nle rfl) rfl (fun ls (hl : lv_has ls 7 [(3, .int 1), (0, .ref a0), (1, .ref a3), (2, .int p2), (4, .int v4), (5, .int v5), (6, .int r40)]) => ?_)
                    exact hj101 _ _ _ _ _ hf hP hD hS (lv_sub hl [1, 2, 3, 0, 4, 5] rfl)
                  refine ki_eq (pc := 59) hexec hb dX7_improve_59 (tgt := 82) rfl hf (fun hc hf => ?_) (fun hc hf => ?_)
                  · exact hj82 _ _ _ _ hf hP hD hS (lv_sub hl [1, 2, 3, 5, 6, 0] rfl)
                  · refine lv_iload (pc := 62) hexec hb dX7_improve_62 (lv_at hl 0 rfl) ?_
                    refine lv_aload_n (pc := 64) hexec hb dX7_improve_64 rfl (lv_at hl 1 rfl) ?_
                    refine kg_get (pc := 65) hexec hb (own := RX7) hWX7 hown hG hP 0 rfl rfl 0 (nle rfl) (hts _ (List.mem_cons_of_mem _ (List.mem_append_left _ (List.mem_append_left _ (List.mem_of_getElem? (i := 0) rfl))))) rfl rfl dX7_improve_65 ?_
                    refine lv_iload (pc := 68) hexec hb dX7_improve_68 (lv_at hl 5 rfl) ?_
                    refine kr_iald (pc := 70) hexec hb hG hP 1 rfl hf dX7_improve_70 (fun hf => ?_)
                    refine lv_iadd (pc := 71) hexec hb dX7_improve_71 ?_
                    refine lv_aload_n (pc := 72) hexec hb dX7_improve_72 rfl (lv_at hl 1 rfl) ?_
                    refine kg_get (pc := 73) hexec hb (own := RX7) hWX7 hown hG hP 0 rfl rfl 1 (nle rfl) (hts _ (List.mem_cons_of_mem _ (List.mem_append_left _ (List.mem_append_left _ (List.mem_of_getElem? (i := 1) rfl))))) rfl rfl dX7_improve_73 ?_
                    refine lv_iload (pc := 76) hexec hb dX7_improve_76 (lv_at hl 5 rfl) ?_
                    refine kr_iald (pc := 78) hexec hb hG hP 2 rfl hf dX7_improve_78 (fun hf => ?_)
                    refine ki_ge (pc := 79) hexec hb dX7_improve_79 (tgt := 101) rfl hf (fun hc hf => ?_) (fun hc hf => ?_)
                    · exact hj101 _ _ _ _ _ hf hP hD hS (lv_sub hl [1, 2, 3, 4, 5, 6] rfl)
                    · exact hj82 _ _ _ _ hf hP hD hS (lv_sub hl [1, 2, 3, 5, 6, 0] rfl)
        exact hL14 n _ _ _ _ _ _ hz hP hD hS (lv_sub hl [1, 2, 3, 4, 5, 0] rfl)
  exact hL5 n _ _ _ _ _ _ hz hP hD hS (lv_sub hl [2, 3, 4, 1, 0] rfl)
abbrev w_X7_survey (g : GE) (a0 a1 a2 a3 a4 a5 a6 a7 a8 a9 : Nat) (u0_2 u0_3 u3_2 u3_4 u4_2 u4_5 u5_1 u5_3 u5_4 u5_5 : Value) (y1_costs : Nat → Int32) (y2_sums : Nat → Int32) (x4_rows : Int32) (x4_columns : Int32) (x5_count : Int32) (y6_namesOn : Nat → Int32) (y7_land : Nat → Int32) (y8_riverOf : Nat → Int32) (y9_home : Nat → Int32) : va_W := [(a0, .inr (7, [.ref a1, .ref a2, u0_2, u0_3])), (a1, .inl (g.2.1 0, 144, .inl y1_costs)), (a2, .inl (g.2.1 0, 144, .inl y2_sums)), (a3, .inr (6, [.ref a4, .ref a5, u3_2, .ref a6, u3_4])), (a4, .inr (1, [.int x4_rows, .int x4_columns, u4_2, .ref a7, .ref a8, u4_5])), (a5, .inr (2, [.int x5_count, u5_1, .ref a9, u5_3, u5_4, u5_5])), (a6, .inl (g.2.1 0, 144, .inl y6_namesOn)), (a7, .inl (g.2.1 1, 144, .inl y7_land)), (a8, .inl (g.2.1 0, 144, .inl y8_riverOf)), (a9, .inl (g.2.1 0, 8, .inl y9_home))]
set_option maxRecDepth 20000 in
theorem c_X7_survey (l : Launch) (g : GE) (a0 a1 a2 a3 a4 a5 a6 a7 a8 a9 : Nat) (sz : Nat) (u0_2 u0_3 u3_2 u3_4 u4_2 u4_5 u5_1 u5_3 u5_4 u5_5 : Value) (y1_costs : Nat → Int32) (y2_sums : Nat → Int32) (x4_rows : Int32) (x4_columns : Int32) (x5_count : Int32) (y6_namesOn : Nat → Int32) (y7_land : Nat → Int32) (y8_riverOf : Nat → Int32) (y9_home : Nat → Int32)   (o_y1_costs : Nat → Int32) (o_y2_sums : Nat → Int32) (hf : f_X7_survey y1_costs y2_sums x4_rows x4_columns x5_count y6_namesOn y7_land y8_riverOf y9_home = some (o_y1_costs, o_y2_sums)) : MI l g yX7_survey wsX7_survey 3 76 [.ref a0, .ref a3] (w_X7_survey g a0 a1 a2 a3 a4 a5 a6 a7 a8 a9 u0_2 u0_3 u3_2 u3_4 u4_2 u4_5 u5_1 u5_3 u5_4 u5_5 y1_costs y2_sums x4_rows x4_columns x5_count y6_namesOn y7_land y8_riverOf y9_home) sz none (w_X7_survey g a0 a1 a2 a3 a4 a5 a6 a7 a8 a9 u0_2 u0_3 u3_2 u3_4 u4_2 u4_5 u5_1 u5_3 u5_4 u5_5 o_y1_costs o_y2_sums x4_rows x4_columns x5_count y6_namesOn y7_land y8_riverOf y9_home) := by
  refine MI.start (cc := cX7_survey) (maxL := 5) (ret := none) rfl rfl (nle rfl) ?_
  intro p e s m args below meth c A ls Q hQ hexec hb hr hts hown hlocks hml hA hP hD hG hS hl
  unfold f_X7_survey at hf
  have hWX1 : ∀ w ∈ wsX10, w.before args s = true := fun w h => hts w (List.mem_cons_of_mem _ (List.mem_append_left _ (List.mem_append_right _ h)))
  have hWX2 : ∀ w ∈ wsX20, w.before args s = true := fun w h => hts w (List.mem_cons_of_mem _ (List.mem_append_right _ h))
  have hWX6 : ∀ w ∈ wsX60, w.before args s = true := fun w h => hts w (List.mem_cons_of_mem _ (List.mem_append_left _ (List.mem_append_left _ (List.mem_append_left _ (List.mem_append_right _ h)))))
  have hWX7 : ∀ w ∈ wsX70, w.before args s = true := fun w h => hts w (List.mem_cons_of_mem _ (List.mem_append_left _ (List.mem_append_left _ (List.mem_append_right _ h))))
  have hS : va_S A s.heap s.heap [] := hS
  refine lv_aload_n (pc := 0) hexec hb dX7_survey_0 rfl (lv_at hl 1 rfl) ?_
  refine kg_getN (pc := 1) hexec hb (own := RX7) hWX6 hown hG hP 3 rfl rfl 0 (nle rfl) 20 rfl rfl rfl dX7_survey_1 ?_
  obtain ⟨r4, hc, hf⟩ := bd1_e hf
  refine kVp (pc := 4) (S := ⟨hexec, hb, hml, hown, hts⟩) hP hD hG hA hS [4] [0, 1, 2, 3, 5, 6, 7, 8, 9] [0, 1, 2, 3, 9, 4, 5, 6, 7, 8] (w2 := (w_X7_survey g a0 a1 a2 a3 a4 a5 a6 a7 a8 a9 u0_2 u0_3 u3_2 u3_4 u4_2 u4_5 u5_1 u5_3 u5_4 u5_5 y1_costs y2_sums x4_rows x4_columns x5_count y6_namesOn y7_land y8_riverOf y9_home)) rfl rfl rfl rfl rfl rfl (by decide) (c_X1_cells l g a4 _ u4_2 (.ref a7) (.ref a8) u4_5 x4_rows x4_columns r4 hc) gX7_survey_X1_cells rfl hv_X1_cells ⟨nle rfl, nle rfl⟩ 1 0 rfl rfl rfl (rest := []) rfl rfl hl.1 (nle rfl) dX7_survey_4 (fun H locs hP hD hS => ?_)
  refine lv_sipush (pc := 7) hexec hb dX7_survey_7 ks_144 ?_
  refine va_mmin (pc := 10) hexec hb (hml.trans hl.1.symm) (own := RX7) hown (hts _ (List.mem_cons_of_mem _ (List.mem_append_left _ (List.mem_append_left _ (List.mem_append_left _ (List.mem_append_left _ (List.mem_append_left _ (List.mem_of_getElem? (i := 0) rfl)))))))) (hts _ (List.mem_cons_of_mem _ (List.mem_append_left _ (List.mem_append_left _ (List.mem_append_left _ (List.mem_append_left _ (List.mem_append_left _ (List.mem_of_getElem? (i := 1) rfl)))))))) (hts _ (List.mem_cons_of_mem _ (List.mem_append_left _ (List.mem_append_left _ (List.mem_append_left _ (List.mem_append_left _ (List.mem_append_left _ (List.mem_of_getElem? (i := 2) rfl)))))))) (hts _ (List.mem_cons_of_mem _ (List.mem_append_left _ (List.mem_append_left _ (List.mem_append_left _ (List.mem_append_left _ (List.mem_append_left _ (List.mem_of_getElem? (i := 3) rfl)))))))) (nle rfl) (nle rfl) (nle rfl) (nle rfl) dX7_survey_10 ?_
  obtain ⟨v2, ev2, hf⟩ := bv_e hf
  refine kn_i ev2 ?_
  refine lv_istore_n (pc := 13) hexec hb dX7_survey_13 rfl hl (nle rfl) rfl (fun ls (hl : lv_has ls 5 [(2, .int v2), (0, .ref a0), (1, .ref a3)]) => ?_)
  refine lv_iconst (pc := 14) hexec hb dX7_survey_14 ki_0 ?_
  refine lv_istore_n (pc := 15) hexec hb dX7_survey_15 rfl hl (nle rfl) rfl (fun ls (hl : lv_has ls 5 [(3, .int 0), (2, .int v2), (0, .ref a0), (1, .ref a3)]) => ?_)
  obtain ⟨l16, el16, hf⟩ := bvf3 hf
  obtain ⟨y1_costs_2, y2_sums_2, hz, hf⟩ := bd2_e hf
  have hE16 : ∀ (H : Heap) (locs : List Loc) (ls : Array Slot), va_P g.1 vwCl (w_X7_survey g a0 a1 a2 a3 a4 a5 a6 a7 a8 a9 u0_2 u0_3 u3_2 u3_4 u4_2 u4_5 u5_1 u5_3 u5_4 u5_5 y1_costs_2 y2_sums_2 x4_rows x4_columns x5_count y6_namesOn y7_land y8_riverOf y9_home) H → va_D A (w_X7_survey g a0 a1 a2 a3 a4 a5 a6 a7 a8 a9 u0_2 u0_3 u3_2 u3_4 u4_2 u4_5 u5_1 u5_3 u5_4 u5_5 y1_costs_2 y2_sums_2 x4_rows x4_columns x5_count y6_namesOn y7_land y8_riverOf y9_home) → va_S A s.heap H locs → lv_has ls 5 [(0, .ref a0), (1, .ref a3), (2, .int v2)] → W p l e (RM 3 76) s m args below meth c H locs 0 0 Q (F0 m 95 ls []) := by
    intro H locs ls hP hD hS hl
    refine lv_iconst (pc := 95) hexec hb dX7_survey_95 ki_1 ?_
    refine lv_istore_n (pc := 96) hexec hb dX7_survey_96 rfl hl (nle rfl) rfl (fun ls (hl : lv_has ls 5 [(3, .int 1), (0, .ref a0), (1, .ref a3), (2, .int v2)]) => ?_)
    refine lv_iconst (pc := 97) hexec hb dX7_survey_97 ki_0 ?_
    refine lv_istore (pc := 98) hexec hb dX7_survey_98 hl (nle rfl) rfl (fun ls (hl : lv_has ls 5 [(4, .int 0), (3, .int 1), (0, .ref a0), (1, .ref a3), (2, .int v2)]) => ?_)
    obtain ⟨l100, el100, hf⟩ := bvf3 hf
    obtain ⟨y2_sums_5, hz, hf⟩ := bd1_e hf
    have hE100 : ∀ (H : Heap) (locs : List Loc) (ls : Array Slot), va_P g.1 vwCl (w_X7_survey g a0 a1 a2 a3 a4 a5 a6 a7 a8 a9 u0_2 u0_3 u3_2 u3_4 u4_2 u4_5 u5_1 u5_3 u5_4 u5_5 y1_costs_2 y2_sums_5 x4_rows x4_columns x5_count y6_namesOn y7_land y8_riverOf y9_home) H → va_D A (w_X7_survey g a0 a1 a2 a3 a4 a5 a6 a7 a8 a9 u0_2 u0_3 u3_2 u3_4 u4_2 u4_5 u5_1 u5_3 u5_4 u5_5 y1_costs_2 y2_sums_5 x4_rows x4_columns x5_count y6_namesOn y7_land y8_riverOf y9_home) → va_S A s.heap H locs → lv_has ls 5 [] → W p l e (RM 3 76) s m args below meth c H locs 0 0 Q (F0 m 126 ls []) := by
      intro H locs ls hP hD hS hl
      cases hf
      exact ke_v hQ hexec hb hr hP hD hS dX7_survey_126 hlocks
    obtain ⟨n, hz⟩ := lq3_e hz
    have hL100 : ∀ (n : Nat) (v3_2 : Int32) (v4 : Int32) (y2_sums_4 : Nat → Int32) (H : Heap) (locs : List Loc) (ls : Array Slot), it3 l100 n v3_2 v4 y2_sums_4 = some y2_sums_5 → va_P g.1 vwCl (w_X7_survey g a0 a1 a2 a3 a4 a5 a6 a7 a8 a9 u0_2 u0_3 u3_2 u3_4 u4_2 u4_5 u5_1 u5_3 u5_4 u5_5 y1_costs_2 y2_sums_4 x4_rows x4_columns x5_count y6_namesOn y7_land y8_riverOf y9_home) H → va_D A (w_X7_survey g a0 a1 a2 a3 a4 a5 a6 a7 a8 a9 u0_2 u0_3 u3_2 u3_4 u4_2 u4_5 u5_1 u5_3 u5_4 u5_5 y1_costs_2 y2_sums_4 x4_rows x4_columns x5_count y6_namesOn y7_land y8_riverOf y9_home) → va_S A s.heap H locs → lv_has ls 5 [(0, .ref a0), (1, .ref a3), (2, .int v2), (3, .int v3_2), (4, .int v4)] → W p l e (RM 3 76) s m args below meth c H locs 0 0 Q (F0 m 100 ls []) := by
      intro n
      induction n with
      | zero =>
        intro v3_2 v4 y2_sums_4 H locs ls hf hP hD hS hl
        exact it3_0 hf
      | succ n100 ih100 =>
        intro v3_2 v4 y2_sums_4 H locs ls hf hP hD hS hl
        obtain ⟨q100, hf, hk100⟩ := it3_e hf
        have hf := (el100 v3_2 v4 y2_sums_4).symm.trans hf
        refine lv_iload (pc := 100) hexec hb dX7_survey_100 (lv_at hl 4 rfl) ?_
        refine lv_iload_n (pc := 102) hexec hb dX7_survey_102 rfl (lv_at hl 2 rfl) ?_
        refine ki_ge (pc := 103) hexec hb dX7_survey_103 (tgt := 126) rfl hf (fun hc hf => ?_) (fun hc hf => ?_)
        · cases sr3 hf hk100
          exact hE100 _ _ _ hP hD hS (lv_sub hl [] rfl)
        · refine lv_iload_n (pc := 106) hexec hb dX7_survey_106 rfl (lv_at hl 3 rfl) ?_
          refine kb_eq (pc := 107) hexec hb dX7_survey_107 (tgt := 126) rfl hf (fun hc hf => ?_) (fun hc hf => ?_)
          · cases sr3 hf hk100
            exact hE100 _ _ _ hP hD hS (lv_sub hl [] rfl)
          · refine lv_aload_n (pc := 110) hexec hb dX7_survey_110 rfl (lv_at hl 0 rfl) ?_
            refine lv_aload_n (pc := 111) hexec hb dX7_survey_111 rfl (lv_at hl 1 rfl) ?_
            refine kg_getN (pc := 112) hexec hb (own := RX7) hWX6 hown hG hP 3 rfl rfl 0 (nle rfl) 20 rfl rfl rfl dX7_survey_112 ?_
            refine lv_iload_n (pc := 115) hexec hb dX7_survey_115 rfl (lv_at hl 2 rfl) ?_
            obtain ⟨r116, y2_sums_6, hc, hf⟩ := bd2_e hf
            refine kVp (pc := 116) (S := ⟨hexec, hb, hml, hown, hts⟩) hP hD hG hA hS [0, 1, 2, 4] [3, 5, 6, 7, 8, 9] [6, 7, 8, 0, 9, 1, 2, 3, 4, 5] (w2 := (w_X7_survey g a0 a1 a2 a3 a4 a5 a6 a7 a8 a9 u0_2 u0_3 u3_2 u3_4 u4_2 u4_5 u5_1 u5_3 u5_4 u5_5 y1_costs_2 y2_sums_6 x4_rows x4_columns x5_count y6_namesOn y7_land y8_riverOf y9_home)) rfl rfl rfl rfl rfl rfl (by decide) (c_X7_improve l g a0 a1 a2 a4 _ u0_2 u0_3 u4_2 (.ref a7) (.ref a8) u4_5 y1_costs_2 y2_sums_4 x4_rows x4_columns v2 r116 y2_sums_6 hc) gX7_survey_X7_improve rfl hv_X7_improve ⟨nle rfl, nle rfl⟩ 7 0 rfl rfl rfl (rest := []) rfl rfl hl.1 (nle rfl) dX7_survey_116 (fun H locs hP hD hS => ?_)
            refine lv_istore_n (pc := 119) hexec hb dX7_survey_119 rfl hl (nle rfl) rfl (fun ls (hl : lv_has ls 5 [(3, .int r116), (0, .ref a0), (1, .ref a3), (2, .int v2), (4, .int v4)]) => ?_)
            obtain ⟨v4_1, ev4_1, hf⟩ := bv_e hf
            refine k_iinc (pc := 120) hexec hb dX7_survey_120 kq_1 hl (k := 4) rfl ev4_1 (nle rfl) rfl (fun ls (hl : lv_has ls 5 [(4, .int v4_1), (3, .int r116), (0, .ref a0), (1, .ref a3), (2, .int v2)]) => ?_)
            refine lv_goto (pc := 123) hexec hb dX7_survey_123 (tgt := 100) rfl ?_
            exact ih100 _ _ _ _ _ _ (sl3 hf hk100) hP hD hS (lv_sub hl [2, 3, 4, 1, 0] rfl)
    exact hL100 n _ _ _ _ _ _ hz hP hD hS (lv_sub hl [2, 3, 4, 1, 0] rfl)
  obtain ⟨n, hz⟩ := lq3_e hz
  have hL16 : ∀ (n : Nat) (v3 : Int32) (y1_costs_1 : Nat → Int32) (y2_sums_1 : Nat → Int32) (H : Heap) (locs : List Loc) (ls : Array Slot), it3 l16 n v3 y1_costs_1 y2_sums_1 = some (y1_costs_2, y2_sums_2) → va_P g.1 vwCl (w_X7_survey g a0 a1 a2 a3 a4 a5 a6 a7 a8 a9 u0_2 u0_3 u3_2 u3_4 u4_2 u4_5 u5_1 u5_3 u5_4 u5_5 y1_costs_1 y2_sums_1 x4_rows x4_columns x5_count y6_namesOn y7_land y8_riverOf y9_home) H → va_D A (w_X7_survey g a0 a1 a2 a3 a4 a5 a6 a7 a8 a9 u0_2 u0_3 u3_2 u3_4 u4_2 u4_5 u5_1 u5_3 u5_4 u5_5 y1_costs_1 y2_sums_1 x4_rows x4_columns x5_count y6_namesOn y7_land y8_riverOf y9_home) → va_S A s.heap H locs → lv_has ls 5 [(0, .ref a0), (1, .ref a3), (2, .int v2), (3, .int v3)] → W p l e (RM 3 76) s m args below meth c H locs 0 0 Q (F0 m 16 ls []) := by
    intro n
    induction n with
    | zero =>
      intro v3 y1_costs_1 y2_sums_1 H locs ls hf hP hD hS hl
      exact it3_0 hf
    | succ n16 ih16 =>
      intro v3 y1_costs_1 y2_sums_1 H locs ls hf hP hD hS hl
      obtain ⟨q16, hf, hk16⟩ := it3_e hf
      have hf := (el16 v3 y1_costs_1 y2_sums_1).symm.trans hf
      refine lv_iload_n (pc := 16) hexec hb dX7_survey_16 rfl (lv_at hl 3 rfl) ?_
      refine lv_iload_n (pc := 17) hexec hb dX7_survey_17 rfl (lv_at hl 2 rfl) ?_
      refine ki_ge (pc := 18) hexec hb dX7_survey_18 (tgt := 95) rfl hf (fun hc hf => ?_) (fun hc hf => ?_)
      · cases sr3 hf hk16
        exact hE16 _ _ _ hP hD hS (lv_sub hl [0, 1, 2] rfl)
      · refine lv_aload_n (pc := 21) hexec hb dX7_survey_21 rfl (lv_at hl 1 rfl) ?_
        refine lv_iload_n (pc := 22) hexec hb dX7_survey_22 rfl (lv_at hl 3 rfl) ?_
        obtain ⟨r23, hc, hf⟩ := bd1_e hf
        refine kVp (pc := 23) (S := ⟨hexec, hb, hml, hown, hts⟩) hP hD hG hA hS [3, 4, 5, 7, 8, 9] [0, 1, 2, 6] [0, 1, 2, 4, 5, 6, 3, 7, 8, 9] (w2 := (w_X7_survey g a0 a1 a2 a3 a4 a5 a6 a7 a8 a9 u0_2 u0_3 u3_2 u3_4 u4_2 u4_5 u5_1 u5_3 u5_4 u5_5 y1_costs_1 y2_sums_1 x4_rows x4_columns x5_count y6_namesOn y7_land y8_riverOf y9_home)) rfl rfl rfl rfl rfl rfl (by decide) (c_X6_isOpen l g a3 a4 a5 a7 a8 a9 _ u3_2 (.ref a6) u3_4 (.int x4_rows) (.int x4_columns) u4_2 u4_5 u5_1 u5_3 u5_4 u5_5 x5_count y7_land y8_riverOf y9_home v3 r23 hc) gX7_survey_X6_isOpen rfl hv_X6_isOpen ⟨nle rfl, nle rfl⟩ 6 0 rfl rfl rfl (rest := []) rfl rfl hl.1 (nle rfl) dX7_survey_23 (fun H locs hP hD hS => ?_)
        refine lv_istore (pc := 26) hexec hb dX7_survey_26 hl (nle rfl) rfl (fun ls (hl : lv_has ls 5 [(4, .int r23), (0, .ref a0), (1, .ref a3), (2, .int v2), (3, .int v3)]) => ?_)
        refine lv_aload_n (pc := 28) hexec hb dX7_survey_28 rfl (lv_at hl 1 rfl) ?_
        refine kg_get (pc := 29) hexec hb (own := RX7) hWX7 hown hG hP 0 rfl rfl 0 (nle rfl) (hts _ (List.mem_cons_of_mem _ (List.mem_append_left _ (List.mem_append_left _ (List.mem_append_left _ (List.mem_append_left _ (List.mem_append_left _ (List.mem_of_getElem? (i := 4) rfl)))))))) rfl rfl dX7_survey_29 ?_
        refine lv_iload_n (pc := 32) hexec hb dX7_survey_32 rfl (lv_at hl 4 rfl) ?_
        refine lv_iload (pc := 33) hexec hb dX7_survey_33 (lv_at hl 0 rfl) ?_
        obtain ⟨j56, ej56, hf⟩ := bvf1 hf
        have hj56 : ∀ (t56 : Int32) (H : Heap) (locs : List Loc) (ls : Array Slot), j56 t56 = some q16 → va_P g.1 vwCl (w_X7_survey g a0 a1 a2 a3 a4 a5 a6 a7 a8 a9 u0_2 u0_3 u3_2 u3_4 u4_2 u4_5 u5_1 u5_3 u5_4 u5_5 y1_costs_1 y2_sums_1 x4_rows x4_columns x5_count y6_namesOn y7_land y8_riverOf y9_home) H → va_D A (w_X7_survey g a0 a1 a2 a3 a4 a5 a6 a7 a8 a9 u0_2 u0_3 u3_2 u3_4 u4_2 u4_5 u5_1 u5_3 u5_4 u5_5 y1_costs_1 y2_sums_1 x4_rows x4_columns x5_count y6_namesOn y7_land y8_riverOf y9_home) → va_S A s.heap H locs → lv_has ls 5 [(0, .ref a0), (1, .ref a3), (2, .int v2), (3, .int v3), (4, .int r23)] → W p l e (RM 3 76) s m args below meth c H locs 0 0 Q (F0 m 56 ls [.int t56, .int v3, .ref a1]) := by
          intro t56 H locs ls hf hP hD hS hl
          have hf := (ej56 t56).symm.trans hf
          refine kw_iast (pc := 56) hexec hb hG hP hD hS 1 rfl hf dX7_survey_56 (fun y1_costs_3 H locs hf (hP : va_P g.1 vwCl (w_X7_survey g a0 a1 a2 a3 a4 a5 a6 a7 a8 a9 u0_2 u0_3 u3_2 u3_4 u4_2 u4_5 u5_1 u5_3 u5_4 u5_5 y1_costs_3 y2_sums_1 x4_rows x4_columns x5_count y6_namesOn y7_land y8_riverOf y9_home) H) (hD : va_D A (w_X7_survey g a0 a1 a2 a3 a4 a5 a6 a7 a8 a9 u0_2 u0_3 u3_2 u3_4 u4_2 u4_5 u5_1 u5_3 u5_4 u5_5 y1_costs_3 y2_sums_1 x4_rows x4_columns x5_count y6_namesOn y7_land y8_riverOf y9_home)) hS => ?_)
          refine lv_aload_n (pc := 57) hexec hb dX7_survey_57 rfl (lv_at hl 0 rfl) ?_
          refine kg_get (pc := 58) hexec hb (own := RX7) hWX7 hown hG hP 0 rfl rfl 1 (nle rfl) (hts _ (List.mem_cons_of_mem _ (List.mem_append_left _ (List.mem_append_left _ (List.mem_append_left _ (List.mem_append_left _ (List.mem_append_left _ (List.mem_of_getElem? (i := 5) rfl)))))))) rfl rfl dX7_survey_58 ?_
          refine lv_iload_n (pc := 61) hexec hb dX7_survey_61 rfl (lv_at hl 3 rfl) ?_
          refine lv_iload (pc := 62) hexec hb dX7_survey_62 (lv_at hl 4 rfl) ?_
          obtain ⟨j88, ej88, hf⟩ := bvf1 hf
          have hj88 : ∀ (t88 : Int32) (H : Heap) (locs : List Loc) (ls : Array Slot), j88 t88 = some q16 → va_P g.1 vwCl (w_X7_survey g a0 a1 a2 a3 a4 a5 a6 a7 a8 a9 u0_2 u0_3 u3_2 u3_4 u4_2 u4_5 u5_1 u5_3 u5_4 u5_5 y1_costs_3 y2_sums_1 x4_rows x4_columns x5_count y6_namesOn y7_land y8_riverOf y9_home) H → va_D A (w_X7_survey g a0 a1 a2 a3 a4 a5 a6 a7 a8 a9 u0_2 u0_3 u3_2 u3_4 u4_2 u4_5 u5_1 u5_3 u5_4 u5_5 y1_costs_3 y2_sums_1 x4_rows x4_columns x5_count y6_namesOn y7_land y8_riverOf y9_home) → va_S A s.heap H locs → lv_has ls 5 [(0, .ref a0), (1, .ref a3), (2, .int v2), (3, .int v3)] → W p l e (RM 3 76) s m args below meth c H locs 0 0 Q (F0 m 88 ls [.int t88, .int v3, .ref a2]) := by
            intro t88 H locs ls hf hP hD hS hl
            have hf := (ej88 t88).symm.trans hf
            refine kw_iast (pc := 88) hexec hb hG hP hD hS 2 rfl hf dX7_survey_88 (fun y2_sums_3 H locs hf (hP : va_P g.1 vwCl (w_X7_survey g a0 a1 a2 a3 a4 a5 a6 a7 a8 a9 u0_2 u0_3 u3_2 u3_4 u4_2 u4_5 u5_1 u5_3 u5_4 u5_5 y1_costs_3 y2_sums_3 x4_rows x4_columns x5_count y6_namesOn y7_land y8_riverOf y9_home) H) (hD : va_D A (w_X7_survey g a0 a1 a2 a3 a4 a5 a6 a7 a8 a9 u0_2 u0_3 u3_2 u3_4 u4_2 u4_5 u5_1 u5_3 u5_4 u5_5 y1_costs_3 y2_sums_3 x4_rows x4_columns x5_count y6_namesOn y7_land y8_riverOf y9_home)) hS => ?_)
            obtain ⟨v3_1, ev3_1, hf⟩ := bv_e hf
            refine k_iinc (pc := 89) hexec hb dX7_survey_89 kq_1 hl (k := 3) rfl ev3_1 (nle rfl) rfl (fun ls (hl : lv_has ls 5 [(3, .int v3_1), (0, .ref a0), (1, .ref a3), (2, .int v2)]) => ?_)
            refine lv_goto (pc := 92) hexec hb dX7_survey_92 (tgt := 16) rfl ?_
            exact ih16 _ _ _ _ _ _ (sl3 hf hk16) hP hD hS (lv_sub hl [1, 2, 3, 0] rfl)
          obtain ⟨j87, ej87, hf⟩ := bvf1 hf
          have hj87 : ∀ (u : Unit) (H : Heap) (locs : List Loc) (ls : Array Slot), j87 u = some q16 → va_P g.1 vwCl (w_X7_survey g a0 a1 a2 a3 a4 a5 a6 a7 a8 a9 u0_2 u0_3 u3_2 u3_4 u4_2 u4_5 u5_1 u5_3 u5_4 u5_5 y1_costs_3 y2_sums_1 x4_rows x4_columns x5_count y6_namesOn y7_land y8_riverOf y9_home) H → va_D A (w_X7_survey g a0 a1 a2 a3 a4 a5 a6 a7 a8 a9 u0_2 u0_3 u3_2 u3_4 u4_2 u4_5 u5_1 u5_3 u5_4 u5_5 y1_costs_3 y2_sums_1 x4_rows x4_columns x5_count y6_namesOn y7_land y8_riverOf y9_home) → va_S A s.heap H locs → lv_has ls 5 [(0, .ref a0), (1, .ref a3), (2, .int v2), (3, .int v3)] → W p l e (RM 3 76) s m args below meth c H locs 0 0 Q (F0 m 87 ls [.int v3, .ref a2]) := by
            intro u H locs ls hf hP hD hS hl
            have hf := (ej87 u).symm.trans hf
            refine lv_iconst (pc := 87) hexec hb dX7_survey_87 ki_m1 ?_
            exact hj88 _ _ _ _ hf hP hD hS (lv_sub hl [0, 1, 2, 3] rfl)
          refine kb_eq (pc := 64) hexec hb dX7_survey_64 (tgt := 87) rfl hf (fun hc hf => ?_) (fun hc hf => ?_)
          · exact hj87 _ _ _ _ hf hP hD hS (lv_sub hl [0, 1, 2, 3] rfl)
          · refine lv_aload_n (pc := 67) hexec hb dX7_survey_67 rfl (lv_at hl 1 rfl) ?_
            refine kg_getN (pc := 68) hexec hb (own := RX7) hWX6 hown hG hP 3 rfl rfl 0 (nle rfl) 20 rfl rfl rfl dX7_survey_68 ?_
            refine lv_iload_n (pc := 71) hexec hb dX7_survey_71 rfl (lv_at hl 3 rfl) ?_
            obtain ⟨r72, hc, hf⟩ := bd1_e hf
            refine kVp (pc := 72) (S := ⟨hexec, hb, hml, hown, hts⟩) hP hD hG hA hS [4, 7, 8] [0, 1, 2, 3, 5, 6, 9] [0, 1, 2, 3, 7, 4, 5, 8, 9, 6] (w2 := (w_X7_survey g a0 a1 a2 a3 a4 a5 a6 a7 a8 a9 u0_2 u0_3 u3_2 u3_4 u4_2 u4_5 u5_1 u5_3 u5_4 u5_5 y1_costs_3 y2_sums_1 x4_rows x4_columns x5_count y6_namesOn y7_land y8_riverOf y9_home)) rfl rfl rfl rfl rfl rfl (by decide) (c_X1_endsRiver l g a4 a7 a8 _ u4_2 u4_5 x4_rows x4_columns y7_land y8_riverOf v3 r72 hc) gX7_survey_X1_endsRiver rfl hv_X1_endsRiver ⟨nle rfl, nle rfl⟩ 1 0 rfl rfl rfl (rest := [.int v3, .ref a2]) rfl rfl hl.1 (nle rfl) dX7_survey_72 (fun H locs hP hD hS => ?_)
            refine kb_eq (pc := 75) hexec hb dX7_survey_75 (tgt := 87) rfl hf (fun hc hf => ?_) (fun hc hf => ?_)
            · exact hj87 _ _ _ _ hf hP hD hS (lv_sub hl [0, 1, 2, 3] rfl)
            · refine lv_aload_n (pc := 78) hexec hb dX7_survey_78 rfl (lv_at hl 0 rfl) ?_
              refine kg_get (pc := 79) hexec hb (own := RX7) hWX7 hown hG hP 0 rfl rfl 0 (nle rfl) (hts _ (List.mem_cons_of_mem _ (List.mem_append_left _ (List.mem_append_left _ (List.mem_append_left _ (List.mem_append_left _ (List.mem_append_left _ (List.mem_of_getElem? (i := 4) rfl)))))))) rfl rfl dX7_survey_79 ?_
              refine lv_iload_n (pc := 82) hexec hb dX7_survey_82 rfl (lv_at hl 3 rfl) ?_
              refine kr_iald (pc := 83) hexec hb hG hP 1 rfl hf dX7_survey_83 (fun hf => ?_)
              refine lv_goto (pc := 84) hexec hb dX7_survey_84 (tgt := 88) rfl ?_
              exact hj88 _ _ _ _ hf hP hD hS (lv_sub hl [0, 1, 2, 3] rfl)
        refine kb_ne (pc := 35) hexec hb dX7_survey_35 (tgt := 42) rfl hf (fun hc hf => ?_) (fun hc hf => ?_)
        · refine lv_aload_n (pc := 42) hexec hb dX7_survey_42 rfl (lv_at hl 2 rfl) ?_
          refine lv_iload_n (pc := 43) hexec hb dX7_survey_43 rfl (lv_at hl 4 rfl) ?_
          obtain ⟨r44, hc, hf⟩ := bd1_e hf
          refine kVp (pc := 44) (S := ⟨hexec, hb, hml, hown, hts⟩) hP hD hG hA hS [3, 6] [0, 1, 2, 4, 5, 7, 8, 9] [0, 1, 2, 8, 3, 4, 9, 5, 6, 7] (w2 := (w_X7_survey g a0 a1 a2 a3 a4 a5 a6 a7 a8 a9 u0_2 u0_3 u3_2 u3_4 u4_2 u4_5 u5_1 u5_3 u5_4 u5_5 y1_costs_1 y2_sums_1 x4_rows x4_columns x5_count y6_namesOn y7_land y8_riverOf y9_home)) rfl rfl rfl rfl rfl rfl (by decide) (c_X6_namesIn l g a3 a6 _ (.ref a4) (.ref a5) u3_2 u3_4 y6_namesOn v3 r44 hc) gX7_survey_X6_namesIn rfl hv_X6_namesIn ⟨nle rfl, nle rfl⟩ 6 0 rfl rfl rfl (rest := [.int v3, .ref a1]) rfl rfl hl.1 (nle rfl) dX7_survey_44 (fun H locs hP hD hS => ?_)
          refine kb_eq (pc := 47) hexec hb dX7_survey_47 (tgt := 55) rfl hf (fun hc hf => ?_) (fun hc hf => ?_)
          · refine lv_iconst (pc := 55) hexec hb dX7_survey_55 ki_1 ?_
            exact hj56 _ _ _ _ hf hP hD hS (lv_sub hl [1, 2, 3, 4, 0] rfl)
          · refine lv_bipush (pc := 50) hexec hb dX7_survey_50 kb_11 ?_
            refine lv_goto (pc := 52) hexec hb dX7_survey_52 (tgt := 56) rfl ?_
            exact hj56 _ _ _ _ hf hP hD hS (lv_sub hl [1, 2, 3, 4, 0] rfl)
        · refine lv_iconst (pc := 38) hexec hb dX7_survey_38 ki_0 ?_
          refine lv_goto (pc := 39) hexec hb dX7_survey_39 (tgt := 56) rfl ?_
          exact hj56 _ _ _ _ hf hP hD hS (lv_sub hl [1, 2, 3, 4, 0] rfl)
  exact hL16 n _ _ _ _ _ _ hz hP hD hS (lv_sub hl [2, 3, 1, 0] rfl)
abbrev w_X7_besideWithSum (g : GE) (a0 a1 a2 : Nat) (u0_0 u0_2 u0_3 u2_2 u2_3 u2_4 u2_5 : Value) (y1_sums : Nat → Int32) (x2_rows : Int32) (x2_columns : Int32) : va_W := [(a0, .inr (7, [u0_0, .ref a1, u0_2, u0_3])), (a1, .inl (g.2.1 0, 144, .inl y1_sums)), (a2, .inr (1, [.int x2_rows, .int x2_columns, u2_2, u2_3, u2_4, u2_5]))]
set_option maxRecDepth 20000 in
theorem c_X7_besideWithSum (l : Launch) (g : GE) (a0 a1 a2 : Nat) (sz : Nat) (u0_0 u0_2 u0_3 u2_2 u2_3 u2_4 u2_5 : Value) (y1_sums : Nat → Int32) (x2_rows : Int32) (x2_columns : Int32) (p2 : Int32) (p3 : Int32)  (r : Int32) (hf : f_X7_besideWithSum y1_sums x2_rows x2_columns p2 p3 = some r) : MI l g yX7_besideWithSum wsX7_besideWithSum 2 50 [.ref a0, .ref a2, .int p2, .int p3] (w_X7_besideWithSum g a0 a1 a2 u0_0 u0_2 u0_3 u2_2 u2_3 u2_4 u2_5 y1_sums x2_rows x2_columns) sz (some (.int r)) (w_X7_besideWithSum g a0 a1 a2 u0_0 u0_2 u0_3 u2_2 u2_3 u2_4 u2_5 y1_sums x2_rows x2_columns) := by
  refine MI.start (cc := cX7_besideWithSum) (maxL := 6) (ret := (some .int)) rfl rfl (nle rfl) ?_
  intro p e s m args below meth c A ls Q hQ hexec hb hr hts hown hlocks hml hA hP hD hG hS hl
  unfold f_X7_besideWithSum at hf
  have hWX1 : ∀ w ∈ wsX10, w.before args s = true := fun w h => hts w (List.mem_cons_of_mem _ (List.mem_append_left _ (List.mem_append_right _ h)))
  have hWX7 : ∀ w ∈ wsX70, w.before args s = true := fun w h => hts w (List.mem_cons_of_mem _ (List.mem_append_right _ h))
  have hS : va_S A s.heap s.heap [] := hS
  refine lv_iconst (pc := 0) hexec hb dX7_besideWithSum_0 ki_0 ?_
  refine lv_istore (pc := 1) hexec hb dX7_besideWithSum_1 hl (nle rfl) rfl (fun ls (hl : lv_has ls 6 [(4, .int 0), (0, .ref a0), (1, .ref a2), (2, .int p2), (3, .int p3)]) => ?_)
  obtain ⟨l3, el3, hf⟩ := bvf1 hf
  obtain ⟨n, hz⟩ := lq1_e hf
  have hL3 : ∀ (n : Nat) (v4 : Int32) (H : Heap) (locs : List Loc) (ls : Array Slot), it1 l3 n v4 = some r → va_P g.1 vwCl (w_X7_besideWithSum g a0 a1 a2 u0_0 u0_2 u0_3 u2_2 u2_3 u2_4 u2_5 y1_sums x2_rows x2_columns) H → va_D A (w_X7_besideWithSum g a0 a1 a2 u0_0 u0_2 u0_3 u2_2 u2_3 u2_4 u2_5 y1_sums x2_rows x2_columns) → va_S A s.heap H locs → lv_has ls 6 [(0, .ref a0), (1, .ref a2), (2, .int p2), (3, .int p3), (4, .int v4)] → W p l e (RM 2 50) s m args below meth c H locs 0 0 Q (F0 m 3 ls []) := by
    intro n
    induction n with
    | zero =>
      intro v4 H locs ls hf hP hD hS hl
      exact it1_0 hf
    | succ n3 ih3 =>
      intro v4 H locs ls hf hP hD hS hl
      obtain ⟨q3, hf, hk3⟩ := it1_e hf
      have hf := (el3 v4).symm.trans hf
      refine lv_iload (pc := 3) hexec hb dX7_besideWithSum_3 (lv_at hl 4 rfl) ?_
      refine lv_iconst (pc := 5) hexec hb dX7_besideWithSum_5 ki_4 ?_
      refine ki_ge (pc := 6) hexec hb dX7_besideWithSum_6 (tgt := 38) rfl hf (fun hc hf => ?_) (fun hc hf => ?_)
      · have hf := mk1 hf hk3
        refine lv_iconst (pc := 38) hexec hb dX7_besideWithSum_38 ki_m1 ?_
        cases hf
        exact ke_i hQ hexec hb hr hP hD hS dX7_besideWithSum_39 hlocks
      · refine lv_aload_n (pc := 9) hexec hb dX7_besideWithSum_9 rfl (lv_at hl 1 rfl) ?_
        refine lv_iload_n (pc := 10) hexec hb dX7_besideWithSum_10 rfl (lv_at hl 2 rfl) ?_
        refine lv_iload (pc := 11) hexec hb dX7_besideWithSum_11 (lv_at hl 4 rfl) ?_
        refine lv_iconst (pc := 13) hexec hb dX7_besideWithSum_13 ki_1 ?_
        obtain ⟨r14, hc, hf⟩ := bd1_e hf
        refine kVp (pc := 14) (S := ⟨hexec, hb, hml, hown, hts⟩) hP hD hG hA hS [2] [0, 1] [0, 1, 2] (w2 := (w_X7_besideWithSum g a0 a1 a2 u0_0 u0_2 u0_3 u2_2 u2_3 u2_4 u2_5 y1_sums x2_rows x2_columns)) rfl rfl rfl rfl rfl rfl (by decide) (c_X1_ahead l g a2 _ u2_2 u2_3 u2_4 u2_5 x2_rows x2_columns p2 v4 1 r14 hc) gX7_besideWithSum_X1_ahead rfl hv_X1_ahead ⟨nle rfl, nle rfl⟩ 1 0 rfl rfl rfl (rest := []) rfl rfl hl.1 (nle rfl) dX7_besideWithSum_14 (fun H locs hP hD hS => ?_)
        refine lv_istore (pc := 17) hexec hb dX7_besideWithSum_17 hl (nle rfl) rfl (fun ls (hl : lv_has ls 6 [(5, .int r14), (0, .ref a0), (1, .ref a2), (2, .int p2), (3, .int p3), (4, .int v4)]) => ?_)
        refine lv_aload_n (pc := 19) hexec hb dX7_besideWithSum_19 rfl (lv_at hl 1 rfl) ?_
        refine lv_iload (pc := 20) hexec hb dX7_besideWithSum_20 (lv_at hl 0 rfl) ?_
        obtain ⟨r22, hc, hf⟩ := bd1_e hf
        refine kVp (pc := 22) (S := ⟨hexec, hb, hml, hown, hts⟩) hP hD hG hA hS [0, 1] [2] [1, 2, 0] (w2 := (w_X7_besideWithSum g a0 a1 a2 u0_0 u0_2 u0_3 u2_2 u2_3 u2_4 u2_5 y1_sums x2_rows x2_columns)) rfl rfl rfl rfl rfl rfl (by decide) (c_X7_sumOf l g a0 a1 _ u0_0 u0_2 u0_3 y1_sums r14 r22 hc) gX7_besideWithSum_X7_sumOf rfl hv_X7_sumOf ⟨nle rfl, nle rfl⟩ 7 0 rfl rfl rfl (rest := []) rfl rfl hl.1 (nle rfl) dX7_besideWithSum_22 (fun H locs hP hD hS => ?_)
        refine lv_iload_n (pc := 25) hexec hb dX7_besideWithSum_25 rfl (lv_at hl 4 rfl) ?_
        refine ki_ne (pc := 26) hexec hb dX7_besideWithSum_26 (tgt := 32) rfl hf (fun hc hf => ?_) (fun hc hf => ?_)
        · obtain ⟨v4_1, ev4_1, hf⟩ := bv_e hf
          refine k_iinc (pc := 32) hexec hb dX7_besideWithSum_32 kq_1 hl (k := 5) rfl ev4_1 (nle rfl) rfl (fun ls (hl : lv_has ls 6 [(4, .int v4_1), (5, .int r14), (0, .ref a0), (1, .ref a2), (2, .int p2), (3, .int p3)]) => ?_)
          refine lv_goto (pc := 35) hexec hb dX7_besideWithSum_35 (tgt := 3) rfl ?_
          exact ih3 _ _ _ _ (sl1 hf hk3) hP hD hS (lv_sub hl [2, 3, 4, 5, 0] rfl)
        · have hf := mk1 hf hk3
          refine lv_iload (pc := 29) hexec hb dX7_besideWithSum_29 (lv_at hl 0 rfl) ?_
          cases hf
          exact ke_i hQ hexec hb hr hP hD hS dX7_besideWithSum_31 hlocks
  exact hL3 n _ _ _ _ hz hP hD hS (lv_sub hl [1, 2, 3, 4, 0] rfl)
abbrev w_X7_trace (g : GE) (a0 a1 a2 a3 a4 : Nat) (u4_2 u4_3 u4_4 u4_5 : Value) (x0_length : Int32) (y1_costs : Nat → Int32) (y2_sums : Nat → Int32) (y3_way : Nat → Int32) (x4_rows : Int32) (x4_columns : Int32) : va_W := [(a0, .inr (7, [.ref a1, .ref a2, .ref a3, .int x0_length])), (a1, .inl (g.2.1 0, 144, .inl y1_costs)), (a2, .inl (g.2.1 0, 144, .inl y2_sums)), (a3, .inl (g.2.1 0, 144, .inl y3_way)), (a4, .inr (1, [.int x4_rows, .int x4_columns, u4_2, u4_3, u4_4, u4_5]))]
set_option maxRecDepth 20000 in
theorem c_X7_trace (l : Launch) (g : GE) (a0 a1 a2 a3 a4 : Nat) (sz : Nat) (u4_2 u4_3 u4_4 u4_5 : Value) (x0_length : Int32) (y1_costs : Nat → Int32) (y2_sums : Nat → Int32) (y3_way : Nat → Int32) (x4_rows : Int32) (x4_columns : Int32) (p2 : Int32)  (r : Int32) (o_x0_length : Int32) (o_y3_way : Nat → Int32) (hf : f_X7_trace x0_length y1_costs y2_sums y3_way x4_rows x4_columns p2 = some (r, o_x0_length, o_y3_way)) : MI l g yX7_trace wsX7_trace 3 75 [.ref a0, .ref a4, .int p2] (w_X7_trace g a0 a1 a2 a3 a4 u4_2 u4_3 u4_4 u4_5 x0_length y1_costs y2_sums y3_way x4_rows x4_columns) sz (some (.int r)) (w_X7_trace g a0 a1 a2 a3 a4 u4_2 u4_3 u4_4 u4_5 o_x0_length y1_costs y2_sums o_y3_way x4_rows x4_columns) := by
  refine MI.start (cc := cX7_trace) (maxL := 6) (ret := (some .int)) rfl rfl (nle rfl) ?_
  intro p e s m args below meth c A ls Q hQ hexec hb hr hts hown hlocks hml hA hP hD hG hS hl
  unfold f_X7_trace at hf
  have hWX1 : ∀ w ∈ wsX10, w.before args s = true := fun w h => hts w (List.mem_cons_of_mem _ (List.mem_append_right _ h))
  have hWX7 : ∀ w ∈ wsX70, w.before args s = true := fun w h => hts w (List.mem_cons_of_mem _ (List.mem_append_left _ (List.mem_append_right _ h)))
  have hS : va_S A s.heap s.heap [] := hS
  refine lv_aload_n (pc := 0) hexec hb dX7_trace_0 rfl (lv_at hl 0 rfl) ?_
  refine lv_iconst (pc := 1) hexec hb dX7_trace_1 ki_0 ?_
  refine kp_put (pc := 2) hexec hb (own := RX7) hWX7 tyX7 tyX7_ok nmX7 hown hG hP hD hS 0 rfl rfl 3 (nle rfl) (hts _ (List.mem_cons_of_mem _ (List.mem_append_left _ (List.mem_append_left _ (List.mem_of_getElem? (i := 0) rfl))))) rfl rfl rfl rfl (nle rfl) dX7_trace_2 (fun H locs (hP : va_P g.1 vwCl (w_X7_trace g a0 a1 a2 a3 a4 u4_2 u4_3 u4_4 u4_5 0 y1_costs y2_sums y3_way x4_rows x4_columns) H) (hD : va_D A (w_X7_trace g a0 a1 a2 a3 a4 u4_2 u4_3 u4_4 u4_5 0 y1_costs y2_sums y3_way x4_rows x4_columns)) hS => ?_)
  refine lv_iload_n (pc := 5) hexec hb dX7_trace_5 rfl (lv_at hl 2 rfl) ?_
  refine lv_istore_n (pc := 6) hexec hb dX7_trace_6 rfl hl (nle rfl) rfl (fun ls (hl : lv_has ls 6 [(3, .int p2), (0, .ref a0), (1, .ref a4), (2, .int p2)]) => ?_)
  refine lv_iconst (pc := 7) hexec hb dX7_trace_7 ki_0 ?_
  refine lv_istore (pc := 8) hexec hb dX7_trace_8 hl (nle rfl) rfl (fun ls (hl : lv_has ls 6 [(4, .int 0), (3, .int p2), (0, .ref a0), (1, .ref a4), (2, .int p2)]) => ?_)
  obtain ⟨l10, el10, hf⟩ := bvf3 hf
  obtain ⟨n, hz⟩ := lq3_e hf
  have hL10 : ∀ (n : Nat) (v3 : Int32) (v4 : Int32) (y3_way_1 : Nat → Int32) (H : Heap) (locs : List Loc) (ls : Array Slot), it3 l10 n v3 v4 y3_way_1 = some (r, o_x0_length, o_y3_way) → va_P g.1 vwCl (w_X7_trace g a0 a1 a2 a3 a4 u4_2 u4_3 u4_4 u4_5 0 y1_costs y2_sums y3_way_1 x4_rows x4_columns) H → va_D A (w_X7_trace g a0 a1 a2 a3 a4 u4_2 u4_3 u4_4 u4_5 0 y1_costs y2_sums y3_way_1 x4_rows x4_columns) → va_S A s.heap H locs → lv_has ls 6 [(0, .ref a0), (1, .ref a4), (3, .int v3), (4, .int v4)] → W p l e (RM 3 75) s m args below meth c H locs 0 0 Q (F0 m 10 ls []) := by
    intro n
    induction n with
    | zero =>
      intro v3 v4 y3_way_1 H locs ls hf hP hD hS hl
      exact it3_0 hf
    | succ n10 ih10 =>
      intro v3 v4 y3_way_1 H locs ls hf hP hD hS hl
      obtain ⟨q10, hf, hk10⟩ := it3_e hf
      have hf := (el10 v3 v4 y3_way_1).symm.trans hf
      refine lv_iload (pc := 10) hexec hb dX7_trace_10 (lv_at hl 3 rfl) ?_
      refine lv_sipush (pc := 12) hexec hb dX7_trace_12 ks_144 ?_
      refine ki_ge (pc := 15) hexec hb dX7_trace_15 (tgt := 83) rfl hf (fun hc hf => ?_) (fun hc hf => ?_)
      · have hf := mk3 hf hk10
        refine lv_iconst (pc := 83) hexec hb dX7_trace_83 ki_0 ?_
        cases hf
        exact ke_i hQ hexec hb hr hP hD hS dX7_trace_84 hlocks
      · refine lv_aload_n (pc := 18) hexec hb dX7_trace_18 rfl (lv_at hl 0 rfl) ?_
        refine lv_iload_n (pc := 19) hexec hb dX7_trace_19 rfl (lv_at hl 2 rfl) ?_
        obtain ⟨r20, hc, hf⟩ := bd1_e hf
        refine kVp (pc := 20) (S := ⟨hexec, hb, hml, hown, hts⟩) hP hD hG hA hS [0, 2] [1, 3, 4] [3, 0, 4, 1, 2] (w2 := (w_X7_trace g a0 a1 a2 a3 a4 u4_2 u4_3 u4_4 u4_5 0 y1_costs y2_sums y3_way_1 x4_rows x4_columns)) rfl rfl rfl rfl rfl rfl (by decide) (c_X7_sumOf l g a0 a2 _ (.ref a1) (.ref a3) (.int 0) y2_sums v3 r20 hc) gX7_trace_X7_sumOf rfl hv_X7_sumOf ⟨nle rfl, nle rfl⟩ 7 0 rfl rfl rfl (rest := []) rfl rfl hl.1 (nle rfl) dX7_trace_20 (fun H locs hP hD hS => ?_)
        refine lv_iconst (pc := 23) hexec hb dX7_trace_23 ki_m1 ?_
        refine ki_eq (pc := 24) hexec hb dX7_trace_24 (tgt := 83) rfl hf (fun hc hf => ?_) (fun hc hf => ?_)
        · have hf := mk3 hf hk10
          refine lv_iconst (pc := 83) hexec hb dX7_trace_83 ki_0 ?_
          cases hf
          exact ke_i hQ hexec hb hr hP hD hS dX7_trace_84 hlocks
        · refine lv_aload_n (pc := 27) hexec hb dX7_trace_27 rfl (lv_at hl 0 rfl) ?_
          refine kg_get (pc := 28) hexec hb (own := RX7) hWX7 hown hG hP 0 rfl rfl 2 (nle rfl) (hts _ (List.mem_cons_of_mem _ (List.mem_append_left _ (List.mem_append_left _ (List.mem_of_getElem? (i := 1) rfl))))) rfl rfl dX7_trace_28 ?_
          refine lv_iload (pc := 31) hexec hb dX7_trace_31 (lv_at hl 3 rfl) ?_
          refine lv_iload_n (pc := 33) hexec hb dX7_trace_33 rfl (lv_at hl 2 rfl) ?_
          refine kw_iast (pc := 34) hexec hb hG hP hD hS 3 rfl hf dX7_trace_34 (fun y3_way_2 H locs hf (hP : va_P g.1 vwCl (w_X7_trace g a0 a1 a2 a3 a4 u4_2 u4_3 u4_4 u4_5 0 y1_costs y2_sums y3_way_2 x4_rows x4_columns) H) (hD : va_D A (w_X7_trace g a0 a1 a2 a3 a4 u4_2 u4_3 u4_4 u4_5 0 y1_costs y2_sums y3_way_2 x4_rows x4_columns)) hS => ?_)
          refine lv_aload_n (pc := 35) hexec hb dX7_trace_35 rfl (lv_at hl 0 rfl) ?_
          refine kg_get (pc := 36) hexec hb (own := RX7) hWX7 hown hG hP 0 rfl rfl 1 (nle rfl) (hts _ (List.mem_cons_of_mem _ (List.mem_append_left _ (List.mem_append_left _ (List.mem_of_getElem? (i := 2) rfl))))) rfl rfl dX7_trace_36 ?_
          refine lv_iload_n (pc := 39) hexec hb dX7_trace_39 rfl (lv_at hl 2 rfl) ?_
          refine kr_iald (pc := 40) hexec hb hG hP 2 rfl hf dX7_trace_40 (fun hf => ?_)
          refine lv_aload_n (pc := 41) hexec hb dX7_trace_41 rfl (lv_at hl 0 rfl) ?_
          refine kg_get (pc := 42) hexec hb (own := RX7) hWX7 hown hG hP 0 rfl rfl 0 (nle rfl) (hts _ (List.mem_cons_of_mem _ (List.mem_append_left _ (List.mem_append_left _ (List.mem_of_getElem? (i := 3) rfl))))) rfl rfl dX7_trace_42 ?_
          refine lv_iload_n (pc := 45) hexec hb dX7_trace_45 rfl (lv_at hl 2 rfl) ?_
          refine kr_iald (pc := 46) hexec hb hG hP 1 rfl hf dX7_trace_46 (fun hf => ?_)
          refine lv_isub (pc := 47) hexec hb dX7_trace_47 ?_
          obtain ⟨v5, ev5, hf⟩ := bv_e hf
          refine kn_i ev5 ?_
          refine lv_istore (pc := 48) hexec hb dX7_trace_48 hl (nle rfl) rfl (fun ls (hl : lv_has ls 6 [(5, .int v5), (0, .ref a0), (1, .ref a4), (3, .int v3), (4, .int v4)]) => ?_)
          refine lv_iload (pc := 50) hexec hb dX7_trace_50 (lv_at hl 0 rfl) ?_
          refine kb_ne (pc := 52) hexec hb dX7_trace_52 (tgt := 68) rfl hf (fun hc hf => ?_) (fun hc hf => ?_)
          · refine lv_aload_n (pc := 68) hexec hb dX7_trace_68 rfl (lv_at hl 1 rfl) ?_
            refine lv_aload_n (pc := 69) hexec hb dX7_trace_69 rfl (lv_at hl 2 rfl) ?_
            refine lv_iload_n (pc := 70) hexec hb dX7_trace_70 rfl (lv_at hl 3 rfl) ?_
            refine lv_iload (pc := 71) hexec hb dX7_trace_71 (lv_at hl 0 rfl) ?_
            obtain ⟨r73, hc, hf⟩ := bd1_e hf
            refine kVp (pc := 73) (S := ⟨hexec, hb, hml, hown, hts⟩) hP hD hG hA hS [0, 2, 4] [1, 3] [2, 0, 3, 1, 4] (w2 := (w_X7_trace g a0 a1 a2 a3 a4 u4_2 u4_3 u4_4 u4_5 0 y1_costs y2_sums y3_way_2 x4_rows x4_columns)) rfl rfl rfl rfl rfl rfl (by decide) (c_X7_besideWithSum l g a0 a2 a4 _ (.ref a1) (.ref a3) (.int 0) u4_2 u4_3 u4_4 u4_5 y2_sums x4_rows x4_columns v3 v5 r73 hc) gX7_trace_X7_besideWithSum rfl hv_X7_besideWithSum ⟨nle rfl, nle rfl⟩ 7 0 rfl rfl rfl (rest := []) rfl rfl hl.1 (nle rfl) dX7_trace_73 (fun H locs hP hD hS => ?_)
            refine lv_istore_n (pc := 76) hexec hb dX7_trace_76 rfl hl (nle rfl) rfl (fun ls (hl : lv_has ls 6 [(3, .int r73), (5, .int v5), (0, .ref a0), (1, .ref a4), (4, .int v4)]) => ?_)
            obtain ⟨v4_1, ev4_1, hf⟩ := bv_e hf
            refine k_iinc (pc := 77) hexec hb dX7_trace_77 kq_1 hl (k := 4) rfl ev4_1 (nle rfl) rfl (fun ls (hl : lv_has ls 6 [(4, .int v4_1), (3, .int r73), (5, .int v5), (0, .ref a0), (1, .ref a4)]) => ?_)
            refine lv_goto (pc := 80) hexec hb dX7_trace_80 (tgt := 10) rfl ?_
            exact ih10 _ _ _ _ _ _ (sl3 hf hk10) hP hD hS (lv_sub hl [3, 4, 1, 0] rfl)
          · have hf := mk3 hf hk10
            refine lv_aload_n (pc := 55) hexec hb dX7_trace_55 rfl (lv_at hl 1 rfl) ?_
            refine lv_iload (pc := 56) hexec hb dX7_trace_56 (lv_at hl 4 rfl) ?_
            refine lv_iconst (pc := 58) hexec hb dX7_trace_58 ki_1 ?_
            refine lv_iadd (pc := 59) hexec hb dX7_trace_59 ?_
            obtain ⟨x0_length_1, ex0_length_1, hf⟩ := bv_e hf
            refine kn_i ex0_length_1 ?_
            refine kp_put (pc := 60) hexec hb (own := RX7) hWX7 tyX7 tyX7_ok nmX7 hown hG hP hD hS 0 rfl rfl 3 (nle rfl) (hts _ (List.mem_cons_of_mem _ (List.mem_append_left _ (List.mem_append_left _ (List.mem_of_getElem? (i := 0) rfl))))) rfl rfl rfl rfl (nle rfl) dX7_trace_60 (fun H locs (hP : va_P g.1 vwCl (w_X7_trace g a0 a1 a2 a3 a4 u4_2 u4_3 u4_4 u4_5 x0_length_1 y1_costs y2_sums y3_way_2 x4_rows x4_columns) H) (hD : va_D A (w_X7_trace g a0 a1 a2 a3 a4 u4_2 u4_3 u4_4 u4_5 x0_length_1 y1_costs y2_sums y3_way_2 x4_rows x4_columns)) hS => ?_)
            refine lv_aload_n (pc := 63) hexec hb dX7_trace_63 rfl (lv_at hl 1 rfl) ?_
            refine kg_get (pc := 64) hexec hb (own := RX7) hWX7 hown hG hP 0 rfl rfl 3 (nle rfl) (hts _ (List.mem_cons_of_mem _ (List.mem_append_left _ (List.mem_append_left _ (List.mem_of_getElem? (i := 0) rfl))))) rfl rfl dX7_trace_64 ?_
            cases hf
            exact ke_i hQ hexec hb hr hP hD hS dX7_trace_67 hlocks
  exact hL10 n _ _ _ _ _ _ hz hP hD hS (lv_sub hl [2, 3, 1, 0] rfl)
abbrev w_X7_wayAt (g : GE) (a0 a1 : Nat) (u0_0 u0_1 : Value) (x0_length : Int32) (y1_way : Nat → Int32) : va_W := [(a0, .inr (7, [u0_0, u0_1, .ref a1, .int x0_length])), (a1, .inl (g.2.1 0, 144, .inl y1_way))]
set_option maxRecDepth 20000 in
theorem c_X7_wayAt (l : Launch) (g : GE) (a0 a1 : Nat) (sz : Nat) (u0_0 u0_1 : Value) (x0_length : Int32) (y1_way : Nat → Int32) (p1 : Int32)  (r : Int32) (hf : f_X7_wayAt x0_length y1_way p1 = some r) : MI l g yX7_wayAt wsX7_wayAt 1 24 [.ref a0, .int p1] (w_X7_wayAt g a0 a1 u0_0 u0_1 x0_length y1_way) sz (some (.int r)) (w_X7_wayAt g a0 a1 u0_0 u0_1 x0_length y1_way) := by
  refine MI.start (cc := cX7_wayAt) (maxL := 2) (ret := (some .int)) rfl rfl (nle rfl) ?_
  intro p e s m args below meth c A ls Q hQ hexec hb hr hts hown hlocks hml hA hP hD hG hS hl
  unfold f_X7_wayAt at hf
  have hWX7 : ∀ w ∈ wsX70, w.before args s = true := fun w h => hts w (List.mem_cons_of_mem _ (List.mem_append_right _ h))
  have hS : va_S A s.heap s.heap [] := hS
  refine lv_iload_n (pc := 0) hexec hb dX7_wayAt_0 rfl (lv_at hl 1 rfl) ?_
  obtain ⟨j28, ej28, hf⟩ := bvf1 hf
  have hj28 : ∀ (u : Unit) (H : Heap) (locs : List Loc) (ls : Array Slot), j28 u = some r → va_P g.1 vwCl (w_X7_wayAt g a0 a1 u0_0 u0_1 x0_length y1_way) H → va_D A (w_X7_wayAt g a0 a1 u0_0 u0_1 x0_length y1_way) → va_S A s.heap H locs → lv_has ls 2 [] → W p l e (RM 1 24) s m args below meth c H locs 0 0 Q (F0 m 28 ls []) := by
    intro u H locs ls hf hP hD hS hl
    have hf := (ej28 u).symm.trans hf
    refine lv_iconst (pc := 28) hexec hb dX7_wayAt_28 ki_m1 ?_
    cases hf
    exact ke_i hQ hexec hb hr hP hD hS dX7_wayAt_29 hlocks
  refine kb_lt (pc := 1) hexec hb dX7_wayAt_1 (tgt := 28) rfl hf (fun hc hf => ?_) (fun hc hf => ?_)
  · exact hj28 _ _ _ _ hf hP hD hS (lv_sub hl [] rfl)
  · refine lv_iload_n (pc := 4) hexec hb dX7_wayAt_4 rfl (lv_at hl 1 rfl) ?_
    refine lv_aload_n (pc := 5) hexec hb dX7_wayAt_5 rfl (lv_at hl 0 rfl) ?_
    refine kg_get (pc := 6) hexec hb (own := RX7) hWX7 hown hG hP 0 rfl rfl 3 (nle rfl) (hts _ (List.mem_cons_of_mem _ (List.mem_append_left _ (List.mem_of_getElem? (i := 0) rfl)))) rfl rfl dX7_wayAt_6 ?_
    refine ki_ge (pc := 9) hexec hb dX7_wayAt_9 (tgt := 28) rfl hf (fun hc hf => ?_) (fun hc hf => ?_)
    · exact hj28 _ _ _ _ hf hP hD hS (lv_sub hl [] rfl)
    · refine lv_iload_n (pc := 12) hexec hb dX7_wayAt_12 rfl (lv_at hl 1 rfl) ?_
      refine lv_sipush (pc := 13) hexec hb dX7_wayAt_13 ks_144 ?_
      refine ki_ge (pc := 16) hexec hb dX7_wayAt_16 (tgt := 28) rfl hf (fun hc hf => ?_) (fun hc hf => ?_)
      · exact hj28 _ _ _ _ hf hP hD hS (lv_sub hl [] rfl)
      · refine lv_aload_n (pc := 19) hexec hb dX7_wayAt_19 rfl (lv_at hl 0 rfl) ?_
        refine kg_get (pc := 20) hexec hb (own := RX7) hWX7 hown hG hP 0 rfl rfl 2 (nle rfl) (hts _ (List.mem_cons_of_mem _ (List.mem_append_left _ (List.mem_of_getElem? (i := 1) rfl)))) rfl rfl dX7_wayAt_20 ?_
        refine lv_iload_n (pc := 23) hexec hb dX7_wayAt_23 rfl (lv_at hl 1 rfl) ?_
        refine kr_iald (pc := 24) hexec hb hG hP 1 rfl hf dX7_wayAt_24 (fun hf => ?_)
        refine lv_goto (pc := 25) hexec hb dX7_wayAt_25 (tgt := 29) rfl ?_
        cases hf
        exact ke_i hQ hexec hb hr hP hD hS dX7_wayAt_29 hlocks
abbrev w_X7_namesOnWay (g : GE) (a0 a1 a2 a3 : Nat) (u0_0 u0_1 u2_0 u2_1 u2_2 u2_4 : Value) (x0_length : Int32) (y1_way : Nat → Int32) (y3_namesOn : Nat → Int32) : va_W := [(a0, .inr (7, [u0_0, u0_1, .ref a1, .int x0_length])), (a1, .inl (g.2.1 0, 144, .inl y1_way)), (a2, .inr (6, [u2_0, u2_1, u2_2, .ref a3, u2_4])), (a3, .inl (g.2.1 0, 144, .inl y3_namesOn))]
set_option maxRecDepth 20000 in
theorem c_X7_namesOnWay (l : Launch) (g : GE) (a0 a1 a2 a3 : Nat) (sz : Nat) (u0_0 u0_1 u2_0 u2_1 u2_2 u2_4 : Value) (x0_length : Int32) (y1_way : Nat → Int32) (y3_namesOn : Nat → Int32)   (r : Int32) (hf : f_X7_namesOnWay x0_length y1_way y3_namesOn = some r) : MI l g yX7_namesOnWay wsX7_namesOnWay 2 45 [.ref a0, .ref a2] (w_X7_namesOnWay g a0 a1 a2 a3 u0_0 u0_1 u2_0 u2_1 u2_2 u2_4 x0_length y1_way y3_namesOn) sz (some (.int r)) (w_X7_namesOnWay g a0 a1 a2 a3 u0_0 u0_1 u2_0 u2_1 u2_2 u2_4 x0_length y1_way y3_namesOn) := by
  refine MI.start (cc := cX7_namesOnWay) (maxL := 4) (ret := (some .int)) rfl rfl (nle rfl) ?_
  intro p e s m args below meth c A ls Q hQ hexec hb hr hts hown hlocks hml hA hP hD hG hS hl
  unfold f_X7_namesOnWay at hf
  have hWX6 : ∀ w ∈ wsX60, w.before args s = true := fun w h => hts w (List.mem_cons_of_mem _ (List.mem_append_right _ h))
  have hWX7 : ∀ w ∈ wsX70, w.before args s = true := fun w h => hts w (List.mem_cons_of_mem _ (List.mem_append_left _ (List.mem_append_right _ h)))
  have hS : va_S A s.heap s.heap [] := hS
  refine lv_iconst (pc := 0) hexec hb dX7_namesOnWay_0 ki_0 ?_
  refine lv_istore_n (pc := 1) hexec hb dX7_namesOnWay_1 rfl hl (nle rfl) rfl (fun ls (hl : lv_has ls 4 [(2, .int 0), (0, .ref a0), (1, .ref a2)]) => ?_)
  refine lv_iconst (pc := 2) hexec hb dX7_namesOnWay_2 ki_0 ?_
  refine lv_istore_n (pc := 3) hexec hb dX7_namesOnWay_3 rfl hl (nle rfl) rfl (fun ls (hl : lv_has ls 4 [(3, .int 0), (2, .int 0), (0, .ref a0), (1, .ref a2)]) => ?_)
  obtain ⟨l4, el4, hf⟩ := bvf2 hf
  obtain ⟨v2_1, hz, hf⟩ := bd1_e hf
  have hE4 : ∀ (H : Heap) (locs : List Loc) (ls : Array Slot), va_P g.1 vwCl (w_X7_namesOnWay g a0 a1 a2 a3 u0_0 u0_1 u2_0 u2_1 u2_2 u2_4 x0_length y1_way y3_namesOn) H → va_D A (w_X7_namesOnWay g a0 a1 a2 a3 u0_0 u0_1 u2_0 u2_1 u2_2 u2_4 x0_length y1_way y3_namesOn) → va_S A s.heap H locs → lv_has ls 4 [(2, .int v2_1)] → W p l e (RM 2 45) s m args below meth c H locs 0 0 Q (F0 m 30 ls []) := by
    intro H locs ls hP hD hS hl
    refine lv_iload_n (pc := 30) hexec hb dX7_namesOnWay_30 rfl (lv_at hl 0 rfl) ?_
    cases hf
    exact ke_i hQ hexec hb hr hP hD hS dX7_namesOnWay_31 hlocks
  obtain ⟨n, hz⟩ := lq2_e hz
  have hL4 : ∀ (n : Nat) (v2 : Int32) (v3 : Int32) (H : Heap) (locs : List Loc) (ls : Array Slot), it2 l4 n v2 v3 = some v2_1 → va_P g.1 vwCl (w_X7_namesOnWay g a0 a1 a2 a3 u0_0 u0_1 u2_0 u2_1 u2_2 u2_4 x0_length y1_way y3_namesOn) H → va_D A (w_X7_namesOnWay g a0 a1 a2 a3 u0_0 u0_1 u2_0 u2_1 u2_2 u2_4 x0_length y1_way y3_namesOn) → va_S A s.heap H locs → lv_has ls 4 [(0, .ref a0), (1, .ref a2), (2, .int v2), (3, .int v3)] → W p l e (RM 2 45) s m args below meth c H locs 0 0 Q (F0 m 4 ls []) := by
    intro n
    induction n with
    | zero =>
      intro v2 v3 H locs ls hf hP hD hS hl
      exact it2_0 hf
    | succ n4 ih4 =>
      intro v2 v3 H locs ls hf hP hD hS hl
      obtain ⟨q4, hf, hk4⟩ := it2_e hf
      have hf := (el4 v2 v3).symm.trans hf
      refine lv_iload_n (pc := 4) hexec hb dX7_namesOnWay_4 rfl (lv_at hl 3 rfl) ?_
      refine lv_aload_n (pc := 5) hexec hb dX7_namesOnWay_5 rfl (lv_at hl 0 rfl) ?_
      refine kg_get (pc := 6) hexec hb (own := RX7) hWX7 hown hG hP 0 rfl rfl 3 (nle rfl) (hts _ (List.mem_cons_of_mem _ (List.mem_append_left _ (List.mem_append_left _ (List.mem_of_getElem? (i := 0) rfl))))) rfl rfl dX7_namesOnWay_6 ?_
      refine ki_ge (pc := 9) hexec hb dX7_namesOnWay_9 (tgt := 30) rfl hf (fun hc hf => ?_) (fun hc hf => ?_)
      · cases sr2 hf hk4
        exact hE4 _ _ _ hP hD hS (lv_sub hl [2] rfl)
      · refine lv_iload_n (pc := 12) hexec hb dX7_namesOnWay_12 rfl (lv_at hl 2 rfl) ?_
        refine lv_aload_n (pc := 13) hexec hb dX7_namesOnWay_13 rfl (lv_at hl 1 rfl) ?_
        refine lv_aload_n (pc := 14) hexec hb dX7_namesOnWay_14 rfl (lv_at hl 0 rfl) ?_
        refine lv_iload_n (pc := 15) hexec hb dX7_namesOnWay_15 rfl (lv_at hl 3 rfl) ?_
        obtain ⟨r16, hc, hf⟩ := bd1_e hf
        refine kVp (pc := 16) (S := ⟨hexec, hb, hml, hown, hts⟩) hP hD hG hA hS [0, 1] [2, 3] [2, 3, 0, 1] (w2 := (w_X7_namesOnWay g a0 a1 a2 a3 u0_0 u0_1 u2_0 u2_1 u2_2 u2_4 x0_length y1_way y3_namesOn)) rfl rfl rfl rfl rfl rfl (by decide) (c_X7_wayAt l g a0 a1 _ u0_0 u0_1 x0_length y1_way v3 r16 hc) gX7_namesOnWay_X7_wayAt rfl hv_X7_wayAt ⟨nle rfl, nle rfl⟩ 7 0 rfl rfl rfl (rest := [.ref a2, .int v2]) rfl rfl hl.1 (nle rfl) dX7_namesOnWay_16 (fun H locs hP hD hS => ?_)
        obtain ⟨r19, hc, hf⟩ := bd1_e hf
        refine kVp (pc := 19) (S := ⟨hexec, hb, hml, hown, hts⟩) hP hD hG hA hS [2, 3] [0, 1] [0, 1, 2, 3] (w2 := (w_X7_namesOnWay g a0 a1 a2 a3 u0_0 u0_1 u2_0 u2_1 u2_2 u2_4 x0_length y1_way y3_namesOn)) rfl rfl rfl rfl rfl rfl (by decide) (c_X6_namesIn l g a2 a3 _ u2_0 u2_1 u2_2 u2_4 y3_namesOn r16 r19 hc) gX7_namesOnWay_X6_namesIn rfl hv_X6_namesIn ⟨nle rfl, nle rfl⟩ 6 0 rfl rfl rfl (rest := [.int v2]) rfl rfl hl.1 (nle rfl) dX7_namesOnWay_19 (fun H locs hP hD hS => ?_)
        refine lv_ior (pc := 22) hexec hb dX7_namesOnWay_22 ?_
        obtain ⟨v2_2, ev2_2, hf⟩ := bv_e hf
        refine kn_i ev2_2 ?_
        refine lv_istore_n (pc := 23) hexec hb dX7_namesOnWay_23 rfl hl (nle rfl) rfl (fun ls (hl : lv_has ls 4 [(2, .int v2_2), (0, .ref a0), (1, .ref a2), (3, .int v3)]) => ?_)
        obtain ⟨v3_1, ev3_1, hf⟩ := bv_e hf
        refine k_iinc (pc := 24) hexec hb dX7_namesOnWay_24 kq_1 hl (k := 3) rfl ev3_1 (nle rfl) rfl (fun ls (hl : lv_has ls 4 [(3, .int v3_1), (2, .int v2_2), (0, .ref a0), (1, .ref a2)]) => ?_)
        refine lv_goto (pc := 27) hexec hb dX7_namesOnWay_27 (tgt := 4) rfl ?_
        exact ih4 _ _ _ _ _ (sl2 hf hk4) hP hD hS (lv_sub hl [2, 3, 1, 0] rfl)
  exact hL4 n _ _ _ _ _ hz hP hD hS (lv_sub hl [2, 3, 1, 0] rfl)
