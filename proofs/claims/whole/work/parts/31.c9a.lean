abbrev w_X9_thrown (g : GE) (a0 : Nat) (u0_0 u0_1 u0_2 u0_3 u0_4 u0_5 u0_6 u0_8 u0_9 u0_10 u0_11 u0_12 u0_13 u0_14 u0_15 u0_16 u0_17 u0_18 u0_19 u0_20 u0_21 u0_22 u0_23 u0_24 u0_25 u0_26 u0_27 u0_28 u0_29 u0_30 : Value) (x0_thrown : Int32) : va_W := [(a0, .inr (9, [u0_0, u0_1, u0_2, u0_3, u0_4, u0_5, u0_6, .int x0_thrown, u0_8, u0_9, u0_10, u0_11, u0_12, u0_13, u0_14, u0_15, u0_16, u0_17, u0_18, u0_19, u0_20, u0_21, u0_22, u0_23, u0_24, u0_25, u0_26, u0_27, u0_28, u0_29, u0_30]))]
set_option maxRecDepth 20000 in
theorem c_X9_thrown (l : Launch) (g : GE) (a0 : Nat) (sz : Nat) (u0_0 u0_1 u0_2 u0_3 u0_4 u0_5 u0_6 u0_8 u0_9 u0_10 u0_11 u0_12 u0_13 u0_14 u0_15 u0_16 u0_17 u0_18 u0_19 u0_20 u0_21 u0_22 u0_23 u0_24 u0_25 u0_26 u0_27 u0_28 u0_29 u0_30 : Value) (x0_thrown : Int32)   (r : Int32) (hf : f_X9_thrown x0_thrown = some r) : MI l g yX9_thrown wsX9_thrown 1 24 [.ref a0] (w_X9_thrown g a0 u0_0 u0_1 u0_2 u0_3 u0_4 u0_5 u0_6 u0_8 u0_9 u0_10 u0_11 u0_12 u0_13 u0_14 u0_15 u0_16 u0_17 u0_18 u0_19 u0_20 u0_21 u0_22 u0_23 u0_24 u0_25 u0_26 u0_27 u0_28 u0_29 u0_30 x0_thrown) sz (some (.int r)) (w_X9_thrown g a0 u0_0 u0_1 u0_2 u0_3 u0_4 u0_5 u0_6 u0_8 u0_9 u0_10 u0_11 u0_12 u0_13 u0_14 u0_15 u0_16 u0_17 u0_18 u0_19 u0_20 u0_21 u0_22 u0_23 u0_24 u0_25 u0_26 u0_27 u0_28 u0_29 u0_30 x0_thrown) := by
  refine MI.start (cc := cX9_thrown) (maxL := 1) (ret := (some .int)) rfl rfl (nle rfl) ?_
  intro p e s m args below meth c A ls Q hQ hexec hb hr hts hown hlocks hml hA hP hD hG hS hl
  unfold f_X9_thrown at hf
  have hWX9 : ∀ w ∈ wsX90, w.before args s = true := fun w h => hts w (List.mem_cons_of_mem _ (List.mem_append_right _ h))
  have hS : va_S A s.heap s.heap [] := hS
  refine lv_aload_n (pc := 0) hexec hb dX9_thrown_0 rfl (lv_at hl 0 rfl) ?_
  refine kg_get (pc := 1) hexec hb (own := RX9) hWX9 hown hG hP 0 rfl rfl 7 (nle rfl) (hts _ (List.mem_cons_of_mem _ (List.mem_append_left _ (List.mem_of_getElem? (i := 0) rfl)))) rfl rfl dX9_thrown_1 ?_
  cases hf
  exact ke_i hQ hexec hb hr hP hD hS dX9_thrown_4 hlocks
abbrev w_X9_begins (g : GE) (a0 a1 : Nat) (u0_1 u0_2 u0_3 u0_4 u0_5 u0_6 u0_7 u0_8 u0_9 u0_10 u0_11 u0_12 u0_13 u0_14 u0_15 u0_16 u0_17 u0_18 u0_19 u0_20 u0_21 u0_22 u0_23 u0_24 u0_25 u0_26 u0_27 u0_28 u0_29 u0_30 : Value) (y1_s : Nat → Int32) : va_W := [(a0, .inr (9, [.ref a1, u0_1, u0_2, u0_3, u0_4, u0_5, u0_6, u0_7, u0_8, u0_9, u0_10, u0_11, u0_12, u0_13, u0_14, u0_15, u0_16, u0_17, u0_18, u0_19, u0_20, u0_21, u0_22, u0_23, u0_24, u0_25, u0_26, u0_27, u0_28, u0_29, u0_30])), (a1, .inl (g.2.1 0, 552, .inl y1_s))]
set_option maxRecDepth 20000 in
theorem c_X9_begins (l : Launch) (g : GE) (a0 a1 : Nat) (sz : Nat) (u0_1 u0_2 u0_3 u0_4 u0_5 u0_6 u0_7 u0_8 u0_9 u0_10 u0_11 u0_12 u0_13 u0_14 u0_15 u0_16 u0_17 u0_18 u0_19 u0_20 u0_21 u0_22 u0_23 u0_24 u0_25 u0_26 u0_27 u0_28 u0_29 u0_30 : Value) (y1_s : Nat → Int32) (p1 : Int32) (p2 : Int32)  (o_y1_s : Nat → Int32) (hf : f_X9_begins y1_s p1 p2 = some o_y1_s) : MI l g yX9_begins wsX9_begins 1 24 [.ref a0, .int p1, .int p2] (w_X9_begins g a0 a1 u0_1 u0_2 u0_3 u0_4 u0_5 u0_6 u0_7 u0_8 u0_9 u0_10 u0_11 u0_12 u0_13 u0_14 u0_15 u0_16 u0_17 u0_18 u0_19 u0_20 u0_21 u0_22 u0_23 u0_24 u0_25 u0_26 u0_27 u0_28 u0_29 u0_30 y1_s) sz none (w_X9_begins g a0 a1 u0_1 u0_2 u0_3 u0_4 u0_5 u0_6 u0_7 u0_8 u0_9 u0_10 u0_11 u0_12 u0_13 u0_14 u0_15 u0_16 u0_17 u0_18 u0_19 u0_20 u0_21 u0_22 u0_23 u0_24 u0_25 u0_26 u0_27 u0_28 u0_29 u0_30 o_y1_s) := by
  refine MI.start (cc := cX9_begins) (maxL := 4) (ret := none) rfl rfl (nle rfl) ?_
  intro p e s m args below meth c A ls Q hQ hexec hb hr hts hown hlocks hml hA hP hD hG hS hl
  unfold f_X9_begins at hf
  have hWX9 : ∀ w ∈ wsX90, w.before args s = true := fun w h => hts w (List.mem_cons_of_mem _ (List.mem_append_right _ h))
  have hS : va_S A s.heap s.heap [] := hS
  refine lv_iconst (pc := 0) hexec hb dX9_begins_0 ki_0 ?_
  refine lv_istore_n (pc := 1) hexec hb dX9_begins_1 rfl hl (nle rfl) rfl (fun ls (hl : lv_has ls 4 [(3, .int 0), (0, .ref a0), (1, .int p1), (2, .int p2)]) => ?_)
  obtain ⟨l2, el2, hf⟩ := bvf2 hf
  obtain ⟨y1_s_2, hz, hf⟩ := bd1_e hf
  have hE2 : ∀ (H : Heap) (locs : List Loc) (ls : Array Slot), va_P g.1 vwCl (w_X9_begins g a0 a1 u0_1 u0_2 u0_3 u0_4 u0_5 u0_6 u0_7 u0_8 u0_9 u0_10 u0_11 u0_12 u0_13 u0_14 u0_15 u0_16 u0_17 u0_18 u0_19 u0_20 u0_21 u0_22 u0_23 u0_24 u0_25 u0_26 u0_27 u0_28 u0_29 u0_30 y1_s_2) H → va_D A (w_X9_begins g a0 a1 u0_1 u0_2 u0_3 u0_4 u0_5 u0_6 u0_7 u0_8 u0_9 u0_10 u0_11 u0_12 u0_13 u0_14 u0_15 u0_16 u0_17 u0_18 u0_19 u0_20 u0_21 u0_22 u0_23 u0_24 u0_25 u0_26 u0_27 u0_28 u0_29 u0_30 y1_s_2) → va_S A s.heap H locs → lv_has ls 4 [(0, .ref a0), (1, .int p1), (2, .int p2)] → W p l e (RM 1 24) s m args below meth c H locs 0 0 Q (F0 m 22 ls []) := by
    intro H locs ls hP hD hS hl
    refine lv_aload_n (pc := 22) hexec hb dX9_begins_22 rfl (lv_at hl 0 rfl) ?_
    refine kg_get (pc := 23) hexec hb (own := RX9) hWX9 hown hG hP 0 rfl rfl 0 (nle rfl) (hts _ (List.mem_cons_of_mem _ (List.mem_append_left _ (List.mem_of_getElem? (i := 0) rfl)))) rfl rfl dX9_begins_23 ?_
    refine lv_iconst (pc := 26) hexec hb dX9_begins_26 ki_0 ?_
    refine lv_iload_n (pc := 27) hexec hb dX9_begins_27 rfl (lv_at hl 1 rfl) ?_
    refine kw_iast (pc := 28) hexec hb hG hP hD hS 1 rfl hf dX9_begins_28 (fun y1_s_4 H locs hf (hP : va_P g.1 vwCl (w_X9_begins g a0 a1 u0_1 u0_2 u0_3 u0_4 u0_5 u0_6 u0_7 u0_8 u0_9 u0_10 u0_11 u0_12 u0_13 u0_14 u0_15 u0_16 u0_17 u0_18 u0_19 u0_20 u0_21 u0_22 u0_23 u0_24 u0_25 u0_26 u0_27 u0_28 u0_29 u0_30 y1_s_4) H) (hD : va_D A (w_X9_begins g a0 a1 u0_1 u0_2 u0_3 u0_4 u0_5 u0_6 u0_7 u0_8 u0_9 u0_10 u0_11 u0_12 u0_13 u0_14 u0_15 u0_16 u0_17 u0_18 u0_19 u0_20 u0_21 u0_22 u0_23 u0_24 u0_25 u0_26 u0_27 u0_28 u0_29 u0_30 y1_s_4)) hS => ?_)
    refine lv_aload_n (pc := 29) hexec hb dX9_begins_29 rfl (lv_at hl 0 rfl) ?_
    refine kg_get (pc := 30) hexec hb (own := RX9) hWX9 hown hG hP 0 rfl rfl 0 (nle rfl) (hts _ (List.mem_cons_of_mem _ (List.mem_append_left _ (List.mem_of_getElem? (i := 0) rfl)))) rfl rfl dX9_begins_30 ?_
    refine lv_iconst (pc := 33) hexec hb dX9_begins_33 ki_1 ?_
    refine lv_iload_n (pc := 34) hexec hb dX9_begins_34 rfl (lv_at hl 2 rfl) ?_
    refine kw_iast (pc := 35) hexec hb hG hP hD hS 1 rfl hf dX9_begins_35 (fun y1_s_5 H locs hf (hP : va_P g.1 vwCl (w_X9_begins g a0 a1 u0_1 u0_2 u0_3 u0_4 u0_5 u0_6 u0_7 u0_8 u0_9 u0_10 u0_11 u0_12 u0_13 u0_14 u0_15 u0_16 u0_17 u0_18 u0_19 u0_20 u0_21 u0_22 u0_23 u0_24 u0_25 u0_26 u0_27 u0_28 u0_29 u0_30 y1_s_5) H) (hD : va_D A (w_X9_begins g a0 a1 u0_1 u0_2 u0_3 u0_4 u0_5 u0_6 u0_7 u0_8 u0_9 u0_10 u0_11 u0_12 u0_13 u0_14 u0_15 u0_16 u0_17 u0_18 u0_19 u0_20 u0_21 u0_22 u0_23 u0_24 u0_25 u0_26 u0_27 u0_28 u0_29 u0_30 y1_s_5)) hS => ?_)
    cases hf
    exact ke_v hQ hexec hb hr hP hD hS dX9_begins_36 hlocks
  obtain ⟨n, hz⟩ := lq2_e hz
  have hL2 : ∀ (n : Nat) (v3 : Int32) (y1_s_1 : Nat → Int32) (H : Heap) (locs : List Loc) (ls : Array Slot), it2 l2 n v3 y1_s_1 = some y1_s_2 → va_P g.1 vwCl (w_X9_begins g a0 a1 u0_1 u0_2 u0_3 u0_4 u0_5 u0_6 u0_7 u0_8 u0_9 u0_10 u0_11 u0_12 u0_13 u0_14 u0_15 u0_16 u0_17 u0_18 u0_19 u0_20 u0_21 u0_22 u0_23 u0_24 u0_25 u0_26 u0_27 u0_28 u0_29 u0_30 y1_s_1) H → va_D A (w_X9_begins g a0 a1 u0_1 u0_2 u0_3 u0_4 u0_5 u0_6 u0_7 u0_8 u0_9 u0_10 u0_11 u0_12 u0_13 u0_14 u0_15 u0_16 u0_17 u0_18 u0_19 u0_20 u0_21 u0_22 u0_23 u0_24 u0_25 u0_26 u0_27 u0_28 u0_29 u0_30 y1_s_1) → va_S A s.heap H locs → lv_has ls 4 [(0, .ref a0), (1, .int p1), (2, .int p2), (3, .int v3)] → W p l e (RM 1 24) s m args below meth c H locs 0 0 Q (F0 m 2 ls []) := by
    intro n
    induction n with
    | zero =>
      intro v3 y1_s_1 H locs ls hf hP hD hS hl
      exact it2_0 hf
    | succ n2 ih2 =>
      intro v3 y1_s_1 H locs ls hf hP hD hS hl
      obtain ⟨q2, hf, hk2⟩ := it2_e hf
      have hf := (el2 v3 y1_s_1).symm.trans hf
      refine lv_iload_n (pc := 2) hexec hb dX9_begins_2 rfl (lv_at hl 3 rfl) ?_
      refine lv_sipush (pc := 3) hexec hb dX9_begins_3 ks_552 ?_
      refine ki_ge (pc := 6) hexec hb dX9_begins_6 (tgt := 22) rfl hf (fun hc hf => ?_) (fun hc hf => ?_)
      · cases sr2 hf hk2
        exact hE2 _ _ _ hP hD hS (lv_sub hl [0, 1, 2] rfl)
      · refine lv_aload_n (pc := 9) hexec hb dX9_begins_9 rfl (lv_at hl 0 rfl) ?_
        refine kg_get (pc := 10) hexec hb (own := RX9) hWX9 hown hG hP 0 rfl rfl 0 (nle rfl) (hts _ (List.mem_cons_of_mem _ (List.mem_append_left _ (List.mem_of_getElem? (i := 0) rfl)))) rfl rfl dX9_begins_10 ?_
        refine lv_iload_n (pc := 13) hexec hb dX9_begins_13 rfl (lv_at hl 3 rfl) ?_
        refine lv_iconst (pc := 14) hexec hb dX9_begins_14 ki_0 ?_
        refine kw_iast (pc := 15) hexec hb hG hP hD hS 1 rfl hf dX9_begins_15 (fun y1_s_3 H locs hf (hP : va_P g.1 vwCl (w_X9_begins g a0 a1 u0_1 u0_2 u0_3 u0_4 u0_5 u0_6 u0_7 u0_8 u0_9 u0_10 u0_11 u0_12 u0_13 u0_14 u0_15 u0_16 u0_17 u0_18 u0_19 u0_20 u0_21 u0_22 u0_23 u0_24 u0_25 u0_26 u0_27 u0_28 u0_29 u0_30 y1_s_3) H) (hD : va_D A (w_X9_begins g a0 a1 u0_1 u0_2 u0_3 u0_4 u0_5 u0_6 u0_7 u0_8 u0_9 u0_10 u0_11 u0_12 u0_13 u0_14 u0_15 u0_16 u0_17 u0_18 u0_19 u0_20 u0_21 u0_22 u0_23 u0_24 u0_25 u0_26 u0_27 u0_28 u0_29 u0_30 y1_s_3)) hS => ?_)
        obtain ⟨v3_1, ev3_1, hf⟩ := bv_e hf
        refine k_iinc (pc := 16) hexec hb dX9_begins_16 kq_1 hl (k := 3) rfl ev3_1 (nle rfl) rfl (fun ls (hl : lv_has ls 4 [(3, .int v3_1), (0, .ref a0), (1, .int p1), (2, .int p2)]) => ?_)
        refine lv_goto (pc := 19) hexec hb dX9_begins_19 (tgt := 2) rfl ?_
        exact ih2 _ _ _ _ _ (sl2 hf hk2) hP hD hS (lv_sub hl [1, 2, 3, 0] rfl)
  exact hL2 n _ _ _ _ _ hz hP hD hS (lv_sub hl [1, 2, 3, 0] rfl)
abbrev w_X9_isIn (g : GE) : va_W := []
set_option maxRecDepth 20000 in
theorem c_X9_isIn (l : Launch) (g : GE) (sz : Nat)  (p0 : Int64) (p2 : Int64) (p4 : Int64)  (r : Int32) (hf : f_X9_isIn p0 p2 p4 = some r) : MI l g yX9_isIn wsX9_isIn 1 24 [.long p0, .long p2, .long p4] (w_X9_isIn g ) sz (some (.int r)) (w_X9_isIn g ) := by
  refine MI.start (cc := cX9_isIn) (maxL := 6) (ret := (some .boolean)) rfl rfl (nle rfl) ?_
  intro p e s m args below meth c A ls Q hQ hexec hb hr hts hown hlocks hml hA hP hD hG hS hl
  unfold f_X9_isIn at hf
  have hS : va_S A s.heap s.heap [] := hS
  refine lv_lload_n (pc := 0) hexec hb dX9_isIn_0 rfl (lv_at hl 0 rfl) ?_
  refine lv_lload_n (pc := 1) hexec hb dX9_isIn_1 rfl (lv_at hl 1 rfl) ?_
  refine kc_lcmp (pc := 2) hexec hb dX9_isIn_2 ?_
  obtain ⟨j17, ej17, hf⟩ := bvf1 hf
  have hj17 : ∀ (u : Unit) (H : Heap) (locs : List Loc) (ls : Array Slot), j17 u = some r → va_P g.1 vwCl (w_X9_isIn g ) H → va_D A (w_X9_isIn g ) → va_S A s.heap H locs → lv_has ls 6 [] → W p l e (RM 1 24) s m args below meth c H locs 0 0 Q (F0 m 17 ls []) := by
    intro u H locs ls hf hP hD hS hl
    have hf := (ej17 u).symm.trans hf
    refine lv_iconst (pc := 17) hexec hb dX9_isIn_17 ki_0 ?_
    cases hf
    exact ke_z hQ hexec hb hr (.inl rfl) hP hD hS dX9_isIn_18 hlocks
  refine kb_lt (pc := 3) hexec hb dX9_isIn_3 (tgt := 17) rfl hf (fun hc hf => ?_) (fun hc hf => ?_)
  · exact hj17 _ _ _ _ hf hP hD hS (lv_sub hl [] rfl)
  · refine lv_lload_n (pc := 6) hexec hb dX9_isIn_6 rfl (lv_at hl 0 rfl) ?_
    refine lv_lload (pc := 7) hexec hb dX9_isIn_7 (lv_at hl 2 rfl) ?_
    refine kc_lcmp (pc := 9) hexec hb dX9_isIn_9 ?_
    refine kb_gt (pc := 10) hexec hb dX9_isIn_10 (tgt := 17) rfl hf (fun hc hf => ?_) (fun hc hf => ?_)
    · exact hj17 _ _ _ _ hf hP hD hS (lv_sub hl [] rfl)
    · refine lv_iconst (pc := 13) hexec hb dX9_isIn_13 ki_1 ?_
      refine lv_goto (pc := 14) hexec hb dX9_isIn_14 (tgt := 18) rfl ?_
      cases hf
      exact ke_z hQ hexec hb hr (.inr rfl) hP hD hS dX9_isIn_18 hlocks
abbrev w_X9_passes (g : GE) (a0 : Nat) (u0_0 u0_1 u0_2 u0_3 u0_4 u0_5 u0_6 u0_8 u0_9 u0_10 u0_11 u0_12 u0_13 u0_14 u0_15 u0_16 u0_17 u0_18 u0_19 u0_20 u0_21 u0_22 u0_23 u0_24 u0_25 u0_26 u0_27 u0_28 u0_29 u0_30 : Value) (x0_thrown : Int32) : va_W := [(a0, .inr (9, [u0_0, u0_1, u0_2, u0_3, u0_4, u0_5, u0_6, .int x0_thrown, u0_8, u0_9, u0_10, u0_11, u0_12, u0_13, u0_14, u0_15, u0_16, u0_17, u0_18, u0_19, u0_20, u0_21, u0_22, u0_23, u0_24, u0_25, u0_26, u0_27, u0_28, u0_29, u0_30]))]
set_option maxRecDepth 20000 in
theorem c_X9_passes (l : Launch) (g : GE) (a0 : Nat) (sz : Nat) (u0_0 u0_1 u0_2 u0_3 u0_4 u0_5 u0_6 u0_8 u0_9 u0_10 u0_11 u0_12 u0_13 u0_14 u0_15 u0_16 u0_17 u0_18 u0_19 u0_20 u0_21 u0_22 u0_23 u0_24 u0_25 u0_26 u0_27 u0_28 u0_29 u0_30 : Value) (x0_thrown : Int32) (p1 : Int32) (p2 : Int32)  (r : Int32) (o_x0_thrown : Int32) (hf : f_X9_passes x0_thrown p1 p2 = some (r, o_x0_thrown)) : MI l g yX9_passes wsX9_passes 1 24 [.ref a0, .int p1, .int p2] (w_X9_passes g a0 u0_0 u0_1 u0_2 u0_3 u0_4 u0_5 u0_6 u0_8 u0_9 u0_10 u0_11 u0_12 u0_13 u0_14 u0_15 u0_16 u0_17 u0_18 u0_19 u0_20 u0_21 u0_22 u0_23 u0_24 u0_25 u0_26 u0_27 u0_28 u0_29 u0_30 x0_thrown) sz (some (.int r)) (w_X9_passes g a0 u0_0 u0_1 u0_2 u0_3 u0_4 u0_5 u0_6 u0_8 u0_9 u0_10 u0_11 u0_12 u0_13 u0_14 u0_15 u0_16 u0_17 u0_18 u0_19 u0_20 u0_21 u0_22 u0_23 u0_24 u0_25 u0_26 u0_27 u0_28 u0_29 u0_30 o_x0_thrown) := by
  refine MI.start (cc := cX9_passes) (maxL := 3) (ret := (some .boolean)) rfl rfl (nle rfl) ?_
  intro p e s m args below meth c A ls Q hQ hexec hb hr hts hown hlocks hml hA hP hD hG hS hl
  unfold f_X9_passes at hf
  have hWX9 : ∀ w ∈ wsX90, w.before args s = true := fun w h => hts w (List.mem_cons_of_mem _ (List.mem_append_right _ h))
  have hS : va_S A s.heap s.heap [] := hS
  refine lv_aload_n (pc := 0) hexec hb dX9_passes_0 rfl (lv_at hl 0 rfl) ?_
  refine lv_iload_n (pc := 1) hexec hb dX9_passes_1 rfl (lv_at hl 1 rfl) ?_
  obtain ⟨j18, ej18, hf⟩ := bvf1 hf
  have hj18 : ∀ (t18 : Int32) (H : Heap) (locs : List Loc) (ls : Array Slot), j18 t18 = some (r, o_x0_thrown) → va_P g.1 vwCl (w_X9_passes g a0 u0_0 u0_1 u0_2 u0_3 u0_4 u0_5 u0_6 u0_8 u0_9 u0_10 u0_11 u0_12 u0_13 u0_14 u0_15 u0_16 u0_17 u0_18 u0_19 u0_20 u0_21 u0_22 u0_23 u0_24 u0_25 u0_26 u0_27 u0_28 u0_29 u0_30 x0_thrown) H → va_D A (w_X9_passes g a0 u0_0 u0_1 u0_2 u0_3 u0_4 u0_5 u0_6 u0_8 u0_9 u0_10 u0_11 u0_12 u0_13 u0_14 u0_15 u0_16 u0_17 u0_18 u0_19 u0_20 u0_21 u0_22 u0_23 u0_24 u0_25 u0_26 u0_27 u0_28 u0_29 u0_30 x0_thrown) → va_S A s.heap H locs → lv_has ls 3 [(0, .ref a0)] → W p l e (RM 1 24) s m args below meth c H locs 0 0 Q (F0 m 18 ls [.int t18, .ref a0]) := by
    intro t18 H locs ls hf hP hD hS hl
    have hf := (ej18 t18).symm.trans hf
    refine kp_put (pc := 18) hexec hb (own := RX9) hWX9 tyX9 tyX9_ok nmX9 hown hG hP hD hS 0 rfl rfl 7 (nle rfl) (hts _ (List.mem_cons_of_mem _ (List.mem_append_left _ (List.mem_of_getElem? (i := 0) rfl)))) rfl rfl rfl rfl (nle rfl) dX9_passes_18 (fun H locs (hP : va_P g.1 vwCl (w_X9_passes g a0 u0_0 u0_1 u0_2 u0_3 u0_4 u0_5 u0_6 u0_8 u0_9 u0_10 u0_11 u0_12 u0_13 u0_14 u0_15 u0_16 u0_17 u0_18 u0_19 u0_20 u0_21 u0_22 u0_23 u0_24 u0_25 u0_26 u0_27 u0_28 u0_29 u0_30 t18) H) (hD : va_D A (w_X9_passes g a0 u0_0 u0_1 u0_2 u0_3 u0_4 u0_5 u0_6 u0_8 u0_9 u0_10 u0_11 u0_12 u0_13 u0_14 u0_15 u0_16 u0_17 u0_18 u0_19 u0_20 u0_21 u0_22 u0_23 u0_24 u0_25 u0_26 u0_27 u0_28 u0_29 u0_30 t18)) hS => ?_)
    refine lv_aload_n (pc := 21) hexec hb dX9_passes_21 rfl (lv_at hl 0 rfl) ?_
    refine kg_get (pc := 22) hexec hb (own := RX9) hWX9 hown hG hP 0 rfl rfl 7 (nle rfl) (hts _ (List.mem_cons_of_mem _ (List.mem_append_left _ (List.mem_of_getElem? (i := 0) rfl)))) rfl rfl dX9_passes_22 ?_
    refine kb_ne (pc := 25) hexec hb dX9_passes_25 (tgt := 32) rfl hf (fun hc hf => ?_) (fun hc hf => ?_)
    · refine lv_iconst (pc := 32) hexec hb dX9_passes_32 ki_0 ?_
      cases hf
      exact ke_z hQ hexec hb hr (.inl rfl) hP hD hS dX9_passes_33 hlocks
    · refine lv_iconst (pc := 28) hexec hb dX9_passes_28 ki_1 ?_
      refine lv_goto (pc := 29) hexec hb dX9_passes_29 (tgt := 33) rfl ?_
      cases hf
      exact ke_z hQ hexec hb hr (.inr rfl) hP hD hS dX9_passes_33 hlocks
  refine kb_ne (pc := 2) hexec hb dX9_passes_2 (tgt := 9) rfl hf (fun hc hf => ?_) (fun hc hf => ?_)
  · refine lv_iload_n (pc := 9) hexec hb dX9_passes_9 rfl (lv_at hl 2 rfl) ?_
    refine kb_ne (pc := 10) hexec hb dX9_passes_10 (tgt := 17) rfl hf (fun hc hf => ?_) (fun hc hf => ?_)
    · refine lv_iconst (pc := 17) hexec hb dX9_passes_17 ki_0 ?_
      exact hj18 _ _ _ _ hf hP hD hS (lv_sub hl [0] rfl)
    · refine lv_iconst (pc := 13) hexec hb dX9_passes_13 ki_2 ?_
      refine lv_goto (pc := 14) hexec hb dX9_passes_14 (tgt := 18) rfl ?_
      exact hj18 _ _ _ _ hf hP hD hS (lv_sub hl [0] rfl)
  · refine lv_iconst (pc := 5) hexec hb dX9_passes_5 ki_1 ?_
    refine lv_goto (pc := 6) hexec hb dX9_passes_6 (tgt := 18) rfl ?_
    exact hj18 _ _ _ _ hf hP hD hS (lv_sub hl [0] rfl)
abbrev w_X9_copies (g : GE) (a0 a1 : Nat) (n0 n2 : Nat) (y0_p : Nat → Int32) (y1_p : Nat → Int32) : va_W := [(a0, .inl (g.2.1 0, n0, .inl y0_p)), (a1, .inl (g.2.1 0, n2, .inl y1_p))]
set_option maxRecDepth 20000 in
theorem c_X9_copies (l : Launch) (g : GE) (a0 a1 : Nat) (sz : Nat) (n0 : Nat) (n2 : Nat) (y0_p : Nat → Int32) (y1_p : Nat → Int32) (p1 : Int32) (p3 : Int32)  (o_y1_p : Nat → Int32) (hf : f_X9_copies n0 n2 y0_p y1_p p1 p3 = some o_y1_p) : MI l g yX9_copies wsX9_copies 1 24 [.ref a0, .int p1, .ref a1, .int p3] (w_X9_copies g a0 a1 n0 n2 y0_p y1_p) sz none (w_X9_copies g a0 a1 n0 n2 y0_p o_y1_p) := by
  refine MI.start (cc := cX9_copies) (maxL := 5) (ret := none) rfl rfl (nle rfl) ?_
  intro p e s m args below meth c A ls Q hQ hexec hb hr hts hown hlocks hml hA hP hD hG hS hl
  unfold f_X9_copies at hf
  have hS : va_S A s.heap s.heap [] := hS
  refine lv_iconst (pc := 0) hexec hb dX9_copies_0 ki_0 ?_
  refine lv_istore (pc := 1) hexec hb dX9_copies_1 hl (nle rfl) rfl (fun ls (hl : lv_has ls 5 [(4, .int 0), (0, .ref a0), (1, .int p1), (2, .ref a1), (3, .int p3)]) => ?_)
  obtain ⟨l3, el3, hf⟩ := bvf2 hf
  obtain ⟨y1_p_2, hz, hf⟩ := bd1_e hf
  have hE3 : ∀ (H : Heap) (locs : List Loc) (ls : Array Slot), va_P g.1 vwCl (w_X9_copies g a0 a1 n0 n2 y0_p y1_p_2) H → va_D A (w_X9_copies g a0 a1 n0 n2 y0_p y1_p_2) → va_S A s.heap H locs → lv_has ls 5 [] → W p l e (RM 1 24) s m args below meth c H locs 0 0 Q (F0 m 29 ls []) := by
    intro H locs ls hP hD hS hl
    cases hf
    exact ke_v hQ hexec hb hr hP hD hS dX9_copies_29 hlocks
  obtain ⟨n, hz⟩ := lq2_e hz
  have hL3 : ∀ (n : Nat) (v4 : Int32) (y1_p_1 : Nat → Int32) (H : Heap) (locs : List Loc) (ls : Array Slot), it2 l3 n v4 y1_p_1 = some y1_p_2 → va_P g.1 vwCl (w_X9_copies g a0 a1 n0 n2 y0_p y1_p_1) H → va_D A (w_X9_copies g a0 a1 n0 n2 y0_p y1_p_1) → va_S A s.heap H locs → lv_has ls 5 [(0, .ref a0), (1, .int p1), (2, .ref a1), (3, .int p3), (4, .int v4)] → W p l e (RM 1 24) s m args below meth c H locs 0 0 Q (F0 m 3 ls []) := by
    intro n
    induction n with
    | zero =>
      intro v4 y1_p_1 H locs ls hf hP hD hS hl
      exact it2_0 hf
    | succ n3 ih3 =>
      intro v4 y1_p_1 H locs ls hf hP hD hS hl
      obtain ⟨q3, hf, hk3⟩ := it2_e hf
      have hf := (el3 v4 y1_p_1).symm.trans hf
      refine lv_iload (pc := 3) hexec hb dX9_copies_3 (lv_at hl 4 rfl) ?_
      refine lv_sipush (pc := 5) hexec hb dX9_copies_5 ks_552 ?_
      refine ki_ge (pc := 8) hexec hb dX9_copies_8 (tgt := 29) rfl hf (fun hc hf => ?_) (fun hc hf => ?_)
      · cases sr2 hf hk3
        exact hE3 _ _ _ hP hD hS (lv_sub hl [] rfl)
      · refine lv_aload_n (pc := 11) hexec hb dX9_copies_11 rfl (lv_at hl 2 rfl) ?_
        refine lv_iload_n (pc := 12) hexec hb dX9_copies_12 rfl (lv_at hl 3 rfl) ?_
        refine lv_iload (pc := 13) hexec hb dX9_copies_13 (lv_at hl 4 rfl) ?_
        refine lv_iadd (pc := 15) hexec hb dX9_copies_15 ?_
        refine lv_aload_n (pc := 16) hexec hb dX9_copies_16 rfl (lv_at hl 0 rfl) ?_
        refine lv_iload_n (pc := 17) hexec hb dX9_copies_17 rfl (lv_at hl 1 rfl) ?_
        refine lv_iload (pc := 18) hexec hb dX9_copies_18 (lv_at hl 4 rfl) ?_
        refine lv_iadd (pc := 20) hexec hb dX9_copies_20 ?_
        refine kr_iald (pc := 21) hexec hb hG hP 0 rfl hf dX9_copies_21 (fun hf => ?_)
        refine kw_iast (pc := 22) hexec hb hG hP hD hS 1 rfl hf dX9_copies_22 (fun y1_p_3 H locs hf (hP : va_P g.1 vwCl (w_X9_copies g a0 a1 n0 n2 y0_p y1_p_3) H) (hD : va_D A (w_X9_copies g a0 a1 n0 n2 y0_p y1_p_3)) hS => ?_)
        obtain ⟨v4_1, ev4_1, hf⟩ := bv_e hf
        refine k_iinc (pc := 23) hexec hb dX9_copies_23 kq_1 hl (k := 4) rfl ev4_1 (nle rfl) rfl (fun ls (hl : lv_has ls 5 [(4, .int v4_1), (0, .ref a0), (1, .int p1), (2, .ref a1), (3, .int p3)]) => ?_)
        refine lv_goto (pc := 26) hexec hb dX9_copies_26 (tgt := 3) rfl ?_
        exact ih3 _ _ _ _ _ (sl2 hf hk3) hP hD hS (lv_sub hl [1, 2, 3, 4, 0] rfl)
  exact hL3 n _ _ _ _ _ hz hP hD hS (lv_sub hl [1, 2, 3, 4, 0] rfl)
abbrev w_X9_keeps (g : GE) (a0 a1 a2 : Nat) (u0_1 u0_2 u0_4 u0_5 u0_7 u0_8 u0_9 u0_10 u0_11 u0_12 u0_13 u0_14 u0_15 u0_16 u0_17 u0_18 u0_19 u0_20 u0_21 u0_22 u0_23 u0_24 u0_25 u0_26 u0_27 u0_28 u0_29 u0_30 : Value) (x0_acts : Int32) (y1_past : Nat → Int32) (y2_s : Nat → Int32) : va_W := [(a0, .inr (9, [.ref a2, u0_1, u0_2, .ref a1, u0_4, u0_5, .int x0_acts, u0_7, u0_8, u0_9, u0_10, u0_11, u0_12, u0_13, u0_14, u0_15, u0_16, u0_17, u0_18, u0_19, u0_20, u0_21, u0_22, u0_23, u0_24, u0_25, u0_26, u0_27, u0_28, u0_29, u0_30])), (a1, .inl (g.2.1 0, 4416, .inl y1_past)), (a2, .inl (g.2.1 0, 552, .inl y2_s))]
set_option maxRecDepth 20000 in
theorem c_X9_keeps (l : Launch) (g : GE) (a0 a1 a2 : Nat) (sz : Nat) (u0_1 u0_2 u0_4 u0_5 u0_7 u0_8 u0_9 u0_10 u0_11 u0_12 u0_13 u0_14 u0_15 u0_16 u0_17 u0_18 u0_19 u0_20 u0_21 u0_22 u0_23 u0_24 u0_25 u0_26 u0_27 u0_28 u0_29 u0_30 : Value) (x0_acts : Int32) (y1_past : Nat → Int32) (y2_s : Nat → Int32)   (o_x0_acts : Int32) (o_y1_past : Nat → Int32) (hf : f_X9_keeps x0_acts y1_past y2_s = some (o_x0_acts, o_y1_past)) : MI l g yX9_keeps wsX9_keeps 2 48 [.ref a0] (w_X9_keeps g a0 a1 a2 u0_1 u0_2 u0_4 u0_5 u0_7 u0_8 u0_9 u0_10 u0_11 u0_12 u0_13 u0_14 u0_15 u0_16 u0_17 u0_18 u0_19 u0_20 u0_21 u0_22 u0_23 u0_24 u0_25 u0_26 u0_27 u0_28 u0_29 u0_30 x0_acts y1_past y2_s) sz none (w_X9_keeps g a0 a1 a2 u0_1 u0_2 u0_4 u0_5 u0_7 u0_8 u0_9 u0_10 u0_11 u0_12 u0_13 u0_14 u0_15 u0_16 u0_17 u0_18 u0_19 u0_20 u0_21 u0_22 u0_23 u0_24 u0_25 u0_26 u0_27 u0_28 u0_29 u0_30 o_x0_acts o_y1_past y2_s) := by
  refine MI.start (cc := cX9_keeps) (maxL := 2) (ret := none) rfl rfl (nle rfl) ?_
  intro p e s m args below meth c A ls Q hQ hexec hb hr hts hown hlocks hml hA hP hD hG hS hl
  unfold f_X9_keeps at hf
  have hWX9 : ∀ w ∈ wsX90, w.before args s = true := fun w h => hts w (List.mem_cons_of_mem _ (List.mem_append_right _ h))
  have hS : va_S A s.heap s.heap [] := hS
  refine lv_aload_n (pc := 0) hexec hb dX9_keeps_0 rfl (lv_at hl 0 rfl) ?_
  refine kg_get (pc := 1) hexec hb (own := RX9) hWX9 hown hG hP 0 rfl rfl 6 (nle rfl) (hts _ (List.mem_cons_of_mem _ (List.mem_append_left _ (List.mem_of_getElem? (i := 0) rfl)))) rfl rfl dX9_keeps_1 ?_
  refine lv_bipush (pc := 4) hexec hb dX9_keeps_4 kb_8 ?_
  obtain ⟨j50, ej50, hf⟩ := bvf2 hf
  have hj50 : ∀ (x0_acts_1 : Int32) (y1_past_1 : Nat → Int32) (H : Heap) (locs : List Loc) (ls : Array Slot), j50 x0_acts_1 y1_past_1 = some (o_x0_acts, o_y1_past) → va_P g.1 vwCl (w_X9_keeps g a0 a1 a2 u0_1 u0_2 u0_4 u0_5 u0_7 u0_8 u0_9 u0_10 u0_11 u0_12 u0_13 u0_14 u0_15 u0_16 u0_17 u0_18 u0_19 u0_20 u0_21 u0_22 u0_23 u0_24 u0_25 u0_26 u0_27 u0_28 u0_29 u0_30 x0_acts_1 y1_past_1 y2_s) H → va_D A (w_X9_keeps g a0 a1 a2 u0_1 u0_2 u0_4 u0_5 u0_7 u0_8 u0_9 u0_10 u0_11 u0_12 u0_13 u0_14 u0_15 u0_16 u0_17 u0_18 u0_19 u0_20 u0_21 u0_22 u0_23 u0_24 u0_25 u0_26 u0_27 u0_28 u0_29 u0_30 x0_acts_1 y1_past_1 y2_s) → va_S A s.heap H locs → lv_has ls 2 [(0, .ref a0)] → W p l e (RM 2 48) s m args below meth c H locs 0 0 Q (F0 m 50 ls []) := by
    intro x0_acts_1 y1_past_1 H locs ls hf hP hD hS hl
    have hf := (ej50 x0_acts_1 y1_past_1).symm.trans hf
    refine lv_aload_n (pc := 50) hexec hb dX9_keeps_50 rfl (lv_at hl 0 rfl) ?_
    refine kg_get (pc := 51) hexec hb (own := RX9) hWX9 hown hG hP 0 rfl rfl 0 (nle rfl) (hts _ (List.mem_cons_of_mem _ (List.mem_append_left _ (List.mem_of_getElem? (i := 2) rfl)))) rfl rfl dX9_keeps_51 ?_
    refine lv_iconst (pc := 54) hexec hb dX9_keeps_54 ki_0 ?_
    refine lv_aload_n (pc := 55) hexec hb dX9_keeps_55 rfl (lv_at hl 0 rfl) ?_
    refine kg_get (pc := 56) hexec hb (own := RX9) hWX9 hown hG hP 0 rfl rfl 3 (nle rfl) (hts _ (List.mem_cons_of_mem _ (List.mem_append_left _ (List.mem_of_getElem? (i := 1) rfl)))) rfl rfl dX9_keeps_56 ?_
    refine lv_sipush (pc := 59) hexec hb dX9_keeps_59 ks_552 ?_
    refine lv_aload_n (pc := 62) hexec hb dX9_keeps_62 rfl (lv_at hl 0 rfl) ?_
    refine kg_get (pc := 63) hexec hb (own := RX9) hWX9 hown hG hP 0 rfl rfl 6 (nle rfl) (hts _ (List.mem_cons_of_mem _ (List.mem_append_left _ (List.mem_of_getElem? (i := 0) rfl)))) rfl rfl dX9_keeps_63 ?_
    refine lv_imul (pc := 66) hexec hb dX9_keeps_66 ?_
    obtain ⟨y1_past_2, hc, hf⟩ := bd1_e hf
    refine kSp (pc := 67) (S := ⟨hexec, hb, hml, hown, hts⟩) hP hD hG hA hS [2, 1] [0] [0, 2, 1] (w2 := (w_X9_keeps g a0 a1 a2 u0_1 u0_2 u0_4 u0_5 u0_7 u0_8 u0_9 u0_10 u0_11 u0_12 u0_13 u0_14 u0_15 u0_16 u0_17 u0_18 u0_19 u0_20 u0_21 u0_22 u0_23 u0_24 u0_25 u0_26 u0_27 u0_28 u0_29 u0_30 x0_acts_1 y1_past_2 y2_s)) rfl rfl rfl rfl rfl rfl (by decide) (c_X9_copies l g a2 a1 _ 552 4416 y2_s y1_past_1 0 (552 * x0_acts_1) y1_past_2 hc) gX9_keeps_X9_copies rfl hs_X9_copies ⟨nle rfl, nle rfl⟩ (rest := []) rfl rfl hl.1 (nle rfl) dX9_keeps_67 (fun H locs hP hD hS => ?_)
    refine lv_aload_n (pc := 70) hexec hb dX9_keeps_70 rfl (lv_at hl 0 rfl) ?_
    refine lv_dup (pc := 71) hexec hb dX9_keeps_71 rfl ?_
    refine kg_get (pc := 72) hexec hb (own := RX9) hWX9 hown hG hP 0 rfl rfl 6 (nle rfl) (hts _ (List.mem_cons_of_mem _ (List.mem_append_left _ (List.mem_of_getElem? (i := 0) rfl)))) rfl rfl dX9_keeps_72 ?_
    refine lv_iconst (pc := 75) hexec hb dX9_keeps_75 ki_1 ?_
    refine lv_iadd (pc := 76) hexec hb dX9_keeps_76 ?_
    obtain ⟨x0_acts_2, ex0_acts_2, hf⟩ := bv_e hf
    refine kn_i ex0_acts_2 ?_
    refine kp_put (pc := 77) hexec hb (own := RX9) hWX9 tyX9 tyX9_ok nmX9 hown hG hP hD hS 0 rfl rfl 6 (nle rfl) (hts _ (List.mem_cons_of_mem _ (List.mem_append_left _ (List.mem_of_getElem? (i := 0) rfl)))) rfl rfl rfl rfl (nle rfl) dX9_keeps_77 (fun H locs (hP : va_P g.1 vwCl (w_X9_keeps g a0 a1 a2 u0_1 u0_2 u0_4 u0_5 u0_7 u0_8 u0_9 u0_10 u0_11 u0_12 u0_13 u0_14 u0_15 u0_16 u0_17 u0_18 u0_19 u0_20 u0_21 u0_22 u0_23 u0_24 u0_25 u0_26 u0_27 u0_28 u0_29 u0_30 x0_acts_2 y1_past_2 y2_s) H) (hD : va_D A (w_X9_keeps g a0 a1 a2 u0_1 u0_2 u0_4 u0_5 u0_7 u0_8 u0_9 u0_10 u0_11 u0_12 u0_13 u0_14 u0_15 u0_16 u0_17 u0_18 u0_19 u0_20 u0_21 u0_22 u0_23 u0_24 u0_25 u0_26 u0_27 u0_28 u0_29 u0_30 x0_acts_2 y1_past_2 y2_s)) hS => ?_)
    cases hf
    exact ke_v hQ hexec hb hr hP hD hS dX9_keeps_80 hlocks
  refine ki_ne (pc := 6) hexec hb dX9_keeps_6 (tgt := 50) rfl hf (fun hc hf => ?_) (fun hc hf => ?_)
  · exact hj50 _ _ _ _ _ hf hP hD hS (lv_sub hl [0] rfl)
  · refine lv_iconst (pc := 9) hexec hb dX9_keeps_9 ki_0 ?_
    refine lv_istore_n (pc := 10) hexec hb dX9_keeps_10 rfl hl (nle rfl) rfl (fun ls (hl : lv_has ls 2 [(1, .int 0), (0, .ref a0)]) => ?_)
    obtain ⟨l11, el11, hf⟩ := bvf2 hf
    obtain ⟨y1_past_4, hz, hf⟩ := bd1_e hf
    have hE11 : ∀ (H : Heap) (locs : List Loc) (ls : Array Slot), va_P g.1 vwCl (w_X9_keeps g a0 a1 a2 u0_1 u0_2 u0_4 u0_5 u0_7 u0_8 u0_9 u0_10 u0_11 u0_12 u0_13 u0_14 u0_15 u0_16 u0_17 u0_18 u0_19 u0_20 u0_21 u0_22 u0_23 u0_24 u0_25 u0_26 u0_27 u0_28 u0_29 u0_30 x0_acts y1_past_4 y2_s) H → va_D A (w_X9_keeps g a0 a1 a2 u0_1 u0_2 u0_4 u0_5 u0_7 u0_8 u0_9 u0_10 u0_11 u0_12 u0_13 u0_14 u0_15 u0_16 u0_17 u0_18 u0_19 u0_20 u0_21 u0_22 u0_23 u0_24 u0_25 u0_26 u0_27 u0_28 u0_29 u0_30 x0_acts y1_past_4 y2_s) → va_S A s.heap H locs → lv_has ls 2 [(0, .ref a0)] → W p l e (RM 2 48) s m args below meth c H locs 0 0 Q (F0 m 40 ls []) := by
      intro H locs ls hP hD hS hl
      refine lv_aload_n (pc := 40) hexec hb dX9_keeps_40 rfl (lv_at hl 0 rfl) ?_
      refine lv_dup (pc := 41) hexec hb dX9_keeps_41 rfl ?_
      refine kg_get (pc := 42) hexec hb (own := RX9) hWX9 hown hG hP 0 rfl rfl 6 (nle rfl) (hts _ (List.mem_cons_of_mem _ (List.mem_append_left _ (List.mem_of_getElem? (i := 0) rfl)))) rfl rfl dX9_keeps_42 ?_
      refine lv_iconst (pc := 45) hexec hb dX9_keeps_45 ki_1 ?_
      refine lv_isub (pc := 46) hexec hb dX9_keeps_46 ?_
      obtain ⟨x0_acts_3, ex0_acts_3, hf⟩ := bv_e hf
      refine kn_i ex0_acts_3 ?_
      refine kp_put (pc := 47) hexec hb (own := RX9) hWX9 tyX9 tyX9_ok nmX9 hown hG hP hD hS 0 rfl rfl 6 (nle rfl) (hts _ (List.mem_cons_of_mem _ (List.mem_append_left _ (List.mem_of_getElem? (i := 0) rfl)))) rfl rfl rfl rfl (nle rfl) dX9_keeps_47 (fun H locs (hP : va_P g.1 vwCl (w_X9_keeps g a0 a1 a2 u0_1 u0_2 u0_4 u0_5 u0_7 u0_8 u0_9 u0_10 u0_11 u0_12 u0_13 u0_14 u0_15 u0_16 u0_17 u0_18 u0_19 u0_20 u0_21 u0_22 u0_23 u0_24 u0_25 u0_26 u0_27 u0_28 u0_29 u0_30 x0_acts_3 y1_past_4 y2_s) H) (hD : va_D A (w_X9_keeps g a0 a1 a2 u0_1 u0_2 u0_4 u0_5 u0_7 u0_8 u0_9 u0_10 u0_11 u0_12 u0_13 u0_14 u0_15 u0_16 u0_17 u0_18 u0_19 u0_20 u0_21 u0_22 u0_23 u0_24 u0_25 u0_26 u0_27 u0_28 u0_29 u0_30 x0_acts_3 y1_past_4 y2_s)) hS => ?_)
      exact hj50 _ _ _ _ _ hf hP hD hS (lv_sub hl [0] rfl)
    obtain ⟨n, hz⟩ := lq2_e hz
    have hL11 : ∀ (n : Nat) (v1 : Int32) (y1_past_3 : Nat → Int32) (H : Heap) (locs : List Loc) (ls : Array Slot), it2 l11 n v1 y1_past_3 = some y1_past_4 → va_P g.1 vwCl (w_X9_keeps g a0 a1 a2 u0_1 u0_2 u0_4 u0_5 u0_7 u0_8 u0_9 u0_10 u0_11 u0_12 u0_13 u0_14 u0_15 u0_16 u0_17 u0_18 u0_19 u0_20 u0_21 u0_22 u0_23 u0_24 u0_25 u0_26 u0_27 u0_28 u0_29 u0_30 x0_acts y1_past_3 y2_s) H → va_D A (w_X9_keeps g a0 a1 a2 u0_1 u0_2 u0_4 u0_5 u0_7 u0_8 u0_9 u0_10 u0_11 u0_12 u0_13 u0_14 u0_15 u0_16 u0_17 u0_18 u0_19 u0_20 u0_21 u0_22 u0_23 u0_24 u0_25 u0_26 u0_27 u0_28 u0_29 u0_30 x0_acts y1_past_3 y2_s) → va_S A s.heap H locs → lv_has ls 2 [(0, .ref a0), (1, .int v1)] → W p l e (RM 2 48) s m args below meth c H locs 0 0 Q (F0 m 11 ls []) := by
      intro n
      induction n with
      | zero =>
        intro v1 y1_past_3 H locs ls hf hP hD hS hl
        exact it2_0 hf
      | succ n11 ih11 =>
        intro v1 y1_past_3 H locs ls hf hP hD hS hl
        obtain ⟨q11, hf, hk11⟩ := it2_e hf
        have hf := (el11 v1 y1_past_3).symm.trans hf
        refine lv_iload_n (pc := 11) hexec hb dX9_keeps_11 rfl (lv_at hl 1 rfl) ?_
        refine lv_sipush (pc := 12) hexec hb dX9_keeps_12 ks_3864 ?_
        refine ki_ge (pc := 15) hexec hb dX9_keeps_15 (tgt := 40) rfl hf (fun hc hf => ?_) (fun hc hf => ?_)
        · cases sr2 hf hk11
          exact hE11 _ _ _ hP hD hS (lv_sub hl [0] rfl)
        · refine lv_aload_n (pc := 18) hexec hb dX9_keeps_18 rfl (lv_at hl 0 rfl) ?_
          refine kg_get (pc := 19) hexec hb (own := RX9) hWX9 hown hG hP 0 rfl rfl 3 (nle rfl) (hts _ (List.mem_cons_of_mem _ (List.mem_append_left _ (List.mem_of_getElem? (i := 1) rfl)))) rfl rfl dX9_keeps_19 ?_
          refine lv_iload_n (pc := 22) hexec hb dX9_keeps_22 rfl (lv_at hl 1 rfl) ?_
          refine lv_aload_n (pc := 23) hexec hb dX9_keeps_23 rfl (lv_at hl 0 rfl) ?_
          refine kg_get (pc := 24) hexec hb (own := RX9) hWX9 hown hG hP 0 rfl rfl 3 (nle rfl) (hts _ (List.mem_cons_of_mem _ (List.mem_append_left _ (List.mem_of_getElem? (i := 1) rfl)))) rfl rfl dX9_keeps_24 ?_
          refine lv_iload_n (pc := 27) hexec hb dX9_keeps_27 rfl (lv_at hl 1 rfl) ?_
          refine lv_sipush (pc := 28) hexec hb dX9_keeps_28 ks_552 ?_
          refine lv_iadd (pc := 31) hexec hb dX9_keeps_31 ?_
          refine kr_iald (pc := 32) hexec hb hG hP 1 rfl hf dX9_keeps_32 (fun hf => ?_)
          refine kw_iast (pc := 33) hexec hb hG hP hD hS 1 rfl hf dX9_keeps_33 (fun y1_past_5 H locs hf (hP : va_P g.1 vwCl (w_X9_keeps g a0 a1 a2 u0_1 u0_2 u0_4 u0_5 u0_7 u0_8 u0_9 u0_10 u0_11 u0_12 u0_13 u0_14 u0_15 u0_16 u0_17 u0_18 u0_19 u0_20 u0_21 u0_22 u0_23 u0_24 u0_25 u0_26 u0_27 u0_28 u0_29 u0_30 x0_acts y1_past_5 y2_s) H) (hD : va_D A (w_X9_keeps g a0 a1 a2 u0_1 u0_2 u0_4 u0_5 u0_7 u0_8 u0_9 u0_10 u0_11 u0_12 u0_13 u0_14 u0_15 u0_16 u0_17 u0_18 u0_19 u0_20 u0_21 u0_22 u0_23 u0_24 u0_25 u0_26 u0_27 u0_28 u0_29 u0_30 x0_acts y1_past_5 y2_s)) hS => ?_)
          obtain ⟨v1_1, ev1_1, hf⟩ := bv_e hf
          refine k_iinc (pc := 34) hexec hb dX9_keeps_34 kq_1 hl (k := 1) rfl ev1_1 (nle rfl) rfl (fun ls (hl : lv_has ls 2 [(1, .int v1_1), (0, .ref a0)]) => ?_)
          refine lv_goto (pc := 37) hexec hb dX9_keeps_37 (tgt := 11) rfl ?_
          exact ih11 _ _ _ _ _ (sl2 hf hk11) hP hD hS (lv_sub hl [1, 0] rfl)
    exact hL11 n _ _ _ _ _ hz hP hD hS (lv_sub hl [1, 0] rfl)
abbrev w_X9_ones (g : GE) : va_W := []
set_option maxRecDepth 20000 in
theorem c_X9_ones (l : Launch) (g : GE) (sz : Nat)  (p0 : Int32)  (r : Int32) (hf : f_X9_ones p0 = some r) : MI l g yX9_ones wsX9_ones 1 24 [.int p0] (w_X9_ones g ) sz (some (.int r)) (w_X9_ones g ) := by
  refine MI.start (cc := cX9_ones) (maxL := 3) (ret := (some .int)) rfl rfl (nle rfl) ?_
  intro p e s m args below meth c A ls Q hQ hexec hb hr hts hown hlocks hml hA hP hD hG hS hl
  unfold f_X9_ones at hf
  have hS : va_S A s.heap s.heap [] := hS
  refine lv_iconst (pc := 0) hexec hb dX9_ones_0 ki_0 ?_
  refine lv_istore_n (pc := 1) hexec hb dX9_ones_1 rfl hl (nle rfl) rfl (fun ls (hl : lv_has ls 3 [(1, .int 0), (0, .int p0)]) => ?_)
  refine lv_iconst (pc := 2) hexec hb dX9_ones_2 ki_0 ?_
  refine lv_istore_n (pc := 3) hexec hb dX9_ones_3 rfl hl (nle rfl) rfl (fun ls (hl : lv_has ls 3 [(2, .int 0), (1, .int 0), (0, .int p0)]) => ?_)
  obtain ⟨l4, el4, hf⟩ := bvf2 hf
  obtain ⟨v1_1, hz, hf⟩ := bd1_e hf
  have hE4 : ∀ (H : Heap) (locs : List Loc) (ls : Array Slot), va_P g.1 vwCl (w_X9_ones g ) H → va_D A (w_X9_ones g ) → va_S A s.heap H locs → lv_has ls 3 [(1, .int v1_1)] → W p l e (RM 1 24) s m args below meth c H locs 0 0 Q (F0 m 24 ls []) := by
    intro H locs ls hP hD hS hl
    refine lv_iload_n (pc := 24) hexec hb dX9_ones_24 rfl (lv_at hl 0 rfl) ?_
    cases hf
    exact ke_i hQ hexec hb hr hP hD hS dX9_ones_25 hlocks
  obtain ⟨n, hz⟩ := lq2_e hz
  have hL4 : ∀ (n : Nat) (v1 : Int32) (v2 : Int32) (H : Heap) (locs : List Loc) (ls : Array Slot), it2 l4 n v1 v2 = some v1_1 → va_P g.1 vwCl (w_X9_ones g ) H → va_D A (w_X9_ones g ) → va_S A s.heap H locs → lv_has ls 3 [(0, .int p0), (1, .int v1), (2, .int v2)] → W p l e (RM 1 24) s m args below meth c H locs 0 0 Q (F0 m 4 ls []) := by
    intro n
    induction n with
    | zero =>
      intro v1 v2 H locs ls hf hP hD hS hl
      exact it2_0 hf
    | succ n4 ih4 =>
      intro v1 v2 H locs ls hf hP hD hS hl
      obtain ⟨q4, hf, hk4⟩ := it2_e hf
      have hf := (el4 v1 v2).symm.trans hf
      refine lv_iload_n (pc := 4) hexec hb dX9_ones_4 rfl (lv_at hl 2 rfl) ?_
      refine lv_bipush (pc := 5) hexec hb dX9_ones_5 kb_8 ?_
      refine ki_ge (pc := 7) hexec hb dX9_ones_7 (tgt := 24) rfl hf (fun hc hf => ?_) (fun hc hf => ?_)
      · cases sr2 hf hk4
        exact hE4 _ _ _ hP hD hS (lv_sub hl [1] rfl)
      · refine lv_iload_n (pc := 10) hexec hb dX9_ones_10 rfl (lv_at hl 1 rfl) ?_
        refine lv_iload_n (pc := 11) hexec hb dX9_ones_11 rfl (lv_at hl 0 rfl) ?_
        refine lv_iload_n (pc := 12) hexec hb dX9_ones_12 rfl (lv_at hl 2 rfl) ?_
        refine lv_ishr (pc := 13) hexec hb dX9_ones_13 ?_
        refine lv_iconst (pc := 14) hexec hb dX9_ones_14 ki_1 ?_
        refine lv_iand (pc := 15) hexec hb dX9_ones_15 ?_
        refine lv_iadd (pc := 16) hexec hb dX9_ones_16 ?_
        obtain ⟨v1_2, ev1_2, hf⟩ := bv_e hf
        refine kn_i ev1_2 ?_
        refine lv_istore_n (pc := 17) hexec hb dX9_ones_17 rfl hl (nle rfl) rfl (fun ls (hl : lv_has ls 3 [(1, .int v1_2), (0, .int p0), (2, .int v2)]) => ?_)
        obtain ⟨v2_1, ev2_1, hf⟩ := bv_e hf
        refine k_iinc (pc := 18) hexec hb dX9_ones_18 kq_1 hl (k := 2) rfl ev2_1 (nle rfl) rfl (fun ls (hl : lv_has ls 3 [(2, .int v2_1), (1, .int v1_2), (0, .int p0)]) => ?_)
        refine lv_goto (pc := 21) hexec hb dX9_ones_21 (tgt := 4) rfl ?_
        exact ih4 _ _ _ _ _ (sl2 hf hk4) hP hD hS (lv_sub hl [2, 1, 0] rfl)
  exact hL4 n _ _ _ _ _ hz hP hD hS (lv_sub hl [2, 1, 0] rfl)
abbrev w_X9_cells (g : GE) (a0 a1 : Nat) (u0_1 u0_2 u0_3 u0_4 u0_5 u0_6 u0_7 u0_8 u0_9 u0_10 u0_11 u0_12 u0_13 u0_14 u0_15 u0_16 u0_17 u0_18 u0_19 u0_20 u0_21 u0_22 u0_23 u0_24 u0_25 u0_26 u0_27 u0_28 u0_29 u0_30 : Value) (y1_s : Nat → Int32) : va_W := [(a0, .inr (9, [.ref a1, u0_1, u0_2, u0_3, u0_4, u0_5, u0_6, u0_7, u0_8, u0_9, u0_10, u0_11, u0_12, u0_13, u0_14, u0_15, u0_16, u0_17, u0_18, u0_19, u0_20, u0_21, u0_22, u0_23, u0_24, u0_25, u0_26, u0_27, u0_28, u0_29, u0_30])), (a1, .inl (g.2.1 0, 552, .inl y1_s))]
set_option maxRecDepth 20000 in
theorem c_X9_cells (l : Launch) (g : GE) (a0 a1 : Nat) (sz : Nat) (u0_1 u0_2 u0_3 u0_4 u0_5 u0_6 u0_7 u0_8 u0_9 u0_10 u0_11 u0_12 u0_13 u0_14 u0_15 u0_16 u0_17 u0_18 u0_19 u0_20 u0_21 u0_22 u0_23 u0_24 u0_25 u0_26 u0_27 u0_28 u0_29 u0_30 : Value) (y1_s : Nat → Int32)   (r : Int32) (hf : f_X9_cells y1_s = some r) : MI l g yX9_cells wsX9_cells 1 24 [.ref a0] (w_X9_cells g a0 a1 u0_1 u0_2 u0_3 u0_4 u0_5 u0_6 u0_7 u0_8 u0_9 u0_10 u0_11 u0_12 u0_13 u0_14 u0_15 u0_16 u0_17 u0_18 u0_19 u0_20 u0_21 u0_22 u0_23 u0_24 u0_25 u0_26 u0_27 u0_28 u0_29 u0_30 y1_s) sz (some (.int r)) (w_X9_cells g a0 a1 u0_1 u0_2 u0_3 u0_4 u0_5 u0_6 u0_7 u0_8 u0_9 u0_10 u0_11 u0_12 u0_13 u0_14 u0_15 u0_16 u0_17 u0_18 u0_19 u0_20 u0_21 u0_22 u0_23 u0_24 u0_25 u0_26 u0_27 u0_28 u0_29 u0_30 y1_s) := by
  refine MI.start (cc := cX9_cells) (maxL := 1) (ret := (some .int)) rfl rfl (nle rfl) ?_
  intro p e s m args below meth c A ls Q hQ hexec hb hr hts hown hlocks hml hA hP hD hG hS hl
  unfold f_X9_cells at hf
  have hWX9 : ∀ w ∈ wsX90, w.before args s = true := fun w h => hts w (List.mem_cons_of_mem _ (List.mem_append_right _ h))
  have hS : va_S A s.heap s.heap [] := hS
  refine lv_aload_n (pc := 0) hexec hb dX9_cells_0 rfl (lv_at hl 0 rfl) ?_
  refine kg_get (pc := 1) hexec hb (own := RX9) hWX9 hown hG hP 0 rfl rfl 0 (nle rfl) (hts _ (List.mem_cons_of_mem _ (List.mem_append_left _ (List.mem_of_getElem? (i := 0) rfl)))) rfl rfl dX9_cells_1 ?_
  refine lv_iconst (pc := 4) hexec hb dX9_cells_4 ki_0 ?_
  refine kr_iald (pc := 5) hexec hb hG hP 1 rfl hf dX9_cells_5 (fun hf => ?_)
  refine lv_aload_n (pc := 6) hexec hb dX9_cells_6 rfl (lv_at hl 0 rfl) ?_
  refine kg_get (pc := 7) hexec hb (own := RX9) hWX9 hown hG hP 0 rfl rfl 0 (nle rfl) (hts _ (List.mem_cons_of_mem _ (List.mem_append_left _ (List.mem_of_getElem? (i := 0) rfl)))) rfl rfl dX9_cells_7 ?_
  refine lv_iconst (pc := 10) hexec hb dX9_cells_10 ki_1 ?_
  refine kr_iald (pc := 11) hexec hb hG hP 1 rfl hf dX9_cells_11 (fun hf => ?_)
  refine lv_imul (pc := 12) hexec hb dX9_cells_12 ?_
  cases hf
  exact ke_i hQ hexec hb hr hP hD hS dX9_cells_13 hlocks
abbrev w_X9_isCell (g : GE) (a0 a1 : Nat) (u0_1 u0_2 u0_3 u0_4 u0_5 u0_6 u0_7 u0_8 u0_9 u0_10 u0_11 u0_12 u0_13 u0_14 u0_15 u0_16 u0_17 u0_18 u0_19 u0_20 u0_21 u0_22 u0_23 u0_24 u0_25 u0_26 u0_27 u0_28 u0_29 u0_30 : Value) (y1_s : Nat → Int32) : va_W := [(a0, .inr (9, [.ref a1, u0_1, u0_2, u0_3, u0_4, u0_5, u0_6, u0_7, u0_8, u0_9, u0_10, u0_11, u0_12, u0_13, u0_14, u0_15, u0_16, u0_17, u0_18, u0_19, u0_20, u0_21, u0_22, u0_23, u0_24, u0_25, u0_26, u0_27, u0_28, u0_29, u0_30])), (a1, .inl (g.2.1 0, 552, .inl y1_s))]
set_option maxRecDepth 20000 in
theorem c_X9_isCell (l : Launch) (g : GE) (a0 a1 : Nat) (sz : Nat) (u0_1 u0_2 u0_3 u0_4 u0_5 u0_6 u0_7 u0_8 u0_9 u0_10 u0_11 u0_12 u0_13 u0_14 u0_15 u0_16 u0_17 u0_18 u0_19 u0_20 u0_21 u0_22 u0_23 u0_24 u0_25 u0_26 u0_27 u0_28 u0_29 u0_30 : Value) (y1_s : Nat → Int32) (p1 : Int32)  (r : Int32) (hf : f_X9_isCell y1_s p1 = some r) : MI l g yX9_isCell wsX9_isCell 2 49 [.ref a0, .int p1] (w_X9_isCell g a0 a1 u0_1 u0_2 u0_3 u0_4 u0_5 u0_6 u0_7 u0_8 u0_9 u0_10 u0_11 u0_12 u0_13 u0_14 u0_15 u0_16 u0_17 u0_18 u0_19 u0_20 u0_21 u0_22 u0_23 u0_24 u0_25 u0_26 u0_27 u0_28 u0_29 u0_30 y1_s) sz (some (.int r)) (w_X9_isCell g a0 a1 u0_1 u0_2 u0_3 u0_4 u0_5 u0_6 u0_7 u0_8 u0_9 u0_10 u0_11 u0_12 u0_13 u0_14 u0_15 u0_16 u0_17 u0_18 u0_19 u0_20 u0_21 u0_22 u0_23 u0_24 u0_25 u0_26 u0_27 u0_28 u0_29 u0_30 y1_s) := by
  refine MI.start (cc := cX9_isCell) (maxL := 2) (ret := (some .boolean)) rfl rfl (nle rfl) ?_
  intro p e s m args below meth c A ls Q hQ hexec hb hr hts hown hlocks hml hA hP hD hG hS hl
  unfold f_X9_isCell at hf
  have hWX9 : ∀ w ∈ wsX90, w.before args s = true := fun w h => hts w (List.mem_cons_of_mem _ (List.mem_append_right _ h))
  have hS : va_S A s.heap s.heap [] := hS
  refine lv_iload_n (pc := 0) hexec hb dX9_isCell_0 rfl (lv_at hl 1 rfl) ?_
  refine lv_i2l (pc := 1) hexec hb dX9_isCell_1 rfl ?_
  refine lv_lconst (pc := 2) hexec hb dX9_isCell_2 kl_0 ?_
  refine lv_aload_n (pc := 3) hexec hb dX9_isCell_3 rfl (lv_at hl 0 rfl) ?_
  obtain ⟨r4, hc, hf⟩ := bd1_e hf
  refine kVp (pc := 4) (S := ⟨hexec, hb, hml, hown, hts⟩) hP hD hG hA hS [0, 1] [] [0, 1] (w2 := (w_X9_isCell g a0 a1 u0_1 u0_2 u0_3 u0_4 u0_5 u0_6 u0_7 u0_8 u0_9 u0_10 u0_11 u0_12 u0_13 u0_14 u0_15 u0_16 u0_17 u0_18 u0_19 u0_20 u0_21 u0_22 u0_23 u0_24 u0_25 u0_26 u0_27 u0_28 u0_29 u0_30 y1_s)) rfl rfl rfl rfl rfl rfl (by decide) (c_X9_cells l g a0 a1 _ u0_1 u0_2 u0_3 u0_4 u0_5 u0_6 u0_7 u0_8 u0_9 u0_10 u0_11 u0_12 u0_13 u0_14 u0_15 u0_16 u0_17 u0_18 u0_19 u0_20 u0_21 u0_22 u0_23 u0_24 u0_25 u0_26 u0_27 u0_28 u0_29 u0_30 y1_s r4 hc) gX9_isCell_X9_cells rfl hv_X9_cells ⟨nle rfl, nle rfl⟩ 9 0 rfl rfl rfl (rest := [.long 0, .long (p1.toInt64)]) rfl rfl hl.1 (nle rfl) dX9_isCell_4 (fun H locs hP hD hS => ?_)
  refine lv_iconst (pc := 7) hexec hb dX9_isCell_7 ki_1 ?_
  refine lv_isub (pc := 8) hexec hb dX9_isCell_8 ?_
  refine lv_i2l (pc := 9) hexec hb dX9_isCell_9 rfl ?_
  obtain ⟨r10, hc, hf⟩ := bd1_e hf
  refine kSp (pc := 10) (S := ⟨hexec, hb, hml, hown, hts⟩) hP hD hG hA hS [] [0, 1] [0, 1] (w2 := (w_X9_isCell g a0 a1 u0_1 u0_2 u0_3 u0_4 u0_5 u0_6 u0_7 u0_8 u0_9 u0_10 u0_11 u0_12 u0_13 u0_14 u0_15 u0_16 u0_17 u0_18 u0_19 u0_20 u0_21 u0_22 u0_23 u0_24 u0_25 u0_26 u0_27 u0_28 u0_29 u0_30 y1_s)) rfl rfl rfl rfl rfl rfl (by decide) (c_X9_isIn l g _ (p1.toInt64) 0 (((r4 - 1)).toInt64) r10 hc) gX9_isCell_X9_isIn rfl hs_X9_isIn ⟨nle rfl, nle rfl⟩ (rest := []) rfl rfl hl.1 (nle rfl) dX9_isCell_10 (fun H locs hP hD hS => ?_)
  obtain ⟨hx, hf⟩ := zb_e hf
  cases hf
  exact ke_z hQ hexec hb hr hx hP hD hS dX9_isCell_13 hlocks
abbrev w_X9_away (g : GE) (a0 a1 : Nat) (u0_1 u0_2 u0_3 u0_4 u0_5 u0_6 u0_7 u0_8 u0_9 u0_10 u0_11 u0_12 u0_13 u0_14 u0_15 u0_16 u0_17 u0_18 u0_19 u0_20 u0_21 u0_22 u0_23 u0_24 u0_25 u0_26 u0_27 u0_28 u0_29 u0_30 : Value) (y1_s : Nat → Int32) : va_W := [(a0, .inr (9, [.ref a1, u0_1, u0_2, u0_3, u0_4, u0_5, u0_6, u0_7, u0_8, u0_9, u0_10, u0_11, u0_12, u0_13, u0_14, u0_15, u0_16, u0_17, u0_18, u0_19, u0_20, u0_21, u0_22, u0_23, u0_24, u0_25, u0_26, u0_27, u0_28, u0_29, u0_30])), (a1, .inl (g.2.1 0, 552, .inl y1_s))]
set_option maxRecDepth 20000 in
theorem c_X9_away (l : Launch) (g : GE) (a0 a1 : Nat) (sz : Nat) (u0_1 u0_2 u0_3 u0_4 u0_5 u0_6 u0_7 u0_8 u0_9 u0_10 u0_11 u0_12 u0_13 u0_14 u0_15 u0_16 u0_17 u0_18 u0_19 u0_20 u0_21 u0_22 u0_23 u0_24 u0_25 u0_26 u0_27 u0_28 u0_29 u0_30 : Value) (y1_s : Nat → Int32) (p1 : Int32) (p2 : Int32) (p3 : Int32)  (r : Int32) (hf : f_X9_away y1_s p1 p2 p3 = some r) : MI l g yX9_away wsX9_away 2 49 [.ref a0, .int p1, .int p2, .int p3] (w_X9_away g a0 a1 u0_1 u0_2 u0_3 u0_4 u0_5 u0_6 u0_7 u0_8 u0_9 u0_10 u0_11 u0_12 u0_13 u0_14 u0_15 u0_16 u0_17 u0_18 u0_19 u0_20 u0_21 u0_22 u0_23 u0_24 u0_25 u0_26 u0_27 u0_28 u0_29 u0_30 y1_s) sz (some (.int r)) (w_X9_away g a0 a1 u0_1 u0_2 u0_3 u0_4 u0_5 u0_6 u0_7 u0_8 u0_9 u0_10 u0_11 u0_12 u0_13 u0_14 u0_15 u0_16 u0_17 u0_18 u0_19 u0_20 u0_21 u0_22 u0_23 u0_24 u0_25 u0_26 u0_27 u0_28 u0_29 u0_30 y1_s) := by
  refine MI.start (cc := cX9_away) (maxL := 6) (ret := (some .int)) rfl rfl (nle rfl) ?_
  intro p e s m args below meth c A ls Q hQ hexec hb hr hts hown hlocks hml hA hP hD hG hS hl
  unfold f_X9_away at hf
  have hWX9 : ∀ w ∈ wsX90, w.before args s = true := fun w h => hts w (List.mem_cons_of_mem _ (List.mem_append_right _ h))
  have hS : va_S A s.heap s.heap [] := hS
  refine lv_iload_n (pc := 0) hexec hb dX9_away_0 rfl (lv_at hl 1 rfl) ?_
  refine lv_aload_n (pc := 1) hexec hb dX9_away_1 rfl (lv_at hl 0 rfl) ?_
  refine kg_get (pc := 2) hexec hb (own := RX9) hWX9 hown hG hP 0 rfl rfl 0 (nle rfl) (hts _ (List.mem_cons_of_mem _ (List.mem_append_left _ (List.mem_of_getElem? (i := 0) rfl)))) rfl rfl dX9_away_2 ?_
  refine lv_iconst (pc := 5) hexec hb dX9_away_5 ki_1 ?_
  refine kr_iald (pc := 6) hexec hb hG hP 1 rfl hf dX9_away_6 (fun hf => ?_)
  refine kd_idiv (pc := 7) hexec hb dX9_away_7 hf (fun hf => ?_)
  obtain ⟨v4, ev4, hf⟩ := bv_e hf
  refine kn_i ev4 ?_
  refine lv_istore (pc := 8) hexec hb dX9_away_8 hl (nle rfl) rfl (fun ls (hl : lv_has ls 6 [(4, .int v4), (0, .ref a0), (1, .int p1), (2, .int p2), (3, .int p3)]) => ?_)
  refine lv_iload_n (pc := 10) hexec hb dX9_away_10 rfl (lv_at hl 2 rfl) ?_
  refine lv_aload_n (pc := 11) hexec hb dX9_away_11 rfl (lv_at hl 1 rfl) ?_
  refine kg_get (pc := 12) hexec hb (own := RX9) hWX9 hown hG hP 0 rfl rfl 0 (nle rfl) (hts _ (List.mem_cons_of_mem _ (List.mem_append_left _ (List.mem_of_getElem? (i := 0) rfl)))) rfl rfl dX9_away_12 ?_
  refine lv_iconst (pc := 15) hexec hb dX9_away_15 ki_1 ?_
  refine kr_iald (pc := 16) hexec hb hG hP 1 rfl hf dX9_away_16 (fun hf => ?_)
  refine kd_irem (pc := 17) hexec hb dX9_away_17 hf (fun hf => ?_)
  obtain ⟨v5, ev5, hf⟩ := bv_e hf
  refine kn_i ev5 ?_
  refine lv_istore (pc := 18) hexec hb dX9_away_18 hl (nle rfl) rfl (fun ls (hl : lv_has ls 6 [(5, .int v5), (4, .int v4), (0, .ref a0), (1, .int p1), (2, .int p2), (3, .int p3)]) => ?_)
  refine lv_iload (pc := 20) hexec hb dX9_away_20 (lv_at hl 1 rfl) ?_
  refine lv_iload_n (pc := 22) hexec hb dX9_away_22 rfl (lv_at hl 4 rfl) ?_
  obtain ⟨j41, ej41, hf⟩ := bvf1 hf
  have hj41 : ∀ (t41 : Int32) (H : Heap) (locs : List Loc) (ls : Array Slot), j41 t41 = some r → va_P g.1 vwCl (w_X9_away g a0 a1 u0_1 u0_2 u0_3 u0_4 u0_5 u0_6 u0_7 u0_8 u0_9 u0_10 u0_11 u0_12 u0_13 u0_14 u0_15 u0_16 u0_17 u0_18 u0_19 u0_20 u0_21 u0_22 u0_23 u0_24 u0_25 u0_26 u0_27 u0_28 u0_29 u0_30 y1_s) H → va_D A (w_X9_away g a0 a1 u0_1 u0_2 u0_3 u0_4 u0_5 u0_6 u0_7 u0_8 u0_9 u0_10 u0_11 u0_12 u0_13 u0_14 u0_15 u0_16 u0_17 u0_18 u0_19 u0_20 u0_21 u0_22 u0_23 u0_24 u0_25 u0_26 u0_27 u0_28 u0_29 u0_30 y1_s) → va_S A s.heap H locs → lv_has ls 6 [(0, .ref a0), (2, .int p2), (3, .int p3), (5, .int v5)] → W p l e (RM 2 49) s m args below meth c H locs 0 0 Q (F0 m 41 ls [.int t41, .int v4]) := by
    intro t41 H locs ls hf hP hD hS hl
    have hf := (ej41 t41).symm.trans hf
    refine lv_iadd (pc := 41) hexec hb dX9_away_41 ?_
    obtain ⟨v4_1, ev4_1, hf⟩ := bv_e hf
    refine kn_i ev4_1 ?_
    refine lv_istore (pc := 42) hexec hb dX9_away_42 hl (nle rfl) rfl (fun ls (hl : lv_has ls 6 [(4, .int v4_1), (0, .ref a0), (2, .int p2), (3, .int p3), (5, .int v5)]) => ?_)
    refine lv_iload (pc := 44) hexec hb dX9_away_44 (lv_at hl 4 rfl) ?_
    refine lv_iload_n (pc := 46) hexec hb dX9_away_46 rfl (lv_at hl 2 rfl) ?_
    refine lv_iconst (pc := 47) hexec hb dX9_away_47 ki_1 ?_
    obtain ⟨j66, ej66, hf⟩ := bvf1 hf
    have hj66 : ∀ (t66 : Int32) (H : Heap) (locs : List Loc) (ls : Array Slot), j66 t66 = some r → va_P g.1 vwCl (w_X9_away g a0 a1 u0_1 u0_2 u0_3 u0_4 u0_5 u0_6 u0_7 u0_8 u0_9 u0_10 u0_11 u0_12 u0_13 u0_14 u0_15 u0_16 u0_17 u0_18 u0_19 u0_20 u0_21 u0_22 u0_23 u0_24 u0_25 u0_26 u0_27 u0_28 u0_29 u0_30 y1_s) H → va_D A (w_X9_away g a0 a1 u0_1 u0_2 u0_3 u0_4 u0_5 u0_6 u0_7 u0_8 u0_9 u0_10 u0_11 u0_12 u0_13 u0_14 u0_15 u0_16 u0_17 u0_18 u0_19 u0_20 u0_21 u0_22 u0_23 u0_24 u0_25 u0_26 u0_27 u0_28 u0_29 u0_30 y1_s) → va_S A s.heap H locs → lv_has ls 6 [(0, .ref a0), (4, .int v4_1)] → W p l e (RM 2 49) s m args below meth c H locs 0 0 Q (F0 m 66 ls [.int t66, .int v5]) := by
      intro t66 H locs ls hf hP hD hS hl
      have hf := (ej66 t66).symm.trans hf
      refine lv_iadd (pc := 66) hexec hb dX9_away_66 ?_
      obtain ⟨v5_1, ev5_1, hf⟩ := bv_e hf
      refine kn_i ev5_1 ?_
      refine lv_istore (pc := 67) hexec hb dX9_away_67 hl (nle rfl) rfl (fun ls (hl : lv_has ls 6 [(5, .int v5_1), (0, .ref a0), (4, .int v4_1)]) => ?_)
      refine lv_iload (pc := 69) hexec hb dX9_away_69 (lv_at hl 2 rfl) ?_
      refine lv_i2l (pc := 71) hexec hb dX9_away_71 rfl ?_
      refine lv_lconst (pc := 72) hexec hb dX9_away_72 kl_0 ?_
      refine lv_aload_n (pc := 73) hexec hb dX9_away_73 rfl (lv_at hl 1 rfl) ?_
      refine kg_get (pc := 74) hexec hb (own := RX9) hWX9 hown hG hP 0 rfl rfl 0 (nle rfl) (hts _ (List.mem_cons_of_mem _ (List.mem_append_left _ (List.mem_of_getElem? (i := 0) rfl)))) rfl rfl dX9_away_74 ?_
      refine lv_iconst (pc := 77) hexec hb dX9_away_77 ki_0 ?_
      refine kr_iald (pc := 78) hexec hb hG hP 1 rfl hf dX9_away_78 (fun hf => ?_)
      refine lv_iconst (pc := 79) hexec hb dX9_away_79 ki_1 ?_
      refine lv_isub (pc := 80) hexec hb dX9_away_80 ?_
      refine lv_i2l (pc := 81) hexec hb dX9_away_81 rfl ?_
      obtain ⟨r82, hc, hf⟩ := bd1_e hf
      refine kSp (pc := 82) (S := ⟨hexec, hb, hml, hown, hts⟩) hP hD hG hA hS [] [0, 1] [0, 1] (w2 := (w_X9_away g a0 a1 u0_1 u0_2 u0_3 u0_4 u0_5 u0_6 u0_7 u0_8 u0_9 u0_10 u0_11 u0_12 u0_13 u0_14 u0_15 u0_16 u0_17 u0_18 u0_19 u0_20 u0_21 u0_22 u0_23 u0_24 u0_25 u0_26 u0_27 u0_28 u0_29 u0_30 y1_s)) rfl rfl rfl rfl rfl rfl (by decide) (c_X9_isIn l g _ (v4_1.toInt64) 0 ((((y1_s (0 : Int32).toNatClampNeg) - 1)).toInt64) r82 hc) gX9_away_X9_isIn rfl hs_X9_isIn ⟨nle rfl, nle rfl⟩ (rest := []) rfl rfl hl.1 (nle rfl) dX9_away_82 (fun H locs hP hD hS => ?_)
      obtain ⟨j122, ej122, hf⟩ := bvf1 hf
      have hj122 : ∀ (u : Unit) (H : Heap) (locs : List Loc) (ls : Array Slot), j122 u = some r → va_P g.1 vwCl (w_X9_away g a0 a1 u0_1 u0_2 u0_3 u0_4 u0_5 u0_6 u0_7 u0_8 u0_9 u0_10 u0_11 u0_12 u0_13 u0_14 u0_15 u0_16 u0_17 u0_18 u0_19 u0_20 u0_21 u0_22 u0_23 u0_24 u0_25 u0_26 u0_27 u0_28 u0_29 u0_30 y1_s) H → va_D A (w_X9_away g a0 a1 u0_1 u0_2 u0_3 u0_4 u0_5 u0_6 u0_7 u0_8 u0_9 u0_10 u0_11 u0_12 u0_13 u0_14 u0_15 u0_16 u0_17 u0_18 u0_19 u0_20 u0_21 u0_22 u0_23 u0_24 u0_25 u0_26 u0_27 u0_28 u0_29 u0_30 y1_s) → va_S A s.heap H locs → lv_has ls 6 [] → W p l e (RM 2 49) s m args below meth c H locs 0 0 Q (F0 m 122 ls []) := by
        intro u H locs ls hf hP hD hS hl
        have hf := (ej122 u).symm.trans hf
        refine lv_iconst (pc := 122) hexec hb dX9_away_122 ki_m1 ?_
        cases hf
        exact ke_i hQ hexec hb hr hP hD hS dX9_away_123 hlocks
      refine kb_eq (pc := 85) hexec hb dX9_away_85 (tgt := 122) rfl hf (fun hc hf => ?_) (fun hc hf => ?_)
      · exact hj122 _ _ _ _ hf hP hD hS (lv_sub hl [] rfl)
      · refine lv_iload (pc := 88) hexec hb dX9_away_88 (lv_at hl 0 rfl) ?_
        refine lv_i2l (pc := 90) hexec hb dX9_away_90 rfl ?_
        refine lv_lconst (pc := 91) hexec hb dX9_away_91 kl_0 ?_
        refine lv_aload_n (pc := 92) hexec hb dX9_away_92 rfl (lv_at hl 1 rfl) ?_
        refine kg_get (pc := 93) hexec hb (own := RX9) hWX9 hown hG hP 0 rfl rfl 0 (nle rfl) (hts _ (List.mem_cons_of_mem _ (List.mem_append_left _ (List.mem_of_getElem? (i := 0) rfl)))) rfl rfl dX9_away_93 ?_
        refine lv_iconst (pc := 96) hexec hb dX9_away_96 ki_1 ?_
        refine kr_iald (pc := 97) hexec hb hG hP 1 rfl hf dX9_away_97 (fun hf => ?_)
        refine lv_iconst (pc := 98) hexec hb dX9_away_98 ki_1 ?_
        refine lv_isub (pc := 99) hexec hb dX9_away_99 ?_
        refine lv_i2l (pc := 100) hexec hb dX9_away_100 rfl ?_
        obtain ⟨r101, hc, hf⟩ := bd1_e hf
        refine kSp (pc := 101) (S := ⟨hexec, hb, hml, hown, hts⟩) hP hD hG hA hS [] [0, 1] [0, 1] (w2 := (w_X9_away g a0 a1 u0_1 u0_2 u0_3 u0_4 u0_5 u0_6 u0_7 u0_8 u0_9 u0_10 u0_11 u0_12 u0_13 u0_14 u0_15 u0_16 u0_17 u0_18 u0_19 u0_20 u0_21 u0_22 u0_23 u0_24 u0_25 u0_26 u0_27 u0_28 u0_29 u0_30 y1_s)) rfl rfl rfl rfl rfl rfl (by decide) (c_X9_isIn l g _ (v5_1.toInt64) 0 ((((y1_s (1 : Int32).toNatClampNeg) - 1)).toInt64) r101 hc) gX9_away_X9_isIn rfl hs_X9_isIn ⟨nle rfl, nle rfl⟩ (rest := []) rfl rfl hl.1 (nle rfl) dX9_away_101 (fun H locs hP hD hS => ?_)
        refine kb_eq (pc := 104) hexec hb dX9_away_104 (tgt := 122) rfl hf (fun hc hf => ?_) (fun hc hf => ?_)
        · exact hj122 _ _ _ _ hf hP hD hS (lv_sub hl [] rfl)
        · refine lv_aload_n (pc := 107) hexec hb dX9_away_107 rfl (lv_at hl 1 rfl) ?_
          refine kg_get (pc := 108) hexec hb (own := RX9) hWX9 hown hG hP 0 rfl rfl 0 (nle rfl) (hts _ (List.mem_cons_of_mem _ (List.mem_append_left _ (List.mem_of_getElem? (i := 0) rfl)))) rfl rfl dX9_away_108 ?_
          refine lv_iconst (pc := 111) hexec hb dX9_away_111 ki_1 ?_
          refine kr_iald (pc := 112) hexec hb hG hP 1 rfl hf dX9_away_112 (fun hf => ?_)
          refine lv_iload (pc := 113) hexec hb dX9_away_113 (lv_at hl 2 rfl) ?_
          refine lv_imul (pc := 115) hexec hb dX9_away_115 ?_
          refine lv_iload (pc := 116) hexec hb dX9_away_116 (lv_at hl 0 rfl) ?_
          refine lv_iadd (pc := 118) hexec hb dX9_away_118 ?_
          refine lv_goto (pc := 119) hexec hb dX9_away_119 (tgt := 123) rfl ?_
          cases hf
          exact ke_i hQ hexec hb hr hP hD hS dX9_away_123 hlocks
    refine ki_ne (pc := 48) hexec hb dX9_away_48 (tgt := 55) rfl hf (fun hc hf => ?_) (fun hc hf => ?_)
    · refine lv_iload_n (pc := 55) hexec hb dX9_away_55 rfl (lv_at hl 2 rfl) ?_
      refine lv_iconst (pc := 56) hexec hb dX9_away_56 ki_3 ?_
      refine ki_ne (pc := 57) hexec hb dX9_away_57 (tgt := 65) rfl hf (fun hc hf => ?_) (fun hc hf => ?_)
      · refine lv_iconst (pc := 65) hexec hb dX9_away_65 ki_0 ?_
        exact hj66 _ _ _ _ hf hP hD hS (lv_sub hl [1, 0] rfl)
      · refine lv_iload_n (pc := 60) hexec hb dX9_away_60 rfl (lv_at hl 3 rfl) ?_
        refine lv_ineg (pc := 61) hexec hb dX9_away_61 ?_
        refine lv_goto (pc := 62) hexec hb dX9_away_62 (tgt := 66) rfl ?_
        exact hj66 _ _ _ _ hf hP hD hS (lv_sub hl [1, 0] rfl)
    · refine lv_iload_n (pc := 51) hexec hb dX9_away_51 rfl (lv_at hl 3 rfl) ?_
      refine lv_goto (pc := 52) hexec hb dX9_away_52 (tgt := 66) rfl ?_
      exact hj66 _ _ _ _ hf hP hD hS (lv_sub hl [1, 0] rfl)
  refine kb_ne (pc := 23) hexec hb dX9_away_23 (tgt := 31) rfl hf (fun hc hf => ?_) (fun hc hf => ?_)
  · refine lv_iload_n (pc := 31) hexec hb dX9_away_31 rfl (lv_at hl 4 rfl) ?_
    refine lv_iconst (pc := 32) hexec hb dX9_away_32 ki_2 ?_
    refine ki_ne (pc := 33) hexec hb dX9_away_33 (tgt := 40) rfl hf (fun hc hf => ?_) (fun hc hf => ?_)
    · refine lv_iconst (pc := 40) hexec hb dX9_away_40 ki_0 ?_
      exact hj41 _ _ _ _ hf hP hD hS (lv_sub hl [2, 4, 5, 0] rfl)
    · refine lv_iload_n (pc := 36) hexec hb dX9_away_36 rfl (lv_at hl 5 rfl) ?_
      refine lv_goto (pc := 37) hexec hb dX9_away_37 (tgt := 41) rfl ?_
      exact hj41 _ _ _ _ hf hP hD hS (lv_sub hl [2, 4, 5, 0] rfl)
  · refine lv_iload_n (pc := 26) hexec hb dX9_away_26 rfl (lv_at hl 5 rfl) ?_
    refine lv_ineg (pc := 27) hexec hb dX9_away_27 ?_
    refine lv_goto (pc := 28) hexec hb dX9_away_28 (tgt := 41) rfl ?_
    exact hj41 _ _ _ _ hf hP hD hS (lv_sub hl [2, 4, 5, 0] rfl)
abbrev w_X9_isLand (g : GE) (a0 a1 : Nat) (u0_1 u0_2 u0_3 u0_4 u0_5 u0_6 u0_7 u0_8 u0_9 u0_10 u0_11 u0_12 u0_13 u0_14 u0_15 u0_16 u0_17 u0_18 u0_19 u0_20 u0_21 u0_22 u0_23 u0_24 u0_25 u0_26 u0_27 u0_28 u0_29 u0_30 : Value) (y1_s : Nat → Int32) : va_W := [(a0, .inr (9, [.ref a1, u0_1, u0_2, u0_3, u0_4, u0_5, u0_6, u0_7, u0_8, u0_9, u0_10, u0_11, u0_12, u0_13, u0_14, u0_15, u0_16, u0_17, u0_18, u0_19, u0_20, u0_21, u0_22, u0_23, u0_24, u0_25, u0_26, u0_27, u0_28, u0_29, u0_30])), (a1, .inl (g.2.1 0, 552, .inl y1_s))]
set_option maxRecDepth 20000 in
theorem c_X9_isLand (l : Launch) (g : GE) (a0 a1 : Nat) (sz : Nat) (u0_1 u0_2 u0_3 u0_4 u0_5 u0_6 u0_7 u0_8 u0_9 u0_10 u0_11 u0_12 u0_13 u0_14 u0_15 u0_16 u0_17 u0_18 u0_19 u0_20 u0_21 u0_22 u0_23 u0_24 u0_25 u0_26 u0_27 u0_28 u0_29 u0_30 : Value) (y1_s : Nat → Int32) (p1 : Int32)  (r : Int32) (hf : f_X9_isLand y1_s p1 = some r) : MI l g yX9_isLand wsX9_isLand 1 24 [.ref a0, .int p1] (w_X9_isLand g a0 a1 u0_1 u0_2 u0_3 u0_4 u0_5 u0_6 u0_7 u0_8 u0_9 u0_10 u0_11 u0_12 u0_13 u0_14 u0_15 u0_16 u0_17 u0_18 u0_19 u0_20 u0_21 u0_22 u0_23 u0_24 u0_25 u0_26 u0_27 u0_28 u0_29 u0_30 y1_s) sz (some (.int r)) (w_X9_isLand g a0 a1 u0_1 u0_2 u0_3 u0_4 u0_5 u0_6 u0_7 u0_8 u0_9 u0_10 u0_11 u0_12 u0_13 u0_14 u0_15 u0_16 u0_17 u0_18 u0_19 u0_20 u0_21 u0_22 u0_23 u0_24 u0_25 u0_26 u0_27 u0_28 u0_29 u0_30 y1_s) := by
  refine MI.start (cc := cX9_isLand) (maxL := 2) (ret := (some .boolean)) rfl rfl (nle rfl) ?_
  intro p e s m args below meth c A ls Q hQ hexec hb hr hts hown hlocks hml hA hP hD hG hS hl
  unfold f_X9_isLand at hf
  have hWX9 : ∀ w ∈ wsX90, w.before args s = true := fun w h => hts w (List.mem_cons_of_mem _ (List.mem_append_right _ h))
  have hS : va_S A s.heap s.heap [] := hS
  refine lv_iload_n (pc := 0) hexec hb dX9_isLand_0 rfl (lv_at hl 1 rfl) ?_
  refine lv_iconst (pc := 1) hexec hb dX9_isLand_1 ki_m1 ?_
  obtain ⟨j22, ej22, hf⟩ := bvf1 hf
  have hj22 : ∀ (u : Unit) (H : Heap) (locs : List Loc) (ls : Array Slot), j22 u = some r → va_P g.1 vwCl (w_X9_isLand g a0 a1 u0_1 u0_2 u0_3 u0_4 u0_5 u0_6 u0_7 u0_8 u0_9 u0_10 u0_11 u0_12 u0_13 u0_14 u0_15 u0_16 u0_17 u0_18 u0_19 u0_20 u0_21 u0_22 u0_23 u0_24 u0_25 u0_26 u0_27 u0_28 u0_29 u0_30 y1_s) H → va_D A (w_X9_isLand g a0 a1 u0_1 u0_2 u0_3 u0_4 u0_5 u0_6 u0_7 u0_8 u0_9 u0_10 u0_11 u0_12 u0_13 u0_14 u0_15 u0_16 u0_17 u0_18 u0_19 u0_20 u0_21 u0_22 u0_23 u0_24 u0_25 u0_26 u0_27 u0_28 u0_29 u0_30 y1_s) → va_S A s.heap H locs → lv_has ls 2 [] → W p l e (RM 1 24) s m args below meth c H locs 0 0 Q (F0 m 22 ls []) := by
    intro u H locs ls hf hP hD hS hl
    have hf := (ej22 u).symm.trans hf
    refine lv_iconst (pc := 22) hexec hb dX9_isLand_22 ki_0 ?_
    cases hf
    exact ke_z hQ hexec hb hr (.inl rfl) hP hD hS dX9_isLand_23 hlocks
  refine ki_eq (pc := 2) hexec hb dX9_isLand_2 (tgt := 22) rfl hf (fun hc hf => ?_) (fun hc hf => ?_)
  · exact hj22 _ _ _ _ hf hP hD hS (lv_sub hl [] rfl)
  · refine lv_aload_n (pc := 5) hexec hb dX9_isLand_5 rfl (lv_at hl 0 rfl) ?_
    refine kg_get (pc := 6) hexec hb (own := RX9) hWX9 hown hG hP 0 rfl rfl 0 (nle rfl) (hts _ (List.mem_cons_of_mem _ (List.mem_append_left _ (List.mem_of_getElem? (i := 0) rfl)))) rfl rfl dX9_isLand_6 ?_
    refine lv_bipush (pc := 9) hexec hb dX9_isLand_9 kb_8 ?_
    refine lv_iload_n (pc := 11) hexec hb dX9_isLand_11 rfl (lv_at hl 1 rfl) ?_
    refine lv_iadd (pc := 12) hexec hb dX9_isLand_12 ?_
    refine kr_iald (pc := 13) hexec hb hG hP 1 rfl hf dX9_isLand_13 (fun hf => ?_)
    refine lv_iconst (pc := 14) hexec hb dX9_isLand_14 ki_1 ?_
    refine ki_ne (pc := 15) hexec hb dX9_isLand_15 (tgt := 22) rfl hf (fun hc hf => ?_) (fun hc hf => ?_)
    · exact hj22 _ _ _ _ hf hP hD hS (lv_sub hl [] rfl)
    · refine lv_iconst (pc := 18) hexec hb dX9_isLand_18 ki_1 ?_
      refine lv_goto (pc := 19) hexec hb dX9_isLand_19 (tgt := 23) rfl ?_
      cases hf
      exact ke_z hQ hexec hb hr (.inr rfl) hP hD hS dX9_isLand_23 hlocks
abbrev w_X9_riverAt (g : GE) (a0 a1 : Nat) (u0_1 u0_2 u0_3 u0_4 u0_5 u0_6 u0_7 u0_8 u0_9 u0_10 u0_11 u0_12 u0_13 u0_14 u0_15 u0_16 u0_17 u0_18 u0_19 u0_20 u0_21 u0_22 u0_23 u0_24 u0_25 u0_26 u0_27 u0_28 u0_29 u0_30 : Value) (y1_s : Nat → Int32) : va_W := [(a0, .inr (9, [.ref a1, u0_1, u0_2, u0_3, u0_4, u0_5, u0_6, u0_7, u0_8, u0_9, u0_10, u0_11, u0_12, u0_13, u0_14, u0_15, u0_16, u0_17, u0_18, u0_19, u0_20, u0_21, u0_22, u0_23, u0_24, u0_25, u0_26, u0_27, u0_28, u0_29, u0_30])), (a1, .inl (g.2.1 0, 552, .inl y1_s))]
set_option maxRecDepth 20000 in
theorem c_X9_riverAt (l : Launch) (g : GE) (a0 a1 : Nat) (sz : Nat) (u0_1 u0_2 u0_3 u0_4 u0_5 u0_6 u0_7 u0_8 u0_9 u0_10 u0_11 u0_12 u0_13 u0_14 u0_15 u0_16 u0_17 u0_18 u0_19 u0_20 u0_21 u0_22 u0_23 u0_24 u0_25 u0_26 u0_27 u0_28 u0_29 u0_30 : Value) (y1_s : Nat → Int32) (p1 : Int32)  (r : Int32) (hf : f_X9_riverAt y1_s p1 = some r) : MI l g yX9_riverAt wsX9_riverAt 1 24 [.ref a0, .int p1] (w_X9_riverAt g a0 a1 u0_1 u0_2 u0_3 u0_4 u0_5 u0_6 u0_7 u0_8 u0_9 u0_10 u0_11 u0_12 u0_13 u0_14 u0_15 u0_16 u0_17 u0_18 u0_19 u0_20 u0_21 u0_22 u0_23 u0_24 u0_25 u0_26 u0_27 u0_28 u0_29 u0_30 y1_s) sz (some (.int r)) (w_X9_riverAt g a0 a1 u0_1 u0_2 u0_3 u0_4 u0_5 u0_6 u0_7 u0_8 u0_9 u0_10 u0_11 u0_12 u0_13 u0_14 u0_15 u0_16 u0_17 u0_18 u0_19 u0_20 u0_21 u0_22 u0_23 u0_24 u0_25 u0_26 u0_27 u0_28 u0_29 u0_30 y1_s) := by
  refine MI.start (cc := cX9_riverAt) (maxL := 2) (ret := (some .int)) rfl rfl (nle rfl) ?_
  intro p e s m args below meth c A ls Q hQ hexec hb hr hts hown hlocks hml hA hP hD hG hS hl
  unfold f_X9_riverAt at hf
  have hWX9 : ∀ w ∈ wsX90, w.before args s = true := fun w h => hts w (List.mem_cons_of_mem _ (List.mem_append_right _ h))
  have hS : va_S A s.heap s.heap [] := hS
  refine lv_aload_n (pc := 0) hexec hb dX9_riverAt_0 rfl (lv_at hl 0 rfl) ?_
  refine kg_get (pc := 1) hexec hb (own := RX9) hWX9 hown hG hP 0 rfl rfl 0 (nle rfl) (hts _ (List.mem_cons_of_mem _ (List.mem_append_left _ (List.mem_of_getElem? (i := 0) rfl)))) rfl rfl dX9_riverAt_1 ?_
  refine lv_sipush (pc := 4) hexec hb dX9_riverAt_4 ks_152 ?_
  refine lv_iload_n (pc := 7) hexec hb dX9_riverAt_7 rfl (lv_at hl 1 rfl) ?_
  refine lv_iadd (pc := 8) hexec hb dX9_riverAt_8 ?_
  refine kr_iald (pc := 9) hexec hb hG hP 1 rfl hf dX9_riverAt_9 (fun hf => ?_)
  refine lv_iconst (pc := 10) hexec hb dX9_riverAt_10 ki_1 ?_
  refine lv_isub (pc := 11) hexec hb dX9_riverAt_11 ?_
  cases hf
  exact ke_i hQ hexec hb hr hP hD hS dX9_riverAt_12 hlocks
abbrev w_X9_isRiver (g : GE) (a0 a1 : Nat) (u0_1 u0_2 u0_3 u0_4 u0_5 u0_6 u0_7 u0_8 u0_9 u0_10 u0_11 u0_12 u0_13 u0_14 u0_15 u0_16 u0_17 u0_18 u0_19 u0_20 u0_21 u0_22 u0_23 u0_24 u0_25 u0_26 u0_27 u0_28 u0_29 u0_30 : Value) (y1_s : Nat → Int32) : va_W := [(a0, .inr (9, [.ref a1, u0_1, u0_2, u0_3, u0_4, u0_5, u0_6, u0_7, u0_8, u0_9, u0_10, u0_11, u0_12, u0_13, u0_14, u0_15, u0_16, u0_17, u0_18, u0_19, u0_20, u0_21, u0_22, u0_23, u0_24, u0_25, u0_26, u0_27, u0_28, u0_29, u0_30])), (a1, .inl (g.2.1 0, 552, .inl y1_s))]
set_option maxRecDepth 20000 in
theorem c_X9_isRiver (l : Launch) (g : GE) (a0 a1 : Nat) (sz : Nat) (u0_1 u0_2 u0_3 u0_4 u0_5 u0_6 u0_7 u0_8 u0_9 u0_10 u0_11 u0_12 u0_13 u0_14 u0_15 u0_16 u0_17 u0_18 u0_19 u0_20 u0_21 u0_22 u0_23 u0_24 u0_25 u0_26 u0_27 u0_28 u0_29 u0_30 : Value) (y1_s : Nat → Int32) (p1 : Int32)  (r : Int32) (hf : f_X9_isRiver y1_s p1 = some r) : MI l g yX9_isRiver wsX9_isRiver 1 24 [.ref a0, .int p1] (w_X9_isRiver g a0 a1 u0_1 u0_2 u0_3 u0_4 u0_5 u0_6 u0_7 u0_8 u0_9 u0_10 u0_11 u0_12 u0_13 u0_14 u0_15 u0_16 u0_17 u0_18 u0_19 u0_20 u0_21 u0_22 u0_23 u0_24 u0_25 u0_26 u0_27 u0_28 u0_29 u0_30 y1_s) sz (some (.int r)) (w_X9_isRiver g a0 a1 u0_1 u0_2 u0_3 u0_4 u0_5 u0_6 u0_7 u0_8 u0_9 u0_10 u0_11 u0_12 u0_13 u0_14 u0_15 u0_16 u0_17 u0_18 u0_19 u0_20 u0_21 u0_22 u0_23 u0_24 u0_25 u0_26 u0_27 u0_28 u0_29 u0_30 y1_s) := by
  refine MI.start (cc := cX9_isRiver) (maxL := 2) (ret := (some .boolean)) rfl rfl (nle rfl) ?_
  intro p e s m args below meth c A ls Q hQ hexec hb hr hts hown hlocks hml hA hP hD hG hS hl
  unfold f_X9_isRiver at hf
  have hWX9 : ∀ w ∈ wsX90, w.before args s = true := fun w h => hts w (List.mem_cons_of_mem _ (List.mem_append_right _ h))
  have hS : va_S A s.heap s.heap [] := hS
  refine lv_iload_n (pc := 0) hexec hb dX9_isRiver_0 rfl (lv_at hl 1 rfl) ?_
  refine lv_iconst (pc := 1) hexec hb dX9_isRiver_1 ki_m1 ?_
  obtain ⟨j22, ej22, hf⟩ := bvf1 hf
  have hj22 : ∀ (u : Unit) (H : Heap) (locs : List Loc) (ls : Array Slot), j22 u = some r → va_P g.1 vwCl (w_X9_isRiver g a0 a1 u0_1 u0_2 u0_3 u0_4 u0_5 u0_6 u0_7 u0_8 u0_9 u0_10 u0_11 u0_12 u0_13 u0_14 u0_15 u0_16 u0_17 u0_18 u0_19 u0_20 u0_21 u0_22 u0_23 u0_24 u0_25 u0_26 u0_27 u0_28 u0_29 u0_30 y1_s) H → va_D A (w_X9_isRiver g a0 a1 u0_1 u0_2 u0_3 u0_4 u0_5 u0_6 u0_7 u0_8 u0_9 u0_10 u0_11 u0_12 u0_13 u0_14 u0_15 u0_16 u0_17 u0_18 u0_19 u0_20 u0_21 u0_22 u0_23 u0_24 u0_25 u0_26 u0_27 u0_28 u0_29 u0_30 y1_s) → va_S A s.heap H locs → lv_has ls 2 [] → W p l e (RM 1 24) s m args below meth c H locs 0 0 Q (F0 m 22 ls []) := by
    intro u H locs ls hf hP hD hS hl
    have hf := (ej22 u).symm.trans hf
    refine lv_iconst (pc := 22) hexec hb dX9_isRiver_22 ki_0 ?_
    cases hf
    exact ke_z hQ hexec hb hr (.inl rfl) hP hD hS dX9_isRiver_23 hlocks
  refine ki_eq (pc := 2) hexec hb dX9_isRiver_2 (tgt := 22) rfl hf (fun hc hf => ?_) (fun hc hf => ?_)
  · exact hj22 _ _ _ _ hf hP hD hS (lv_sub hl [] rfl)
  · refine lv_aload_n (pc := 5) hexec hb dX9_isRiver_5 rfl (lv_at hl 0 rfl) ?_
    refine kg_get (pc := 6) hexec hb (own := RX9) hWX9 hown hG hP 0 rfl rfl 0 (nle rfl) (hts _ (List.mem_cons_of_mem _ (List.mem_append_left _ (List.mem_of_getElem? (i := 0) rfl)))) rfl rfl dX9_isRiver_6 ?_
    refine lv_sipush (pc := 9) hexec hb dX9_isRiver_9 ks_152 ?_
    refine lv_iload_n (pc := 12) hexec hb dX9_isRiver_12 rfl (lv_at hl 1 rfl) ?_
    refine lv_iadd (pc := 13) hexec hb dX9_isRiver_13 ?_
    refine kr_iald (pc := 14) hexec hb hG hP 1 rfl hf dX9_isRiver_14 (fun hf => ?_)
    refine kb_le (pc := 15) hexec hb dX9_isRiver_15 (tgt := 22) rfl hf (fun hc hf => ?_) (fun hc hf => ?_)
    · exact hj22 _ _ _ _ hf hP hD hS (lv_sub hl [] rfl)
    · refine lv_iconst (pc := 18) hexec hb dX9_isRiver_18 ki_1 ?_
      refine lv_goto (pc := 19) hexec hb dX9_isRiver_19 (tgt := 23) rfl ?_
      cases hf
      exact ke_z hQ hexec hb hr (.inr rfl) hP hD hS dX9_isRiver_23 hlocks
abbrev w_X9_isCoast (g : GE) (a0 a1 : Nat) (u0_1 u0_2 u0_3 u0_4 u0_5 u0_6 u0_7 u0_8 u0_9 u0_10 u0_11 u0_12 u0_13 u0_14 u0_15 u0_16 u0_17 u0_18 u0_19 u0_20 u0_21 u0_22 u0_23 u0_24 u0_25 u0_26 u0_27 u0_28 u0_29 u0_30 : Value) (y1_s : Nat → Int32) : va_W := [(a0, .inr (9, [.ref a1, u0_1, u0_2, u0_3, u0_4, u0_5, u0_6, u0_7, u0_8, u0_9, u0_10, u0_11, u0_12, u0_13, u0_14, u0_15, u0_16, u0_17, u0_18, u0_19, u0_20, u0_21, u0_22, u0_23, u0_24, u0_25, u0_26, u0_27, u0_28, u0_29, u0_30])), (a1, .inl (g.2.1 0, 552, .inl y1_s))]
set_option maxRecDepth 20000 in
theorem c_X9_isCoast (l : Launch) (g : GE) (a0 a1 : Nat) (sz : Nat) (u0_1 u0_2 u0_3 u0_4 u0_5 u0_6 u0_7 u0_8 u0_9 u0_10 u0_11 u0_12 u0_13 u0_14 u0_15 u0_16 u0_17 u0_18 u0_19 u0_20 u0_21 u0_22 u0_23 u0_24 u0_25 u0_26 u0_27 u0_28 u0_29 u0_30 : Value) (y1_s : Nat → Int32) (p1 : Int32)  (r : Int32) (hf : f_X9_isCoast y1_s p1 = some r) : MI l g yX9_isCoast wsX9_isCoast 3 74 [.ref a0, .int p1] (w_X9_isCoast g a0 a1 u0_1 u0_2 u0_3 u0_4 u0_5 u0_6 u0_7 u0_8 u0_9 u0_10 u0_11 u0_12 u0_13 u0_14 u0_15 u0_16 u0_17 u0_18 u0_19 u0_20 u0_21 u0_22 u0_23 u0_24 u0_25 u0_26 u0_27 u0_28 u0_29 u0_30 y1_s) sz (some (.int r)) (w_X9_isCoast g a0 a1 u0_1 u0_2 u0_3 u0_4 u0_5 u0_6 u0_7 u0_8 u0_9 u0_10 u0_11 u0_12 u0_13 u0_14 u0_15 u0_16 u0_17 u0_18 u0_19 u0_20 u0_21 u0_22 u0_23 u0_24 u0_25 u0_26 u0_27 u0_28 u0_29 u0_30 y1_s) := by
  refine MI.start (cc := cX9_isCoast) (maxL := 4) (ret := (some .boolean)) rfl rfl (nle rfl) ?_
  intro p e s m args below meth c A ls Q hQ hexec hb hr hts hown hlocks hml hA hP hD hG hS hl
  unfold f_X9_isCoast at hf
  have hWX9 : ∀ w ∈ wsX90, w.before args s = true := fun w h => hts w (List.mem_cons_of_mem _ (List.mem_append_right _ h))
  have hS : va_S A s.heap s.heap [] := hS
  refine lv_aload_n (pc := 0) hexec hb dX9_isCoast_0 rfl (lv_at hl 0 rfl) ?_
  refine lv_iload_n (pc := 1) hexec hb dX9_isCoast_1 rfl (lv_at hl 1 rfl) ?_
  obtain ⟨r2, hc, hf⟩ := bd1_e hf
  refine kVp (pc := 2) (S := ⟨hexec, hb, hml, hown, hts⟩) hP hD hG hA hS [0, 1] [] [0, 1] (w2 := (w_X9_isCoast g a0 a1 u0_1 u0_2 u0_3 u0_4 u0_5 u0_6 u0_7 u0_8 u0_9 u0_10 u0_11 u0_12 u0_13 u0_14 u0_15 u0_16 u0_17 u0_18 u0_19 u0_20 u0_21 u0_22 u0_23 u0_24 u0_25 u0_26 u0_27 u0_28 u0_29 u0_30 y1_s)) rfl rfl rfl rfl rfl rfl (by decide) (c_X9_isLand l g a0 a1 _ u0_1 u0_2 u0_3 u0_4 u0_5 u0_6 u0_7 u0_8 u0_9 u0_10 u0_11 u0_12 u0_13 u0_14 u0_15 u0_16 u0_17 u0_18 u0_19 u0_20 u0_21 u0_22 u0_23 u0_24 u0_25 u0_26 u0_27 u0_28 u0_29 u0_30 y1_s p1 r2 hc) gX9_isCoast_X9_isLand rfl hv_X9_isLand ⟨nle rfl, nle rfl⟩ 9 0 rfl rfl rfl (rest := []) rfl rfl hl.1 (nle rfl) dX9_isCoast_2 (fun H locs hP hD hS => ?_)
  refine kb_ne (pc := 5) hexec hb dX9_isCoast_5 (tgt := 10) rfl hf (fun hc hf => ?_) (fun hc hf => ?_)
  · refine lv_iconst (pc := 10) hexec hb dX9_isCoast_10 ki_0 ?_
    refine lv_istore_n (pc := 11) hexec hb dX9_isCoast_11 rfl hl (nle rfl) rfl (fun ls (hl : lv_has ls 4 [(2, .int 0), (0, .ref a0), (1, .int p1)]) => ?_)
    refine lv_iconst (pc := 12) hexec hb dX9_isCoast_12 ki_0 ?_
    refine lv_istore_n (pc := 13) hexec hb dX9_isCoast_13 rfl hl (nle rfl) rfl (fun ls (hl : lv_has ls 4 [(3, .int 0), (2, .int 0), (0, .ref a0), (1, .int p1)]) => ?_)
    obtain ⟨l14, el14, hf⟩ := bvf2 hf
    obtain ⟨v2_1, hz, hf⟩ := bd1_e hf
    have hE14 : ∀ (H : Heap) (locs : List Loc) (ls : Array Slot), va_P g.1 vwCl (w_X9_isCoast g a0 a1 u0_1 u0_2 u0_3 u0_4 u0_5 u0_6 u0_7 u0_8 u0_9 u0_10 u0_11 u0_12 u0_13 u0_14 u0_15 u0_16 u0_17 u0_18 u0_19 u0_20 u0_21 u0_22 u0_23 u0_24 u0_25 u0_26 u0_27 u0_28 u0_29 u0_30 y1_s) H → va_D A (w_X9_isCoast g a0 a1 u0_1 u0_2 u0_3 u0_4 u0_5 u0_6 u0_7 u0_8 u0_9 u0_10 u0_11 u0_12 u0_13 u0_14 u0_15 u0_16 u0_17 u0_18 u0_19 u0_20 u0_21 u0_22 u0_23 u0_24 u0_25 u0_26 u0_27 u0_28 u0_29 u0_30 y1_s) → va_S A s.heap H locs → lv_has ls 4 [(2, .int v2_1)] → W p l e (RM 3 74) s m args below meth c H locs 0 0 Q (F0 m 49 ls []) := by
      intro H locs ls hP hD hS hl
      refine lv_iload_n (pc := 49) hexec hb dX9_isCoast_49 rfl (lv_at hl 0 rfl) ?_
      obtain ⟨hx, hf⟩ := zb_e hf
      cases hf
      exact ke_z hQ hexec hb hr hx hP hD hS dX9_isCoast_50 hlocks
    obtain ⟨n, hz⟩ := lq2_e hz
    have hL14 : ∀ (n : Nat) (v2 : Int32) (v3 : Int32) (H : Heap) (locs : List Loc) (ls : Array Slot), it2 l14 n v2 v3 = some v2_1 → va_P g.1 vwCl (w_X9_isCoast g a0 a1 u0_1 u0_2 u0_3 u0_4 u0_5 u0_6 u0_7 u0_8 u0_9 u0_10 u0_11 u0_12 u0_13 u0_14 u0_15 u0_16 u0_17 u0_18 u0_19 u0_20 u0_21 u0_22 u0_23 u0_24 u0_25 u0_26 u0_27 u0_28 u0_29 u0_30 y1_s) H → va_D A (w_X9_isCoast g a0 a1 u0_1 u0_2 u0_3 u0_4 u0_5 u0_6 u0_7 u0_8 u0_9 u0_10 u0_11 u0_12 u0_13 u0_14 u0_15 u0_16 u0_17 u0_18 u0_19 u0_20 u0_21 u0_22 u0_23 u0_24 u0_25 u0_26 u0_27 u0_28 u0_29 u0_30 y1_s) → va_S A s.heap H locs → lv_has ls 4 [(0, .ref a0), (1, .int p1), (2, .int v2), (3, .int v3)] → W p l e (RM 3 74) s m args below meth c H locs 0 0 Q (F0 m 14 ls []) := by
      intro n
      induction n with
      | zero =>
        intro v2 v3 H locs ls hf hP hD hS hl
        exact it2_0 hf
      | succ n14 ih14 =>
        intro v2 v3 H locs ls hf hP hD hS hl
        obtain ⟨q14, hf, hk14⟩ := it2_e hf
        have hf := (el14 v2 v3).symm.trans hf
        refine lv_iload_n (pc := 14) hexec hb dX9_isCoast_14 rfl (lv_at hl 3 rfl) ?_
        refine lv_iconst (pc := 15) hexec hb dX9_isCoast_15 ki_4 ?_
        refine ki_ge (pc := 16) hexec hb dX9_isCoast_16 (tgt := 49) rfl hf (fun hc hf => ?_) (fun hc hf => ?_)
        · cases sr2 hf hk14
          exact hE14 _ _ _ hP hD hS (lv_sub hl [2] rfl)
        · refine lv_iload_n (pc := 19) hexec hb dX9_isCoast_19 rfl (lv_at hl 2 rfl) ?_
          obtain ⟨j42, ej42, hf⟩ := bvf1 hf
          have hj42 : ∀ (t42 : Int32) (H : Heap) (locs : List Loc) (ls : Array Slot), j42 t42 = some q14 → va_P g.1 vwCl (w_X9_isCoast g a0 a1 u0_1 u0_2 u0_3 u0_4 u0_5 u0_6 u0_7 u0_8 u0_9 u0_10 u0_11 u0_12 u0_13 u0_14 u0_15 u0_16 u0_17 u0_18 u0_19 u0_20 u0_21 u0_22 u0_23 u0_24 u0_25 u0_26 u0_27 u0_28 u0_29 u0_30 y1_s) H → va_D A (w_X9_isCoast g a0 a1 u0_1 u0_2 u0_3 u0_4 u0_5 u0_6 u0_7 u0_8 u0_9 u0_10 u0_11 u0_12 u0_13 u0_14 u0_15 u0_16 u0_17 u0_18 u0_19 u0_20 u0_21 u0_22 u0_23 u0_24 u0_25 u0_26 u0_27 u0_28 u0_29 u0_30 y1_s) → va_S A s.heap H locs → lv_has ls 4 [(0, .ref a0), (1, .int p1), (3, .int v3)] → W p l e (RM 3 74) s m args below meth c H locs 0 0 Q (F0 m 42 ls [.int t42]) := by
            intro t42 H locs ls hf hP hD hS hl
            have hf := (ej42 t42).symm.trans hf
            refine lv_istore_n (pc := 42) hexec hb dX9_isCoast_42 rfl hl (nle rfl) rfl (fun ls (hl : lv_has ls 4 [(2, .int t42), (0, .ref a0), (1, .int p1), (3, .int v3)]) => ?_)
            obtain ⟨v3_1, ev3_1, hf⟩ := bv_e hf
            refine k_iinc (pc := 43) hexec hb dX9_isCoast_43 kq_1 hl (k := 3) rfl ev3_1 (nle rfl) rfl (fun ls (hl : lv_has ls 4 [(3, .int v3_1), (2, .int t42), (0, .ref a0), (1, .int p1)]) => ?_)
            refine lv_goto (pc := 46) hexec hb dX9_isCoast_46 (tgt := 14) rfl ?_
            exact ih14 _ _ _ _ _ (sl2 hf hk14) hP hD hS (lv_sub hl [2, 3, 1, 0] rfl)
          obtain ⟨j37, ej37, hf⟩ := bvf1 hf
          have hj37 : ∀ (u : Unit) (H : Heap) (locs : List Loc) (ls : Array Slot), j37 u = some q14 → va_P g.1 vwCl (w_X9_isCoast g a0 a1 u0_1 u0_2 u0_3 u0_4 u0_5 u0_6 u0_7 u0_8 u0_9 u0_10 u0_11 u0_12 u0_13 u0_14 u0_15 u0_16 u0_17 u0_18 u0_19 u0_20 u0_21 u0_22 u0_23 u0_24 u0_25 u0_26 u0_27 u0_28 u0_29 u0_30 y1_s) H → va_D A (w_X9_isCoast g a0 a1 u0_1 u0_2 u0_3 u0_4 u0_5 u0_6 u0_7 u0_8 u0_9 u0_10 u0_11 u0_12 u0_13 u0_14 u0_15 u0_16 u0_17 u0_18 u0_19 u0_20 u0_21 u0_22 u0_23 u0_24 u0_25 u0_26 u0_27 u0_28 u0_29 u0_30 y1_s) → va_S A s.heap H locs → lv_has ls 4 [(0, .ref a0), (1, .int p1), (3, .int v3)] → W p l e (RM 3 74) s m args below meth c H locs 0 0 Q (F0 m 37 ls []) := by
            intro u H locs ls hf hP hD hS hl
            have hf := (ej37 u).symm.trans hf
            refine lv_iconst (pc := 37) hexec hb dX9_isCoast_37 ki_1 ?_
            refine lv_goto (pc := 38) hexec hb dX9_isCoast_38 (tgt := 42) rfl ?_
            exact hj42 _ _ _ _ hf hP hD hS (lv_sub hl [0, 1, 2] rfl)
          refine kb_ne (pc := 20) hexec hb dX9_isCoast_20 (tgt := 37) rfl hf (fun hc hf => ?_) (fun hc hf => ?_)
          · exact hj37 _ _ _ _ hf hP hD hS (lv_sub hl [0, 1, 3] rfl)
          · refine lv_aload_n (pc := 23) hexec hb dX9_isCoast_23 rfl (lv_at hl 0 rfl) ?_
            refine lv_aload_n (pc := 24) hexec hb dX9_isCoast_24 rfl (lv_at hl 0 rfl) ?_
            refine lv_iload_n (pc := 25) hexec hb dX9_isCoast_25 rfl (lv_at hl 1 rfl) ?_
            refine lv_iload_n (pc := 26) hexec hb dX9_isCoast_26 rfl (lv_at hl 3 rfl) ?_
            refine lv_iconst (pc := 27) hexec hb dX9_isCoast_27 ki_1 ?_
            obtain ⟨r28, hc, hf⟩ := bd1_e hf
            refine kVp (pc := 28) (S := ⟨hexec, hb, hml, hown, hts⟩) hP hD hG hA hS [0, 1] [] [0, 1] (w2 := (w_X9_isCoast g a0 a1 u0_1 u0_2 u0_3 u0_4 u0_5 u0_6 u0_7 u0_8 u0_9 u0_10 u0_11 u0_12 u0_13 u0_14 u0_15 u0_16 u0_17 u0_18 u0_19 u0_20 u0_21 u0_22 u0_23 u0_24 u0_25 u0_26 u0_27 u0_28 u0_29 u0_30 y1_s)) rfl rfl rfl rfl rfl rfl (by decide) (c_X9_away l g a0 a1 _ u0_1 u0_2 u0_3 u0_4 u0_5 u0_6 u0_7 u0_8 u0_9 u0_10 u0_11 u0_12 u0_13 u0_14 u0_15 u0_16 u0_17 u0_18 u0_19 u0_20 u0_21 u0_22 u0_23 u0_24 u0_25 u0_26 u0_27 u0_28 u0_29 u0_30 y1_s p1 v3 1 r28 hc) gX9_isCoast_X9_away rfl hv_X9_away ⟨nle rfl, nle rfl⟩ 9 0 rfl rfl rfl (rest := [.ref a0]) rfl rfl hl.1 (nle rfl) dX9_isCoast_28 (fun H locs hP hD hS => ?_)
            obtain ⟨r31, hc, hf⟩ := bd1_e hf
            refine kVp (pc := 31) (S := ⟨hexec, hb, hml, hown, hts⟩) hP hD hG hA hS [0, 1] [] [0, 1] (w2 := (w_X9_isCoast g a0 a1 u0_1 u0_2 u0_3 u0_4 u0_5 u0_6 u0_7 u0_8 u0_9 u0_10 u0_11 u0_12 u0_13 u0_14 u0_15 u0_16 u0_17 u0_18 u0_19 u0_20 u0_21 u0_22 u0_23 u0_24 u0_25 u0_26 u0_27 u0_28 u0_29 u0_30 y1_s)) rfl rfl rfl rfl rfl rfl (by decide) (c_X9_isLand l g a0 a1 _ u0_1 u0_2 u0_3 u0_4 u0_5 u0_6 u0_7 u0_8 u0_9 u0_10 u0_11 u0_12 u0_13 u0_14 u0_15 u0_16 u0_17 u0_18 u0_19 u0_20 u0_21 u0_22 u0_23 u0_24 u0_25 u0_26 u0_27 u0_28 u0_29 u0_30 y1_s r28 r31 hc) gX9_isCoast_X9_isLand rfl hv_X9_isLand ⟨nle rfl, nle rfl⟩ 9 0 rfl rfl rfl (rest := []) rfl rfl hl.1 (nle rfl) dX9_isCoast_31 (fun H locs hP hD hS => ?_)
            refine kb_ne (pc := 34) hexec hb dX9_isCoast_34 (tgt := 41) rfl hf (fun hc hf => ?_) (fun hc hf => ?_)
            · refine lv_iconst (pc := 41) hexec hb dX9_isCoast_41 ki_0 ?_
              exact hj42 _ _ _ _ hf hP hD hS (lv_sub hl [0, 1, 3] rfl)
            · exact hj37 _ _ _ _ hf hP hD hS (lv_sub hl [0, 1, 3] rfl)
    exact hL14 n _ _ _ _ _ hz hP hD hS (lv_sub hl [2, 3, 1, 0] rfl)
  · refine lv_iconst (pc := 8) hexec hb dX9_isCoast_8 ki_0 ?_
    cases hf
    exact ke_z hQ hexec hb hr (.inl rfl) hP hD hS dX9_isCoast_9 hlocks
abbrev w_X9_depthOf (g : GE) (a0 a1 : Nat) (u0_1 u0_2 u0_3 u0_4 u0_5 u0_6 u0_7 u0_8 u0_9 u0_10 u0_11 u0_12 u0_13 u0_14 u0_15 u0_16 u0_17 u0_18 u0_19 u0_20 u0_21 u0_22 u0_23 u0_24 u0_25 u0_26 u0_27 u0_28 u0_29 u0_30 : Value) (y1_s : Nat → Int32) : va_W := [(a0, .inr (9, [.ref a1, u0_1, u0_2, u0_3, u0_4, u0_5, u0_6, u0_7, u0_8, u0_9, u0_10, u0_11, u0_12, u0_13, u0_14, u0_15, u0_16, u0_17, u0_18, u0_19, u0_20, u0_21, u0_22, u0_23, u0_24, u0_25, u0_26, u0_27, u0_28, u0_29, u0_30])), (a1, .inl (g.2.1 0, 552, .inl y1_s))]
set_option maxRecDepth 20000 in
theorem c_X9_depthOf (l : Launch) (g : GE) (a0 a1 : Nat) (sz : Nat) (u0_1 u0_2 u0_3 u0_4 u0_5 u0_6 u0_7 u0_8 u0_9 u0_10 u0_11 u0_12 u0_13 u0_14 u0_15 u0_16 u0_17 u0_18 u0_19 u0_20 u0_21 u0_22 u0_23 u0_24 u0_25 u0_26 u0_27 u0_28 u0_29 u0_30 : Value) (y1_s : Nat → Int32) (p1 : Int32)  (r : Int32) (hf : f_X9_depthOf y1_s p1 = some r) : MI l g yX9_depthOf wsX9_depthOf 2 45 [.ref a0, .int p1] (w_X9_depthOf g a0 a1 u0_1 u0_2 u0_3 u0_4 u0_5 u0_6 u0_7 u0_8 u0_9 u0_10 u0_11 u0_12 u0_13 u0_14 u0_15 u0_16 u0_17 u0_18 u0_19 u0_20 u0_21 u0_22 u0_23 u0_24 u0_25 u0_26 u0_27 u0_28 u0_29 u0_30 y1_s) sz (some (.int r)) (w_X9_depthOf g a0 a1 u0_1 u0_2 u0_3 u0_4 u0_5 u0_6 u0_7 u0_8 u0_9 u0_10 u0_11 u0_12 u0_13 u0_14 u0_15 u0_16 u0_17 u0_18 u0_19 u0_20 u0_21 u0_22 u0_23 u0_24 u0_25 u0_26 u0_27 u0_28 u0_29 u0_30 y1_s) := by
  refine MI.start (cc := cX9_depthOf) (maxL := 6) (ret := (some .int)) rfl rfl (nle rfl) ?_
  intro p e s m args below meth c A ls Q hQ hexec hb hr hts hown hlocks hml hA hP hD hG hS hl
  unfold f_X9_depthOf at hf
  have hWX9 : ∀ w ∈ wsX90, w.before args s = true := fun w h => hts w (List.mem_cons_of_mem _ (List.mem_append_right _ h))
  have hS : va_S A s.heap s.heap [] := hS
  refine lv_iload_n (pc := 0) hexec hb dX9_depthOf_0 rfl (lv_at hl 1 rfl) ?_
  refine lv_aload_n (pc := 1) hexec hb dX9_depthOf_1 rfl (lv_at hl 0 rfl) ?_
  refine kg_get (pc := 2) hexec hb (own := RX9) hWX9 hown hG hP 0 rfl rfl 0 (nle rfl) (hts _ (List.mem_cons_of_mem _ (List.mem_append_left _ (List.mem_of_getElem? (i := 0) rfl)))) rfl rfl dX9_depthOf_2 ?_
  refine lv_iconst (pc := 5) hexec hb dX9_depthOf_5 ki_1 ?_
  refine kr_iald (pc := 6) hexec hb hG hP 1 rfl hf dX9_depthOf_6 (fun hf => ?_)
  refine kd_idiv (pc := 7) hexec hb dX9_depthOf_7 hf (fun hf => ?_)
  obtain ⟨v2, ev2, hf⟩ := bv_e hf
  refine kn_i ev2 ?_
  refine lv_istore_n (pc := 8) hexec hb dX9_depthOf_8 rfl hl (nle rfl) rfl (fun ls (hl : lv_has ls 6 [(2, .int v2), (0, .ref a0), (1, .int p1)]) => ?_)
  refine lv_iload_n (pc := 9) hexec hb dX9_depthOf_9 rfl (lv_at hl 2 rfl) ?_
  refine lv_aload_n (pc := 10) hexec hb dX9_depthOf_10 rfl (lv_at hl 1 rfl) ?_
  refine kg_get (pc := 11) hexec hb (own := RX9) hWX9 hown hG hP 0 rfl rfl 0 (nle rfl) (hts _ (List.mem_cons_of_mem _ (List.mem_append_left _ (List.mem_of_getElem? (i := 0) rfl)))) rfl rfl dX9_depthOf_11 ?_
  refine lv_iconst (pc := 14) hexec hb dX9_depthOf_14 ki_1 ?_
  refine kr_iald (pc := 15) hexec hb hG hP 1 rfl hf dX9_depthOf_15 (fun hf => ?_)
  refine kd_irem (pc := 16) hexec hb dX9_depthOf_16 hf (fun hf => ?_)
  obtain ⟨v3, ev3, hf⟩ := bv_e hf
  refine kn_i ev3 ?_
  refine lv_istore_n (pc := 17) hexec hb dX9_depthOf_17 rfl hl (nle rfl) rfl (fun ls (hl : lv_has ls 6 [(3, .int v3), (2, .int v2), (0, .ref a0), (1, .int p1)]) => ?_)
  refine lv_iload_n (pc := 18) hexec hb dX9_depthOf_18 rfl (lv_at hl 1 rfl) ?_
  refine lv_iconst (pc := 19) hexec hb dX9_depthOf_19 ki_1 ?_
  refine lv_iadd (pc := 20) hexec hb dX9_depthOf_20 ?_
  refine lv_aload_n (pc := 21) hexec hb dX9_depthOf_21 rfl (lv_at hl 2 rfl) ?_
  refine kg_get (pc := 22) hexec hb (own := RX9) hWX9 hown hG hP 0 rfl rfl 0 (nle rfl) (hts _ (List.mem_cons_of_mem _ (List.mem_append_left _ (List.mem_of_getElem? (i := 0) rfl)))) rfl rfl dX9_depthOf_22 ?_
  refine lv_iconst (pc := 25) hexec hb dX9_depthOf_25 ki_0 ?_
  refine kr_iald (pc := 26) hexec hb hG hP 1 rfl hf dX9_depthOf_26 (fun hf => ?_)
  refine lv_iload_n (pc := 27) hexec hb dX9_depthOf_27 rfl (lv_at hl 1 rfl) ?_
  refine lv_isub (pc := 28) hexec hb dX9_depthOf_28 ?_
  refine va_mmin (pc := 29) hexec hb (hml.trans hl.1.symm) (own := RX9) hown (hts _ (List.mem_cons_of_mem _ (List.mem_append_left _ (List.mem_of_getElem? (i := 1) rfl)))) (hts _ (List.mem_cons_of_mem _ (List.mem_append_left _ (List.mem_of_getElem? (i := 2) rfl)))) (hts _ (List.mem_cons_of_mem _ (List.mem_append_left _ (List.mem_of_getElem? (i := 3) rfl)))) (hts _ (List.mem_cons_of_mem _ (List.mem_append_left _ (List.mem_of_getElem? (i := 4) rfl)))) (nle rfl) (nle rfl) (nle rfl) (nle rfl) dX9_depthOf_29 ?_
  refine lv_iload_n (pc := 32) hexec hb dX9_depthOf_32 rfl (lv_at hl 0 rfl) ?_
  refine lv_iconst (pc := 33) hexec hb dX9_depthOf_33 ki_1 ?_
  refine lv_iadd (pc := 34) hexec hb dX9_depthOf_34 ?_
  refine lv_aload_n (pc := 35) hexec hb dX9_depthOf_35 rfl (lv_at hl 2 rfl) ?_
  refine kg_get (pc := 36) hexec hb (own := RX9) hWX9 hown hG hP 0 rfl rfl 0 (nle rfl) (hts _ (List.mem_cons_of_mem _ (List.mem_append_left _ (List.mem_of_getElem? (i := 0) rfl)))) rfl rfl dX9_depthOf_36 ?_
  refine lv_iconst (pc := 39) hexec hb dX9_depthOf_39 ki_1 ?_
  refine kr_iald (pc := 40) hexec hb hG hP 1 rfl hf dX9_depthOf_40 (fun hf => ?_)
  refine lv_iload_n (pc := 41) hexec hb dX9_depthOf_41 rfl (lv_at hl 0 rfl) ?_
  refine lv_isub (pc := 42) hexec hb dX9_depthOf_42 ?_
  refine va_mmin (pc := 43) hexec hb (hml.trans hl.1.symm) (own := RX9) hown (hts _ (List.mem_cons_of_mem _ (List.mem_append_left _ (List.mem_of_getElem? (i := 1) rfl)))) (hts _ (List.mem_cons_of_mem _ (List.mem_append_left _ (List.mem_of_getElem? (i := 2) rfl)))) (hts _ (List.mem_cons_of_mem _ (List.mem_append_left _ (List.mem_of_getElem? (i := 3) rfl)))) (hts _ (List.mem_cons_of_mem _ (List.mem_append_left _ (List.mem_of_getElem? (i := 4) rfl)))) (nle rfl) (nle rfl) (nle rfl) (nle rfl) dX9_depthOf_43 ?_
  refine va_mmin (pc := 46) hexec hb (hml.trans hl.1.symm) (own := RX9) hown (hts _ (List.mem_cons_of_mem _ (List.mem_append_left _ (List.mem_of_getElem? (i := 1) rfl)))) (hts _ (List.mem_cons_of_mem _ (List.mem_append_left _ (List.mem_of_getElem? (i := 2) rfl)))) (hts _ (List.mem_cons_of_mem _ (List.mem_append_left _ (List.mem_of_getElem? (i := 3) rfl)))) (hts _ (List.mem_cons_of_mem _ (List.mem_append_left _ (List.mem_of_getElem? (i := 4) rfl)))) (nle rfl) (nle rfl) (nle rfl) (nle rfl) dX9_depthOf_46 ?_
  obtain ⟨v4, ev4, hf⟩ := bv_e hf
  refine kn_i ev4 ?_
  refine lv_istore (pc := 49) hexec hb dX9_depthOf_49 hl (nle rfl) rfl (fun ls (hl : lv_has ls 6 [(4, .int v4), (3, .int v3), (2, .int v2), (0, .ref a0), (1, .int p1)]) => ?_)
  refine lv_iconst (pc := 51) hexec hb dX9_depthOf_51 ki_0 ?_
  refine lv_istore (pc := 52) hexec hb dX9_depthOf_52 hl (nle rfl) rfl (fun ls (hl : lv_has ls 6 [(5, .int 0), (4, .int v4), (3, .int v3), (2, .int v2), (0, .ref a0), (1, .int p1)]) => ?_)
  obtain ⟨l54, el54, hf⟩ := bvf2 hf
  obtain ⟨v4_2, hz, hf⟩ := bd1_e hf
  have hE54 : ∀ (H : Heap) (locs : List Loc) (ls : Array Slot), va_P g.1 vwCl (w_X9_depthOf g a0 a1 u0_1 u0_2 u0_3 u0_4 u0_5 u0_6 u0_7 u0_8 u0_9 u0_10 u0_11 u0_12 u0_13 u0_14 u0_15 u0_16 u0_17 u0_18 u0_19 u0_20 u0_21 u0_22 u0_23 u0_24 u0_25 u0_26 u0_27 u0_28 u0_29 u0_30 y1_s) H → va_D A (w_X9_depthOf g a0 a1 u0_1 u0_2 u0_3 u0_4 u0_5 u0_6 u0_7 u0_8 u0_9 u0_10 u0_11 u0_12 u0_13 u0_14 u0_15 u0_16 u0_17 u0_18 u0_19 u0_20 u0_21 u0_22 u0_23 u0_24 u0_25 u0_26 u0_27 u0_28 u0_29 u0_30 y1_s) → va_S A s.heap H locs → lv_has ls 6 [(4, .int v4_2)] → W p l e (RM 2 45) s m args below meth c H locs 0 0 Q (F0 m 114 ls []) := by
    intro H locs ls hP hD hS hl
    refine lv_iload (pc := 114) hexec hb dX9_depthOf_114 (lv_at hl 0 rfl) ?_
    cases hf
    exact ke_i hQ hexec hb hr hP hD hS dX9_depthOf_116 hlocks
  obtain ⟨n, hz⟩ := lq2_e hz
  have hL54 : ∀ (n : Nat) (v4_1 : Int32) (v5 : Int32) (H : Heap) (locs : List Loc) (ls : Array Slot), it2 l54 n v4_1 v5 = some v4_2 → va_P g.1 vwCl (w_X9_depthOf g a0 a1 u0_1 u0_2 u0_3 u0_4 u0_5 u0_6 u0_7 u0_8 u0_9 u0_10 u0_11 u0_12 u0_13 u0_14 u0_15 u0_16 u0_17 u0_18 u0_19 u0_20 u0_21 u0_22 u0_23 u0_24 u0_25 u0_26 u0_27 u0_28 u0_29 u0_30 y1_s) H → va_D A (w_X9_depthOf g a0 a1 u0_1 u0_2 u0_3 u0_4 u0_5 u0_6 u0_7 u0_8 u0_9 u0_10 u0_11 u0_12 u0_13 u0_14 u0_15 u0_16 u0_17 u0_18 u0_19 u0_20 u0_21 u0_22 u0_23 u0_24 u0_25 u0_26 u0_27 u0_28 u0_29 u0_30 y1_s) → va_S A s.heap H locs → lv_has ls 6 [(0, .ref a0), (2, .int v2), (3, .int v3), (4, .int v4_1), (5, .int v5)] → W p l e (RM 2 45) s m args below meth c H locs 0 0 Q (F0 m 54 ls []) := by
    intro n
    induction n with
    | zero =>
      intro v4_1 v5 H locs ls hf hP hD hS hl
      exact it2_0 hf
    | succ n54 ih54 =>
      intro v4_1 v5 H locs ls hf hP hD hS hl
      obtain ⟨q54, hf, hk54⟩ := it2_e hf
      have hf := (el54 v4_1 v5).symm.trans hf
      refine lv_iload (pc := 54) hexec hb dX9_depthOf_54 (lv_at hl 4 rfl) ?_
      refine lv_aload_n (pc := 56) hexec hb dX9_depthOf_56 rfl (lv_at hl 0 rfl) ?_
      obtain ⟨r57, hc, hf⟩ := bd1_e hf
      refine kVp (pc := 57) (S := ⟨hexec, hb, hml, hown, hts⟩) hP hD hG hA hS [0, 1] [] [0, 1] (w2 := (w_X9_depthOf g a0 a1 u0_1 u0_2 u0_3 u0_4 u0_5 u0_6 u0_7 u0_8 u0_9 u0_10 u0_11 u0_12 u0_13 u0_14 u0_15 u0_16 u0_17 u0_18 u0_19 u0_20 u0_21 u0_22 u0_23 u0_24 u0_25 u0_26 u0_27 u0_28 u0_29 u0_30 y1_s)) rfl rfl rfl rfl rfl rfl (by decide) (c_X9_cells l g a0 a1 _ u0_1 u0_2 u0_3 u0_4 u0_5 u0_6 u0_7 u0_8 u0_9 u0_10 u0_11 u0_12 u0_13 u0_14 u0_15 u0_16 u0_17 u0_18 u0_19 u0_20 u0_21 u0_22 u0_23 u0_24 u0_25 u0_26 u0_27 u0_28 u0_29 u0_30 y1_s r57 hc) gX9_depthOf_X9_cells rfl hv_X9_cells ⟨nle rfl, nle rfl⟩ 9 0 rfl rfl rfl (rest := [.int v5]) rfl rfl hl.1 (nle rfl) dX9_depthOf_57 (fun H locs hP hD hS => ?_)
      refine ki_ge (pc := 60) hexec hb dX9_depthOf_60 (tgt := 114) rfl hf (fun hc hf => ?_) (fun hc hf => ?_)
      · cases sr2 hf hk54
        exact hE54 _ _ _ hP hD hS (lv_sub hl [3] rfl)
      · refine lv_aload_n (pc := 63) hexec hb dX9_depthOf_63 rfl (lv_at hl 0 rfl) ?_
        refine lv_iload (pc := 64) hexec hb dX9_depthOf_64 (lv_at hl 4 rfl) ?_
        obtain ⟨r66, hc, hf⟩ := bd1_e hf
        refine kVp (pc := 66) (S := ⟨hexec, hb, hml, hown, hts⟩) hP hD hG hA hS [0, 1] [] [0, 1] (w2 := (w_X9_depthOf g a0 a1 u0_1 u0_2 u0_3 u0_4 u0_5 u0_6 u0_7 u0_8 u0_9 u0_10 u0_11 u0_12 u0_13 u0_14 u0_15 u0_16 u0_17 u0_18 u0_19 u0_20 u0_21 u0_22 u0_23 u0_24 u0_25 u0_26 u0_27 u0_28 u0_29 u0_30 y1_s)) rfl rfl rfl rfl rfl rfl (by decide) (c_X9_isLand l g a0 a1 _ u0_1 u0_2 u0_3 u0_4 u0_5 u0_6 u0_7 u0_8 u0_9 u0_10 u0_11 u0_12 u0_13 u0_14 u0_15 u0_16 u0_17 u0_18 u0_19 u0_20 u0_21 u0_22 u0_23 u0_24 u0_25 u0_26 u0_27 u0_28 u0_29 u0_30 y1_s v5 r66 hc) gX9_depthOf_X9_isLand rfl hv_X9_isLand ⟨nle rfl, nle rfl⟩ 9 0 rfl rfl rfl (rest := []) rfl rfl hl.1 (nle rfl) dX9_depthOf_66 (fun H locs hP hD hS => ?_)
        obtain ⟨j108, ej108, hf⟩ := bvf1 hf
        have hj108 : ∀ (v4_3 : Int32) (H : Heap) (locs : List Loc) (ls : Array Slot), j108 v4_3 = some q54 → va_P g.1 vwCl (w_X9_depthOf g a0 a1 u0_1 u0_2 u0_3 u0_4 u0_5 u0_6 u0_7 u0_8 u0_9 u0_10 u0_11 u0_12 u0_13 u0_14 u0_15 u0_16 u0_17 u0_18 u0_19 u0_20 u0_21 u0_22 u0_23 u0_24 u0_25 u0_26 u0_27 u0_28 u0_29 u0_30 y1_s) H → va_D A (w_X9_depthOf g a0 a1 u0_1 u0_2 u0_3 u0_4 u0_5 u0_6 u0_7 u0_8 u0_9 u0_10 u0_11 u0_12 u0_13 u0_14 u0_15 u0_16 u0_17 u0_18 u0_19 u0_20 u0_21 u0_22 u0_23 u0_24 u0_25 u0_26 u0_27 u0_28 u0_29 u0_30 y1_s) → va_S A s.heap H locs → lv_has ls 6 [(0, .ref a0), (2, .int v2), (3, .int v3), (4, .int v4_3), (5, .int v5)] → W p l e (RM 2 45) s m args below meth c H locs 0 0 Q (F0 m 108 ls []) := by
          intro v4_3 H locs ls hf hP hD hS hl
          have hf := (ej108 v4_3).symm.trans hf
          obtain ⟨v5_1, ev5_1, hf⟩ := bv_e hf
          refine k_iinc (pc := 108) hexec hb dX9_depthOf_108 kq_1 hl (k := 4) rfl ev5_1 (nle rfl) rfl (fun ls (hl : lv_has ls 6 [(5, .int v5_1), (0, .ref a0), (2, .int v2), (3, .int v3), (4, .int v4_3)]) => ?_)
          refine lv_goto (pc := 111) hexec hb dX9_depthOf_111 (tgt := 54) rfl ?_
          exact ih54 _ _ _ _ _ (sl2 hf hk54) hP hD hS (lv_sub hl [1, 2, 3, 4, 0] rfl)
        refine kb_ne (pc := 69) hexec hb dX9_depthOf_69 (tgt := 108) rfl hf (fun hc hf => ?_) (fun hc hf => ?_)
        · exact hj108 _ _ _ _ hf hP hD hS (lv_sub hl [0, 1, 2, 3, 4] rfl)
        · refine lv_iload (pc := 72) hexec hb dX9_depthOf_72 (lv_at hl 3 rfl) ?_
          refine lv_iload (pc := 74) hexec hb dX9_depthOf_74 (lv_at hl 4 rfl) ?_
          refine lv_aload_n (pc := 76) hexec hb dX9_depthOf_76 rfl (lv_at hl 0 rfl) ?_
          refine kg_get (pc := 77) hexec hb (own := RX9) hWX9 hown hG hP 0 rfl rfl 0 (nle rfl) (hts _ (List.mem_cons_of_mem _ (List.mem_append_left _ (List.mem_of_getElem? (i := 0) rfl)))) rfl rfl dX9_depthOf_77 ?_
          refine lv_iconst (pc := 80) hexec hb dX9_depthOf_80 ki_1 ?_
          refine kr_iald (pc := 81) hexec hb hG hP 1 rfl hf dX9_depthOf_81 (fun hf => ?_)
          refine kd_idiv (pc := 82) hexec hb dX9_depthOf_82 hf (fun hf => ?_)
          refine lv_iload_n (pc := 83) hexec hb dX9_depthOf_83 rfl (lv_at hl 1 rfl) ?_
          refine lv_isub (pc := 84) hexec hb dX9_depthOf_84 ?_
          refine va_mabs (pc := 85) hexec hb (hml.trans hl.1.symm) (own := RX9) hown (hts _ (List.mem_cons_of_mem _ (List.mem_append_left _ (List.mem_of_getElem? (i := 5) rfl)))) (hts _ (List.mem_cons_of_mem _ (List.mem_append_left _ (List.mem_of_getElem? (i := 6) rfl)))) (hts _ (List.mem_cons_of_mem _ (List.mem_append_left _ (List.mem_of_getElem? (i := 3) rfl)))) (hts _ (List.mem_cons_of_mem _ (List.mem_append_left _ (List.mem_of_getElem? (i := 7) rfl)))) (nle rfl) (nle rfl) (nle rfl) (nle rfl) dX9_depthOf_85 ?_
          refine lv_iload (pc := 88) hexec hb dX9_depthOf_88 (lv_at hl 4 rfl) ?_
          refine lv_aload_n (pc := 90) hexec hb dX9_depthOf_90 rfl (lv_at hl 0 rfl) ?_
          refine kg_get (pc := 91) hexec hb (own := RX9) hWX9 hown hG hP 0 rfl rfl 0 (nle rfl) (hts _ (List.mem_cons_of_mem _ (List.mem_append_left _ (List.mem_of_getElem? (i := 0) rfl)))) rfl rfl dX9_depthOf_91 ?_
          refine lv_iconst (pc := 94) hexec hb dX9_depthOf_94 ki_1 ?_
          refine kr_iald (pc := 95) hexec hb hG hP 1 rfl hf dX9_depthOf_95 (fun hf => ?_)
          refine kd_irem (pc := 96) hexec hb dX9_depthOf_96 hf (fun hf => ?_)
          refine lv_iload_n (pc := 97) hexec hb dX9_depthOf_97 rfl (lv_at hl 2 rfl) ?_
          refine lv_isub (pc := 98) hexec hb dX9_depthOf_98 ?_
          refine va_mabs (pc := 99) hexec hb (hml.trans hl.1.symm) (own := RX9) hown (hts _ (List.mem_cons_of_mem _ (List.mem_append_left _ (List.mem_of_getElem? (i := 5) rfl)))) (hts _ (List.mem_cons_of_mem _ (List.mem_append_left _ (List.mem_of_getElem? (i := 6) rfl)))) (hts _ (List.mem_cons_of_mem _ (List.mem_append_left _ (List.mem_of_getElem? (i := 3) rfl)))) (hts _ (List.mem_cons_of_mem _ (List.mem_append_left _ (List.mem_of_getElem? (i := 7) rfl)))) (nle rfl) (nle rfl) (nle rfl) (nle rfl) dX9_depthOf_99 ?_
          refine lv_iadd (pc := 102) hexec hb dX9_depthOf_102 ?_
          refine va_mmin (pc := 103) hexec hb (hml.trans hl.1.symm) (own := RX9) hown (hts _ (List.mem_cons_of_mem _ (List.mem_append_left _ (List.mem_of_getElem? (i := 1) rfl)))) (hts _ (List.mem_cons_of_mem _ (List.mem_append_left _ (List.mem_of_getElem? (i := 2) rfl)))) (hts _ (List.mem_cons_of_mem _ (List.mem_append_left _ (List.mem_of_getElem? (i := 3) rfl)))) (hts _ (List.mem_cons_of_mem _ (List.mem_append_left _ (List.mem_of_getElem? (i := 4) rfl)))) (nle rfl) (nle rfl) (nle rfl) (nle rfl) dX9_depthOf_103 ?_
          obtain ⟨v4_4, ev4_4, hf⟩ := bv_e hf
          refine kn_i ev4_4 ?_
          refine lv_istore (pc := 106) hexec hb dX9_depthOf_106 hl (nle rfl) rfl (fun ls (hl : lv_has ls 6 [(4, .int v4_4), (0, .ref a0), (2, .int v2), (3, .int v3), (5, .int v5)]) => ?_)
          exact hj108 _ _ _ _ hf hP hD hS (lv_sub hl [1, 2, 3, 0, 4] rfl)
  exact hL54 n _ _ _ _ _ hz hP hD hS (lv_sub hl [4, 3, 2, 1, 0] rfl)
abbrev w_X9_of (g : GE) (a0 a1 : Nat) (u0_1 u0_2 u0_3 u0_4 u0_5 u0_6 u0_7 u0_8 u0_9 u0_10 u0_11 u0_12 u0_13 u0_14 u0_15 u0_16 u0_17 u0_18 u0_19 u0_20 u0_21 u0_22 u0_23 u0_24 u0_25 u0_26 u0_27 u0_28 u0_29 u0_30 : Value) (y1_s : Nat → Int32) : va_W := [(a0, .inr (9, [.ref a1, u0_1, u0_2, u0_3, u0_4, u0_5, u0_6, u0_7, u0_8, u0_9, u0_10, u0_11, u0_12, u0_13, u0_14, u0_15, u0_16, u0_17, u0_18, u0_19, u0_20, u0_21, u0_22, u0_23, u0_24, u0_25, u0_26, u0_27, u0_28, u0_29, u0_30])), (a1, .inl (g.2.1 0, 552, .inl y1_s))]
set_option maxRecDepth 20000 in
theorem c_X9_of (l : Launch) (g : GE) (a0 a1 : Nat) (sz : Nat) (u0_1 u0_2 u0_3 u0_4 u0_5 u0_6 u0_7 u0_8 u0_9 u0_10 u0_11 u0_12 u0_13 u0_14 u0_15 u0_16 u0_17 u0_18 u0_19 u0_20 u0_21 u0_22 u0_23 u0_24 u0_25 u0_26 u0_27 u0_28 u0_29 u0_30 : Value) (y1_s : Nat → Int32) (p1 : Int32) (p2 : Int32)  (r : Int32) (hf : f_X9_of y1_s p1 p2 = some r) : MI l g yX9_of wsX9_of 1 24 [.ref a0, .int p1, .int p2] (w_X9_of g a0 a1 u0_1 u0_2 u0_3 u0_4 u0_5 u0_6 u0_7 u0_8 u0_9 u0_10 u0_11 u0_12 u0_13 u0_14 u0_15 u0_16 u0_17 u0_18 u0_19 u0_20 u0_21 u0_22 u0_23 u0_24 u0_25 u0_26 u0_27 u0_28 u0_29 u0_30 y1_s) sz (some (.int r)) (w_X9_of g a0 a1 u0_1 u0_2 u0_3 u0_4 u0_5 u0_6 u0_7 u0_8 u0_9 u0_10 u0_11 u0_12 u0_13 u0_14 u0_15 u0_16 u0_17 u0_18 u0_19 u0_20 u0_21 u0_22 u0_23 u0_24 u0_25 u0_26 u0_27 u0_28 u0_29 u0_30 y1_s) := by
  refine MI.start (cc := cX9_of) (maxL := 3) (ret := (some .int)) rfl rfl (nle rfl) ?_
  intro p e s m args below meth c A ls Q hQ hexec hb hr hts hown hlocks hml hA hP hD hG hS hl
  unfold f_X9_of at hf
  have hWX9 : ∀ w ∈ wsX90, w.before args s = true := fun w h => hts w (List.mem_cons_of_mem _ (List.mem_append_right _ h))
  have hS : va_S A s.heap s.heap [] := hS
  refine lv_aload_n (pc := 0) hexec hb dX9_of_0 rfl (lv_at hl 0 rfl) ?_
  refine kg_get (pc := 1) hexec hb (own := RX9) hWX9 hown hG hP 0 rfl rfl 0 (nle rfl) (hts _ (List.mem_cons_of_mem _ (List.mem_append_left _ (List.mem_of_getElem? (i := 0) rfl)))) rfl rfl dX9_of_1 ?_
  refine lv_sipush (pc := 4) hexec hb dX9_of_4 ks_440 ?_
  refine lv_bipush (pc := 7) hexec hb dX9_of_7 kb_12 ?_
  refine lv_iload_n (pc := 9) hexec hb dX9_of_9 rfl (lv_at hl 1 rfl) ?_
  refine lv_imul (pc := 10) hexec hb dX9_of_10 ?_
  refine lv_iadd (pc := 11) hexec hb dX9_of_11 ?_
  refine lv_iload_n (pc := 12) hexec hb dX9_of_12 rfl (lv_at hl 2 rfl) ?_
  refine lv_iadd (pc := 13) hexec hb dX9_of_13 ?_
  refine kr_iald (pc := 14) hexec hb hG hP 1 rfl hf dX9_of_14 (fun hf => ?_)
  cases hf
  exact ke_i hQ hexec hb hr hP hD hS dX9_of_15 hlocks
abbrev w_X9_puts (g : GE) (a0 a1 : Nat) (u0_1 u0_2 u0_3 u0_4 u0_5 u0_6 u0_7 u0_8 u0_9 u0_10 u0_11 u0_12 u0_13 u0_14 u0_15 u0_16 u0_17 u0_18 u0_19 u0_20 u0_21 u0_22 u0_23 u0_24 u0_25 u0_26 u0_27 u0_28 u0_29 u0_30 : Value) (y1_s : Nat → Int32) : va_W := [(a0, .inr (9, [.ref a1, u0_1, u0_2, u0_3, u0_4, u0_5, u0_6, u0_7, u0_8, u0_9, u0_10, u0_11, u0_12, u0_13, u0_14, u0_15, u0_16, u0_17, u0_18, u0_19, u0_20, u0_21, u0_22, u0_23, u0_24, u0_25, u0_26, u0_27, u0_28, u0_29, u0_30])), (a1, .inl (g.2.1 0, 552, .inl y1_s))]
set_option maxRecDepth 20000 in
theorem c_X9_puts (l : Launch) (g : GE) (a0 a1 : Nat) (sz : Nat) (u0_1 u0_2 u0_3 u0_4 u0_5 u0_6 u0_7 u0_8 u0_9 u0_10 u0_11 u0_12 u0_13 u0_14 u0_15 u0_16 u0_17 u0_18 u0_19 u0_20 u0_21 u0_22 u0_23 u0_24 u0_25 u0_26 u0_27 u0_28 u0_29 u0_30 : Value) (y1_s : Nat → Int32) (p1 : Int32) (p2 : Int32) (p3 : Int32)  (o_y1_s : Nat → Int32) (hf : f_X9_puts y1_s p1 p2 p3 = some o_y1_s) : MI l g yX9_puts wsX9_puts 1 24 [.ref a0, .int p1, .int p2, .int p3] (w_X9_puts g a0 a1 u0_1 u0_2 u0_3 u0_4 u0_5 u0_6 u0_7 u0_8 u0_9 u0_10 u0_11 u0_12 u0_13 u0_14 u0_15 u0_16 u0_17 u0_18 u0_19 u0_20 u0_21 u0_22 u0_23 u0_24 u0_25 u0_26 u0_27 u0_28 u0_29 u0_30 y1_s) sz none (w_X9_puts g a0 a1 u0_1 u0_2 u0_3 u0_4 u0_5 u0_6 u0_7 u0_8 u0_9 u0_10 u0_11 u0_12 u0_13 u0_14 u0_15 u0_16 u0_17 u0_18 u0_19 u0_20 u0_21 u0_22 u0_23 u0_24 u0_25 u0_26 u0_27 u0_28 u0_29 u0_30 o_y1_s) := by
  refine MI.start (cc := cX9_puts) (maxL := 4) (ret := none) rfl rfl (nle rfl) ?_
  intro p e s m args below meth c A ls Q hQ hexec hb hr hts hown hlocks hml hA hP hD hG hS hl
  unfold f_X9_puts at hf
  have hWX9 : ∀ w ∈ wsX90, w.before args s = true := fun w h => hts w (List.mem_cons_of_mem _ (List.mem_append_right _ h))
  have hS : va_S A s.heap s.heap [] := hS
  refine lv_aload_n (pc := 0) hexec hb dX9_puts_0 rfl (lv_at hl 0 rfl) ?_
  refine kg_get (pc := 1) hexec hb (own := RX9) hWX9 hown hG hP 0 rfl rfl 0 (nle rfl) (hts _ (List.mem_cons_of_mem _ (List.mem_append_left _ (List.mem_of_getElem? (i := 0) rfl)))) rfl rfl dX9_puts_1 ?_
  refine lv_sipush (pc := 4) hexec hb dX9_puts_4 ks_440 ?_
  refine lv_bipush (pc := 7) hexec hb dX9_puts_7 kb_12 ?_
  refine lv_iload_n (pc := 9) hexec hb dX9_puts_9 rfl (lv_at hl 1 rfl) ?_
  refine lv_imul (pc := 10) hexec hb dX9_puts_10 ?_
  refine lv_iadd (pc := 11) hexec hb dX9_puts_11 ?_
  refine lv_iload_n (pc := 12) hexec hb dX9_puts_12 rfl (lv_at hl 2 rfl) ?_
  refine lv_iadd (pc := 13) hexec hb dX9_puts_13 ?_
  refine lv_iload_n (pc := 14) hexec hb dX9_puts_14 rfl (lv_at hl 3 rfl) ?_
  refine kw_iast (pc := 15) hexec hb hG hP hD hS 1 rfl hf dX9_puts_15 (fun y1_s_1 H locs hf (hP : va_P g.1 vwCl (w_X9_puts g a0 a1 u0_1 u0_2 u0_3 u0_4 u0_5 u0_6 u0_7 u0_8 u0_9 u0_10 u0_11 u0_12 u0_13 u0_14 u0_15 u0_16 u0_17 u0_18 u0_19 u0_20 u0_21 u0_22 u0_23 u0_24 u0_25 u0_26 u0_27 u0_28 u0_29 u0_30 y1_s_1) H) (hD : va_D A (w_X9_puts g a0 a1 u0_1 u0_2 u0_3 u0_4 u0_5 u0_6 u0_7 u0_8 u0_9 u0_10 u0_11 u0_12 u0_13 u0_14 u0_15 u0_16 u0_17 u0_18 u0_19 u0_20 u0_21 u0_22 u0_23 u0_24 u0_25 u0_26 u0_27 u0_28 u0_29 u0_30 y1_s_1)) hS => ?_)
  cases hf
  exact ke_v hQ hexec hb hr hP hD hS dX9_puts_16 hlocks
abbrev w_X9_isHarbour (g : GE) (a0 a1 : Nat) (u0_1 u0_2 u0_3 u0_4 u0_5 u0_6 u0_7 u0_8 u0_9 u0_10 u0_11 u0_12 u0_13 u0_14 u0_15 u0_16 u0_17 u0_18 u0_19 u0_20 u0_21 u0_22 u0_23 u0_24 u0_25 u0_26 u0_27 u0_28 u0_29 u0_30 : Value) (y1_s : Nat → Int32) : va_W := [(a0, .inr (9, [.ref a1, u0_1, u0_2, u0_3, u0_4, u0_5, u0_6, u0_7, u0_8, u0_9, u0_10, u0_11, u0_12, u0_13, u0_14, u0_15, u0_16, u0_17, u0_18, u0_19, u0_20, u0_21, u0_22, u0_23, u0_24, u0_25, u0_26, u0_27, u0_28, u0_29, u0_30])), (a1, .inl (g.2.1 0, 552, .inl y1_s))]
set_option maxRecDepth 20000 in
theorem c_X9_isHarbour (l : Launch) (g : GE) (a0 a1 : Nat) (sz : Nat) (u0_1 u0_2 u0_3 u0_4 u0_5 u0_6 u0_7 u0_8 u0_9 u0_10 u0_11 u0_12 u0_13 u0_14 u0_15 u0_16 u0_17 u0_18 u0_19 u0_20 u0_21 u0_22 u0_23 u0_24 u0_25 u0_26 u0_27 u0_28 u0_29 u0_30 : Value) (y1_s : Nat → Int32) (p1 : Int32)  (r : Int32) (hf : f_X9_isHarbour y1_s p1 = some r) : MI l g yX9_isHarbour wsX9_isHarbour 2 49 [.ref a0, .int p1] (w_X9_isHarbour g a0 a1 u0_1 u0_2 u0_3 u0_4 u0_5 u0_6 u0_7 u0_8 u0_9 u0_10 u0_11 u0_12 u0_13 u0_14 u0_15 u0_16 u0_17 u0_18 u0_19 u0_20 u0_21 u0_22 u0_23 u0_24 u0_25 u0_26 u0_27 u0_28 u0_29 u0_30 y1_s) sz (some (.int r)) (w_X9_isHarbour g a0 a1 u0_1 u0_2 u0_3 u0_4 u0_5 u0_6 u0_7 u0_8 u0_9 u0_10 u0_11 u0_12 u0_13 u0_14 u0_15 u0_16 u0_17 u0_18 u0_19 u0_20 u0_21 u0_22 u0_23 u0_24 u0_25 u0_26 u0_27 u0_28 u0_29 u0_30 y1_s) := by
  refine MI.start (cc := cX9_isHarbour) (maxL := 2) (ret := (some .boolean)) rfl rfl (nle rfl) ?_
  intro p e s m args below meth c A ls Q hQ hexec hb hr hts hown hlocks hml hA hP hD hG hS hl
  unfold f_X9_isHarbour at hf
  have hWX9 : ∀ w ∈ wsX90, w.before args s = true := fun w h => hts w (List.mem_cons_of_mem _ (List.mem_append_right _ h))
  have hS : va_S A s.heap s.heap [] := hS
  refine lv_iload_n (pc := 0) hexec hb dX9_isHarbour_0 rfl (lv_at hl 1 rfl) ?_
  refine lv_i2l (pc := 1) hexec hb dX9_isHarbour_1 rfl ?_
  refine lv_lconst (pc := 2) hexec hb dX9_isHarbour_2 kl_0 ?_
  refine lv_aload_n (pc := 3) hexec hb dX9_isHarbour_3 rfl (lv_at hl 0 rfl) ?_
  refine kg_get (pc := 4) hexec hb (own := RX9) hWX9 hown hG hP 0 rfl rfl 0 (nle rfl) (hts _ (List.mem_cons_of_mem _ (List.mem_append_left _ (List.mem_of_getElem? (i := 0) rfl)))) rfl rfl dX9_isHarbour_4 ?_
  refine lv_iconst (pc := 7) hexec hb dX9_isHarbour_7 ki_2 ?_
  refine kr_iald (pc := 8) hexec hb hG hP 1 rfl hf dX9_isHarbour_8 (fun hf => ?_)
  refine lv_iconst (pc := 9) hexec hb dX9_isHarbour_9 ki_1 ?_
  refine lv_isub (pc := 10) hexec hb dX9_isHarbour_10 ?_
  refine lv_i2l (pc := 11) hexec hb dX9_isHarbour_11 rfl ?_
  obtain ⟨r12, hc, hf⟩ := bd1_e hf
  refine kSp (pc := 12) (S := ⟨hexec, hb, hml, hown, hts⟩) hP hD hG hA hS [] [0, 1] [0, 1] (w2 := (w_X9_isHarbour g a0 a1 u0_1 u0_2 u0_3 u0_4 u0_5 u0_6 u0_7 u0_8 u0_9 u0_10 u0_11 u0_12 u0_13 u0_14 u0_15 u0_16 u0_17 u0_18 u0_19 u0_20 u0_21 u0_22 u0_23 u0_24 u0_25 u0_26 u0_27 u0_28 u0_29 u0_30 y1_s)) rfl rfl rfl rfl rfl rfl (by decide) (c_X9_isIn l g _ (p1.toInt64) 0 ((((y1_s (2 : Int32).toNatClampNeg) - 1)).toInt64) r12 hc) gX9_isHarbour_X9_isIn rfl hs_X9_isIn ⟨nle rfl, nle rfl⟩ (rest := []) rfl rfl hl.1 (nle rfl) dX9_isHarbour_12 (fun H locs hP hD hS => ?_)
  obtain ⟨hx, hf⟩ := zb_e hf
  cases hf
  exact ke_z hQ hexec hb hr hx hP hD hS dX9_isHarbour_15 hlocks
abbrev w_X9_isPlaced (g : GE) (a0 a1 : Nat) (u0_1 u0_2 u0_3 u0_4 u0_5 u0_6 u0_7 u0_8 u0_9 u0_10 u0_11 u0_12 u0_13 u0_14 u0_15 u0_16 u0_17 u0_18 u0_19 u0_20 u0_21 u0_22 u0_23 u0_24 u0_25 u0_26 u0_27 u0_28 u0_29 u0_30 : Value) (y1_s : Nat → Int32) : va_W := [(a0, .inr (9, [.ref a1, u0_1, u0_2, u0_3, u0_4, u0_5, u0_6, u0_7, u0_8, u0_9, u0_10, u0_11, u0_12, u0_13, u0_14, u0_15, u0_16, u0_17, u0_18, u0_19, u0_20, u0_21, u0_22, u0_23, u0_24, u0_25, u0_26, u0_27, u0_28, u0_29, u0_30])), (a1, .inl (g.2.1 0, 552, .inl y1_s))]
set_option maxRecDepth 20000 in
theorem c_X9_isPlaced (l : Launch) (g : GE) (a0 a1 : Nat) (sz : Nat) (u0_1 u0_2 u0_3 u0_4 u0_5 u0_6 u0_7 u0_8 u0_9 u0_10 u0_11 u0_12 u0_13 u0_14 u0_15 u0_16 u0_17 u0_18 u0_19 u0_20 u0_21 u0_22 u0_23 u0_24 u0_25 u0_26 u0_27 u0_28 u0_29 u0_30 : Value) (y1_s : Nat → Int32) (p1 : Int32)  (r : Int32) (hf : f_X9_isPlaced y1_s p1 = some r) : MI l g yX9_isPlaced wsX9_isPlaced 2 46 [.ref a0, .int p1] (w_X9_isPlaced g a0 a1 u0_1 u0_2 u0_3 u0_4 u0_5 u0_6 u0_7 u0_8 u0_9 u0_10 u0_11 u0_12 u0_13 u0_14 u0_15 u0_16 u0_17 u0_18 u0_19 u0_20 u0_21 u0_22 u0_23 u0_24 u0_25 u0_26 u0_27 u0_28 u0_29 u0_30 y1_s) sz (some (.int r)) (w_X9_isPlaced g a0 a1 u0_1 u0_2 u0_3 u0_4 u0_5 u0_6 u0_7 u0_8 u0_9 u0_10 u0_11 u0_12 u0_13 u0_14 u0_15 u0_16 u0_17 u0_18 u0_19 u0_20 u0_21 u0_22 u0_23 u0_24 u0_25 u0_26 u0_27 u0_28 u0_29 u0_30 y1_s) := by
  refine MI.start (cc := cX9_isPlaced) (maxL := 2) (ret := (some .boolean)) rfl rfl (nle rfl) ?_
  intro p e s m args below meth c A ls Q hQ hexec hb hr hts hown hlocks hml hA hP hD hG hS hl
  unfold f_X9_isPlaced at hf
  have hWX9 : ∀ w ∈ wsX90, w.before args s = true := fun w h => hts w (List.mem_cons_of_mem _ (List.mem_append_right _ h))
  have hS : va_S A s.heap s.heap [] := hS
  refine lv_aload_n (pc := 0) hexec hb dX9_isPlaced_0 rfl (lv_at hl 0 rfl) ?_
  refine lv_iload_n (pc := 1) hexec hb dX9_isPlaced_1 rfl (lv_at hl 1 rfl) ?_
  refine lv_iconst (pc := 2) hexec hb dX9_isPlaced_2 ki_2 ?_
  obtain ⟨r3, hc, hf⟩ := bd1_e hf
  refine kVp (pc := 3) (S := ⟨hexec, hb, hml, hown, hts⟩) hP hD hG hA hS [0, 1] [] [0, 1] (w2 := (w_X9_isPlaced g a0 a1 u0_1 u0_2 u0_3 u0_4 u0_5 u0_6 u0_7 u0_8 u0_9 u0_10 u0_11 u0_12 u0_13 u0_14 u0_15 u0_16 u0_17 u0_18 u0_19 u0_20 u0_21 u0_22 u0_23 u0_24 u0_25 u0_26 u0_27 u0_28 u0_29 u0_30 y1_s)) rfl rfl rfl rfl rfl rfl (by decide) (c_X9_of l g a0 a1 _ u0_1 u0_2 u0_3 u0_4 u0_5 u0_6 u0_7 u0_8 u0_9 u0_10 u0_11 u0_12 u0_13 u0_14 u0_15 u0_16 u0_17 u0_18 u0_19 u0_20 u0_21 u0_22 u0_23 u0_24 u0_25 u0_26 u0_27 u0_28 u0_29 u0_30 y1_s p1 2 r3 hc) gX9_isPlaced_X9_of rfl hv_X9_of ⟨nle rfl, nle rfl⟩ 9 0 rfl rfl rfl (rest := []) rfl rfl hl.1 (nle rfl) dX9_isPlaced_3 (fun H locs hP hD hS => ?_)
  refine lv_iconst (pc := 6) hexec hb dX9_isPlaced_6 ki_m1 ?_
  refine ki_eq (pc := 7) hexec hb dX9_isPlaced_7 (tgt := 14) rfl hf (fun hc hf => ?_) (fun hc hf => ?_)
  · refine lv_iconst (pc := 14) hexec hb dX9_isPlaced_14 ki_0 ?_
    cases hf
    exact ke_z hQ hexec hb hr (.inl rfl) hP hD hS dX9_isPlaced_15 hlocks
  · refine lv_iconst (pc := 10) hexec hb dX9_isPlaced_10 ki_1 ?_
    refine lv_goto (pc := 11) hexec hb dX9_isPlaced_11 (tgt := 15) rfl ?_
    cases hf
    exact ke_z hQ hexec hb hr (.inr rfl) hP hD hS dX9_isPlaced_15 hlocks
abbrev w_X9_harbourAt (g : GE) (a0 a1 : Nat) (u0_1 u0_2 u0_3 u0_4 u0_5 u0_6 u0_7 u0_8 u0_9 u0_10 u0_11 u0_12 u0_13 u0_14 u0_15 u0_16 u0_17 u0_18 u0_19 u0_20 u0_21 u0_22 u0_23 u0_24 u0_25 u0_26 u0_27 u0_28 u0_29 u0_30 : Value) (y1_s : Nat → Int32) : va_W := [(a0, .inr (9, [.ref a1, u0_1, u0_2, u0_3, u0_4, u0_5, u0_6, u0_7, u0_8, u0_9, u0_10, u0_11, u0_12, u0_13, u0_14, u0_15, u0_16, u0_17, u0_18, u0_19, u0_20, u0_21, u0_22, u0_23, u0_24, u0_25, u0_26, u0_27, u0_28, u0_29, u0_30])), (a1, .inl (g.2.1 0, 552, .inl y1_s))]
set_option maxRecDepth 20000 in
theorem c_X9_harbourAt (l : Launch) (g : GE) (a0 a1 : Nat) (sz : Nat) (u0_1 u0_2 u0_3 u0_4 u0_5 u0_6 u0_7 u0_8 u0_9 u0_10 u0_11 u0_12 u0_13 u0_14 u0_15 u0_16 u0_17 u0_18 u0_19 u0_20 u0_21 u0_22 u0_23 u0_24 u0_25 u0_26 u0_27 u0_28 u0_29 u0_30 : Value) (y1_s : Nat → Int32) (p1 : Int32) (p2 : Int32)  (r : Int32) (hf : f_X9_harbourAt y1_s p1 p2 = some r) : MI l g yX9_harbourAt wsX9_harbourAt 2 46 [.ref a0, .int p1, .int p2] (w_X9_harbourAt g a0 a1 u0_1 u0_2 u0_3 u0_4 u0_5 u0_6 u0_7 u0_8 u0_9 u0_10 u0_11 u0_12 u0_13 u0_14 u0_15 u0_16 u0_17 u0_18 u0_19 u0_20 u0_21 u0_22 u0_23 u0_24 u0_25 u0_26 u0_27 u0_28 u0_29 u0_30 y1_s) sz (some (.int r)) (w_X9_harbourAt g a0 a1 u0_1 u0_2 u0_3 u0_4 u0_5 u0_6 u0_7 u0_8 u0_9 u0_10 u0_11 u0_12 u0_13 u0_14 u0_15 u0_16 u0_17 u0_18 u0_19 u0_20 u0_21 u0_22 u0_23 u0_24 u0_25 u0_26 u0_27 u0_28 u0_29 u0_30 y1_s) := by
  refine MI.start (cc := cX9_harbourAt) (maxL := 4) (ret := (some .int)) rfl rfl (nle rfl) ?_
  intro p e s m args below meth c A ls Q hQ hexec hb hr hts hown hlocks hml hA hP hD hG hS hl
  unfold f_X9_harbourAt at hf
  have hWX9 : ∀ w ∈ wsX90, w.before args s = true := fun w h => hts w (List.mem_cons_of_mem _ (List.mem_append_right _ h))
  have hS : va_S A s.heap s.heap [] := hS
  refine lv_iconst (pc := 0) hexec hb dX9_harbourAt_0 ki_0 ?_
  refine lv_istore_n (pc := 1) hexec hb dX9_harbourAt_1 rfl hl (nle rfl) rfl (fun ls (hl : lv_has ls 4 [(3, .int 0), (0, .ref a0), (1, .int p1), (2, .int p2)]) => ?_)
  obtain ⟨l2, el2, hf⟩ := bvf1 hf
  obtain ⟨n, hz⟩ := lq1_e hf
  have hL2 : ∀ (n : Nat) (v3 : Int32) (H : Heap) (locs : List Loc) (ls : Array Slot), it1 l2 n v3 = some r → va_P g.1 vwCl (w_X9_harbourAt g a0 a1 u0_1 u0_2 u0_3 u0_4 u0_5 u0_6 u0_7 u0_8 u0_9 u0_10 u0_11 u0_12 u0_13 u0_14 u0_15 u0_16 u0_17 u0_18 u0_19 u0_20 u0_21 u0_22 u0_23 u0_24 u0_25 u0_26 u0_27 u0_28 u0_29 u0_30 y1_s) H → va_D A (w_X9_harbourAt g a0 a1 u0_1 u0_2 u0_3 u0_4 u0_5 u0_6 u0_7 u0_8 u0_9 u0_10 u0_11 u0_12 u0_13 u0_14 u0_15 u0_16 u0_17 u0_18 u0_19 u0_20 u0_21 u0_22 u0_23 u0_24 u0_25 u0_26 u0_27 u0_28 u0_29 u0_30 y1_s) → va_S A s.heap H locs → lv_has ls 4 [(0, .ref a0), (1, .int p1), (2, .int p2), (3, .int v3)] → W p l e (RM 2 46) s m args below meth c H locs 0 0 Q (F0 m 2 ls []) := by
    intro n
    induction n with
    | zero =>
      intro v3 H locs ls hf hP hD hS hl
      exact it1_0 hf
    | succ n2 ih2 =>
      intro v3 H locs ls hf hP hD hS hl
      obtain ⟨q2, hf, hk2⟩ := it1_e hf
      have hf := (el2 v3).symm.trans hf
      refine lv_iload_n (pc := 2) hexec hb dX9_harbourAt_2 rfl (lv_at hl 3 rfl) ?_
      refine lv_aload_n (pc := 3) hexec hb dX9_harbourAt_3 rfl (lv_at hl 0 rfl) ?_
      refine kg_get (pc := 4) hexec hb (own := RX9) hWX9 hown hG hP 0 rfl rfl 0 (nle rfl) (hts _ (List.mem_cons_of_mem _ (List.mem_append_left _ (List.mem_of_getElem? (i := 0) rfl)))) rfl rfl dX9_harbourAt_4 ?_
      refine lv_iconst (pc := 7) hexec hb dX9_harbourAt_7 ki_2 ?_
      refine kr_iald (pc := 8) hexec hb hG hP 1 rfl hf dX9_harbourAt_8 (fun hf => ?_)
      refine ki_ge (pc := 9) hexec hb dX9_harbourAt_9 (tgt := 35) rfl hf (fun hc hf => ?_) (fun hc hf => ?_)
      · have hf := mk1 hf hk2
        refine lv_iconst (pc := 35) hexec hb dX9_harbourAt_35 ki_m1 ?_
        cases hf
        exact ke_i hQ hexec hb hr hP hD hS dX9_harbourAt_36 hlocks
      · refine lv_iload_n (pc := 12) hexec hb dX9_harbourAt_12 rfl (lv_at hl 3 rfl) ?_
        refine lv_iload_n (pc := 13) hexec hb dX9_harbourAt_13 rfl (lv_at hl 2 rfl) ?_
        obtain ⟨j29, ej29, hf⟩ := bvf1 hf
        have hj29 : ∀ (u : Unit) (H : Heap) (locs : List Loc) (ls : Array Slot), j29 u = some q2 → va_P g.1 vwCl (w_X9_harbourAt g a0 a1 u0_1 u0_2 u0_3 u0_4 u0_5 u0_6 u0_7 u0_8 u0_9 u0_10 u0_11 u0_12 u0_13 u0_14 u0_15 u0_16 u0_17 u0_18 u0_19 u0_20 u0_21 u0_22 u0_23 u0_24 u0_25 u0_26 u0_27 u0_28 u0_29 u0_30 y1_s) H → va_D A (w_X9_harbourAt g a0 a1 u0_1 u0_2 u0_3 u0_4 u0_5 u0_6 u0_7 u0_8 u0_9 u0_10 u0_11 u0_12 u0_13 u0_14 u0_15 u0_16 u0_17 u0_18 u0_19 u0_20 u0_21 u0_22 u0_23 u0_24 u0_25 u0_26 u0_27 u0_28 u0_29 u0_30 y1_s) → va_S A s.heap H locs → lv_has ls 4 [(0, .ref a0), (1, .int p1), (2, .int p2), (3, .int v3)] → W p l e (RM 2 46) s m args below meth c H locs 0 0 Q (F0 m 29 ls []) := by
          intro u H locs ls hf hP hD hS hl
          have hf := (ej29 u).symm.trans hf
          obtain ⟨v3_1, ev3_1, hf⟩ := bv_e hf
          refine k_iinc (pc := 29) hexec hb dX9_harbourAt_29 kq_1 hl (k := 3) rfl ev3_1 (nle rfl) rfl (fun ls (hl : lv_has ls 4 [(3, .int v3_1), (0, .ref a0), (1, .int p1), (2, .int p2)]) => ?_)
          refine lv_goto (pc := 32) hexec hb dX9_harbourAt_32 (tgt := 2) rfl ?_
          exact ih2 _ _ _ _ (sl1 hf hk2) hP hD hS (lv_sub hl [1, 2, 3, 0] rfl)
        refine ki_eq (pc := 14) hexec hb dX9_harbourAt_14 (tgt := 29) rfl hf (fun hc hf => ?_) (fun hc hf => ?_)
        · exact hj29 _ _ _ _ hf hP hD hS (lv_sub hl [0, 1, 2, 3] rfl)
        · refine lv_aload_n (pc := 17) hexec hb dX9_harbourAt_17 rfl (lv_at hl 0 rfl) ?_
          refine lv_iload_n (pc := 18) hexec hb dX9_harbourAt_18 rfl (lv_at hl 3 rfl) ?_
          refine lv_iconst (pc := 19) hexec hb dX9_harbourAt_19 ki_0 ?_
          obtain ⟨r20, hc, hf⟩ := bd1_e hf
          refine kVp (pc := 20) (S := ⟨hexec, hb, hml, hown, hts⟩) hP hD hG hA hS [0, 1] [] [0, 1] (w2 := (w_X9_harbourAt g a0 a1 u0_1 u0_2 u0_3 u0_4 u0_5 u0_6 u0_7 u0_8 u0_9 u0_10 u0_11 u0_12 u0_13 u0_14 u0_15 u0_16 u0_17 u0_18 u0_19 u0_20 u0_21 u0_22 u0_23 u0_24 u0_25 u0_26 u0_27 u0_28 u0_29 u0_30 y1_s)) rfl rfl rfl rfl rfl rfl (by decide) (c_X9_of l g a0 a1 _ u0_1 u0_2 u0_3 u0_4 u0_5 u0_6 u0_7 u0_8 u0_9 u0_10 u0_11 u0_12 u0_13 u0_14 u0_15 u0_16 u0_17 u0_18 u0_19 u0_20 u0_21 u0_22 u0_23 u0_24 u0_25 u0_26 u0_27 u0_28 u0_29 u0_30 y1_s v3 0 r20 hc) gX9_harbourAt_X9_of rfl hv_X9_of ⟨nle rfl, nle rfl⟩ 9 0 rfl rfl rfl (rest := []) rfl rfl hl.1 (nle rfl) dX9_harbourAt_20 (fun H locs hP hD hS => ?_)
          refine lv_iload_n (pc := 23) hexec hb dX9_harbourAt_23 rfl (lv_at hl 1 rfl) ?_
          refine ki_ne (pc := 24) hexec hb dX9_harbourAt_24 (tgt := 29) rfl hf (fun hc hf => ?_) (fun hc hf => ?_)
          · exact hj29 _ _ _ _ hf hP hD hS (lv_sub hl [0, 1, 2, 3] rfl)
          · have hf := mk1 hf hk2
            refine lv_iload_n (pc := 27) hexec hb dX9_harbourAt_27 rfl (lv_at hl 3 rfl) ?_
            cases hf
            exact ke_i hQ hexec hb hr hP hD hS dX9_harbourAt_28 hlocks
  exact hL2 n _ _ _ _ hz hP hD hS (lv_sub hl [1, 2, 3, 0] rfl)
abbrev w_X9_letterIn (g : GE) (a0 a1 : Nat) (u0_1 u0_2 u0_3 u0_4 u0_5 u0_6 u0_7 u0_8 u0_9 u0_10 u0_11 u0_12 u0_13 u0_14 u0_15 u0_16 u0_17 u0_18 u0_19 u0_20 u0_21 u0_22 u0_23 u0_24 u0_25 u0_26 u0_27 u0_28 u0_29 u0_30 : Value) (y1_s : Nat → Int32) : va_W := [(a0, .inr (9, [.ref a1, u0_1, u0_2, u0_3, u0_4, u0_5, u0_6, u0_7, u0_8, u0_9, u0_10, u0_11, u0_12, u0_13, u0_14, u0_15, u0_16, u0_17, u0_18, u0_19, u0_20, u0_21, u0_22, u0_23, u0_24, u0_25, u0_26, u0_27, u0_28, u0_29, u0_30])), (a1, .inl (g.2.1 0, 552, .inl y1_s))]
set_option maxRecDepth 20000 in
theorem c_X9_letterIn (l : Launch) (g : GE) (a0 a1 : Nat) (sz : Nat) (u0_1 u0_2 u0_3 u0_4 u0_5 u0_6 u0_7 u0_8 u0_9 u0_10 u0_11 u0_12 u0_13 u0_14 u0_15 u0_16 u0_17 u0_18 u0_19 u0_20 u0_21 u0_22 u0_23 u0_24 u0_25 u0_26 u0_27 u0_28 u0_29 u0_30 : Value) (y1_s : Nat → Int32) (p1 : Int32) (p2 : Int32) (p3 : Int32)  (r : Int32) (hf : f_X9_letterIn y1_s p1 p2 p3 = some r) : MI l g yX9_letterIn wsX9_letterIn 3 74 [.ref a0, .int p1, .int p2, .int p3] (w_X9_letterIn g a0 a1 u0_1 u0_2 u0_3 u0_4 u0_5 u0_6 u0_7 u0_8 u0_9 u0_10 u0_11 u0_12 u0_13 u0_14 u0_15 u0_16 u0_17 u0_18 u0_19 u0_20 u0_21 u0_22 u0_23 u0_24 u0_25 u0_26 u0_27 u0_28 u0_29 u0_30 y1_s) sz (some (.int r)) (w_X9_letterIn g a0 a1 u0_1 u0_2 u0_3 u0_4 u0_5 u0_6 u0_7 u0_8 u0_9 u0_10 u0_11 u0_12 u0_13 u0_14 u0_15 u0_16 u0_17 u0_18 u0_19 u0_20 u0_21 u0_22 u0_23 u0_24 u0_25 u0_26 u0_27 u0_28 u0_29 u0_30 y1_s) := by
  refine MI.start (cc := cX9_letterIn) (maxL := 5) (ret := (some .int)) rfl rfl (nle rfl) ?_
  intro p e s m args below meth c A ls Q hQ hexec hb hr hts hown hlocks hml hA hP hD hG hS hl
  unfold f_X9_letterIn at hf
  have hWX9 : ∀ w ∈ wsX90, w.before args s = true := fun w h => hts w (List.mem_cons_of_mem _ (List.mem_append_right _ h))
  have hS : va_S A s.heap s.heap [] := hS
  refine lv_iconst (pc := 0) hexec hb dX9_letterIn_0 ki_0 ?_
  refine lv_istore (pc := 1) hexec hb dX9_letterIn_1 hl (nle rfl) rfl (fun ls (hl : lv_has ls 5 [(4, .int 0), (0, .ref a0), (1, .int p1), (2, .int p2), (3, .int p3)]) => ?_)
  obtain ⟨l3, el3, hf⟩ := bvf1 hf
  obtain ⟨n, hz⟩ := lq1_e hf
  have hL3 : ∀ (n : Nat) (v4 : Int32) (H : Heap) (locs : List Loc) (ls : Array Slot), it1 l3 n v4 = some r → va_P g.1 vwCl (w_X9_letterIn g a0 a1 u0_1 u0_2 u0_3 u0_4 u0_5 u0_6 u0_7 u0_8 u0_9 u0_10 u0_11 u0_12 u0_13 u0_14 u0_15 u0_16 u0_17 u0_18 u0_19 u0_20 u0_21 u0_22 u0_23 u0_24 u0_25 u0_26 u0_27 u0_28 u0_29 u0_30 y1_s) H → va_D A (w_X9_letterIn g a0 a1 u0_1 u0_2 u0_3 u0_4 u0_5 u0_6 u0_7 u0_8 u0_9 u0_10 u0_11 u0_12 u0_13 u0_14 u0_15 u0_16 u0_17 u0_18 u0_19 u0_20 u0_21 u0_22 u0_23 u0_24 u0_25 u0_26 u0_27 u0_28 u0_29 u0_30 y1_s) → va_S A s.heap H locs → lv_has ls 5 [(0, .ref a0), (1, .int p1), (2, .int p2), (3, .int p3), (4, .int v4)] → W p l e (RM 3 74) s m args below meth c H locs 0 0 Q (F0 m 3 ls []) := by
    intro n
    induction n with
    | zero =>
      intro v4 H locs ls hf hP hD hS hl
      exact it1_0 hf
    | succ n3 ih3 =>
      intro v4 H locs ls hf hP hD hS hl
      obtain ⟨q3, hf, hk3⟩ := it1_e hf
      have hf := (el3 v4).symm.trans hf
      refine lv_iload (pc := 3) hexec hb dX9_letterIn_3 (lv_at hl 4 rfl) ?_
      refine lv_aload_n (pc := 5) hexec hb dX9_letterIn_5 rfl (lv_at hl 0 rfl) ?_
      refine lv_iload_n (pc := 6) hexec hb dX9_letterIn_6 rfl (lv_at hl 1 rfl) ?_
      refine lv_iconst (pc := 7) hexec hb dX9_letterIn_7 ki_3 ?_
      obtain ⟨r8, hc, hf⟩ := bd1_e hf
      refine kVp (pc := 8) (S := ⟨hexec, hb, hml, hown, hts⟩) hP hD hG hA hS [0, 1] [] [0, 1] (w2 := (w_X9_letterIn g a0 a1 u0_1 u0_2 u0_3 u0_4 u0_5 u0_6 u0_7 u0_8 u0_9 u0_10 u0_11 u0_12 u0_13 u0_14 u0_15 u0_16 u0_17 u0_18 u0_19 u0_20 u0_21 u0_22 u0_23 u0_24 u0_25 u0_26 u0_27 u0_28 u0_29 u0_30 y1_s)) rfl rfl rfl rfl rfl rfl (by decide) (c_X9_of l g a0 a1 _ u0_1 u0_2 u0_3 u0_4 u0_5 u0_6 u0_7 u0_8 u0_9 u0_10 u0_11 u0_12 u0_13 u0_14 u0_15 u0_16 u0_17 u0_18 u0_19 u0_20 u0_21 u0_22 u0_23 u0_24 u0_25 u0_26 u0_27 u0_28 u0_29 u0_30 y1_s p1 3 r8 hc) gX9_letterIn_X9_of rfl hv_X9_of ⟨nle rfl, nle rfl⟩ 9 0 rfl rfl rfl (rest := [.int v4]) rfl rfl hl.1 (nle rfl) dX9_letterIn_8 (fun H locs hP hD hS => ?_)
      refine ki_ge (pc := 11) hexec hb dX9_letterIn_11 (tgt := 54) rfl hf (fun hc hf => ?_) (fun hc hf => ?_)
      · have hf := mk1 hf hk3
        refine lv_iconst (pc := 54) hexec hb dX9_letterIn_54 ki_m1 ?_
        cases hf
        exact ke_i hQ hexec hb hr hP hD hS dX9_letterIn_55 hlocks
      · refine lv_iload_n (pc := 14) hexec hb dX9_letterIn_14 rfl (lv_at hl 3 rfl) ?_
        refine lv_iconst (pc := 15) hexec hb dX9_letterIn_15 ki_m1 ?_
        refine ki_eq (pc := 16) hexec hb dX9_letterIn_16 (tgt := 54) rfl hf (fun hc hf => ?_) (fun hc hf => ?_)
        · have hf := mk1 hf hk3
          refine lv_iconst (pc := 54) hexec hb dX9_letterIn_54 ki_m1 ?_
          cases hf
          exact ke_i hQ hexec hb hr hP hD hS dX9_letterIn_55 hlocks
        · refine lv_aload_n (pc := 19) hexec hb dX9_letterIn_19 rfl (lv_at hl 0 rfl) ?_
          refine lv_aload_n (pc := 20) hexec hb dX9_letterIn_20 rfl (lv_at hl 0 rfl) ?_
          refine lv_iload_n (pc := 21) hexec hb dX9_letterIn_21 rfl (lv_at hl 1 rfl) ?_
          refine lv_iconst (pc := 22) hexec hb dX9_letterIn_22 ki_0 ?_
          obtain ⟨r23, hc, hf⟩ := bd1_e hf
          refine kVp (pc := 23) (S := ⟨hexec, hb, hml, hown, hts⟩) hP hD hG hA hS [0, 1] [] [0, 1] (w2 := (w_X9_letterIn g a0 a1 u0_1 u0_2 u0_3 u0_4 u0_5 u0_6 u0_7 u0_8 u0_9 u0_10 u0_11 u0_12 u0_13 u0_14 u0_15 u0_16 u0_17 u0_18 u0_19 u0_20 u0_21 u0_22 u0_23 u0_24 u0_25 u0_26 u0_27 u0_28 u0_29 u0_30 y1_s)) rfl rfl rfl rfl rfl rfl (by decide) (c_X9_of l g a0 a1 _ u0_1 u0_2 u0_3 u0_4 u0_5 u0_6 u0_7 u0_8 u0_9 u0_10 u0_11 u0_12 u0_13 u0_14 u0_15 u0_16 u0_17 u0_18 u0_19 u0_20 u0_21 u0_22 u0_23 u0_24 u0_25 u0_26 u0_27 u0_28 u0_29 u0_30 y1_s p1 0 r23 hc) gX9_letterIn_X9_of rfl hv_X9_of ⟨nle rfl, nle rfl⟩ 9 0 rfl rfl rfl (rest := [.ref a0]) rfl rfl hl.1 (nle rfl) dX9_letterIn_23 (fun H locs hP hD hS => ?_)
          refine lv_iload_n (pc := 26) hexec hb dX9_letterIn_26 rfl (lv_at hl 2 rfl) ?_
          refine lv_iload (pc := 27) hexec hb dX9_letterIn_27 (lv_at hl 4 rfl) ?_
          refine lv_iconst (pc := 29) hexec hb dX9_letterIn_29 ki_1 ?_
          refine lv_iadd (pc := 30) hexec hb dX9_letterIn_30 ?_
          obtain ⟨r31, hc, hf⟩ := bd1_e hf
          refine kVp (pc := 31) (S := ⟨hexec, hb, hml, hown, hts⟩) hP hD hG hA hS [0, 1] [] [0, 1] (w2 := (w_X9_letterIn g a0 a1 u0_1 u0_2 u0_3 u0_4 u0_5 u0_6 u0_7 u0_8 u0_9 u0_10 u0_11 u0_12 u0_13 u0_14 u0_15 u0_16 u0_17 u0_18 u0_19 u0_20 u0_21 u0_22 u0_23 u0_24 u0_25 u0_26 u0_27 u0_28 u0_29 u0_30 y1_s)) rfl rfl rfl rfl rfl rfl (by decide) (c_X9_away l g a0 a1 _ u0_1 u0_2 u0_3 u0_4 u0_5 u0_6 u0_7 u0_8 u0_9 u0_10 u0_11 u0_12 u0_13 u0_14 u0_15 u0_16 u0_17 u0_18 u0_19 u0_20 u0_21 u0_22 u0_23 u0_24 u0_25 u0_26 u0_27 u0_28 u0_29 u0_30 y1_s r23 p2 (v4 + 1) r31 hc) gX9_letterIn_X9_away rfl hv_X9_away ⟨nle rfl, nle rfl⟩ 9 0 rfl rfl rfl (rest := []) rfl rfl hl.1 (nle rfl) dX9_letterIn_31 (fun H locs hP hD hS => ?_)
          refine lv_iload_n (pc := 34) hexec hb dX9_letterIn_34 rfl (lv_at hl 3 rfl) ?_
          refine ki_ne (pc := 35) hexec hb dX9_letterIn_35 (tgt := 48) rfl hf (fun hc hf => ?_) (fun hc hf => ?_)
          · obtain ⟨v4_1, ev4_1, hf⟩ := bv_e hf
            refine k_iinc (pc := 48) hexec hb dX9_letterIn_48 kq_1 hl (k := 4) rfl ev4_1 (nle rfl) rfl (fun ls (hl : lv_has ls 5 [(4, .int v4_1), (0, .ref a0), (1, .int p1), (2, .int p2), (3, .int p3)]) => ?_)
            refine lv_goto (pc := 51) hexec hb dX9_letterIn_51 (tgt := 3) rfl ?_
            exact ih3 _ _ _ _ (sl1 hf hk3) hP hD hS (lv_sub hl [1, 2, 3, 4, 0] rfl)
          · have hf := mk1 hf hk3
            refine lv_aload_n (pc := 38) hexec hb dX9_letterIn_38 rfl (lv_at hl 0 rfl) ?_
            refine lv_iload_n (pc := 39) hexec hb dX9_letterIn_39 rfl (lv_at hl 1 rfl) ?_
            refine lv_iconst (pc := 40) hexec hb dX9_letterIn_40 ki_4 ?_
            refine lv_iload (pc := 41) hexec hb dX9_letterIn_41 (lv_at hl 4 rfl) ?_
            refine lv_iadd (pc := 43) hexec hb dX9_letterIn_43 ?_
            obtain ⟨r44, hc, hf⟩ := bd1_e hf
            refine kVp (pc := 44) (S := ⟨hexec, hb, hml, hown, hts⟩) hP hD hG hA hS [0, 1] [] [0, 1] (w2 := (w_X9_letterIn g a0 a1 u0_1 u0_2 u0_3 u0_4 u0_5 u0_6 u0_7 u0_8 u0_9 u0_10 u0_11 u0_12 u0_13 u0_14 u0_15 u0_16 u0_17 u0_18 u0_19 u0_20 u0_21 u0_22 u0_23 u0_24 u0_25 u0_26 u0_27 u0_28 u0_29 u0_30 y1_s)) rfl rfl rfl rfl rfl rfl (by decide) (c_X9_of l g a0 a1 _ u0_1 u0_2 u0_3 u0_4 u0_5 u0_6 u0_7 u0_8 u0_9 u0_10 u0_11 u0_12 u0_13 u0_14 u0_15 u0_16 u0_17 u0_18 u0_19 u0_20 u0_21 u0_22 u0_23 u0_24 u0_25 u0_26 u0_27 u0_28 u0_29 u0_30 y1_s p1 (4 + v4) r44 hc) gX9_letterIn_X9_of rfl hv_X9_of ⟨nle rfl, nle rfl⟩ 9 0 rfl rfl rfl (rest := []) rfl rfl hl.1 (nle rfl) dX9_letterIn_44 (fun H locs hP hD hS => ?_)
            cases hf
            exact ke_i hQ hexec hb hr hP hD hS dX9_letterIn_47 hlocks
  exact hL3 n _ _ _ _ hz hP hD hS (lv_sub hl [1, 2, 3, 4, 0] rfl)
abbrev w_X9_letterOf (g : GE) (a0 a1 : Nat) (u0_1 u0_2 u0_3 u0_4 u0_5 u0_6 u0_7 u0_8 u0_9 u0_10 u0_11 u0_12 u0_13 u0_14 u0_15 u0_16 u0_17 u0_18 u0_19 u0_20 u0_21 u0_22 u0_23 u0_24 u0_25 u0_26 u0_27 u0_28 u0_29 u0_30 : Value) (y1_s : Nat → Int32) : va_W := [(a0, .inr (9, [.ref a1, u0_1, u0_2, u0_3, u0_4, u0_5, u0_6, u0_7, u0_8, u0_9, u0_10, u0_11, u0_12, u0_13, u0_14, u0_15, u0_16, u0_17, u0_18, u0_19, u0_20, u0_21, u0_22, u0_23, u0_24, u0_25, u0_26, u0_27, u0_28, u0_29, u0_30])), (a1, .inl (g.2.1 0, 552, .inl y1_s))]
set_option maxRecDepth 20000 in
theorem c_X9_letterOf (l : Launch) (g : GE) (a0 a1 : Nat) (sz : Nat) (u0_1 u0_2 u0_3 u0_4 u0_5 u0_6 u0_7 u0_8 u0_9 u0_10 u0_11 u0_12 u0_13 u0_14 u0_15 u0_16 u0_17 u0_18 u0_19 u0_20 u0_21 u0_22 u0_23 u0_24 u0_25 u0_26 u0_27 u0_28 u0_29 u0_30 : Value) (y1_s : Nat → Int32) (p1 : Int32) (p2 : Int32)  (r : Int32) (hf : f_X9_letterOf y1_s p1 p2 = some r) : MI l g yX9_letterOf wsX9_letterOf 4 98 [.ref a0, .int p1, .int p2] (w_X9_letterOf g a0 a1 u0_1 u0_2 u0_3 u0_4 u0_5 u0_6 u0_7 u0_8 u0_9 u0_10 u0_11 u0_12 u0_13 u0_14 u0_15 u0_16 u0_17 u0_18 u0_19 u0_20 u0_21 u0_22 u0_23 u0_24 u0_25 u0_26 u0_27 u0_28 u0_29 u0_30 y1_s) sz (some (.int r)) (w_X9_letterOf g a0 a1 u0_1 u0_2 u0_3 u0_4 u0_5 u0_6 u0_7 u0_8 u0_9 u0_10 u0_11 u0_12 u0_13 u0_14 u0_15 u0_16 u0_17 u0_18 u0_19 u0_20 u0_21 u0_22 u0_23 u0_24 u0_25 u0_26 u0_27 u0_28 u0_29 u0_30 y1_s) := by
  refine MI.start (cc := cX9_letterOf) (maxL := 3) (ret := (some .int)) rfl rfl (nle rfl) ?_
  intro p e s m args below meth c A ls Q hQ hexec hb hr hts hown hlocks hml hA hP hD hG hS hl
  unfold f_X9_letterOf at hf
  have hWX9 : ∀ w ∈ wsX90, w.before args s = true := fun w h => hts w (List.mem_cons_of_mem _ (List.mem_append_right _ h))
  have hS : va_S A s.heap s.heap [] := hS
  refine lv_aload_n (pc := 0) hexec hb dX9_letterOf_0 rfl (lv_at hl 0 rfl) ?_
  refine lv_iload_n (pc := 1) hexec hb dX9_letterOf_1 rfl (lv_at hl 1 rfl) ?_
  obtain ⟨r2, hc, hf⟩ := bd1_e hf
  refine kVp (pc := 2) (S := ⟨hexec, hb, hml, hown, hts⟩) hP hD hG hA hS [0, 1] [] [0, 1] (w2 := (w_X9_letterOf g a0 a1 u0_1 u0_2 u0_3 u0_4 u0_5 u0_6 u0_7 u0_8 u0_9 u0_10 u0_11 u0_12 u0_13 u0_14 u0_15 u0_16 u0_17 u0_18 u0_19 u0_20 u0_21 u0_22 u0_23 u0_24 u0_25 u0_26 u0_27 u0_28 u0_29 u0_30 y1_s)) rfl rfl rfl rfl rfl rfl (by decide) (c_X9_isPlaced l g a0 a1 _ u0_1 u0_2 u0_3 u0_4 u0_5 u0_6 u0_7 u0_8 u0_9 u0_10 u0_11 u0_12 u0_13 u0_14 u0_15 u0_16 u0_17 u0_18 u0_19 u0_20 u0_21 u0_22 u0_23 u0_24 u0_25 u0_26 u0_27 u0_28 u0_29 u0_30 y1_s p1 r2 hc) gX9_letterOf_X9_isPlaced rfl hv_X9_isPlaced ⟨nle rfl, nle rfl⟩ 9 0 rfl rfl rfl (rest := []) rfl rfl hl.1 (nle rfl) dX9_letterOf_2 (fun H locs hP hD hS => ?_)
  refine kb_eq (pc := 5) hexec hb dX9_letterOf_5 (tgt := 23) rfl hf (fun hc hf => ?_) (fun hc hf => ?_)
  · refine lv_iconst (pc := 23) hexec hb dX9_letterOf_23 ki_m1 ?_
    cases hf
    exact ke_i hQ hexec hb hr hP hD hS dX9_letterOf_24 hlocks
  · refine lv_aload_n (pc := 8) hexec hb dX9_letterOf_8 rfl (lv_at hl 0 rfl) ?_
    refine lv_iload_n (pc := 9) hexec hb dX9_letterOf_9 rfl (lv_at hl 1 rfl) ?_
    refine lv_aload_n (pc := 10) hexec hb dX9_letterOf_10 rfl (lv_at hl 0 rfl) ?_
    refine lv_iload_n (pc := 11) hexec hb dX9_letterOf_11 rfl (lv_at hl 1 rfl) ?_
    refine lv_iconst (pc := 12) hexec hb dX9_letterOf_12 ki_2 ?_
    obtain ⟨r13, hc, hf⟩ := bd1_e hf
    refine kVp (pc := 13) (S := ⟨hexec, hb, hml, hown, hts⟩) hP hD hG hA hS [0, 1] [] [0, 1] (w2 := (w_X9_letterOf g a0 a1 u0_1 u0_2 u0_3 u0_4 u0_5 u0_6 u0_7 u0_8 u0_9 u0_10 u0_11 u0_12 u0_13 u0_14 u0_15 u0_16 u0_17 u0_18 u0_19 u0_20 u0_21 u0_22 u0_23 u0_24 u0_25 u0_26 u0_27 u0_28 u0_29 u0_30 y1_s)) rfl rfl rfl rfl rfl rfl (by decide) (c_X9_of l g a0 a1 _ u0_1 u0_2 u0_3 u0_4 u0_5 u0_6 u0_7 u0_8 u0_9 u0_10 u0_11 u0_12 u0_13 u0_14 u0_15 u0_16 u0_17 u0_18 u0_19 u0_20 u0_21 u0_22 u0_23 u0_24 u0_25 u0_26 u0_27 u0_28 u0_29 u0_30 y1_s p1 2 r13 hc) gX9_letterOf_X9_of rfl hv_X9_of ⟨nle rfl, nle rfl⟩ 9 0 rfl rfl rfl (rest := [.int p1, .ref a0]) rfl rfl hl.1 (nle rfl) dX9_letterOf_13 (fun H locs hP hD hS => ?_)
    refine lv_iload_n (pc := 16) hexec hb dX9_letterOf_16 rfl (lv_at hl 2 rfl) ?_
    obtain ⟨r17, hc, hf⟩ := bd1_e hf
    refine kVp (pc := 17) (S := ⟨hexec, hb, hml, hown, hts⟩) hP hD hG hA hS [0, 1] [] [0, 1] (w2 := (w_X9_letterOf g a0 a1 u0_1 u0_2 u0_3 u0_4 u0_5 u0_6 u0_7 u0_8 u0_9 u0_10 u0_11 u0_12 u0_13 u0_14 u0_15 u0_16 u0_17 u0_18 u0_19 u0_20 u0_21 u0_22 u0_23 u0_24 u0_25 u0_26 u0_27 u0_28 u0_29 u0_30 y1_s)) rfl rfl rfl rfl rfl rfl (by decide) (c_X9_letterIn l g a0 a1 _ u0_1 u0_2 u0_3 u0_4 u0_5 u0_6 u0_7 u0_8 u0_9 u0_10 u0_11 u0_12 u0_13 u0_14 u0_15 u0_16 u0_17 u0_18 u0_19 u0_20 u0_21 u0_22 u0_23 u0_24 u0_25 u0_26 u0_27 u0_28 u0_29 u0_30 y1_s p1 r13 p2 r17 hc) gX9_letterOf_X9_letterIn rfl hv_X9_letterIn ⟨nle rfl, nle rfl⟩ 9 0 rfl rfl rfl (rest := []) rfl rfl hl.1 (nle rfl) dX9_letterOf_17 (fun H locs hP hD hS => ?_)
    refine lv_goto (pc := 20) hexec hb dX9_letterOf_20 (tgt := 24) rfl ?_
    cases hf
    exact ke_i hQ hexec hb hr hP hD hS dX9_letterOf_24 hlocks
abbrev w_X9_namesIn (g : GE) (a0 a1 : Nat) (u0_1 u0_2 u0_3 u0_4 u0_5 u0_6 u0_7 u0_8 u0_9 u0_10 u0_11 u0_12 u0_13 u0_14 u0_15 u0_16 u0_17 u0_18 u0_19 u0_20 u0_21 u0_22 u0_23 u0_24 u0_25 u0_26 u0_27 u0_28 u0_29 u0_30 : Value) (y1_s : Nat → Int32) : va_W := [(a0, .inr (9, [.ref a1, u0_1, u0_2, u0_3, u0_4, u0_5, u0_6, u0_7, u0_8, u0_9, u0_10, u0_11, u0_12, u0_13, u0_14, u0_15, u0_16, u0_17, u0_18, u0_19, u0_20, u0_21, u0_22, u0_23, u0_24, u0_25, u0_26, u0_27, u0_28, u0_29, u0_30])), (a1, .inl (g.2.1 0, 552, .inl y1_s))]
set_option maxRecDepth 20000 in
theorem c_X9_namesIn (l : Launch) (g : GE) (a0 a1 : Nat) (sz : Nat) (u0_1 u0_2 u0_3 u0_4 u0_5 u0_6 u0_7 u0_8 u0_9 u0_10 u0_11 u0_12 u0_13 u0_14 u0_15 u0_16 u0_17 u0_18 u0_19 u0_20 u0_21 u0_22 u0_23 u0_24 u0_25 u0_26 u0_27 u0_28 u0_29 u0_30 : Value) (y1_s : Nat → Int32) (p1 : Int32)  (r : Int32) (hf : f_X9_namesIn y1_s p1 = some r) : MI l g yX9_namesIn wsX9_namesIn 5 120 [.ref a0, .int p1] (w_X9_namesIn g a0 a1 u0_1 u0_2 u0_3 u0_4 u0_5 u0_6 u0_7 u0_8 u0_9 u0_10 u0_11 u0_12 u0_13 u0_14 u0_15 u0_16 u0_17 u0_18 u0_19 u0_20 u0_21 u0_22 u0_23 u0_24 u0_25 u0_26 u0_27 u0_28 u0_29 u0_30 y1_s) sz (some (.int r)) (w_X9_namesIn g a0 a1 u0_1 u0_2 u0_3 u0_4 u0_5 u0_6 u0_7 u0_8 u0_9 u0_10 u0_11 u0_12 u0_13 u0_14 u0_15 u0_16 u0_17 u0_18 u0_19 u0_20 u0_21 u0_22 u0_23 u0_24 u0_25 u0_26 u0_27 u0_28 u0_29 u0_30 y1_s) := by
  refine MI.start (cc := cX9_namesIn) (maxL := 4) (ret := (some .int)) rfl rfl (nle rfl) ?_
  intro p e s m args below meth c A ls Q hQ hexec hb hr hts hown hlocks hml hA hP hD hG hS hl
  unfold f_X9_namesIn at hf
  have hWX9 : ∀ w ∈ wsX90, w.before args s = true := fun w h => hts w (List.mem_cons_of_mem _ (List.mem_append_right _ h))
  have hS : va_S A s.heap s.heap [] := hS
  refine lv_iconst (pc := 0) hexec hb dX9_namesIn_0 ki_0 ?_
  refine lv_istore_n (pc := 1) hexec hb dX9_namesIn_1 rfl hl (nle rfl) rfl (fun ls (hl : lv_has ls 4 [(2, .int 0), (0, .ref a0), (1, .int p1)]) => ?_)
  refine lv_iconst (pc := 2) hexec hb dX9_namesIn_2 ki_0 ?_
  refine lv_istore_n (pc := 3) hexec hb dX9_namesIn_3 rfl hl (nle rfl) rfl (fun ls (hl : lv_has ls 4 [(3, .int 0), (2, .int 0), (0, .ref a0), (1, .int p1)]) => ?_)
  obtain ⟨l4, el4, hf⟩ := bvf2 hf
  obtain ⟨v2_1, hz, hf⟩ := bd1_e hf
  have hE4 : ∀ (H : Heap) (locs : List Loc) (ls : Array Slot), va_P g.1 vwCl (w_X9_namesIn g a0 a1 u0_1 u0_2 u0_3 u0_4 u0_5 u0_6 u0_7 u0_8 u0_9 u0_10 u0_11 u0_12 u0_13 u0_14 u0_15 u0_16 u0_17 u0_18 u0_19 u0_20 u0_21 u0_22 u0_23 u0_24 u0_25 u0_26 u0_27 u0_28 u0_29 u0_30 y1_s) H → va_D A (w_X9_namesIn g a0 a1 u0_1 u0_2 u0_3 u0_4 u0_5 u0_6 u0_7 u0_8 u0_9 u0_10 u0_11 u0_12 u0_13 u0_14 u0_15 u0_16 u0_17 u0_18 u0_19 u0_20 u0_21 u0_22 u0_23 u0_24 u0_25 u0_26 u0_27 u0_28 u0_29 u0_30 y1_s) → va_S A s.heap H locs → lv_has ls 4 [(2, .int v2_1)] → W p l e (RM 5 120) s m args below meth c H locs 0 0 Q (F0 m 40 ls []) := by
    intro H locs ls hP hD hS hl
    refine lv_iload_n (pc := 40) hexec hb dX9_namesIn_40 rfl (lv_at hl 0 rfl) ?_
    cases hf
    exact ke_i hQ hexec hb hr hP hD hS dX9_namesIn_41 hlocks
  obtain ⟨n, hz⟩ := lq2_e hz
  have hL4 : ∀ (n : Nat) (v2 : Int32) (v3 : Int32) (H : Heap) (locs : List Loc) (ls : Array Slot), it2 l4 n v2 v3 = some v2_1 → va_P g.1 vwCl (w_X9_namesIn g a0 a1 u0_1 u0_2 u0_3 u0_4 u0_5 u0_6 u0_7 u0_8 u0_9 u0_10 u0_11 u0_12 u0_13 u0_14 u0_15 u0_16 u0_17 u0_18 u0_19 u0_20 u0_21 u0_22 u0_23 u0_24 u0_25 u0_26 u0_27 u0_28 u0_29 u0_30 y1_s) H → va_D A (w_X9_namesIn g a0 a1 u0_1 u0_2 u0_3 u0_4 u0_5 u0_6 u0_7 u0_8 u0_9 u0_10 u0_11 u0_12 u0_13 u0_14 u0_15 u0_16 u0_17 u0_18 u0_19 u0_20 u0_21 u0_22 u0_23 u0_24 u0_25 u0_26 u0_27 u0_28 u0_29 u0_30 y1_s) → va_S A s.heap H locs → lv_has ls 4 [(0, .ref a0), (1, .int p1), (2, .int v2), (3, .int v3)] → W p l e (RM 5 120) s m args below meth c H locs 0 0 Q (F0 m 4 ls []) := by
    intro n
    induction n with
    | zero =>
      intro v2 v3 H locs ls hf hP hD hS hl
      exact it2_0 hf
    | succ n4 ih4 =>
      intro v2 v3 H locs ls hf hP hD hS hl
      obtain ⟨q4, hf, hk4⟩ := it2_e hf
      have hf := (el4 v2 v3).symm.trans hf
      refine lv_iload_n (pc := 4) hexec hb dX9_namesIn_4 rfl (lv_at hl 3 rfl) ?_
      refine lv_aload_n (pc := 5) hexec hb dX9_namesIn_5 rfl (lv_at hl 0 rfl) ?_
      refine kg_get (pc := 6) hexec hb (own := RX9) hWX9 hown hG hP 0 rfl rfl 0 (nle rfl) (hts _ (List.mem_cons_of_mem _ (List.mem_append_left _ (List.mem_append_left _ (List.mem_of_getElem? (i := 0) rfl))))) rfl rfl dX9_namesIn_6 ?_
      refine lv_iconst (pc := 9) hexec hb dX9_namesIn_9 ki_2 ?_
      refine kr_iald (pc := 10) hexec hb hG hP 1 rfl hf dX9_namesIn_10 (fun hf => ?_)
      refine ki_ge (pc := 11) hexec hb dX9_namesIn_11 (tgt := 40) rfl hf (fun hc hf => ?_) (fun hc hf => ?_)
      · cases sr2 hf hk4
        exact hE4 _ _ _ hP hD hS (lv_sub hl [2] rfl)
      · refine lv_iload_n (pc := 14) hexec hb dX9_namesIn_14 rfl (lv_at hl 2 rfl) ?_
        refine lv_aload_n (pc := 15) hexec hb dX9_namesIn_15 rfl (lv_at hl 0 rfl) ?_
        refine lv_iload_n (pc := 16) hexec hb dX9_namesIn_16 rfl (lv_at hl 3 rfl) ?_
        refine lv_iload_n (pc := 17) hexec hb dX9_namesIn_17 rfl (lv_at hl 1 rfl) ?_
        obtain ⟨r18, hc, hf⟩ := bd1_e hf
        refine kVp (pc := 18) (S := ⟨hexec, hb, hml, hown, hts⟩) hP hD hG hA hS [0, 1] [] [0, 1] (w2 := (w_X9_namesIn g a0 a1 u0_1 u0_2 u0_3 u0_4 u0_5 u0_6 u0_7 u0_8 u0_9 u0_10 u0_11 u0_12 u0_13 u0_14 u0_15 u0_16 u0_17 u0_18 u0_19 u0_20 u0_21 u0_22 u0_23 u0_24 u0_25 u0_26 u0_27 u0_28 u0_29 u0_30 y1_s)) rfl rfl rfl rfl rfl rfl (by decide) (c_X9_letterOf l g a0 a1 _ u0_1 u0_2 u0_3 u0_4 u0_5 u0_6 u0_7 u0_8 u0_9 u0_10 u0_11 u0_12 u0_13 u0_14 u0_15 u0_16 u0_17 u0_18 u0_19 u0_20 u0_21 u0_22 u0_23 u0_24 u0_25 u0_26 u0_27 u0_28 u0_29 u0_30 y1_s v3 p1 r18 hc) gX9_namesIn_X9_letterOf rfl hv_X9_letterOf ⟨nle rfl, nle rfl⟩ 9 0 rfl rfl rfl (rest := [.int v2]) rfl rfl hl.1 (nle rfl) dX9_namesIn_18 (fun H locs hP hD hS => ?_)
        refine lv_iconst (pc := 21) hexec hb dX9_namesIn_21 ki_m1 ?_
        obtain ⟨j32, ej32, hf⟩ := bvf1 hf
        have hj32 : ∀ (t32 : Int32) (H : Heap) (locs : List Loc) (ls : Array Slot), j32 t32 = some q4 → va_P g.1 vwCl (w_X9_namesIn g a0 a1 u0_1 u0_2 u0_3 u0_4 u0_5 u0_6 u0_7 u0_8 u0_9 u0_10 u0_11 u0_12 u0_13 u0_14 u0_15 u0_16 u0_17 u0_18 u0_19 u0_20 u0_21 u0_22 u0_23 u0_24 u0_25 u0_26 u0_27 u0_28 u0_29 u0_30 y1_s) H → va_D A (w_X9_namesIn g a0 a1 u0_1 u0_2 u0_3 u0_4 u0_5 u0_6 u0_7 u0_8 u0_9 u0_10 u0_11 u0_12 u0_13 u0_14 u0_15 u0_16 u0_17 u0_18 u0_19 u0_20 u0_21 u0_22 u0_23 u0_24 u0_25 u0_26 u0_27 u0_28 u0_29 u0_30 y1_s) → va_S A s.heap H locs → lv_has ls 4 [(0, .ref a0), (1, .int p1), (3, .int v3)] → W p l e (RM 5 120) s m args below meth c H locs 0 0 Q (F0 m 32 ls [.int t32, .int v2]) := by
          intro t32 H locs ls hf hP hD hS hl
          have hf := (ej32 t32).symm.trans hf
          refine lv_ior (pc := 32) hexec hb dX9_namesIn_32 ?_
          obtain ⟨v2_2, ev2_2, hf⟩ := bv_e hf
          refine kn_i ev2_2 ?_
          refine lv_istore_n (pc := 33) hexec hb dX9_namesIn_33 rfl hl (nle rfl) rfl (fun ls (hl : lv_has ls 4 [(2, .int v2_2), (0, .ref a0), (1, .int p1), (3, .int v3)]) => ?_)
          obtain ⟨v3_1, ev3_1, hf⟩ := bv_e hf
          refine k_iinc (pc := 34) hexec hb dX9_namesIn_34 kq_1 hl (k := 3) rfl ev3_1 (nle rfl) rfl (fun ls (hl : lv_has ls 4 [(3, .int v3_1), (2, .int v2_2), (0, .ref a0), (1, .int p1)]) => ?_)
          refine lv_goto (pc := 37) hexec hb dX9_namesIn_37 (tgt := 4) rfl ?_
          exact ih4 _ _ _ _ _ (sl2 hf hk4) hP hD hS (lv_sub hl [2, 3, 1, 0] rfl)
        refine ki_eq (pc := 22) hexec hb dX9_namesIn_22 (tgt := 31) rfl hf (fun hc hf => ?_) (fun hc hf => ?_)
        · refine lv_iconst (pc := 31) hexec hb dX9_namesIn_31 ki_0 ?_
          exact hj32 _ _ _ _ hf hP hD hS (lv_sub hl [0, 1, 3] rfl)
        · refine lv_iconst (pc := 25) hexec hb dX9_namesIn_25 ki_1 ?_
          refine lv_iload_n (pc := 26) hexec hb dX9_namesIn_26 rfl (lv_at hl 3 rfl) ?_
          refine lv_ishl (pc := 27) hexec hb dX9_namesIn_27 ?_
          refine lv_goto (pc := 28) hexec hb dX9_namesIn_28 (tgt := 32) rfl ?_
          exact hj32 _ _ _ _ hf hP hD hS (lv_sub hl [0, 1, 3] rfl)
  exact hL4 n _ _ _ _ _ hz hP hD hS (lv_sub hl [2, 3, 1, 0] rfl)
abbrev w_X9_letterAt (g : GE) (a0 a1 : Nat) (u0_1 u0_2 u0_3 u0_4 u0_5 u0_6 u0_7 u0_8 u0_9 u0_10 u0_11 u0_12 u0_13 u0_14 u0_15 u0_16 u0_17 u0_18 u0_19 u0_20 u0_21 u0_22 u0_23 u0_24 u0_25 u0_26 u0_27 u0_28 u0_29 u0_30 : Value) (y1_s : Nat → Int32) : va_W := [(a0, .inr (9, [.ref a1, u0_1, u0_2, u0_3, u0_4, u0_5, u0_6, u0_7, u0_8, u0_9, u0_10, u0_11, u0_12, u0_13, u0_14, u0_15, u0_16, u0_17, u0_18, u0_19, u0_20, u0_21, u0_22, u0_23, u0_24, u0_25, u0_26, u0_27, u0_28, u0_29, u0_30])), (a1, .inl (g.2.1 0, 552, .inl y1_s))]
set_option maxRecDepth 20000 in
theorem c_X9_letterAt (l : Launch) (g : GE) (a0 a1 : Nat) (sz : Nat) (u0_1 u0_2 u0_3 u0_4 u0_5 u0_6 u0_7 u0_8 u0_9 u0_10 u0_11 u0_12 u0_13 u0_14 u0_15 u0_16 u0_17 u0_18 u0_19 u0_20 u0_21 u0_22 u0_23 u0_24 u0_25 u0_26 u0_27 u0_28 u0_29 u0_30 : Value) (y1_s : Nat → Int32) (p1 : Int32)  (r : Int32) (hf : f_X9_letterAt y1_s p1 = some r) : MI l g yX9_letterAt wsX9_letterAt 5 120 [.ref a0, .int p1] (w_X9_letterAt g a0 a1 u0_1 u0_2 u0_3 u0_4 u0_5 u0_6 u0_7 u0_8 u0_9 u0_10 u0_11 u0_12 u0_13 u0_14 u0_15 u0_16 u0_17 u0_18 u0_19 u0_20 u0_21 u0_22 u0_23 u0_24 u0_25 u0_26 u0_27 u0_28 u0_29 u0_30 y1_s) sz (some (.int r)) (w_X9_letterAt g a0 a1 u0_1 u0_2 u0_3 u0_4 u0_5 u0_6 u0_7 u0_8 u0_9 u0_10 u0_11 u0_12 u0_13 u0_14 u0_15 u0_16 u0_17 u0_18 u0_19 u0_20 u0_21 u0_22 u0_23 u0_24 u0_25 u0_26 u0_27 u0_28 u0_29 u0_30 y1_s) := by
  refine MI.start (cc := cX9_letterAt) (maxL := 4) (ret := (some .int)) rfl rfl (nle rfl) ?_
  intro p e s m args below meth c A ls Q hQ hexec hb hr hts hown hlocks hml hA hP hD hG hS hl
  unfold f_X9_letterAt at hf
  have hWX9 : ∀ w ∈ wsX90, w.before args s = true := fun w h => hts w (List.mem_cons_of_mem _ (List.mem_append_right _ h))
  have hS : va_S A s.heap s.heap [] := hS
  refine lv_iconst (pc := 0) hexec hb dX9_letterAt_0 ki_m1 ?_
  refine lv_istore_n (pc := 1) hexec hb dX9_letterAt_1 rfl hl (nle rfl) rfl (fun ls (hl : lv_has ls 4 [(2, .int (-1)), (0, .ref a0), (1, .int p1)]) => ?_)
  refine lv_iconst (pc := 2) hexec hb dX9_letterAt_2 ki_0 ?_
  refine lv_istore_n (pc := 3) hexec hb dX9_letterAt_3 rfl hl (nle rfl) rfl (fun ls (hl : lv_has ls 4 [(3, .int 0), (2, .int (-1)), (0, .ref a0), (1, .int p1)]) => ?_)
  obtain ⟨l4, el4, hf⟩ := bvf2 hf
  obtain ⟨v2_1, hz, hf⟩ := bd1_e hf
  have hE4 : ∀ (H : Heap) (locs : List Loc) (ls : Array Slot), va_P g.1 vwCl (w_X9_letterAt g a0 a1 u0_1 u0_2 u0_3 u0_4 u0_5 u0_6 u0_7 u0_8 u0_9 u0_10 u0_11 u0_12 u0_13 u0_14 u0_15 u0_16 u0_17 u0_18 u0_19 u0_20 u0_21 u0_22 u0_23 u0_24 u0_25 u0_26 u0_27 u0_28 u0_29 u0_30 y1_s) H → va_D A (w_X9_letterAt g a0 a1 u0_1 u0_2 u0_3 u0_4 u0_5 u0_6 u0_7 u0_8 u0_9 u0_10 u0_11 u0_12 u0_13 u0_14 u0_15 u0_16 u0_17 u0_18 u0_19 u0_20 u0_21 u0_22 u0_23 u0_24 u0_25 u0_26 u0_27 u0_28 u0_29 u0_30 y1_s) → va_S A s.heap H locs → lv_has ls 4 [(2, .int v2_1)] → W p l e (RM 5 120) s m args below meth c H locs 0 0 Q (F0 m 31 ls []) := by
    intro H locs ls hP hD hS hl
    refine lv_iload_n (pc := 31) hexec hb dX9_letterAt_31 rfl (lv_at hl 0 rfl) ?_
    cases hf
    exact ke_i hQ hexec hb hr hP hD hS dX9_letterAt_32 hlocks
  obtain ⟨n, hz⟩ := lq2_e hz
  have hL4 : ∀ (n : Nat) (v2 : Int32) (v3 : Int32) (H : Heap) (locs : List Loc) (ls : Array Slot), it2 l4 n v2 v3 = some v2_1 → va_P g.1 vwCl (w_X9_letterAt g a0 a1 u0_1 u0_2 u0_3 u0_4 u0_5 u0_6 u0_7 u0_8 u0_9 u0_10 u0_11 u0_12 u0_13 u0_14 u0_15 u0_16 u0_17 u0_18 u0_19 u0_20 u0_21 u0_22 u0_23 u0_24 u0_25 u0_26 u0_27 u0_28 u0_29 u0_30 y1_s) H → va_D A (w_X9_letterAt g a0 a1 u0_1 u0_2 u0_3 u0_4 u0_5 u0_6 u0_7 u0_8 u0_9 u0_10 u0_11 u0_12 u0_13 u0_14 u0_15 u0_16 u0_17 u0_18 u0_19 u0_20 u0_21 u0_22 u0_23 u0_24 u0_25 u0_26 u0_27 u0_28 u0_29 u0_30 y1_s) → va_S A s.heap H locs → lv_has ls 4 [(0, .ref a0), (1, .int p1), (2, .int v2), (3, .int v3)] → W p l e (RM 5 120) s m args below meth c H locs 0 0 Q (F0 m 4 ls []) := by
    intro n
    induction n with
    | zero =>
      intro v2 v3 H locs ls hf hP hD hS hl
      exact it2_0 hf
    | succ n4 ih4 =>
      intro v2 v3 H locs ls hf hP hD hS hl
      obtain ⟨q4, hf, hk4⟩ := it2_e hf
      have hf := (el4 v2 v3).symm.trans hf
      refine lv_iload_n (pc := 4) hexec hb dX9_letterAt_4 rfl (lv_at hl 3 rfl) ?_
      refine lv_aload_n (pc := 5) hexec hb dX9_letterAt_5 rfl (lv_at hl 0 rfl) ?_
      refine kg_get (pc := 6) hexec hb (own := RX9) hWX9 hown hG hP 0 rfl rfl 0 (nle rfl) (hts _ (List.mem_cons_of_mem _ (List.mem_append_left _ (List.mem_append_left _ (List.mem_of_getElem? (i := 0) rfl))))) rfl rfl dX9_letterAt_6 ?_
      refine lv_iconst (pc := 9) hexec hb dX9_letterAt_9 ki_2 ?_
      refine kr_iald (pc := 10) hexec hb hG hP 1 rfl hf dX9_letterAt_10 (fun hf => ?_)
      refine ki_ge (pc := 11) hexec hb dX9_letterAt_11 (tgt := 31) rfl hf (fun hc hf => ?_) (fun hc hf => ?_)
      · cases sr2 hf hk4
        exact hE4 _ _ _ hP hD hS (lv_sub hl [2] rfl)
      · refine lv_iload_n (pc := 14) hexec hb dX9_letterAt_14 rfl (lv_at hl 2 rfl) ?_
        refine lv_aload_n (pc := 15) hexec hb dX9_letterAt_15 rfl (lv_at hl 0 rfl) ?_
        refine lv_iload_n (pc := 16) hexec hb dX9_letterAt_16 rfl (lv_at hl 3 rfl) ?_
        refine lv_iload_n (pc := 17) hexec hb dX9_letterAt_17 rfl (lv_at hl 1 rfl) ?_
        obtain ⟨r18, hc, hf⟩ := bd1_e hf
        refine kVp (pc := 18) (S := ⟨hexec, hb, hml, hown, hts⟩) hP hD hG hA hS [0, 1] [] [0, 1] (w2 := (w_X9_letterAt g a0 a1 u0_1 u0_2 u0_3 u0_4 u0_5 u0_6 u0_7 u0_8 u0_9 u0_10 u0_11 u0_12 u0_13 u0_14 u0_15 u0_16 u0_17 u0_18 u0_19 u0_20 u0_21 u0_22 u0_23 u0_24 u0_25 u0_26 u0_27 u0_28 u0_29 u0_30 y1_s)) rfl rfl rfl rfl rfl rfl (by decide) (c_X9_letterOf l g a0 a1 _ u0_1 u0_2 u0_3 u0_4 u0_5 u0_6 u0_7 u0_8 u0_9 u0_10 u0_11 u0_12 u0_13 u0_14 u0_15 u0_16 u0_17 u0_18 u0_19 u0_20 u0_21 u0_22 u0_23 u0_24 u0_25 u0_26 u0_27 u0_28 u0_29 u0_30 y1_s v3 p1 r18 hc) gX9_letterAt_X9_letterOf rfl hv_X9_letterOf ⟨nle rfl, nle rfl⟩ 9 0 rfl rfl rfl (rest := [.int v2]) rfl rfl hl.1 (nle rfl) dX9_letterAt_18 (fun H locs hP hD hS => ?_)
        refine va_mmax (pc := 21) hexec hb (hml.trans hl.1.symm) (own := RX9) hown (hts _ (List.mem_cons_of_mem _ (List.mem_append_left _ (List.mem_append_left _ (List.mem_of_getElem? (i := 1) rfl))))) (hts _ (List.mem_cons_of_mem _ (List.mem_append_left _ (List.mem_append_left _ (List.mem_of_getElem? (i := 2) rfl))))) (hts _ (List.mem_cons_of_mem _ (List.mem_append_left _ (List.mem_append_left _ (List.mem_of_getElem? (i := 3) rfl))))) (hts _ (List.mem_cons_of_mem _ (List.mem_append_left _ (List.mem_append_left _ (List.mem_of_getElem? (i := 4) rfl))))) (nle rfl) (nle rfl) (nle rfl) (nle rfl) dX9_letterAt_21 ?_
        obtain ⟨v2_2, ev2_2, hf⟩ := bv_e hf
        refine kn_i ev2_2 ?_
        refine lv_istore_n (pc := 24) hexec hb dX9_letterAt_24 rfl hl (nle rfl) rfl (fun ls (hl : lv_has ls 4 [(2, .int v2_2), (0, .ref a0), (1, .int p1), (3, .int v3)]) => ?_)
        obtain ⟨v3_1, ev3_1, hf⟩ := bv_e hf
        refine k_iinc (pc := 25) hexec hb dX9_letterAt_25 kq_1 hl (k := 3) rfl ev3_1 (nle rfl) rfl (fun ls (hl : lv_has ls 4 [(3, .int v3_1), (2, .int v2_2), (0, .ref a0), (1, .int p1)]) => ?_)
        refine lv_goto (pc := 28) hexec hb dX9_letterAt_28 (tgt := 4) rfl ?_
        exact ih4 _ _ _ _ _ (sl2 hf hk4) hP hD hS (lv_sub hl [2, 3, 1, 0] rfl)
  exact hL4 n _ _ _ _ _ hz hP hD hS (lv_sub hl [2, 3, 1, 0] rfl)
