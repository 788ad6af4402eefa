abbrev w_X4_beginEmpty (g : GE) (a0 : Nat) (u0_4 : Value) (x0_count : Int32) (x0_next : Int32) (x0_turn : Int32) (x0_quarters : Int32) : va_W := [(a0, .inr (4, [.int x0_count, .int x0_next, .int x0_turn, .int x0_quarters, u0_4]))]
set_option maxRecDepth 20000 in
theorem c_X4_beginEmpty (l : Launch) (g : GE) (a0 : Nat) (sz : Nat) (u0_4 : Value) (x0_count : Int32) (x0_next : Int32) (x0_turn : Int32) (x0_quarters : Int32)   (o_x0_count : Int32) (o_x0_next : Int32) (o_x0_turn : Int32) (o_x0_quarters : Int32) (hf : f_X4_beginEmpty x0_count x0_next x0_turn x0_quarters = some (o_x0_count, o_x0_next, o_x0_turn, o_x0_quarters)) : MI l g yX4_beginEmpty wsX4_beginEmpty 1 24 [.ref a0] (w_X4_beginEmpty g a0 u0_4 x0_count x0_next x0_turn x0_quarters) sz none (w_X4_beginEmpty g a0 u0_4 o_x0_count o_x0_next o_x0_turn o_x0_quarters) := by
  refine MI.start (cc := cX4_beginEmpty) (maxL := 1) (ret := none) rfl rfl (nle rfl) ?_
  intro p e s m args below meth c A ls Q hQ hexec hb hr hts hown hlocks hml hA hP hD hG hS hl
  unfold f_X4_beginEmpty at hf
  have hWX4 : ∀ w ∈ wsX40, w.before args s = true := fun w h => hts w (List.mem_cons_of_mem _ (List.mem_append_right _ h))
  have hS : va_S A s.heap s.heap [] := hS
  refine lv_aload_n (pc := 0) hexec hb dX4_beginEmpty_0 rfl (lv_at hl 0 rfl) ?_
  refine lv_iconst (pc := 1) hexec hb dX4_beginEmpty_1 ki_0 ?_
  refine kp_put (pc := 2) hexec hb (own := RX4) hWX4 tyX4 tyX4_ok nmX4 hown hG hP hD hS 0 rfl rfl 0 (nle rfl) (hts _ (List.mem_cons_of_mem _ (List.mem_append_left _ (List.mem_of_getElem? (i := 0) rfl)))) rfl rfl rfl rfl (nle rfl) dX4_beginEmpty_2 (fun H locs (hP : va_P g.1 vwCl (w_X4_beginEmpty g a0 u0_4 0 x0_next x0_turn x0_quarters) H) (hD : va_D A (w_X4_beginEmpty g a0 u0_4 0 x0_next x0_turn x0_quarters)) hS => ?_)
  refine lv_aload_n (pc := 5) hexec hb dX4_beginEmpty_5 rfl (lv_at hl 0 rfl) ?_
  refine lv_iconst (pc := 6) hexec hb dX4_beginEmpty_6 ki_0 ?_
  refine kp_put (pc := 7) hexec hb (own := RX4) hWX4 tyX4 tyX4_ok nmX4 hown hG hP hD hS 0 rfl rfl 1 (nle rfl) (hts _ (List.mem_cons_of_mem _ (List.mem_append_left _ (List.mem_of_getElem? (i := 1) rfl)))) rfl rfl rfl rfl (nle rfl) dX4_beginEmpty_7 (fun H locs (hP : va_P g.1 vwCl (w_X4_beginEmpty g a0 u0_4 0 0 x0_turn x0_quarters) H) (hD : va_D A (w_X4_beginEmpty g a0 u0_4 0 0 x0_turn x0_quarters)) hS => ?_)
  refine lv_aload_n (pc := 10) hexec hb dX4_beginEmpty_10 rfl (lv_at hl 0 rfl) ?_
  refine lv_iconst (pc := 11) hexec hb dX4_beginEmpty_11 ki_0 ?_
  refine kp_put (pc := 12) hexec hb (own := RX4) hWX4 tyX4 tyX4_ok nmX4 hown hG hP hD hS 0 rfl rfl 2 (nle rfl) (hts _ (List.mem_cons_of_mem _ (List.mem_append_left _ (List.mem_of_getElem? (i := 2) rfl)))) rfl rfl rfl rfl (nle rfl) dX4_beginEmpty_12 (fun H locs (hP : va_P g.1 vwCl (w_X4_beginEmpty g a0 u0_4 0 0 0 x0_quarters) H) (hD : va_D A (w_X4_beginEmpty g a0 u0_4 0 0 0 x0_quarters)) hS => ?_)
  refine lv_aload_n (pc := 15) hexec hb dX4_beginEmpty_15 rfl (lv_at hl 0 rfl) ?_
  refine lv_iconst (pc := 16) hexec hb dX4_beginEmpty_16 ki_0 ?_
  refine kp_put (pc := 17) hexec hb (own := RX4) hWX4 tyX4 tyX4_ok nmX4 hown hG hP hD hS 0 rfl rfl 3 (nle rfl) (hts _ (List.mem_cons_of_mem _ (List.mem_append_left _ (List.mem_of_getElem? (i := 3) rfl)))) rfl rfl rfl rfl (nle rfl) dX4_beginEmpty_17 (fun H locs (hP : va_P g.1 vwCl (w_X4_beginEmpty g a0 u0_4 0 0 0 0) H) (hD : va_D A (w_X4_beginEmpty g a0 u0_4 0 0 0 0)) hS => ?_)
  cases hf
  exact ke_v hQ hexec hb hr hP hD hS dX4_beginEmpty_20 hlocks
abbrev w_X4_copyFrom (g : GE) (a0 a1 a2 a3 : Nat) (x0_count : Int32) (x0_next : Int32) (x0_turn : Int32) (x0_quarters : Int32) (y1_stops : Nat → Int32) (x2_count : Int32) (x2_next : Int32) (x2_turn : Int32) (x2_quarters : Int32) (y3_stops : Nat → Int32) : va_W := [(a0, .inr (4, [.int x0_count, .int x0_next, .int x0_turn, .int x0_quarters, .ref a1])), (a1, .inl (g.2.1 0, 16, .inl y1_stops)), (a2, .inr (4, [.int x2_count, .int x2_next, .int x2_turn, .int x2_quarters, .ref a3])), (a3, .inl (g.2.1 0, 16, .inl y3_stops))]
set_option maxRecDepth 20000 in
theorem c_X4_copyFrom (l : Launch) (g : GE) (a0 a1 a2 a3 : Nat) (sz : Nat) (x0_count : Int32) (x0_next : Int32) (x0_turn : Int32) (x0_quarters : Int32) (y1_stops : Nat → Int32) (x2_count : Int32) (x2_next : Int32) (x2_turn : Int32) (x2_quarters : Int32) (y3_stops : Nat → Int32)   (o_x0_count : Int32) (o_x0_next : Int32) (o_x0_turn : Int32) (o_x0_quarters : Int32) (o_y1_stops : Nat → Int32) (hf : f_X4_copyFrom x0_count x0_next x0_turn x0_quarters y1_stops x2_count x2_next x2_turn x2_quarters y3_stops = some (o_x0_count, o_x0_next, o_x0_turn, o_x0_quarters, o_y1_stops)) : MI l g yX4_copyFrom wsX4_copyFrom 1 24 [.ref a0, .ref a2] (w_X4_copyFrom g a0 a1 a2 a3 x0_count x0_next x0_turn x0_quarters y1_stops x2_count x2_next x2_turn x2_quarters y3_stops) sz none (w_X4_copyFrom g a0 a1 a2 a3 o_x0_count o_x0_next o_x0_turn o_x0_quarters o_y1_stops x2_count x2_next x2_turn x2_quarters y3_stops) := by
  refine MI.start (cc := cX4_copyFrom) (maxL := 3) (ret := none) rfl rfl (nle rfl) ?_
  intro p e s m args below meth c A ls Q hQ hexec hb hr hts hown hlocks hml hA hP hD hG hS hl
  unfold f_X4_copyFrom at hf
  have hWX4 : ∀ w ∈ wsX40, w.before args s = true := fun w h => hts w (List.mem_cons_of_mem _ (List.mem_append_right _ h))
  have hS : va_S A s.heap s.heap [] := hS
  refine lv_aload_n (pc := 0) hexec hb dX4_copyFrom_0 rfl (lv_at hl 0 rfl) ?_
  refine lv_aload_n (pc := 1) hexec hb dX4_copyFrom_1 rfl (lv_at hl 1 rfl) ?_
  refine kg_get (pc := 2) hexec hb (own := RX4) hWX4 hown hG hP 2 rfl rfl 0 (nle rfl) (hts _ (List.mem_cons_of_mem _ (List.mem_append_left _ (List.mem_of_getElem? (i := 0) rfl)))) rfl rfl dX4_copyFrom_2 ?_
  refine kp_put (pc := 5) hexec hb (own := RX4) hWX4 tyX4 tyX4_ok nmX4 hown hG hP hD hS 0 rfl rfl 0 (nle rfl) (hts _ (List.mem_cons_of_mem _ (List.mem_append_left _ (List.mem_of_getElem? (i := 0) rfl)))) rfl rfl rfl rfl (nle rfl) dX4_copyFrom_5 (fun H locs (hP : va_P g.1 vwCl (w_X4_copyFrom g a0 a1 a2 a3 x2_count x0_next x0_turn x0_quarters y1_stops x2_count x2_next x2_turn x2_quarters y3_stops) H) (hD : va_D A (w_X4_copyFrom g a0 a1 a2 a3 x2_count x0_next x0_turn x0_quarters y1_stops x2_count x2_next x2_turn x2_quarters y3_stops)) hS => ?_)
  refine lv_aload_n (pc := 8) hexec hb dX4_copyFrom_8 rfl (lv_at hl 0 rfl) ?_
  refine lv_aload_n (pc := 9) hexec hb dX4_copyFrom_9 rfl (lv_at hl 1 rfl) ?_
  refine kg_get (pc := 10) hexec hb (own := RX4) hWX4 hown hG hP 2 rfl rfl 1 (nle rfl) (hts _ (List.mem_cons_of_mem _ (List.mem_append_left _ (List.mem_of_getElem? (i := 1) rfl)))) rfl rfl dX4_copyFrom_10 ?_
  refine kp_put (pc := 13) hexec hb (own := RX4) hWX4 tyX4 tyX4_ok nmX4 hown hG hP hD hS 0 rfl rfl 1 (nle rfl) (hts _ (List.mem_cons_of_mem _ (List.mem_append_left _ (List.mem_of_getElem? (i := 1) rfl)))) rfl rfl rfl rfl (nle rfl) dX4_copyFrom_13 (fun H locs (hP : va_P g.1 vwCl (w_X4_copyFrom g a0 a1 a2 a3 x2_count x2_next x0_turn x0_quarters y1_stops x2_count x2_next x2_turn x2_quarters y3_stops) H) (hD : va_D A (w_X4_copyFrom g a0 a1 a2 a3 x2_count x2_next x0_turn x0_quarters y1_stops x2_count x2_next x2_turn x2_quarters y3_stops)) hS => ?_)
  refine lv_aload_n (pc := 16) hexec hb dX4_copyFrom_16 rfl (lv_at hl 0 rfl) ?_
  refine lv_aload_n (pc := 17) hexec hb dX4_copyFrom_17 rfl (lv_at hl 1 rfl) ?_
  refine kg_get (pc := 18) hexec hb (own := RX4) hWX4 hown hG hP 2 rfl rfl 2 (nle rfl) (hts _ (List.mem_cons_of_mem _ (List.mem_append_left _ (List.mem_of_getElem? (i := 2) rfl)))) rfl rfl dX4_copyFrom_18 ?_
  refine kp_put (pc := 21) hexec hb (own := RX4) hWX4 tyX4 tyX4_ok nmX4 hown hG hP hD hS 0 rfl rfl 2 (nle rfl) (hts _ (List.mem_cons_of_mem _ (List.mem_append_left _ (List.mem_of_getElem? (i := 2) rfl)))) rfl rfl rfl rfl (nle rfl) dX4_copyFrom_21 (fun H locs (hP : va_P g.1 vwCl (w_X4_copyFrom g a0 a1 a2 a3 x2_count x2_next x2_turn x0_quarters y1_stops x2_count x2_next x2_turn x2_quarters y3_stops) H) (hD : va_D A (w_X4_copyFrom g a0 a1 a2 a3 x2_count x2_next x2_turn x0_quarters y1_stops x2_count x2_next x2_turn x2_quarters y3_stops)) hS => ?_)
  refine lv_aload_n (pc := 24) hexec hb dX4_copyFrom_24 rfl (lv_at hl 0 rfl) ?_
  refine lv_aload_n (pc := 25) hexec hb dX4_copyFrom_25 rfl (lv_at hl 1 rfl) ?_
  refine kg_get (pc := 26) hexec hb (own := RX4) hWX4 hown hG hP 2 rfl rfl 3 (nle rfl) (hts _ (List.mem_cons_of_mem _ (List.mem_append_left _ (List.mem_of_getElem? (i := 3) rfl)))) rfl rfl dX4_copyFrom_26 ?_
  refine kp_put (pc := 29) hexec hb (own := RX4) hWX4 tyX4 tyX4_ok nmX4 hown hG hP hD hS 0 rfl rfl 3 (nle rfl) (hts _ (List.mem_cons_of_mem _ (List.mem_append_left _ (List.mem_of_getElem? (i := 3) rfl)))) rfl rfl rfl rfl (nle rfl) dX4_copyFrom_29 (fun H locs (hP : va_P g.1 vwCl (w_X4_copyFrom g a0 a1 a2 a3 x2_count x2_next x2_turn x2_quarters y1_stops x2_count x2_next x2_turn x2_quarters y3_stops) H) (hD : va_D A (w_X4_copyFrom g a0 a1 a2 a3 x2_count x2_next x2_turn x2_quarters y1_stops x2_count x2_next x2_turn x2_quarters y3_stops)) hS => ?_)
  refine lv_iconst (pc := 32) hexec hb dX4_copyFrom_32 ki_0 ?_
  refine lv_istore_n (pc := 33) hexec hb dX4_copyFrom_33 rfl hl (nle rfl) rfl (fun ls (hl : lv_has ls 3 [(2, .int 0), (0, .ref a0), (1, .ref a2)]) => ?_)
  obtain ⟨l34, el34, hf⟩ := bvf2 hf
  obtain ⟨y1_stops_2, hz, hf⟩ := bd1_e hf
  have hE34 : ∀ (H : Heap) (locs : List Loc) (ls : Array Slot), va_P g.1 vwCl (w_X4_copyFrom g a0 a1 a2 a3 x2_count x2_next x2_turn x2_quarters y1_stops_2 x2_count x2_next x2_turn x2_quarters y3_stops) H → va_D A (w_X4_copyFrom g a0 a1 a2 a3 x2_count x2_next x2_turn x2_quarters y1_stops_2 x2_count x2_next x2_turn x2_quarters y3_stops) → va_S A s.heap H locs → lv_has ls 3 [] → W p l e (RM 1 24) s m args below meth c H locs 0 0 Q (F0 m 58 ls []) := by
    intro H locs ls hP hD hS hl
    cases hf
    exact ke_v hQ hexec hb hr hP hD hS dX4_copyFrom_58 hlocks
  obtain ⟨n, hz⟩ := lq2_e hz
  have hL34 : ∀ (n : Nat) (v2 : Int32) (y1_stops_1 : Nat → Int32) (H : Heap) (locs : List Loc) (ls : Array Slot), it2 l34 n v2 y1_stops_1 = some y1_stops_2 → va_P g.1 vwCl (w_X4_copyFrom g a0 a1 a2 a3 x2_count x2_next x2_turn x2_quarters y1_stops_1 x2_count x2_next x2_turn x2_quarters y3_stops) H → va_D A (w_X4_copyFrom g a0 a1 a2 a3 x2_count x2_next x2_turn x2_quarters y1_stops_1 x2_count x2_next x2_turn x2_quarters y3_stops) → va_S A s.heap H locs → lv_has ls 3 [(0, .ref a0), (1, .ref a2), (2, .int v2)] → W p l e (RM 1 24) s m args below meth c H locs 0 0 Q (F0 m 34 ls []) := by
    intro n
    induction n with
    | zero =>
      intro v2 y1_stops_1 H locs ls hf hP hD hS hl
      exact it2_0 hf
    | succ n34 ih34 =>
      intro v2 y1_stops_1 H locs ls hf hP hD hS hl
      obtain ⟨q34, hf, hk34⟩ := it2_e hf
      have hf := (el34 v2 y1_stops_1).symm.trans hf
      refine lv_iload_n (pc := 34) hexec hb dX4_copyFrom_34 rfl (lv_at hl 2 rfl) ?_
      refine lv_bipush (pc := 35) hexec hb dX4_copyFrom_35 kb_16 ?_
      refine ki_ge (pc := 37) hexec hb dX4_copyFrom_37 (tgt := 58) rfl hf (fun hc hf => ?_) (fun hc hf => ?_)
      · cases sr2 hf hk34
        exact hE34 _ _ _ hP hD hS (lv_sub hl [] rfl)
      · refine lv_aload_n (pc := 40) hexec hb dX4_copyFrom_40 rfl (lv_at hl 0 rfl) ?_
        refine kg_get (pc := 41) hexec hb (own := RX4) hWX4 hown hG hP 0 rfl rfl 4 (nle rfl) (hts _ (List.mem_cons_of_mem _ (List.mem_append_left _ (List.mem_of_getElem? (i := 4) rfl)))) rfl rfl dX4_copyFrom_41 ?_
        refine lv_iload_n (pc := 44) hexec hb dX4_copyFrom_44 rfl (lv_at hl 2 rfl) ?_
        refine lv_aload_n (pc := 45) hexec hb dX4_copyFrom_45 rfl (lv_at hl 1 rfl) ?_
        refine kg_get (pc := 46) hexec hb (own := RX4) hWX4 hown hG hP 2 rfl rfl 4 (nle rfl) (hts _ (List.mem_cons_of_mem _ (List.mem_append_left _ (List.mem_of_getElem? (i := 4) rfl)))) rfl rfl dX4_copyFrom_46 ?_
        refine lv_iload_n (pc := 49) hexec hb dX4_copyFrom_49 rfl (lv_at hl 2 rfl) ?_
        refine kr_iald (pc := 50) hexec hb hG hP 3 rfl hf dX4_copyFrom_50 (fun hf => ?_)
        refine kw_iast (pc := 51) hexec hb hG hP hD hS 1 rfl hf dX4_copyFrom_51 (fun y1_stops_3 H locs hf (hP : va_P g.1 vwCl (w_X4_copyFrom g a0 a1 a2 a3 x2_count x2_next x2_turn x2_quarters y1_stops_3 x2_count x2_next x2_turn x2_quarters y3_stops) H) (hD : va_D A (w_X4_copyFrom g a0 a1 a2 a3 x2_count x2_next x2_turn x2_quarters y1_stops_3 x2_count x2_next x2_turn x2_quarters y3_stops)) hS => ?_)
        obtain ⟨v2_1, ev2_1, hf⟩ := bv_e hf
        refine k_iinc (pc := 52) hexec hb dX4_copyFrom_52 kq_1 hl (k := 2) rfl ev2_1 (nle rfl) rfl (fun ls (hl : lv_has ls 3 [(2, .int v2_1), (0, .ref a0), (1, .ref a2)]) => ?_)
        refine lv_goto (pc := 55) hexec hb dX4_copyFrom_55 (tgt := 34) rfl ?_
        exact ih34 _ _ _ _ _ (sl2 hf hk34) hP hD hS (lv_sub hl [1, 2, 0] rfl)
  exact hL34 n _ _ _ _ _ hz hP hD hS (lv_sub hl [1, 2, 0] rfl)
abbrev w_X4_stopAt (g : GE) (a0 a1 : Nat) (u0_1 u0_2 u0_3 : Value) (x0_count : Int32) (y1_stops : Nat → Int32) : va_W := [(a0, .inr (4, [.int x0_count, u0_1, u0_2, u0_3, .ref a1])), (a1, .inl (g.2.1 0, 16, .inl y1_stops))]
set_option maxRecDepth 20000 in
theorem c_X4_stopAt (l : Launch) (g : GE) (a0 a1 : Nat) (sz : Nat) (u0_1 u0_2 u0_3 : Value) (x0_count : Int32) (y1_stops : Nat → Int32) (p1 : Int32)  (r : Int32) (hf : f_X4_stopAt x0_count y1_stops p1 = some r) : MI l g yX4_stopAt wsX4_stopAt 1 24 [.ref a0, .int p1] (w_X4_stopAt g a0 a1 u0_1 u0_2 u0_3 x0_count y1_stops) sz (some (.int r)) (w_X4_stopAt g a0 a1 u0_1 u0_2 u0_3 x0_count y1_stops) := by
  refine MI.start (cc := cX4_stopAt) (maxL := 2) (ret := (some .int)) rfl rfl (nle rfl) ?_
  intro p e s m args below meth c A ls Q hQ hexec hb hr hts hown hlocks hml hA hP hD hG hS hl
  unfold f_X4_stopAt at hf
  have hWX4 : ∀ w ∈ wsX40, w.before args s = true := fun w h => hts w (List.mem_cons_of_mem _ (List.mem_append_right _ h))
  have hS : va_S A s.heap s.heap [] := hS
  refine lv_iload_n (pc := 0) hexec hb dX4_stopAt_0 rfl (lv_at hl 1 rfl) ?_
  obtain ⟨j27, ej27, hf⟩ := bvf1 hf
  have hj27 : ∀ (u : Unit) (H : Heap) (locs : List Loc) (ls : Array Slot), j27 u = some r → va_P g.1 vwCl (w_X4_stopAt g a0 a1 u0_1 u0_2 u0_3 x0_count y1_stops) H → va_D A (w_X4_stopAt g a0 a1 u0_1 u0_2 u0_3 x0_count y1_stops) → va_S A s.heap H locs → lv_has ls 2 [] → W p l e (RM 1 24) s m args below meth c H locs 0 0 Q (F0 m 27 ls []) := by
    intro u H locs ls hf hP hD hS hl
    have hf := (ej27 u).symm.trans hf
    refine lv_iconst (pc := 27) hexec hb dX4_stopAt_27 ki_m1 ?_
    cases hf
    exact ke_i hQ hexec hb hr hP hD hS dX4_stopAt_28 hlocks
  refine kb_lt (pc := 1) hexec hb dX4_stopAt_1 (tgt := 27) rfl hf (fun hc hf => ?_) (fun hc hf => ?_)
  · exact hj27 _ _ _ _ hf hP hD hS (lv_sub hl [] rfl)
  · refine lv_iload_n (pc := 4) hexec hb dX4_stopAt_4 rfl (lv_at hl 1 rfl) ?_
    refine lv_aload_n (pc := 5) hexec hb dX4_stopAt_5 rfl (lv_at hl 0 rfl) ?_
    refine kg_get (pc := 6) hexec hb (own := RX4) hWX4 hown hG hP 0 rfl rfl 0 (nle rfl) (hts _ (List.mem_cons_of_mem _ (List.mem_append_left _ (List.mem_of_getElem? (i := 0) rfl)))) rfl rfl dX4_stopAt_6 ?_
    refine ki_ge (pc := 9) hexec hb dX4_stopAt_9 (tgt := 27) rfl hf (fun hc hf => ?_) (fun hc hf => ?_)
    · exact hj27 _ _ _ _ hf hP hD hS (lv_sub hl [] rfl)
    · refine lv_iload_n (pc := 12) hexec hb dX4_stopAt_12 rfl (lv_at hl 1 rfl) ?_
      refine lv_bipush (pc := 13) hexec hb dX4_stopAt_13 kb_16 ?_
      refine ki_ge (pc := 15) hexec hb dX4_stopAt_15 (tgt := 27) rfl hf (fun hc hf => ?_) (fun hc hf => ?_)
      · exact hj27 _ _ _ _ hf hP hD hS (lv_sub hl [] rfl)
      · refine lv_aload_n (pc := 18) hexec hb dX4_stopAt_18 rfl (lv_at hl 0 rfl) ?_
        refine kg_get (pc := 19) hexec hb (own := RX4) hWX4 hown hG hP 0 rfl rfl 4 (nle rfl) (hts _ (List.mem_cons_of_mem _ (List.mem_append_left _ (List.mem_of_getElem? (i := 1) rfl)))) rfl rfl dX4_stopAt_19 ?_
        refine lv_iload_n (pc := 22) hexec hb dX4_stopAt_22 rfl (lv_at hl 1 rfl) ?_
        refine kr_iald (pc := 23) hexec hb hG hP 1 rfl hf dX4_stopAt_23 (fun hf => ?_)
        refine lv_goto (pc := 24) hexec hb dX4_stopAt_24 (tgt := 28) rfl ?_
        cases hf
        exact ke_i hQ hexec hb hr hP hD hS dX4_stopAt_28 hlocks
abbrev w_X4_timesOf (g : GE) (a0 a1 : Nat) (u0_1 u0_2 u0_3 : Value) (x0_count : Int32) (y1_stops : Nat → Int32) : va_W := [(a0, .inr (4, [.int x0_count, u0_1, u0_2, u0_3, .ref a1])), (a1, .inl (g.2.1 0, 16, .inl y1_stops))]
set_option maxRecDepth 20000 in
theorem c_X4_timesOf (l : Launch) (g : GE) (a0 a1 : Nat) (sz : Nat) (u0_1 u0_2 u0_3 : Value) (x0_count : Int32) (y1_stops : Nat → Int32) (p1 : Int32)  (r : Int32) (hf : f_X4_timesOf x0_count y1_stops p1 = some r) : MI l g yX4_timesOf wsX4_timesOf 2 45 [.ref a0, .int p1] (w_X4_timesOf g a0 a1 u0_1 u0_2 u0_3 x0_count y1_stops) sz (some (.int r)) (w_X4_timesOf g a0 a1 u0_1 u0_2 u0_3 x0_count y1_stops) := by
  refine MI.start (cc := cX4_timesOf) (maxL := 4) (ret := (some .int)) rfl rfl (nle rfl) ?_
  intro p e s m args below meth c A ls Q hQ hexec hb hr hts hown hlocks hml hA hP hD hG hS hl
  unfold f_X4_timesOf at hf
  have hWX4 : ∀ w ∈ wsX40, w.before args s = true := fun w h => hts w (List.mem_cons_of_mem _ (List.mem_append_right _ h))
  have hS : va_S A s.heap s.heap [] := hS
  refine lv_iconst (pc := 0) hexec hb dX4_timesOf_0 ki_0 ?_
  refine lv_istore_n (pc := 1) hexec hb dX4_timesOf_1 rfl hl (nle rfl) rfl (fun ls (hl : lv_has ls 4 [(2, .int 0), (0, .ref a0), (1, .int p1)]) => ?_)
  refine lv_iconst (pc := 2) hexec hb dX4_timesOf_2 ki_0 ?_
  refine lv_istore_n (pc := 3) hexec hb dX4_timesOf_3 rfl hl (nle rfl) rfl (fun ls (hl : lv_has ls 4 [(3, .int 0), (2, .int 0), (0, .ref a0), (1, .int p1)]) => ?_)
  obtain ⟨l4, el4, hf⟩ := bvf2 hf
  obtain ⟨v2_1, hz, hf⟩ := bd1_e hf
  have hE4 : ∀ (H : Heap) (locs : List Loc) (ls : Array Slot), va_P g.1 vwCl (w_X4_timesOf g a0 a1 u0_1 u0_2 u0_3 x0_count y1_stops) H → va_D A (w_X4_timesOf g a0 a1 u0_1 u0_2 u0_3 x0_count y1_stops) → va_S A s.heap H locs → lv_has ls 4 [(2, .int v2_1)] → W p l e (RM 2 45) s m args below meth c H locs 0 0 Q (F0 m 30 ls []) := by
    intro H locs ls hP hD hS hl
    refine lv_iload_n (pc := 30) hexec hb dX4_timesOf_30 rfl (lv_at hl 0 rfl) ?_
    cases hf
    exact ke_i hQ hexec hb hr hP hD hS dX4_timesOf_31 hlocks
  obtain ⟨n, hz⟩ := lq2_e hz
  have hL4 : ∀ (n : Nat) (v2 : Int32) (v3 : Int32) (H : Heap) (locs : List Loc) (ls : Array Slot), it2 l4 n v2 v3 = some v2_1 → va_P g.1 vwCl (w_X4_timesOf g a0 a1 u0_1 u0_2 u0_3 x0_count y1_stops) H → va_D A (w_X4_timesOf g a0 a1 u0_1 u0_2 u0_3 x0_count y1_stops) → va_S A s.heap H locs → lv_has ls 4 [(0, .ref a0), (1, .int p1), (2, .int v2), (3, .int v3)] → W p l e (RM 2 45) s m args below meth c H locs 0 0 Q (F0 m 4 ls []) := by
    intro n
    induction n with
    | zero =>
      intro v2 v3 H locs ls hf hP hD hS hl
      exact it2_0 hf
    | succ n4 ih4 =>
      intro v2 v3 H locs ls hf hP hD hS hl
      obtain ⟨q4, hf, hk4⟩ := it2_e hf
      have hf := (el4 v2 v3).symm.trans hf
      refine lv_iload_n (pc := 4) hexec hb dX4_timesOf_4 rfl (lv_at hl 3 rfl) ?_
      refine lv_aload_n (pc := 5) hexec hb dX4_timesOf_5 rfl (lv_at hl 0 rfl) ?_
      refine kg_get (pc := 6) hexec hb (own := RX4) hWX4 hown hG hP 0 rfl rfl 0 (nle rfl) (hts _ (List.mem_cons_of_mem _ (List.mem_append_left _ (List.mem_of_getElem? (i := 0) rfl)))) rfl rfl dX4_timesOf_6 ?_
      refine ki_ge (pc := 9) hexec hb dX4_timesOf_9 (tgt := 30) rfl hf (fun hc hf => ?_) (fun hc hf => ?_)
      · cases sr2 hf hk4
        exact hE4 _ _ _ hP hD hS (lv_sub hl [2] rfl)
      · refine lv_aload_n (pc := 12) hexec hb dX4_timesOf_12 rfl (lv_at hl 0 rfl) ?_
        refine lv_iload_n (pc := 13) hexec hb dX4_timesOf_13 rfl (lv_at hl 3 rfl) ?_
        obtain ⟨r14, hc, hf⟩ := bd1_e hf
        refine kVp (pc := 14) (S := ⟨hexec, hb, hml, hown, hts⟩) hP hD hG hA hS [0, 1] [] [0, 1] (w2 := (w_X4_timesOf g a0 a1 u0_1 u0_2 u0_3 x0_count y1_stops)) rfl rfl rfl rfl rfl rfl (by decide) (c_X4_stopAt l g a0 a1 _ u0_1 u0_2 u0_3 x0_count y1_stops v3 r14 hc) gX4_timesOf_X4_stopAt rfl hv_X4_stopAt ⟨nle rfl, nle rfl⟩ 4 0 rfl rfl rfl (rest := []) rfl rfl hl.1 (nle rfl) dX4_timesOf_14 (fun H locs hP hD hS => ?_)
        refine lv_iload_n (pc := 17) hexec hb dX4_timesOf_17 rfl (lv_at hl 1 rfl) ?_
        obtain ⟨j24, ej24, hf⟩ := bvf1 hf
        have hj24 : ∀ (v2_2 : Int32) (H : Heap) (locs : List Loc) (ls : Array Slot), j24 v2_2 = some q4 → va_P g.1 vwCl (w_X4_timesOf g a0 a1 u0_1 u0_2 u0_3 x0_count y1_stops) H → va_D A (w_X4_timesOf g a0 a1 u0_1 u0_2 u0_3 x0_count y1_stops) → va_S A s.heap H locs → lv_has ls 4 [(0, .ref a0), (1, .int p1), (2, .int v2_2), (3, .int v3)] → W p l e (RM 2 45) s m args below meth c H locs 0 0 Q (F0 m 24 ls []) := by
          intro v2_2 H locs ls hf hP hD hS hl
          have hf := (ej24 v2_2).symm.trans hf
          obtain ⟨v3_1, ev3_1, hf⟩ := bv_e hf
          refine k_iinc (pc := 24) hexec hb dX4_timesOf_24 kq_1 hl (k := 3) rfl ev3_1 (nle rfl) rfl (fun ls (hl : lv_has ls 4 [(3, .int v3_1), (0, .ref a0), (1, .int p1), (2, .int v2_2)]) => ?_)
          refine lv_goto (pc := 27) hexec hb dX4_timesOf_27 (tgt := 4) rfl ?_
          exact ih4 _ _ _ _ _ (sl2 hf hk4) hP hD hS (lv_sub hl [1, 2, 3, 0] rfl)
        refine ki_ne (pc := 18) hexec hb dX4_timesOf_18 (tgt := 24) rfl hf (fun hc hf => ?_) (fun hc hf => ?_)
        · exact hj24 _ _ _ _ hf hP hD hS (lv_sub hl [0, 1, 2, 3] rfl)
        · obtain ⟨v2_3, ev2_3, hf⟩ := bv_e hf
          refine k_iinc (pc := 21) hexec hb dX4_timesOf_21 kq_1 hl (k := 2) rfl ev2_3 (nle rfl) rfl (fun ls (hl : lv_has ls 4 [(2, .int v2_3), (0, .ref a0), (1, .int p1), (3, .int v3)]) => ?_)
          exact hj24 _ _ _ _ hf hP hD hS (lv_sub hl [1, 2, 0, 3] rfl)
  exact hL4 n _ _ _ _ _ hz hP hD hS (lv_sub hl [2, 3, 1, 0] rfl)
abbrev w_X4_addStop (g : GE) (a0 a1 : Nat) (u0_1 u0_2 u0_3 : Value) (x0_count : Int32) (y1_stops : Nat → Int32) : va_W := [(a0, .inr (4, [.int x0_count, u0_1, u0_2, u0_3, .ref a1])), (a1, .inl (g.2.1 0, 16, .inl y1_stops))]
set_option maxRecDepth 20000 in
theorem c_X4_addStop (l : Launch) (g : GE) (a0 a1 : Nat) (sz : Nat) (u0_1 u0_2 u0_3 : Value) (x0_count : Int32) (y1_stops : Nat → Int32) (p1 : Int32)  (o_x0_count : Int32) (o_y1_stops : Nat → Int32) (hf : f_X4_addStop x0_count y1_stops p1 = some (o_x0_count, o_y1_stops)) : MI l g yX4_addStop wsX4_addStop 1 24 [.ref a0, .int p1] (w_X4_addStop g a0 a1 u0_1 u0_2 u0_3 x0_count y1_stops) sz none (w_X4_addStop g a0 a1 u0_1 u0_2 u0_3 o_x0_count o_y1_stops) := by
  refine MI.start (cc := cX4_addStop) (maxL := 2) (ret := none) rfl rfl (nle rfl) ?_
  intro p e s m args below meth c A ls Q hQ hexec hb hr hts hown hlocks hml hA hP hD hG hS hl
  unfold f_X4_addStop at hf
  have hWX4 : ∀ w ∈ wsX40, w.before args s = true := fun w h => hts w (List.mem_cons_of_mem _ (List.mem_append_right _ h))
  have hS : va_S A s.heap s.heap [] := hS
  refine lv_aload_n (pc := 0) hexec hb dX4_addStop_0 rfl (lv_at hl 0 rfl) ?_
  refine kg_get (pc := 1) hexec hb (own := RX4) hWX4 hown hG hP 0 rfl rfl 0 (nle rfl) (hts _ (List.mem_cons_of_mem _ (List.mem_append_left _ (List.mem_of_getElem? (i := 0) rfl)))) rfl rfl dX4_addStop_1 ?_
  refine lv_bipush (pc := 4) hexec hb dX4_addStop_4 kb_16 ?_
  refine ki_ge (pc := 6) hexec hb dX4_addStop_6 (tgt := 29) rfl hf (fun hc hf => ?_) (fun hc hf => ?_)
  · cases hf
    exact ke_v hQ hexec hb hr hP hD hS dX4_addStop_29 hlocks
  · refine lv_aload_n (pc := 9) hexec hb dX4_addStop_9 rfl (lv_at hl 0 rfl) ?_
    refine kg_get (pc := 10) hexec hb (own := RX4) hWX4 hown hG hP 0 rfl rfl 4 (nle rfl) (hts _ (List.mem_cons_of_mem _ (List.mem_append_left _ (List.mem_of_getElem? (i := 1) rfl)))) rfl rfl dX4_addStop_10 ?_
    refine lv_aload_n (pc := 13) hexec hb dX4_addStop_13 rfl (lv_at hl 0 rfl) ?_
    refine kg_get (pc := 14) hexec hb (own := RX4) hWX4 hown hG hP 0 rfl rfl 0 (nle rfl) (hts _ (List.mem_cons_of_mem _ (List.mem_append_left _ (List.mem_of_getElem? (i := 0) rfl)))) rfl rfl dX4_addStop_14 ?_
    refine lv_iload_n (pc := 17) hexec hb dX4_addStop_17 rfl (lv_at hl 1 rfl) ?_
    refine kw_iast (pc := 18) hexec hb hG hP hD hS 1 rfl hf dX4_addStop_18 (fun y1_stops_1 H locs hf (hP : va_P g.1 vwCl (w_X4_addStop g a0 a1 u0_1 u0_2 u0_3 x0_count y1_stops_1) H) (hD : va_D A (w_X4_addStop g a0 a1 u0_1 u0_2 u0_3 x0_count y1_stops_1)) hS => ?_)
    refine lv_aload_n (pc := 19) hexec hb dX4_addStop_19 rfl (lv_at hl 0 rfl) ?_
    refine lv_dup (pc := 20) hexec hb dX4_addStop_20 rfl ?_
    refine kg_get (pc := 21) hexec hb (own := RX4) hWX4 hown hG hP 0 rfl rfl 0 (nle rfl) (hts _ (List.mem_cons_of_mem _ (List.mem_append_left _ (List.mem_of_getElem? (i := 0) rfl)))) rfl rfl dX4_addStop_21 ?_
    refine lv_iconst (pc := 24) hexec hb dX4_addStop_24 ki_1 ?_
    refine lv_iadd (pc := 25) hexec hb dX4_addStop_25 ?_
    obtain ⟨x0_count_1, ex0_count_1, hf⟩ := bv_e hf
    refine kn_i ex0_count_1 ?_
    refine kp_put (pc := 26) hexec hb (own := RX4) hWX4 tyX4 tyX4_ok nmX4 hown hG hP hD hS 0 rfl rfl 0 (nle rfl) (hts _ (List.mem_cons_of_mem _ (List.mem_append_left _ (List.mem_of_getElem? (i := 0) rfl)))) rfl rfl rfl rfl (nle rfl) dX4_addStop_26 (fun H locs (hP : va_P g.1 vwCl (w_X4_addStop g a0 a1 u0_1 u0_2 u0_3 x0_count_1 y1_stops_1) H) (hD : va_D A (w_X4_addStop g a0 a1 u0_1 u0_2 u0_3 x0_count_1 y1_stops_1)) hS => ?_)
    cases hf
    exact ke_v hQ hexec hb hr hP hD hS dX4_addStop_29 hlocks
abbrev w_X4_dropStop (g : GE) (a0 a1 : Nat) (u0_2 u0_3 : Value) (x0_count : Int32) (x0_next : Int32) (y1_stops : Nat → Int32) : va_W := [(a0, .inr (4, [.int x0_count, .int x0_next, u0_2, u0_3, .ref a1])), (a1, .inl (g.2.1 0, 16, .inl y1_stops))]
set_option maxRecDepth 20000 in
theorem c_X4_dropStop (l : Launch) (g : GE) (a0 a1 : Nat) (sz : Nat) (u0_2 u0_3 : Value) (x0_count : Int32) (x0_next : Int32) (y1_stops : Nat → Int32) (p1 : Int32)  (o_x0_count : Int32) (o_x0_next : Int32) (o_y1_stops : Nat → Int32) (hf : f_X4_dropStop x0_count x0_next y1_stops p1 = some (o_x0_count, o_x0_next, o_y1_stops)) : MI l g yX4_dropStop wsX4_dropStop 1 24 [.ref a0, .int p1] (w_X4_dropStop g a0 a1 u0_2 u0_3 x0_count x0_next y1_stops) sz none (w_X4_dropStop g a0 a1 u0_2 u0_3 o_x0_count o_x0_next o_y1_stops) := by
  refine MI.start (cc := cX4_dropStop) (maxL := 3) (ret := none) rfl rfl (nle rfl) ?_
  intro p e s m args below meth c A ls Q hQ hexec hb hr hts hown hlocks hml hA hP hD hG hS hl
  unfold f_X4_dropStop at hf
  have hWX4 : ∀ w ∈ wsX40, w.before args s = true := fun w h => hts w (List.mem_cons_of_mem _ (List.mem_append_right _ h))
  have hS : va_S A s.heap s.heap [] := hS
  refine lv_iload_n (pc := 0) hexec hb dX4_dropStop_0 rfl (lv_at hl 1 rfl) ?_
  refine kb_lt (pc := 1) hexec hb dX4_dropStop_1 (tgt := 12) rfl hf (fun hc hf => ?_) (fun hc hf => ?_)
  · cases hf
    exact ke_v hQ hexec hb hr hP hD hS dX4_dropStop_12 hlocks
  · refine lv_iload_n (pc := 4) hexec hb dX4_dropStop_4 rfl (lv_at hl 1 rfl) ?_
    refine lv_aload_n (pc := 5) hexec hb dX4_dropStop_5 rfl (lv_at hl 0 rfl) ?_
    refine kg_get (pc := 6) hexec hb (own := RX4) hWX4 hown hG hP 0 rfl rfl 0 (nle rfl) (hts _ (List.mem_cons_of_mem _ (List.mem_append_left _ (List.mem_of_getElem? (i := 0) rfl)))) rfl rfl dX4_dropStop_6 ?_
    refine ki_lt (pc := 9) hexec hb dX4_dropStop_9 (tgt := 13) rfl hf (fun hc hf => ?_) (fun hc hf => ?_)
    · refine lv_iload_n (pc := 13) hexec hb dX4_dropStop_13 rfl (lv_at hl 1 rfl) ?_
      refine lv_iconst (pc := 14) hexec hb dX4_dropStop_14 ki_1 ?_
      refine lv_iadd (pc := 15) hexec hb dX4_dropStop_15 ?_
      obtain ⟨v2, ev2, hf⟩ := bv_e hf
      refine kn_i ev2 ?_
      refine lv_istore_n (pc := 16) hexec hb dX4_dropStop_16 rfl hl (nle rfl) rfl (fun ls (hl : lv_has ls 3 [(2, .int v2), (0, .ref a0), (1, .int p1)]) => ?_)
      obtain ⟨l17, el17, hf⟩ := bvf2 hf
      obtain ⟨y1_stops_2, hz, hf⟩ := bd1_e hf
      have hE17 : ∀ (H : Heap) (locs : List Loc) (ls : Array Slot), va_P g.1 vwCl (w_X4_dropStop g a0 a1 u0_2 u0_3 x0_count x0_next y1_stops_2) H → va_D A (w_X4_dropStop g a0 a1 u0_2 u0_3 x0_count x0_next y1_stops_2) → va_S A s.heap H locs → lv_has ls 3 [(0, .ref a0), (1, .int p1)] → W p l e (RM 1 24) s m args below meth c H locs 0 0 Q (F0 m 51 ls []) := by
        intro H locs ls hP hD hS hl
        refine lv_aload_n (pc := 51) hexec hb dX4_dropStop_51 rfl (lv_at hl 0 rfl) ?_
        refine lv_dup (pc := 52) hexec hb dX4_dropStop_52 rfl ?_
        refine kg_get (pc := 53) hexec hb (own := RX4) hWX4 hown hG hP 0 rfl rfl 0 (nle rfl) (hts _ (List.mem_cons_of_mem _ (List.mem_append_left _ (List.mem_of_getElem? (i := 0) rfl)))) rfl rfl dX4_dropStop_53 ?_
        refine lv_iconst (pc := 56) hexec hb dX4_dropStop_56 ki_1 ?_
        refine lv_isub (pc := 57) hexec hb dX4_dropStop_57 ?_
        obtain ⟨x0_count_1, ex0_count_1, hf⟩ := bv_e hf
        refine kn_i ex0_count_1 ?_
        refine kp_put (pc := 58) hexec hb (own := RX4) hWX4 tyX4 tyX4_ok nmX4 hown hG hP hD hS 0 rfl rfl 0 (nle rfl) (hts _ (List.mem_cons_of_mem _ (List.mem_append_left _ (List.mem_of_getElem? (i := 0) rfl)))) rfl rfl rfl rfl (nle rfl) dX4_dropStop_58 (fun H locs (hP : va_P g.1 vwCl (w_X4_dropStop g a0 a1 u0_2 u0_3 x0_count_1 x0_next y1_stops_2) H) (hD : va_D A (w_X4_dropStop g a0 a1 u0_2 u0_3 x0_count_1 x0_next y1_stops_2)) hS => ?_)
        refine lv_aload_n (pc := 61) hexec hb dX4_dropStop_61 rfl (lv_at hl 0 rfl) ?_
        refine kg_get (pc := 62) hexec hb (own := RX4) hWX4 hown hG hP 0 rfl rfl 1 (nle rfl) (hts _ (List.mem_cons_of_mem _ (List.mem_append_left _ (List.mem_of_getElem? (i := 2) rfl)))) rfl rfl dX4_dropStop_62 ?_
        refine lv_iload_n (pc := 65) hexec hb dX4_dropStop_65 rfl (lv_at hl 1 rfl) ?_
        obtain ⟨j79, ej79, hf⟩ := bvf1 hf
        have hj79 : ∀ (x0_next_1 : Int32) (H : Heap) (locs : List Loc) (ls : Array Slot), j79 x0_next_1 = some (o_x0_count, o_x0_next, o_y1_stops) → va_P g.1 vwCl (w_X4_dropStop g a0 a1 u0_2 u0_3 x0_count_1 x0_next_1 y1_stops_2) H → va_D A (w_X4_dropStop g a0 a1 u0_2 u0_3 x0_count_1 x0_next_1 y1_stops_2) → va_S A s.heap H locs → lv_has ls 3 [(0, .ref a0)] → W p l e (RM 1 24) s m args below meth c H locs 0 0 Q (F0 m 79 ls []) := by
          intro x0_next_1 H locs ls hf hP hD hS hl
          have hf := (ej79 x0_next_1).symm.trans hf
          refine lv_aload_n (pc := 79) hexec hb dX4_dropStop_79 rfl (lv_at hl 0 rfl) ?_
          refine kg_get (pc := 80) hexec hb (own := RX4) hWX4 hown hG hP 0 rfl rfl 1 (nle rfl) (hts _ (List.mem_cons_of_mem _ (List.mem_append_left _ (List.mem_of_getElem? (i := 2) rfl)))) rfl rfl dX4_dropStop_80 ?_
          refine lv_aload_n (pc := 83) hexec hb dX4_dropStop_83 rfl (lv_at hl 0 rfl) ?_
          refine kg_get (pc := 84) hexec hb (own := RX4) hWX4 hown hG hP 0 rfl rfl 0 (nle rfl) (hts _ (List.mem_cons_of_mem _ (List.mem_append_left _ (List.mem_of_getElem? (i := 0) rfl)))) rfl rfl dX4_dropStop_84 ?_
          refine ki_lt (pc := 87) hexec hb dX4_dropStop_87 (tgt := 95) rfl hf (fun hc hf => ?_) (fun hc hf => ?_)
          · cases hf
            exact ke_v hQ hexec hb hr hP hD hS dX4_dropStop_95 hlocks
          · refine lv_aload_n (pc := 90) hexec hb dX4_dropStop_90 rfl (lv_at hl 0 rfl) ?_
            refine lv_iconst (pc := 91) hexec hb dX4_dropStop_91 ki_0 ?_
            refine kp_put (pc := 92) hexec hb (own := RX4) hWX4 tyX4 tyX4_ok nmX4 hown hG hP hD hS 0 rfl rfl 1 (nle rfl) (hts _ (List.mem_cons_of_mem _ (List.mem_append_left _ (List.mem_of_getElem? (i := 2) rfl)))) rfl rfl rfl rfl (nle rfl) dX4_dropStop_92 (fun H locs (hP : va_P g.1 vwCl (w_X4_dropStop g a0 a1 u0_2 u0_3 x0_count_1 0 y1_stops_2) H) (hD : va_D A (w_X4_dropStop g a0 a1 u0_2 u0_3 x0_count_1 0 y1_stops_2)) hS => ?_)
            cases hf
            exact ke_v hQ hexec hb hr hP hD hS dX4_dropStop_95 hlocks
        refine ki_le (pc := 66) hexec hb dX4_dropStop_66 (tgt := 79) rfl hf (fun hc hf => ?_) (fun hc hf => ?_)
        · exact hj79 _ _ _ _ hf hP hD hS (lv_sub hl [0] rfl)
        · refine lv_aload_n (pc := 69) hexec hb dX4_dropStop_69 rfl (lv_at hl 0 rfl) ?_
          refine lv_dup (pc := 70) hexec hb dX4_dropStop_70 rfl ?_
          refine kg_get (pc := 71) hexec hb (own := RX4) hWX4 hown hG hP 0 rfl rfl 1 (nle rfl) (hts _ (List.mem_cons_of_mem _ (List.mem_append_left _ (List.mem_of_getElem? (i := 2) rfl)))) rfl rfl dX4_dropStop_71 ?_
          refine lv_iconst (pc := 74) hexec hb dX4_dropStop_74 ki_1 ?_
          refine lv_isub (pc := 75) hexec hb dX4_dropStop_75 ?_
          obtain ⟨x0_next_2, ex0_next_2, hf⟩ := bv_e hf
          refine kn_i ex0_next_2 ?_
          refine kp_put (pc := 76) hexec hb (own := RX4) hWX4 tyX4 tyX4_ok nmX4 hown hG hP hD hS 0 rfl rfl 1 (nle rfl) (hts _ (List.mem_cons_of_mem _ (List.mem_append_left _ (List.mem_of_getElem? (i := 2) rfl)))) rfl rfl rfl rfl (nle rfl) dX4_dropStop_76 (fun H locs (hP : va_P g.1 vwCl (w_X4_dropStop g a0 a1 u0_2 u0_3 x0_count_1 x0_next_2 y1_stops_2) H) (hD : va_D A (w_X4_dropStop g a0 a1 u0_2 u0_3 x0_count_1 x0_next_2 y1_stops_2)) hS => ?_)
          exact hj79 _ _ _ _ hf hP hD hS (lv_sub hl [0] rfl)
      obtain ⟨n, hz⟩ := lq2_e hz
      have hL17 : ∀ (n : Nat) (v2_1 : Int32) (y1_stops_1 : Nat → Int32) (H : Heap) (locs : List Loc) (ls : Array Slot), it2 l17 n v2_1 y1_stops_1 = some y1_stops_2 → va_P g.1 vwCl (w_X4_dropStop g a0 a1 u0_2 u0_3 x0_count x0_next y1_stops_1) H → va_D A (w_X4_dropStop g a0 a1 u0_2 u0_3 x0_count x0_next y1_stops_1) → va_S A s.heap H locs → lv_has ls 3 [(0, .ref a0), (1, .int p1), (2, .int v2_1)] → W p l e (RM 1 24) s m args below meth c H locs 0 0 Q (F0 m 17 ls []) := by
        intro n
        induction n with
        | zero =>
          intro v2_1 y1_stops_1 H locs ls hf hP hD hS hl
          exact it2_0 hf
        | succ n17 ih17 =>
          intro v2_1 y1_stops_1 H locs ls hf hP hD hS hl
          obtain ⟨q17, hf, hk17⟩ := it2_e hf
          have hf := (el17 v2_1 y1_stops_1).symm.trans hf
          refine lv_iload_n (pc := 17) hexec hb dX4_dropStop_17 rfl (lv_at hl 2 rfl) ?_
          refine lv_aload_n (pc := 18) hexec hb dX4_dropStop_18 rfl (lv_at hl 0 rfl) ?_
          refine kg_get (pc := 19) hexec hb (own := RX4) hWX4 hown hG hP 0 rfl rfl 0 (nle rfl) (hts _ (List.mem_cons_of_mem _ (List.mem_append_left _ (List.mem_of_getElem? (i := 0) rfl)))) rfl rfl dX4_dropStop_19 ?_
          refine ki_ge (pc := 22) hexec hb dX4_dropStop_22 (tgt := 51) rfl hf (fun hc hf => ?_) (fun hc hf => ?_)
          · cases sr2 hf hk17
            exact hE17 _ _ _ hP hD hS (lv_sub hl [0, 1] rfl)
          · refine lv_iload_n (pc := 25) hexec hb dX4_dropStop_25 rfl (lv_at hl 2 rfl) ?_
            refine lv_bipush (pc := 26) hexec hb dX4_dropStop_26 kb_16 ?_
            refine ki_ge (pc := 28) hexec hb dX4_dropStop_28 (tgt := 51) rfl hf (fun hc hf => ?_) (fun hc hf => ?_)
            · cases sr2 hf hk17
              exact hE17 _ _ _ hP hD hS (lv_sub hl [0, 1] rfl)
            · refine lv_aload_n (pc := 31) hexec hb dX4_dropStop_31 rfl (lv_at hl 0 rfl) ?_
              refine kg_get (pc := 32) hexec hb (own := RX4) hWX4 hown hG hP 0 rfl rfl 4 (nle rfl) (hts _ (List.mem_cons_of_mem _ (List.mem_append_left _ (List.mem_of_getElem? (i := 1) rfl)))) rfl rfl dX4_dropStop_32 ?_
              refine lv_iload_n (pc := 35) hexec hb dX4_dropStop_35 rfl (lv_at hl 2 rfl) ?_
              refine lv_iconst (pc := 36) hexec hb dX4_dropStop_36 ki_1 ?_
              refine lv_isub (pc := 37) hexec hb dX4_dropStop_37 ?_
              refine lv_aload_n (pc := 38) hexec hb dX4_dropStop_38 rfl (lv_at hl 0 rfl) ?_
              refine kg_get (pc := 39) hexec hb (own := RX4) hWX4 hown hG hP 0 rfl rfl 4 (nle rfl) (hts _ (List.mem_cons_of_mem _ (List.mem_append_left _ (List.mem_of_getElem? (i := 1) rfl)))) rfl rfl dX4_dropStop_39 ?_
              refine lv_iload_n (pc := 42) hexec hb dX4_dropStop_42 rfl (lv_at hl 2 rfl) ?_
              refine kr_iald (pc := 43) hexec hb hG hP 1 rfl hf dX4_dropStop_43 (fun hf => ?_)
              refine kw_iast (pc := 44) hexec hb hG hP hD hS 1 rfl hf dX4_dropStop_44 (fun y1_stops_3 H locs hf (hP : va_P g.1 vwCl (w_X4_dropStop g a0 a1 u0_2 u0_3 x0_count x0_next y1_stops_3) H) (hD : va_D A (w_X4_dropStop g a0 a1 u0_2 u0_3 x0_count x0_next y1_stops_3)) hS => ?_)
              obtain ⟨v2_2, ev2_2, hf⟩ := bv_e hf
              refine k_iinc (pc := 45) hexec hb dX4_dropStop_45 kq_1 hl (k := 2) rfl ev2_2 (nle rfl) rfl (fun ls (hl : lv_has ls 3 [(2, .int v2_2), (0, .ref a0), (1, .int p1)]) => ?_)
              refine lv_goto (pc := 48) hexec hb dX4_dropStop_48 (tgt := 17) rfl ?_
              exact ih17 _ _ _ _ _ (sl2 hf hk17) hP hD hS (lv_sub hl [1, 2, 0] rfl)
      exact hL17 n _ _ _ _ _ hz hP hD hS (lv_sub hl [1, 2, 0] rfl)
    · cases hf
      exact ke_v hQ hexec hb hr hP hD hS dX4_dropStop_12 hlocks
abbrev w_X4_goOn (g : GE) (a0 : Nat) (u0_2 u0_3 u0_4 : Value) (x0_count : Int32) (x0_next : Int32) : va_W := [(a0, .inr (4, [.int x0_count, .int x0_next, u0_2, u0_3, u0_4]))]
set_option maxRecDepth 20000 in
theorem c_X4_goOn (l : Launch) (g : GE) (a0 : Nat) (sz : Nat) (u0_2 u0_3 u0_4 : Value) (x0_count : Int32) (x0_next : Int32)   (o_x0_next : Int32) (hf : f_X4_goOn x0_count x0_next = some o_x0_next) : MI l g yX4_goOn wsX4_goOn 1 24 [.ref a0] (w_X4_goOn g a0 u0_2 u0_3 u0_4 x0_count x0_next) sz none (w_X4_goOn g a0 u0_2 u0_3 u0_4 x0_count o_x0_next) := by
  refine MI.start (cc := cX4_goOn) (maxL := 1) (ret := none) rfl rfl (nle rfl) ?_
  intro p e s m args below meth c A ls Q hQ hexec hb hr hts hown hlocks hml hA hP hD hG hS hl
  unfold f_X4_goOn at hf
  have hWX4 : ∀ w ∈ wsX40, w.before args s = true := fun w h => hts w (List.mem_cons_of_mem _ (List.mem_append_right _ h))
  have hS : va_S A s.heap s.heap [] := hS
  refine lv_aload_n (pc := 0) hexec hb dX4_goOn_0 rfl (lv_at hl 0 rfl) ?_
  refine lv_aload_n (pc := 1) hexec hb dX4_goOn_1 rfl (lv_at hl 0 rfl) ?_
  refine kg_get (pc := 2) hexec hb (own := RX4) hWX4 hown hG hP 0 rfl rfl 1 (nle rfl) (hts _ (List.mem_cons_of_mem _ (List.mem_append_left _ (List.mem_of_getElem? (i := 0) rfl)))) rfl rfl dX4_goOn_2 ?_
  refine lv_iconst (pc := 5) hexec hb dX4_goOn_5 ki_1 ?_
  refine lv_iadd (pc := 6) hexec hb dX4_goOn_6 ?_
  refine lv_aload_n (pc := 7) hexec hb dX4_goOn_7 rfl (lv_at hl 0 rfl) ?_
  refine kg_get (pc := 8) hexec hb (own := RX4) hWX4 hown hG hP 0 rfl rfl 0 (nle rfl) (hts _ (List.mem_cons_of_mem _ (List.mem_append_left _ (List.mem_of_getElem? (i := 1) rfl)))) rfl rfl dX4_goOn_8 ?_
  obtain ⟨j24, ej24, hf⟩ := bvf1 hf
  have hj24 : ∀ (t24 : Int32) (H : Heap) (locs : List Loc) (ls : Array Slot), j24 t24 = some o_x0_next → va_P g.1 vwCl (w_X4_goOn g a0 u0_2 u0_3 u0_4 x0_count x0_next) H → va_D A (w_X4_goOn g a0 u0_2 u0_3 u0_4 x0_count x0_next) → va_S A s.heap H locs → lv_has ls 1 [] → W p l e (RM 1 24) s m args below meth c H locs 0 0 Q (F0 m 24 ls [.int t24, .ref a0]) := by
    intro t24 H locs ls hf hP hD hS hl
    have hf := (ej24 t24).symm.trans hf
    refine kp_put (pc := 24) hexec hb (own := RX4) hWX4 tyX4 tyX4_ok nmX4 hown hG hP hD hS 0 rfl rfl 1 (nle rfl) (hts _ (List.mem_cons_of_mem _ (List.mem_append_left _ (List.mem_of_getElem? (i := 0) rfl)))) rfl rfl rfl rfl (nle rfl) dX4_goOn_24 (fun H locs (hP : va_P g.1 vwCl (w_X4_goOn g a0 u0_2 u0_3 u0_4 x0_count t24) H) (hD : va_D A (w_X4_goOn g a0 u0_2 u0_3 u0_4 x0_count t24)) hS => ?_)
    cases hf
    exact ke_v hQ hexec hb hr hP hD hS dX4_goOn_27 hlocks
  refine ki_ge (pc := 11) hexec hb dX4_goOn_11 (tgt := 23) rfl hf (fun hc hf => ?_) (fun hc hf => ?_)
  · refine lv_iconst (pc := 23) hexec hb dX4_goOn_23 ki_0 ?_
    exact hj24 _ _ _ _ hf hP hD hS (lv_sub hl [] rfl)
  · refine lv_aload_n (pc := 14) hexec hb dX4_goOn_14 rfl (lv_at hl 0 rfl) ?_
    refine kg_get (pc := 15) hexec hb (own := RX4) hWX4 hown hG hP 0 rfl rfl 1 (nle rfl) (hts _ (List.mem_cons_of_mem _ (List.mem_append_left _ (List.mem_of_getElem? (i := 0) rfl)))) rfl rfl dX4_goOn_15 ?_
    refine lv_iconst (pc := 18) hexec hb dX4_goOn_18 ki_1 ?_
    refine lv_iadd (pc := 19) hexec hb dX4_goOn_19 ?_
    refine lv_goto (pc := 20) hexec hb dX4_goOn_20 (tgt := 24) rfl ?_
    exact hj24 _ _ _ _ hf hP hD hS (lv_sub hl [] rfl)
abbrev w_X4_turnTo (g : GE) (a0 : Nat) (u0_0 u0_1 u0_4 : Value) (x0_turn : Int32) (x0_quarters : Int32) : va_W := [(a0, .inr (4, [u0_0, u0_1, .int x0_turn, .int x0_quarters, u0_4]))]
set_option maxRecDepth 20000 in
theorem c_X4_turnTo (l : Launch) (g : GE) (a0 : Nat) (sz : Nat) (u0_0 u0_1 u0_4 : Value) (x0_turn : Int32) (x0_quarters : Int32) (p1 : Int32)  (r : Int32) (o_x0_turn : Int32) (o_x0_quarters : Int32) (hf : f_X4_turnTo x0_turn x0_quarters p1 = some (r, o_x0_turn, o_x0_quarters)) : MI l g yX4_turnTo wsX4_turnTo 2 46 [.ref a0, .int p1] (w_X4_turnTo g a0 u0_0 u0_1 u0_4 x0_turn x0_quarters) sz (some (.int r)) (w_X4_turnTo g a0 u0_0 u0_1 u0_4 o_x0_turn o_x0_quarters) := by
  refine MI.start (cc := cX4_turnTo) (maxL := 3) (ret := (some .int)) rfl rfl (nle rfl) ?_
  intro p e s m args below meth c A ls Q hQ hexec hb hr hts hown hlocks hml hA hP hD hG hS hl
  unfold f_X4_turnTo at hf
  have hWX4 : ∀ w ∈ wsX40, w.before args s = true := fun w h => hts w (List.mem_cons_of_mem _ (List.mem_append_right _ h))
  have hS : va_S A s.heap s.heap [] := hS
  refine lv_aload_n (pc := 0) hexec hb dX4_turnTo_0 rfl (lv_at hl 0 rfl) ?_
  refine kg_get (pc := 1) hexec hb (own := RX4) hWX4 hown hG hP 0 rfl rfl 2 (nle rfl) (hts _ (List.mem_cons_of_mem _ (List.mem_append_left _ (List.mem_of_getElem? (i := 0) rfl)))) rfl rfl dX4_turnTo_1 ?_
  refine lv_iload_n (pc := 4) hexec hb dX4_turnTo_4 rfl (lv_at hl 1 rfl) ?_
  obtain ⟨r5, hc, hf⟩ := bd1_e hf
  refine kSNp (pc := 5) (S := ⟨hexec, hb, hml, hown, hts⟩) hP hD hG hA hS [] [0] [0] (w2 := (w_X4_turnTo g a0 u0_0 u0_1 u0_4 x0_turn x0_quarters)) rfl rfl rfl rfl rfl rfl (by decide) (c_X8_quartersBetween l g _ x0_turn p1 r5 hc) ggX4_turnTo_X8_quartersBetween rfl 55 rfl (hts _ (List.mem_cons_of_mem _ (List.mem_append_left _ (List.mem_of_getElem? (i := 3) rfl)))) (hts _ (List.mem_cons_of_mem _ (List.mem_append_left _ (List.mem_of_getElem? (i := 2) rfl)))) hs_X8_quartersBetween ⟨nle rfl, nle rfl⟩ (rest := []) rfl rfl hl.1 (nle rfl) dX4_turnTo_5 (fun H locs hP hD hS => ?_)
  refine lv_istore_n (pc := 8) hexec hb dX4_turnTo_8 rfl hl (nle rfl) rfl (fun ls (hl : lv_has ls 3 [(2, .int r5), (0, .ref a0), (1, .int p1)]) => ?_)
  refine lv_aload_n (pc := 9) hexec hb dX4_turnTo_9 rfl (lv_at hl 1 rfl) ?_
  refine lv_iload_n (pc := 10) hexec hb dX4_turnTo_10 rfl (lv_at hl 2 rfl) ?_
  refine kp_put (pc := 11) hexec hb (own := RX4) hWX4 tyX4 tyX4_ok nmX4 hown hG hP hD hS 0 rfl rfl 2 (nle rfl) (hts _ (List.mem_cons_of_mem _ (List.mem_append_left _ (List.mem_of_getElem? (i := 0) rfl)))) rfl rfl rfl rfl (nle rfl) dX4_turnTo_11 (fun H locs (hP : va_P g.1 vwCl (w_X4_turnTo g a0 u0_0 u0_1 u0_4 p1 x0_quarters) H) (hD : va_D A (w_X4_turnTo g a0 u0_0 u0_1 u0_4 p1 x0_quarters)) hS => ?_)
  refine lv_aload_n (pc := 14) hexec hb dX4_turnTo_14 rfl (lv_at hl 1 rfl) ?_
  refine lv_dup (pc := 15) hexec hb dX4_turnTo_15 rfl ?_
  refine kg_get (pc := 16) hexec hb (own := RX4) hWX4 hown hG hP 0 rfl rfl 3 (nle rfl) (hts _ (List.mem_cons_of_mem _ (List.mem_append_left _ (List.mem_of_getElem? (i := 1) rfl)))) rfl rfl dX4_turnTo_16 ?_
  refine lv_iload_n (pc := 19) hexec hb dX4_turnTo_19 rfl (lv_at hl 0 rfl) ?_
  refine lv_iadd (pc := 20) hexec hb dX4_turnTo_20 ?_
  obtain ⟨x0_quarters_1, ex0_quarters_1, hf⟩ := bv_e hf
  refine kn_i ex0_quarters_1 ?_
  refine kp_put (pc := 21) hexec hb (own := RX4) hWX4 tyX4 tyX4_ok nmX4 hown hG hP hD hS 0 rfl rfl 3 (nle rfl) (hts _ (List.mem_cons_of_mem _ (List.mem_append_left _ (List.mem_of_getElem? (i := 1) rfl)))) rfl rfl rfl rfl (nle rfl) dX4_turnTo_21 (fun H locs (hP : va_P g.1 vwCl (w_X4_turnTo g a0 u0_0 u0_1 u0_4 p1 x0_quarters_1) H) (hD : va_D A (w_X4_turnTo g a0 u0_0 u0_1 u0_4 p1 x0_quarters_1)) hS => ?_)
  refine lv_iload_n (pc := 24) hexec hb dX4_turnTo_24 rfl (lv_at hl 0 rfl) ?_
  cases hf
  exact ke_i hQ hexec hb hr hP hD hS dX4_turnTo_25 hlocks
abbrev w_X4_turningBy (g : GE) (a0 a1 a2 : Nat) (u0_1 u0_2 u0_3 : Value) (x0_count : Int32) (y1_stops : Nat → Int32) (y2_p : Nat → Int32) : va_W := [(a0, .inr (4, [.int x0_count, u0_1, u0_2, u0_3, .ref a1])), (a1, .inl (g.2.1 0, 16, .inl y1_stops)), (a2, .inl (g.2.1 0, 8, .inl y2_p))]
set_option maxRecDepth 20000 in
theorem c_X4_turningBy (l : Launch) (g : GE) (a0 a1 a2 : Nat) (sz : Nat) (u0_1 u0_2 u0_3 : Value) (x0_count : Int32) (y1_stops : Nat → Int32) (y2_p : Nat → Int32) (p2 : Int32)  (r : Int32) (hf : f_X4_turningBy x0_count y1_stops y2_p p2 = some r) : MI l g yX4_turningBy wsX4_turningBy 2 46 [.ref a0, .ref a2, .int p2] (w_X4_turningBy g a0 a1 a2 u0_1 u0_2 u0_3 x0_count y1_stops y2_p) sz (some (.int r)) (w_X4_turningBy g a0 a1 a2 u0_1 u0_2 u0_3 x0_count y1_stops y2_p) := by
  refine MI.start (cc := cX4_turningBy) (maxL := 8) (ret := (some .int)) rfl rfl (nle rfl) ?_
  intro p e s m args below meth c A ls Q hQ hexec hb hr hts hown hlocks hml hA hP hD hG hS hl
  unfold f_X4_turningBy at hf
  have hWX4 : ∀ w ∈ wsX40, w.before args s = true := fun w h => hts w (List.mem_cons_of_mem _ (List.mem_append_right _ h))
  have hS : va_S A s.heap s.heap [] := hS
  refine lv_iconst (pc := 0) hexec hb dX4_turningBy_0 ki_0 ?_
  refine lv_istore_n (pc := 1) hexec hb dX4_turningBy_1 rfl hl (nle rfl) rfl (fun ls (hl : lv_has ls 8 [(3, .int 0), (0, .ref a0), (1, .ref a2), (2, .int p2)]) => ?_)
  refine lv_iload_n (pc := 2) hexec hb dX4_turningBy_2 rfl (lv_at hl 3 rfl) ?_
  refine lv_istore (pc := 3) hexec hb dX4_turningBy_3 hl (nle rfl) rfl (fun ls (hl : lv_has ls 8 [(4, .int p2), (3, .int 0), (0, .ref a0), (1, .ref a2), (2, .int p2)]) => ?_)
  refine lv_iconst (pc := 5) hexec hb dX4_turningBy_5 ki_0 ?_
  refine lv_istore (pc := 6) hexec hb dX4_turningBy_6 hl (nle rfl) rfl (fun ls (hl : lv_has ls 8 [(5, .int 0), (4, .int p2), (3, .int 0), (0, .ref a0), (1, .ref a2), (2, .int p2)]) => ?_)
  obtain ⟨l8, el8, hf⟩ := bvf3 hf
  obtain ⟨v3_1, hz, hf⟩ := bd1_e hf
  have hE8 : ∀ (H : Heap) (locs : List Loc) (ls : Array Slot), va_P g.1 vwCl (w_X4_turningBy g a0 a1 a2 u0_1 u0_2 u0_3 x0_count y1_stops y2_p) H → va_D A (w_X4_turningBy g a0 a1 a2 u0_1 u0_2 u0_3 x0_count y1_stops y2_p) → va_S A s.heap H locs → lv_has ls 8 [(3, .int v3_1)] → W p l e (RM 2 46) s m args below meth c H locs 0 0 Q (F0 m 74 ls []) := by
    intro H locs ls hP hD hS hl
    refine lv_iload_n (pc := 74) hexec hb dX4_turningBy_74 rfl (lv_at hl 0 rfl) ?_
    cases hf
    exact ke_i hQ hexec hb hr hP hD hS dX4_turningBy_75 hlocks
  obtain ⟨n, hz⟩ := lq3_e hz
  have hL8 : ∀ (n : Nat) (v3 : Int32) (v4 : Int32) (v5 : Int32) (H : Heap) (locs : List Loc) (ls : Array Slot), it3 l8 n v3 v4 v5 = some v3_1 → va_P g.1 vwCl (w_X4_turningBy g a0 a1 a2 u0_1 u0_2 u0_3 x0_count y1_stops y2_p) H → va_D A (w_X4_turningBy g a0 a1 a2 u0_1 u0_2 u0_3 x0_count y1_stops y2_p) → va_S A s.heap H locs → lv_has ls 8 [(0, .ref a0), (1, .ref a2), (3, .int v3), (4, .int v4), (5, .int v5)] → W p l e (RM 2 46) s m args below meth c H locs 0 0 Q (F0 m 8 ls []) := by
    intro n
    induction n with
    | zero =>
      intro v3 v4 v5 H locs ls hf hP hD hS hl
      exact it3_0 hf
    | succ n8 ih8 =>
      intro v3 v4 v5 H locs ls hf hP hD hS hl
      obtain ⟨q8, hf, hk8⟩ := it3_e hf
      have hf := (el8 v3 v4 v5).symm.trans hf
      refine lv_iload (pc := 8) hexec hb dX4_turningBy_8 (lv_at hl 4 rfl) ?_
      refine lv_aload_n (pc := 10) hexec hb dX4_turningBy_10 rfl (lv_at hl 0 rfl) ?_
      refine kg_get (pc := 11) hexec hb (own := RX4) hWX4 hown hG hP 0 rfl rfl 0 (nle rfl) (hts _ (List.mem_cons_of_mem _ (List.mem_append_left _ (List.mem_of_getElem? (i := 0) rfl)))) rfl rfl dX4_turningBy_11 ?_
      refine ki_ge (pc := 14) hexec hb dX4_turningBy_14 (tgt := 74) rfl hf (fun hc hf => ?_) (fun hc hf => ?_)
      · cases sr3 hf hk8
        exact hE8 _ _ _ hP hD hS (lv_sub hl [2] rfl)
      · refine lv_aload_n (pc := 17) hexec hb dX4_turningBy_17 rfl (lv_at hl 0 rfl) ?_
        refine lv_iload (pc := 18) hexec hb dX4_turningBy_18 (lv_at hl 4 rfl) ?_
        obtain ⟨r20, hc, hf⟩ := bd1_e hf
        refine kVp (pc := 20) (S := ⟨hexec, hb, hml, hown, hts⟩) hP hD hG hA hS [0, 1] [2] [1, 2, 0] (w2 := (w_X4_turningBy g a0 a1 a2 u0_1 u0_2 u0_3 x0_count y1_stops y2_p)) rfl rfl rfl rfl rfl rfl (by decide) (c_X4_stopAt l g a0 a1 _ u0_1 u0_2 u0_3 x0_count y1_stops v5 r20 hc) gX4_turningBy_X4_stopAt rfl hv_X4_stopAt ⟨nle rfl, nle rfl⟩ 4 0 rfl rfl rfl (rest := []) rfl rfl hl.1 (nle rfl) dX4_turningBy_20 (fun H locs hP hD hS => ?_)
        refine lv_istore (pc := 23) hexec hb dX4_turningBy_23 hl (nle rfl) rfl (fun ls (hl : lv_has ls 8 [(6, .int r20), (0, .ref a0), (1, .ref a2), (3, .int v3), (4, .int v4), (5, .int v5)]) => ?_)
        refine lv_iload (pc := 25) hexec hb dX4_turningBy_25 (lv_at hl 0 rfl) ?_
        obtain ⟨j68, ej68, hf⟩ := bvf2 hf
        have hj68 : ∀ (v3_2 : Int32) (v4_1 : Int32) (H : Heap) (locs : List Loc) (ls : Array Slot), j68 v3_2 v4_1 = some q8 → va_P g.1 vwCl (w_X4_turningBy g a0 a1 a2 u0_1 u0_2 u0_3 x0_count y1_stops y2_p) H → va_D A (w_X4_turningBy g a0 a1 a2 u0_1 u0_2 u0_3 x0_count y1_stops y2_p) → va_S A s.heap H locs → lv_has ls 8 [(0, .ref a0), (1, .ref a2), (3, .int v3_2), (4, .int v4_1), (5, .int v5)] → W p l e (RM 2 46) s m args below meth c H locs 0 0 Q (F0 m 68 ls []) := by
          intro v3_2 v4_1 H locs ls hf hP hD hS hl
          have hf := (ej68 v3_2 v4_1).symm.trans hf
          obtain ⟨v5_1, ev5_1, hf⟩ := bv_e hf
          refine k_iinc (pc := 68) hexec hb dX4_turningBy_68 kq_1 hl (k := 4) rfl ev5_1 (nle rfl) rfl (fun ls (hl : lv_has ls 8 [(5, .int v5_1), (0, .ref a0), (1, .ref a2), (3, .int v3_2), (4, .int v4_1)]) => ?_)
          refine lv_goto (pc := 71) hexec hb dX4_turningBy_71 (tgt := 8) rfl ?_
          exact ih8 _ _ _ _ _ _ (sl3 hf hk8) hP hD hS (lv_sub hl [1, 2, 3, 4, 0] rfl)
        refine kb_lt (pc := 27) hexec hb dX4_turningBy_27 (tgt := 68) rfl hf (fun hc hf => ?_) (fun hc hf => ?_)
        · exact hj68 _ _ _ _ _ hf hP hD hS (lv_sub hl [1, 2, 3, 4, 5] rfl)
        · refine lv_iload (pc := 30) hexec hb dX4_turningBy_30 (lv_at hl 0 rfl) ?_
          refine lv_aload_n (pc := 32) hexec hb dX4_turningBy_32 rfl (lv_at hl 2 rfl) ?_
          refine kr_alen (pc := 33) hexec hb hG hP 2 0 rfl rfl (v := 8) rfl dX4_turningBy_33 ?_
          refine ki_ge (pc := 34) hexec hb dX4_turningBy_34 (tgt := 68) rfl hf (fun hc hf => ?_) (fun hc hf => ?_)
          · exact hj68 _ _ _ _ _ hf hP hD hS (lv_sub hl [1, 2, 3, 4, 5] rfl)
          · refine lv_aload_n (pc := 37) hexec hb dX4_turningBy_37 rfl (lv_at hl 2 rfl) ?_
            refine lv_iload (pc := 38) hexec hb dX4_turningBy_38 (lv_at hl 0 rfl) ?_
            refine kr_iald (pc := 40) hexec hb hG hP 2 rfl hf dX4_turningBy_40 (fun hf => ?_)
            refine lv_iconst (pc := 41) hexec hb dX4_turningBy_41 ki_m1 ?_
            refine ki_eq (pc := 42) hexec hb dX4_turningBy_42 (tgt := 68) rfl hf (fun hc hf => ?_) (fun hc hf => ?_)
            · exact hj68 _ _ _ _ _ hf hP hD hS (lv_sub hl [1, 2, 3, 4, 5] rfl)
            · refine lv_aload_n (pc := 45) hexec hb dX4_turningBy_45 rfl (lv_at hl 2 rfl) ?_
              refine lv_iload (pc := 46) hexec hb dX4_turningBy_46 (lv_at hl 0 rfl) ?_
              refine kr_iald (pc := 48) hexec hb hG hP 2 rfl hf dX4_turningBy_48 (fun hf => ?_)
              obtain ⟨r49, hc, hf⟩ := bd1_e hf
              refine kSNp (pc := 49) (S := ⟨hexec, hb, hml, hown, hts⟩) hP hD hG hA hS [] [0, 1, 2] [0, 1, 2] (w2 := (w_X4_turningBy g a0 a1 a2 u0_1 u0_2 u0_3 x0_count y1_stops y2_p)) rfl rfl rfl rfl rfl rfl (by decide) (c_X8_uprightTurn l g _ (y2_p r20.toNatClampNeg) r49 hc) ggX4_turningBy_X8_uprightTurn rfl 54 rfl (hts _ (List.mem_cons_of_mem _ (List.mem_append_left _ (List.mem_of_getElem? (i := 8) rfl)))) (hts _ (List.mem_cons_of_mem _ (List.mem_append_left _ (List.mem_of_getElem? (i := 7) rfl)))) hs_X8_uprightTurn ⟨nle rfl, nle rfl⟩ (rest := []) rfl rfl hl.1 (nle rfl) dX4_turningBy_49 (fun H locs hP hD hS => ?_)
              refine lv_istore (pc := 52) hexec hb dX4_turningBy_52 hl (nle rfl) rfl (fun ls (hl : lv_has ls 8 [(7, .int r49), (6, .int r20), (0, .ref a0), (1, .ref a2), (3, .int v3), (4, .int v4), (5, .int v5)]) => ?_)
              refine lv_iload_n (pc := 54) hexec hb dX4_turningBy_54 rfl (lv_at hl 4 rfl) ?_
              refine lv_iload (pc := 55) hexec hb dX4_turningBy_55 (lv_at hl 5 rfl) ?_
              refine lv_iload (pc := 57) hexec hb dX4_turningBy_57 (lv_at hl 0 rfl) ?_
              obtain ⟨r59, hc, hf⟩ := bd1_e hf
              refine kSNp (pc := 59) (S := ⟨hexec, hb, hml, hown, hts⟩) hP hD hG hA hS [] [0, 1, 2] [0, 1, 2] (w2 := (w_X4_turningBy g a0 a1 a2 u0_1 u0_2 u0_3 x0_count y1_stops y2_p)) rfl rfl rfl rfl rfl rfl (by decide) (c_X8_quartersBetween l g _ v4 r49 r59 hc) ggX4_turningBy_X8_quartersBetween rfl 55 rfl (hts _ (List.mem_cons_of_mem _ (List.mem_append_left _ (List.mem_of_getElem? (i := 8) rfl)))) (hts _ (List.mem_cons_of_mem _ (List.mem_append_left _ (List.mem_of_getElem? (i := 10) rfl)))) hs_X8_quartersBetween ⟨nle rfl, nle rfl⟩ (rest := [.int v3]) rfl rfl hl.1 (nle rfl) dX4_turningBy_59 (fun H locs hP hD hS => ?_)
              refine lv_iadd (pc := 62) hexec hb dX4_turningBy_62 ?_
              obtain ⟨v3_3, ev3_3, hf⟩ := bv_e hf
              refine kn_i ev3_3 ?_
              refine lv_istore_n (pc := 63) hexec hb dX4_turningBy_63 rfl hl (nle rfl) rfl (fun ls (hl : lv_has ls 8 [(3, .int v3_3), (7, .int r49), (6, .int r20), (0, .ref a0), (1, .ref a2), (4, .int v4), (5, .int v5)]) => ?_)
              refine lv_iload (pc := 64) hexec hb dX4_turningBy_64 (lv_at hl 1 rfl) ?_
              refine lv_istore (pc := 66) hexec hb dX4_turningBy_66 hl (nle rfl) rfl (fun ls (hl : lv_has ls 8 [(4, .int r49), (3, .int v3_3), (7, .int r49), (6, .int r20), (0, .ref a0), (1, .ref a2), (5, .int v5)]) => ?_)
              exact hj68 _ _ _ _ _ hf hP hD hS (lv_sub hl [4, 5, 1, 0, 6] rfl)
  exact hL8 n _ _ _ _ _ _ hz hP hD hS (lv_sub hl [3, 4, 2, 1, 0] rfl)
