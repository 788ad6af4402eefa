section LAWC
variable {p : Program} {l : Launch} {e : Env} {R : Room} {s : State} {m : MethodId} {args : Array Value} {below : List Frame} {meth : Method} {c : Code} {H : Heap} {locs : List Loc} {c1 s1 : Nat} {Q : State → Prop} {ls : Array Slot} {A : Nat → Prop} {g : GE} {sb L : Nat} {xs : Nat → Int32} {i : Int32} {pl : va_W}
abbrev w_case_31 (g : GE) (a0 a1 a2 a3 a4 a5 a6 : Nat) (u0_1 u0_2 u0_3 u0_4 u0_5 u0_6 u0_7 u0_8 u0_9 u1_1 u1_2 u1_4 u2_2 u2_3 u2_4 u2_5 u4_1 u4_2 u4_3 u4_4 u4_5 u4_6 u4_8 u4_9 u4_10 u4_11 u4_12 u4_13 u4_14 u4_15 u4_16 u4_17 u4_18 u4_19 u4_20 u4_21 u4_22 u4_23 u4_24 u4_25 u4_26 u4_27 u4_28 u4_29 u4_30 : Value) (x2_rows : Int32) (x2_columns : Int32) (y3_namesOn : Nat → Int32) (x4_thrown : Int32) (y5_s : Nat → Int32) (y6_p : Nat → Int64) : va_W := [(a0, .inr (8, [.ref a1, u0_1, u0_2, u0_3, u0_4, u0_5, u0_6, u0_7, u0_8, u0_9])), (a1, .inr (6, [.ref a2, u1_1, u1_2, .ref a3, u1_4])), (a2, .inr (1, [.int x2_rows, .int x2_columns, u2_2, u2_3, u2_4, u2_5])), (a3, .inl (g.2.1 0, 144, .inl y3_namesOn)), (a4, .inr (9, [.ref a5, u4_1, u4_2, u4_3, u4_4, u4_5, u4_6, .int x4_thrown, u4_8, u4_9, u4_10, u4_11, u4_12, u4_13, u4_14, u4_15, u4_16, u4_17, u4_18, u4_19, u4_20, u4_21, u4_22, u4_23, u4_24, u4_25, u4_26, u4_27, u4_28, u4_29, u4_30])), (a5, .inl (g.2.1 0, 552, .inl y5_s)), (a6, .inl (g.2.1 3, 1, .inr (.inl y6_p)))]
set_option maxRecDepth 20000 in
theorem lc_31 (hlt : l.stackTraces = false) (hexec : p.tables.exec = Jvm.exec) (hb : c.code = cL_law) (hml : c.maxLocals = 9) (hown : s.vm.findClass RL = some m.cls) (hts : ∀ w ∈ wsL_law, w.before args s = true) (hG : GG g A s s.heap) (hA : ∀ q, s.heap.size ≤ q → A q) (hX : va_X sb L xs s s.heap) (hbl : sb < s.heap.size) (hbA : ¬ A sb) (hRf : 2000 ≤ R.frames) (hRl : 80000 ≤ R.locals) (hRc : c1 + 14 ≤ R.cells) (hRs : s1 + 846 ≤ R.slots) (a0 a1 a2 a3 a4 a5 a6 : Nat) (u0_1 u0_2 u0_3 u0_4 u0_5 u0_6 u0_7 u0_8 u0_9 u1_1 u1_2 u1_4 u2_2 u2_3 u2_4 u2_5 u4_1 u4_2 u4_3 u4_4 u4_5 u4_6 u4_8 u4_9 u4_10 u4_11 u4_12 u4_13 u4_14 u4_15 u4_16 u4_17 u4_18 u4_19 u4_20 u4_21 u4_22 u4_23 u4_24 u4_25 u4_26 u4_27 u4_28 u4_29 u4_30 : Value) (x2_rows : Int32) (x2_columns : Int32) (y3_namesOn : Nat → Int32) (x4_thrown : Int32) (y5_s : Nat → Int32) (y6_p : Nat → Int64) (o_x4_thrown : Int32) (o_y6_p : Nat → Int64) (hf : f_case_31 L xs i x2_rows x2_columns y3_namesOn x4_thrown y5_s y6_p = some (o_x4_thrown, o_y6_p)) (hP : va_P g.1 vwCl (w_case_31 g a0 a1 a2 a3 a4 a5 a6 u0_1 u0_2 u0_3 u0_4 u0_5 u0_6 u0_7 u0_8 u0_9 u1_1 u1_2 u1_4 u2_2 u2_3 u2_4 u2_5 u4_1 u4_2 u4_3 u4_4 u4_5 u4_6 u4_8 u4_9 u4_10 u4_11 u4_12 u4_13 u4_14 u4_15 u4_16 u4_17 u4_18 u4_19 u4_20 u4_21 u4_22 u4_23 u4_24 u4_25 u4_26 u4_27 u4_28 u4_29 u4_30 x2_rows x2_columns y3_namesOn x4_thrown y5_s y6_p ++ pl) H) (hD : va_D A (w_case_31 g a0 a1 a2 a3 a4 a5 a6 u0_1 u0_2 u0_3 u0_4 u0_5 u0_6 u0_7 u0_8 u0_9 u1_1 u1_2 u1_4 u2_2 u2_3 u2_4 u2_5 u4_1 u4_2 u4_3 u4_4 u4_5 u4_6 u4_8 u4_9 u4_10 u4_11 u4_12 u4_13 u4_14 u4_15 u4_16 u4_17 u4_18 u4_19 u4_20 u4_21 u4_22 u4_23 u4_24 u4_25 u4_26 u4_27 u4_28 u4_29 u4_30 x2_rows x2_columns y3_namesOn x4_thrown y5_s y6_p ++ pl)) (hS : va_S A s.heap H locs) (hl : lv_has ls 9 [(0, .ref sb), (1, .ref a0), (2, .ref a4), (3, .ref a6), (4, .int i)]) (kk : ∀ (H : Heap) (locs : List Loc) (ls : Array Slot), va_P g.1 vwCl (w_case_31 g a0 a1 a2 a3 a4 a5 a6 u0_1 u0_2 u0_3 u0_4 u0_5 u0_6 u0_7 u0_8 u0_9 u1_1 u1_2 u1_4 u2_2 u2_3 u2_4 u2_5 u4_1 u4_2 u4_3 u4_4 u4_5 u4_6 u4_8 u4_9 u4_10 u4_11 u4_12 u4_13 u4_14 u4_15 u4_16 u4_17 u4_18 u4_19 u4_20 u4_21 u4_22 u4_23 u4_24 u4_25 u4_26 u4_27 u4_28 u4_29 u4_30 x2_rows x2_columns y3_namesOn o_x4_thrown y5_s o_y6_p ++ pl) H → va_D A (w_case_31 g a0 a1 a2 a3 a4 a5 a6 u0_1 u0_2 u0_3 u0_4 u0_5 u0_6 u0_7 u0_8 u0_9 u1_1 u1_2 u1_4 u2_2 u2_3 u2_4 u2_5 u4_1 u4_2 u4_3 u4_4 u4_5 u4_6 u4_8 u4_9 u4_10 u4_11 u4_12 u4_13 u4_14 u4_15 u4_16 u4_17 u4_18 u4_19 u4_20 u4_21 u4_22 u4_23 u4_24 u4_25 u4_26 u4_27 u4_28 u4_29 u4_30 x2_rows x2_columns y3_namesOn o_x4_thrown y5_s o_y6_p ++ pl) → va_S A s.heap H locs → lv_has ls 9 [(0, .ref sb), (1, .ref a0), (2, .ref a4), (3, .ref a6), (4, .int i)] → W p l e R s m args below meth c H locs (c1 + 14) (s1 + 846) Q (F0 m 2565 ls [])) : W p l e R s m args below meth c H locs c1 s1 Q (F0 m 1586 ls []) := by
  unfold f_case_31 at hf
  refine lv_aload_n (pc := 1586) hexec hb dL_law_1586 rfl (lv_at hl 1 rfl) ?_
  refine lv_aload_n (pc := 1587) hexec hb dL_law_1587 rfl (lv_at hl 0 rfl) ?_
  refine lv_iload (pc := 1588) hexec hb dL_law_1588 (lv_at hl 4 rfl) ?_
  refine lv_iconst (pc := 1590) hexec hb dL_law_1590 ki_1 ?_
  refine lv_iadd (pc := 1591) hexec hb dL_law_1591 ?_
  refine k_scr (pc := 1592) hexec hb hX hbl hbA hS hf dL_law_1592 (fun hf => ?_)
  refine lv_aload_n (pc := 1593) hexec hb dL_law_1593 rfl (lv_at hl 3 rfl) ?_
  obtain ⟨jh1594, ejh1594, hf⟩ := bvf2 hf
  have hjh1594 : ∀ (k1594 : Int32) (y6_p_1 : Nat → Int64) (H : Heap) (locs : List Loc) (ls : Array Slot), jh1594 k1594 y6_p_1 = some (o_x4_thrown, o_y6_p) → va_P g.1 vwCl (w_case_31 g a0 a1 a2 a3 a4 a5 a6 u0_1 u0_2 u0_3 u0_4 u0_5 u0_6 u0_7 u0_8 u0_9 u1_1 u1_2 u1_4 u2_2 u2_3 u2_4 u2_5 u4_1 u4_2 u4_3 u4_4 u4_5 u4_6 u4_8 u4_9 u4_10 u4_11 u4_12 u4_13 u4_14 u4_15 u4_16 u4_17 u4_18 u4_19 u4_20 u4_21 u4_22 u4_23 u4_24 u4_25 u4_26 u4_27 u4_28 u4_29 u4_30 x2_rows x2_columns y3_namesOn x4_thrown y5_s y6_p_1 ++ pl) H → va_D A (w_case_31 g a0 a1 a2 a3 a4 a5 a6 u0_1 u0_2 u0_3 u0_4 u0_5 u0_6 u0_7 u0_8 u0_9 u1_1 u1_2 u1_4 u2_2 u2_3 u2_4 u2_5 u4_1 u4_2 u4_3 u4_4 u4_5 u4_6 u4_8 u4_9 u4_10 u4_11 u4_12 u4_13 u4_14 u4_15 u4_16 u4_17 u4_18 u4_19 u4_20 u4_21 u4_22 u4_23 u4_24 u4_25 u4_26 u4_27 u4_28 u4_29 u4_30 x2_rows x2_columns y3_namesOn x4_thrown y5_s y6_p_1 ++ pl) → va_S A s.heap H locs → lv_has ls 9 [(0, .ref sb), (1, .ref a0), (2, .ref a4), (3, .ref a6), (4, .int i)] → W p l e R s m args below meth c H locs (c1 + 14) (s1 + 846) Q (F0 m 1597 ls [.int k1594]) := by
    intro k1594 y6_p_1 H locs ls hf hP hD hS hl
    have hf := (ejh1594 k1594 y6_p_1).symm.trans hf
    refine lv_istore (pc := 1597) hexec hb dL_law_1597 hl (nle rfl) rfl (fun ls (hl : lv_has ls 9 [(5, .int k1594), (0, .ref sb), (1, .ref a0), (2, .ref a4), (3, .ref a6), (4, .int i)]) => ?_)
    refine lv_aload_n (pc := 1599) hexec hb dL_law_1599 rfl (lv_at hl 3 rfl) ?_
    refine lv_aload_n (pc := 1600) hexec hb dL_law_1600 rfl (lv_at hl 1 rfl) ?_
    refine lv_iload (pc := 1601) hexec hb dL_law_1601 (lv_at hl 5 rfl) ?_
    refine lv_iconst (pc := 1603) hexec hb dL_law_1603 ki_1 ?_
    refine lv_iadd (pc := 1604) hexec hb dL_law_1604 ?_
    refine k_scr (pc := 1605) hexec hb hX hbl hbA hS hf dL_law_1605 (fun hf => ?_)
    obtain ⟨r1606, x4_thrown_1, hc, hf⟩ := bd2_e hf
    refine kVLt (pc := 1606) (S := ⟨hexec, hb, hml, hown, hts⟩) hP hD hG hA hS [4, 5] [0, 1, 2, 3, 6] rfl rfl rfl (me_of_mi (c_X9_drowns l g a4 a5 _ u4_1 u4_2 u4_3 u4_4 u4_5 u4_6 u4_8 u4_9 u4_10 u4_11 u4_12 u4_13 u4_14 u4_15 u4_16 u4_17 u4_18 u4_19 u4_20 u4_21 u4_22 u4_23 u4_24 u4_25 u4_26 u4_27 u4_28 u4_29 u4_30 x4_thrown y5_s (xs (i + 1).toNatClampNeg) r1606 x4_thrown_1 hc)) gL_law_X9_drowns rfl hq_X9_drowns ⟨by omega, by omega⟩ 9 0 rfl rfl rfl (rest := []) rfl rfl hl.1 (nle rfl) dL_law_1606 ⟨by omega, by omega⟩ (fun w1 H locs hF1 hP hD hS => ?_)
    subst hF1
    have hP := lbk hP [0, 1, 2, 3, 5, 6, 4] (X := (w_case_31 g a0 a1 a2 a3 a4 a5 a6 u0_1 u0_2 u0_3 u0_4 u0_5 u0_6 u0_7 u0_8 u0_9 u1_1 u1_2 u1_4 u2_2 u2_3 u2_4 u2_5 u4_1 u4_2 u4_3 u4_4 u4_5 u4_6 u4_8 u4_9 u4_10 u4_11 u4_12 u4_13 u4_14 u4_15 u4_16 u4_17 u4_18 u4_19 u4_20 u4_21 u4_22 u4_23 u4_24 u4_25 u4_26 u4_27 u4_28 u4_29 u4_30 x2_rows x2_columns y3_namesOn x4_thrown_1 y5_s y6_p_1)) rfl
    have hD := lbkD hD [0, 1, 2, 3, 5, 6, 4] (X := (w_case_31 g a0 a1 a2 a3 a4 a5 a6 u0_1 u0_2 u0_3 u0_4 u0_5 u0_6 u0_7 u0_8 u0_9 u1_1 u1_2 u1_4 u2_2 u2_3 u2_4 u2_5 u4_1 u4_2 u4_3 u4_4 u4_5 u4_6 u4_8 u4_9 u4_10 u4_11 u4_12 u4_13 u4_14 u4_15 u4_16 u4_17 u4_18 u4_19 u4_20 u4_21 u4_22 u4_23 u4_24 u4_25 u4_26 u4_27 u4_28 u4_29 u4_30 x2_rows x2_columns y3_namesOn x4_thrown_1 y5_s y6_p_1)) rfl rfl
    refine W.widen (k := c1 + 14) (n := s1 + 846) (by omega) (by omega) ?_
    refine lv_istore (pc := 1609) hexec hb dL_law_1609 hl (nle rfl) rfl (fun ls (hl : lv_has ls 9 [(6, .int r1606), (5, .int k1594), (0, .ref sb), (1, .ref a0), (2, .ref a4), (3, .ref a6), (4, .int i)]) => ?_)
    refine lv_aload_n (pc := 1611) hexec hb dL_law_1611 rfl (lv_at hl 4 rfl) ?_
    obtain ⟨r1612, hc, hf⟩ := bd1_e hf
    refine kVLt (pc := 1612) (S := ⟨hexec, hb, hml, hown, hts⟩) hP hD hG hA hS [4] [0, 1, 2, 3, 5, 6] rfl rfl rfl (me_of_mi (c_X9_thrown l g a4 _ (.ref a5) u4_1 u4_2 u4_3 u4_4 u4_5 u4_6 u4_8 u4_9 u4_10 u4_11 u4_12 u4_13 u4_14 u4_15 u4_16 u4_17 u4_18 u4_19 u4_20 u4_21 u4_22 u4_23 u4_24 u4_25 u4_26 u4_27 u4_28 u4_29 u4_30 x4_thrown_1 r1612 hc)) gL_law_X9_thrown rfl hq_X9_thrown ⟨by omega, by omega⟩ 9 0 rfl rfl rfl (rest := []) rfl rfl hl.1 (nle rfl) dL_law_1612 ⟨by omega, by omega⟩ (fun w1 H locs hF1 hP hD hS => ?_)
    subst hF1
    have hP := lbk hP [0, 1, 2, 3, 6, 4, 5] (X := (w_case_31 g a0 a1 a2 a3 a4 a5 a6 u0_1 u0_2 u0_3 u0_4 u0_5 u0_6 u0_7 u0_8 u0_9 u1_1 u1_2 u1_4 u2_2 u2_3 u2_4 u2_5 u4_1 u4_2 u4_3 u4_4 u4_5 u4_6 u4_8 u4_9 u4_10 u4_11 u4_12 u4_13 u4_14 u4_15 u4_16 u4_17 u4_18 u4_19 u4_20 u4_21 u4_22 u4_23 u4_24 u4_25 u4_26 u4_27 u4_28 u4_29 u4_30 x2_rows x2_columns y3_namesOn x4_thrown_1 y5_s y6_p_1)) rfl
    have hD := lbkD hD [0, 1, 2, 3, 6, 4, 5] (X := (w_case_31 g a0 a1 a2 a3 a4 a5 a6 u0_1 u0_2 u0_3 u0_4 u0_5 u0_6 u0_7 u0_8 u0_9 u1_1 u1_2 u1_4 u2_2 u2_3 u2_4 u2_5 u4_1 u4_2 u4_3 u4_4 u4_5 u4_6 u4_8 u4_9 u4_10 u4_11 u4_12 u4_13 u4_14 u4_15 u4_16 u4_17 u4_18 u4_19 u4_20 u4_21 u4_22 u4_23 u4_24 u4_25 u4_26 u4_27 u4_28 u4_29 u4_30 x2_rows x2_columns y3_namesOn x4_thrown_1 y5_s y6_p_1)) rfl rfl
    refine W.widen (k := c1 + 14) (n := s1 + 846) (by omega) (by omega) ?_
    refine lv_iload (pc := 1615) hexec hb dL_law_1615 (lv_at hl 1 rfl) ?_
    refine ki_eq (pc := 1617) hexec hb dL_law_1617 (tgt := 1622) rfl hf (fun hc hf => ?_) (fun hc hf => ?_)
    · refine lv_iload (pc := 1622) hexec hb dL_law_1622 (lv_at hl 1 rfl) ?_
      obtain ⟨j1639, ej1639, hf⟩ := bvf1 hf
      have hj1639 : ∀ (u : Unit) (H : Heap) (locs : List Loc) (ls : Array Slot), j1639 u = some (o_x4_thrown, o_y6_p) → va_P g.1 vwCl (w_case_31 g a0 a1 a2 a3 a4 a5 a6 u0_1 u0_2 u0_3 u0_4 u0_5 u0_6 u0_7 u0_8 u0_9 u1_1 u1_2 u1_4 u2_2 u2_3 u2_4 u2_5 u4_1 u4_2 u4_3 u4_4 u4_5 u4_6 u4_8 u4_9 u4_10 u4_11 u4_12 u4_13 u4_14 u4_15 u4_16 u4_17 u4_18 u4_19 u4_20 u4_21 u4_22 u4_23 u4_24 u4_25 u4_26 u4_27 u4_28 u4_29 u4_30 x2_rows x2_columns y3_namesOn x4_thrown_1 y5_s y6_p_1 ++ pl) H → va_D A (w_case_31 g a0 a1 a2 a3 a4 a5 a6 u0_1 u0_2 u0_3 u0_4 u0_5 u0_6 u0_7 u0_8 u0_9 u1_1 u1_2 u1_4 u2_2 u2_3 u2_4 u2_5 u4_1 u4_2 u4_3 u4_4 u4_5 u4_6 u4_8 u4_9 u4_10 u4_11 u4_12 u4_13 u4_14 u4_15 u4_16 u4_17 u4_18 u4_19 u4_20 u4_21 u4_22 u4_23 u4_24 u4_25 u4_26 u4_27 u4_28 u4_29 u4_30 x2_rows x2_columns y3_namesOn x4_thrown_1 y5_s y6_p_1 ++ pl) → va_S A s.heap H locs → lv_has ls 9 [(0, .ref sb), (1, .ref a0), (2, .ref a4), (3, .ref a6), (4, .int i)] → W p l e R s m args below meth c H locs (c1 + 14) (s1 + 846) Q (F0 m 1639 ls []) := by
        intro u H locs ls hf hP hD hS hl
        have hf := (ej1639 u).symm.trans hf
        refine lv_goto (pc := 1639) hexec hb dL_law_1639 (tgt := 2565) rfl ?_
        cases hf
        exact W.widen (by omega) (by omega) (kk _ _ _ hP hD hS (lv_sub hl [0, 1, 2, 3, 4] rfl))
      refine kb_ne (pc := 1624) hexec hb dL_law_1624 (tgt := 1639) rfl hf (fun hc hf => ?_) (fun hc hf => ?_)
      · exact hj1639 _ _ _ _ hf hP hD hS (lv_sub hl [2, 3, 4, 5, 6] rfl)
      · refine lv_aload_n (pc := 1627) hexec hb dL_law_1627 rfl (lv_at hl 5 rfl) ?_
        refine lv_iconst (pc := 1628) hexec hb dL_law_1628 ki_0 ?_
        refine kr_lald (pc := 1629) hexec hb hG hP 6 rfl hf dL_law_1629 (fun hf => ?_)
        refine lv_iload (pc := 1630) hexec hb dL_law_1630 (lv_at hl 0 rfl) ?_
        refine lv_i2l (pc := 1632) hexec hb dL_law_1632 rfl ?_
        refine kc_lcmp (pc := 1633) hexec hb dL_law_1633 ?_
        refine kb_eq (pc := 1634) hexec hb dL_law_1634 (tgt := 1639) rfl hf (fun hc hf => ?_) (fun hc hf => ?_)
        · exact hj1639 _ _ _ _ hf hP hD hS (lv_sub hl [2, 3, 4, 5, 6] rfl)
        · cases hf
    · cases hf
  cases hT : t_X8_drowns x2_rows x2_columns y3_namesOn (xs (i + 1).toNatClampNeg) with
  | some cls =>
    rw [hT] at hf
    rcases ite_or hf with ⟨hcl, hf⟩ | ⟨hcl, hf⟩
    · subst hcl
      refine kSLt (pc := 1594) (S := ⟨hexec, hb, hml, hown, hts⟩) hP hD hG hA hS [0, 1, 2, 3] [4, 5, 6] rfl rfl rfl (me_of_mh (hx_L_drowns_o l hlt g a0 a1 a2 a3 a6 _ u0_1 u0_2 u0_3 u0_4 u0_5 u0_6 u0_7 u0_8 u0_9 u1_1 u1_2 u1_4 u2_2 u2_3 u2_4 u2_5 x2_rows x2_columns y3_namesOn (xs (i + 1).toNatClampNeg) hT)) gL_law_L_drowns rfl hq_L_drowns ⟨by omega, by omega⟩ (rest := []) rfl rfl hl.1 (nle rfl) dL_law_1594 ⟨by omega, by omega⟩ (fun w1 H locs hF1 hP hD hS => ?_)
      subst hF1
      have hP := lbk hP [3, 4, 5, 6, 0, 1, 2] (X := (w_case_31 g a0 a1 a2 a3 a4 a5 a6 u0_1 u0_2 u0_3 u0_4 u0_5 u0_6 u0_7 u0_8 u0_9 u1_1 u1_2 u1_4 u2_2 u2_3 u2_4 u2_5 u4_1 u4_2 u4_3 u4_4 u4_5 u4_6 u4_8 u4_9 u4_10 u4_11 u4_12 u4_13 u4_14 u4_15 u4_16 u4_17 u4_18 u4_19 u4_20 u4_21 u4_22 u4_23 u4_24 u4_25 u4_26 u4_27 u4_28 u4_29 u4_30 x2_rows x2_columns y3_namesOn x4_thrown y5_s y6_p)) rfl
      have hD := lbkD hD [3, 4, 5, 6, 0, 1, 2] (X := (w_case_31 g a0 a1 a2 a3 a4 a5 a6 u0_1 u0_2 u0_3 u0_4 u0_5 u0_6 u0_7 u0_8 u0_9 u1_1 u1_2 u1_4 u2_2 u2_3 u2_4 u2_5 u4_1 u4_2 u4_3 u4_4 u4_5 u4_6 u4_8 u4_9 u4_10 u4_11 u4_12 u4_13 u4_14 u4_15 u4_16 u4_17 u4_18 u4_19 u4_20 u4_21 u4_22 u4_23 u4_24 u4_25 u4_26 u4_27 u4_28 u4_29 u4_30 x2_rows x2_columns y3_namesOn x4_thrown y5_s y6_p)) rfl rfl
      exact W.widen (by omega) (by omega) (hjh1594 _ _ _ _ _ hf hP hD hS (lv_sub hl [0, 1, 2, 3, 4] rfl))
    cases hf
  | none =>
    rw [hT] at hf
    obtain ⟨r1594, hc, hf⟩ := bd1_e hf
    refine kSLt (pc := 1594) (S := ⟨hexec, hb, hml, hown, hts⟩) hP hD hG hA hS [0, 1, 2, 3, 6] [4, 5] rfl rfl rfl (me_of_mh (h_L_drowns l g a0 a1 a2 a3 a6 _ u0_1 u0_2 u0_3 u0_4 u0_5 u0_6 u0_7 u0_8 u0_9 u1_1 u1_2 u1_4 u2_2 u2_3 u2_4 u2_5 x2_rows x2_columns y3_namesOn y6_p (xs (i + 1).toNatClampNeg) r1594 hc)) gL_law_L_drowns rfl hq_L_drowns ⟨by omega, by omega⟩ (rest := []) rfl rfl hl.1 (nle rfl) dL_law_1594 ⟨by omega, by omega⟩ (fun w1 H locs hF1 hP hD hS => ?_)
    subst hF1
    have hP := lbk hP [2, 3, 4, 5, 0, 1, 6] (X := (w_case_31 g a0 a1 a2 a3 a4 a5 a6 u0_1 u0_2 u0_3 u0_4 u0_5 u0_6 u0_7 u0_8 u0_9 u1_1 u1_2 u1_4 u2_2 u2_3 u2_4 u2_5 u4_1 u4_2 u4_3 u4_4 u4_5 u4_6 u4_8 u4_9 u4_10 u4_11 u4_12 u4_13 u4_14 u4_15 u4_16 u4_17 u4_18 u4_19 u4_20 u4_21 u4_22 u4_23 u4_24 u4_25 u4_26 u4_27 u4_28 u4_29 u4_30 x2_rows x2_columns y3_namesOn x4_thrown y5_s (vp_updL y6_p (0 : Int32).toNatClampNeg r1594.toInt64))) rfl
    have hD := lbkD hD [2, 3, 4, 5, 0, 1, 6] (X := (w_case_31 g a0 a1 a2 a3 a4 a5 a6 u0_1 u0_2 u0_3 u0_4 u0_5 u0_6 u0_7 u0_8 u0_9 u1_1 u1_2 u1_4 u2_2 u2_3 u2_4 u2_5 u4_1 u4_2 u4_3 u4_4 u4_5 u4_6 u4_8 u4_9 u4_10 u4_11 u4_12 u4_13 u4_14 u4_15 u4_16 u4_17 u4_18 u4_19 u4_20 u4_21 u4_22 u4_23 u4_24 u4_25 u4_26 u4_27 u4_28 u4_29 u4_30 x2_rows x2_columns y3_namesOn x4_thrown y5_s (vp_updL y6_p (0 : Int32).toNatClampNeg r1594.toInt64))) rfl rfl
    exact W.widen (by omega) (by omega) (hjh1594 _ _ _ _ _ hf hP hD hS (lv_sub hl [0, 1, 2, 3, 4] rfl))
end LAWC
