section LAWC
variable {p : Program} {l : Launch} {e : Env} {R : Room} {s : State} {m : MethodId} {args : Array Value} {below : List Frame} {meth : Method} {c : Code} {H : Heap} {locs : List Loc} {c1 s1 : Nat} {Q : State → Prop} {ls : Array Slot} {A : Nat → Prop} {g : GE} {sb L : Nat} {xs : Nat → Int32} {i : Int32} {pl : va_W}
abbrev w_case_7 (g : GE) (a0 a1 a2 a3 a4 a5 a6 a7 : Nat) (u0_1 u0_2 u0_3 u0_4 u0_5 u0_6 u0_7 u0_8 u0_9 u1_0 u1_2 u1_3 u1_4 u2_1 u2_2 u2_3 u5_1 u5_2 u5_3 u5_4 u5_5 u5_6 u5_8 u5_9 u5_10 u5_11 u5_12 u5_13 u5_14 u5_15 u5_16 u5_17 u5_18 u5_19 u5_20 u5_21 u5_22 u5_23 u5_24 u5_25 u5_26 u5_27 u5_28 u5_29 u5_30 : Value) (x2_count : Int32) (y3_length : Nat → Int32) (y4_letters : Nat → Int32) (x5_thrown : Int32) (y6_s : Nat → Int32) (y7_p : Nat → Int64) : va_W := [(a0, .inr (8, [.ref a1, u0_1, u0_2, u0_3, u0_4, u0_5, u0_6, u0_7, u0_8, u0_9])), (a1, .inr (6, [u1_0, .ref a2, u1_2, u1_3, u1_4])), (a2, .inr (2, [.int x2_count, u2_1, u2_2, u2_3, .ref a3, .ref a4])), (a3, .inl (g.2.1 0, 8, .inl y3_length)), (a4, .inl (g.2.1 0, 64, .inl y4_letters)), (a5, .inr (9, [.ref a6, u5_1, u5_2, u5_3, u5_4, u5_5, u5_6, .int x5_thrown, u5_8, u5_9, u5_10, u5_11, u5_12, u5_13, u5_14, u5_15, u5_16, u5_17, u5_18, u5_19, u5_20, u5_21, u5_22, u5_23, u5_24, u5_25, u5_26, u5_27, u5_28, u5_29, u5_30])), (a6, .inl (g.2.1 0, 552, .inl y6_s)), (a7, .inl (g.2.1 3, 1, .inr (.inl y7_p)))]
set_option maxRecDepth 20000 in
theorem lc_7 (hlt : l.stackTraces = false) (hexec : p.tables.exec = Jvm.exec) (hb : c.code = cL_law) (hml : c.maxLocals = 9) (hown : s.vm.findClass RL = some m.cls) (hts : ∀ w ∈ wsL_law, w.before args s = true) (hG : GG g A s s.heap) (hA : ∀ q, s.heap.size ≤ q → A q) (hX : va_X sb L xs s s.heap) (hbl : sb < s.heap.size) (hbA : ¬ A sb) (hRf : 2000 ≤ R.frames) (hRl : 80000 ≤ R.locals) (hRc : c1 + 14 ≤ R.cells) (hRs : s1 + 846 ≤ R.slots) (a0 a1 a2 a3 a4 a5 a6 a7 : Nat) (u0_1 u0_2 u0_3 u0_4 u0_5 u0_6 u0_7 u0_8 u0_9 u1_0 u1_2 u1_3 u1_4 u2_1 u2_2 u2_3 u5_1 u5_2 u5_3 u5_4 u5_5 u5_6 u5_8 u5_9 u5_10 u5_11 u5_12 u5_13 u5_14 u5_15 u5_16 u5_17 u5_18 u5_19 u5_20 u5_21 u5_22 u5_23 u5_24 u5_25 u5_26 u5_27 u5_28 u5_29 u5_30 : Value) (x2_count : Int32) (y3_length : Nat → Int32) (y4_letters : Nat → Int32) (x5_thrown : Int32) (y6_s : Nat → Int32) (y7_p : Nat → Int64) (o_x5_thrown : Int32) (o_y7_p : Nat → Int64) (hf : f_case_7 L xs i x2_count y3_length y4_letters x5_thrown y6_s y7_p = some (o_x5_thrown, o_y7_p)) (hP : va_P g.1 vwCl (w_case_7 g a0 a1 a2 a3 a4 a5 a6 a7 u0_1 u0_2 u0_3 u0_4 u0_5 u0_6 u0_7 u0_8 u0_9 u1_0 u1_2 u1_3 u1_4 u2_1 u2_2 u2_3 u5_1 u5_2 u5_3 u5_4 u5_5 u5_6 u5_8 u5_9 u5_10 u5_11 u5_12 u5_13 u5_14 u5_15 u5_16 u5_17 u5_18 u5_19 u5_20 u5_21 u5_22 u5_23 u5_24 u5_25 u5_26 u5_27 u5_28 u5_29 u5_30 x2_count y3_length y4_letters x5_thrown y6_s y7_p ++ pl) H) (hD : va_D A (w_case_7 g a0 a1 a2 a3 a4 a5 a6 a7 u0_1 u0_2 u0_3 u0_4 u0_5 u0_6 u0_7 u0_8 u0_9 u1_0 u1_2 u1_3 u1_4 u2_1 u2_2 u2_3 u5_1 u5_2 u5_3 u5_4 u5_5 u5_6 u5_8 u5_9 u5_10 u5_11 u5_12 u5_13 u5_14 u5_15 u5_16 u5_17 u5_18 u5_19 u5_20 u5_21 u5_22 u5_23 u5_24 u5_25 u5_26 u5_27 u5_28 u5_29 u5_30 x2_count y3_length y4_letters x5_thrown y6_s y7_p ++ pl)) (hS : va_S A s.heap H locs) (hl : lv_has ls 9 [(0, .ref sb), (1, .ref a0), (2, .ref a5), (3, .ref a7), (4, .int i)]) (kk : ∀ (H : Heap) (locs : List Loc) (ls : Array Slot), va_P g.1 vwCl (w_case_7 g a0 a1 a2 a3 a4 a5 a6 a7 u0_1 u0_2 u0_3 u0_4 u0_5 u0_6 u0_7 u0_8 u0_9 u1_0 u1_2 u1_3 u1_4 u2_1 u2_2 u2_3 u5_1 u5_2 u5_3 u5_4 u5_5 u5_6 u5_8 u5_9 u5_10 u5_11 u5_12 u5_13 u5_14 u5_15 u5_16 u5_17 u5_18 u5_19 u5_20 u5_21 u5_22 u5_23 u5_24 u5_25 u5_26 u5_27 u5_28 u5_29 u5_30 x2_count y3_length y4_letters o_x5_thrown y6_s o_y7_p ++ pl) H → va_D A (w_case_7 g a0 a1 a2 a3 a4 a5 a6 a7 u0_1 u0_2 u0_3 u0_4 u0_5 u0_6 u0_7 u0_8 u0_9 u1_0 u1_2 u1_3 u1_4 u2_1 u2_2 u2_3 u5_1 u5_2 u5_3 u5_4 u5_5 u5_6 u5_8 u5_9 u5_10 u5_11 u5_12 u5_13 u5_14 u5_15 u5_16 u5_17 u5_18 u5_19 u5_20 u5_21 u5_22 u5_23 u5_24 u5_25 u5_26 u5_27 u5_28 u5_29 u5_30 x2_count y3_length y4_letters o_x5_thrown y6_s o_y7_p ++ pl) → va_S A s.heap H locs → lv_has ls 9 [(0, .ref sb), (1, .ref a0), (2, .ref a5), (3, .ref a7), (4, .int i)] → W p l e R s m args below meth c H locs (c1 + 14) (s1 + 846) Q (F0 m 2565 ls [])) : W p l e R s m args below meth c H locs c1 s1 Q (F0 m 544 ls []) := by
  unfold f_case_7 at hf
  refine lv_aload_n (pc := 544) hexec hb dL_law_544 rfl (lv_at hl 1 rfl) ?_
  refine lv_aload_n (pc := 545) hexec hb dL_law_545 rfl (lv_at hl 0 rfl) ?_
  refine lv_iload (pc := 546) hexec hb dL_law_546 (lv_at hl 4 rfl) ?_
  refine lv_iconst (pc := 548) hexec hb dL_law_548 ki_1 ?_
  refine lv_iadd (pc := 549) hexec hb dL_law_549 ?_
  refine k_scr (pc := 550) hexec hb hX hbl hbA hS hf dL_law_550 (fun hf => ?_)
  refine lv_aload_n (pc := 551) hexec hb dL_law_551 rfl (lv_at hl 0 rfl) ?_
  refine lv_iload (pc := 552) hexec hb dL_law_552 (lv_at hl 4 rfl) ?_
  refine lv_iconst (pc := 554) hexec hb dL_law_554 ki_2 ?_
  refine lv_iadd (pc := 555) hexec hb dL_law_555 ?_
  refine k_scr (pc := 556) hexec hb hX hbl hbA hS hf dL_law_556 (fun hf => ?_)
  refine lv_aload_n (pc := 557) hexec hb dL_law_557 rfl (lv_at hl 3 rfl) ?_
  obtain ⟨jh558, ejh558, hf⟩ := bvf2 hf
  have hjh558 : ∀ (k558 : Int32) (y7_p_1 : Nat → Int64) (H : Heap) (locs : List Loc) (ls : Array Slot), jh558 k558 y7_p_1 = some (o_x5_thrown, o_y7_p) → va_P g.1 vwCl (w_case_7 g a0 a1 a2 a3 a4 a5 a6 a7 u0_1 u0_2 u0_3 u0_4 u0_5 u0_6 u0_7 u0_8 u0_9 u1_0 u1_2 u1_3 u1_4 u2_1 u2_2 u2_3 u5_1 u5_2 u5_3 u5_4 u5_5 u5_6 u5_8 u5_9 u5_10 u5_11 u5_12 u5_13 u5_14 u5_15 u5_16 u5_17 u5_18 u5_19 u5_20 u5_21 u5_22 u5_23 u5_24 u5_25 u5_26 u5_27 u5_28 u5_29 u5_30 x2_count y3_length y4_letters x5_thrown y6_s y7_p_1 ++ pl) H → va_D A (w_case_7 g a0 a1 a2 a3 a4 a5 a6 a7 u0_1 u0_2 u0_3 u0_4 u0_5 u0_6 u0_7 u0_8 u0_9 u1_0 u1_2 u1_3 u1_4 u2_1 u2_2 u2_3 u5_1 u5_2 u5_3 u5_4 u5_5 u5_6 u5_8 u5_9 u5_10 u5_11 u5_12 u5_13 u5_14 u5_15 u5_16 u5_17 u5_18 u5_19 u5_20 u5_21 u5_22 u5_23 u5_24 u5_25 u5_26 u5_27 u5_28 u5_29 u5_30 x2_count y3_length y4_letters x5_thrown y6_s y7_p_1 ++ pl) → va_S A s.heap H locs → lv_has ls 9 [(0, .ref sb), (1, .ref a0), (2, .ref a5), (3, .ref a7), (4, .int i)] → W p l e R s m args below meth c H locs (c1 + 14) (s1 + 846) Q (F0 m 561 ls [.int k558]) := by
    intro k558 y7_p_1 H locs ls hf hP hD hS hl
    have hf := (ejh558 k558 y7_p_1).symm.trans hf
    refine lv_istore (pc := 561) hexec hb dL_law_561 hl (nle rfl) rfl (fun ls (hl : lv_has ls 9 [(5, .int k558), (0, .ref sb), (1, .ref a0), (2, .ref a5), (3, .ref a7), (4, .int i)]) => ?_)
    refine lv_aload_n (pc := 563) hexec hb dL_law_563 rfl (lv_at hl 3 rfl) ?_
    refine lv_aload_n (pc := 564) hexec hb dL_law_564 rfl (lv_at hl 1 rfl) ?_
    refine lv_iload (pc := 565) hexec hb dL_law_565 (lv_at hl 5 rfl) ?_
    refine lv_iconst (pc := 567) hexec hb dL_law_567 ki_1 ?_
    refine lv_iadd (pc := 568) hexec hb dL_law_568 ?_
    refine k_scr (pc := 569) hexec hb hX hbl hbA hS hf dL_law_569 (fun hf => ?_)
    refine lv_aload_n (pc := 570) hexec hb dL_law_570 rfl (lv_at hl 1 rfl) ?_
    refine lv_iload (pc := 571) hexec hb dL_law_571 (lv_at hl 5 rfl) ?_
    refine lv_iconst (pc := 573) hexec hb dL_law_573 ki_2 ?_
    refine lv_iadd (pc := 574) hexec hb dL_law_574 ?_
    refine k_scr (pc := 575) hexec hb hX hbl hbA hS hf dL_law_575 (fun hf => ?_)
    obtain ⟨r576, x5_thrown_1, hc, hf⟩ := bd2_e hf
    refine kVLt (pc := 576) (S := ⟨hexec, hb, hml, hown, hts⟩) hP hD hG hA hS [5, 6] [0, 1, 2, 3, 4, 7] rfl rfl rfl (me_of_mi (c_X9_letter l g a5 a6 _ u5_1 u5_2 u5_3 u5_4 u5_5 u5_6 u5_8 u5_9 u5_10 u5_11 u5_12 u5_13 u5_14 u5_15 u5_16 u5_17 u5_18 u5_19 u5_20 u5_21 u5_22 u5_23 u5_24 u5_25 u5_26 u5_27 u5_28 u5_29 u5_30 x5_thrown y6_s (xs (i + 1).toNatClampNeg) (xs (i + 2).toNatClampNeg) r576 x5_thrown_1 hc)) gL_law_X9_letter rfl hq_X9_letter ⟨by omega, by omega⟩ 9 0 rfl rfl rfl (rest := []) rfl rfl hl.1 (nle rfl) dL_law_576 ⟨by omega, by omega⟩ (fun w1 H locs hF1 hP hD hS => ?_)
    subst hF1
    have hP := lbk hP [0, 1, 2, 3, 4, 6, 7, 5] (X := (w_case_7 g a0 a1 a2 a3 a4 a5 a6 a7 u0_1 u0_2 u0_3 u0_4 u0_5 u0_6 u0_7 u0_8 u0_9 u1_0 u1_2 u1_3 u1_4 u2_1 u2_2 u2_3 u5_1 u5_2 u5_3 u5_4 u5_5 u5_6 u5_8 u5_9 u5_10 u5_11 u5_12 u5_13 u5_14 u5_15 u5_16 u5_17 u5_18 u5_19 u5_20 u5_21 u5_22 u5_23 u5_24 u5_25 u5_26 u5_27 u5_28 u5_29 u5_30 x2_count y3_length y4_letters x5_thrown_1 y6_s y7_p_1)) rfl
    have hD := lbkD hD [0, 1, 2, 3, 4, 6, 7, 5] (X := (w_case_7 g a0 a1 a2 a3 a4 a5 a6 a7 u0_1 u0_2 u0_3 u0_4 u0_5 u0_6 u0_7 u0_8 u0_9 u1_0 u1_2 u1_3 u1_4 u2_1 u2_2 u2_3 u5_1 u5_2 u5_3 u5_4 u5_5 u5_6 u5_8 u5_9 u5_10 u5_11 u5_12 u5_13 u5_14 u5_15 u5_16 u5_17 u5_18 u5_19 u5_20 u5_21 u5_22 u5_23 u5_24 u5_25 u5_26 u5_27 u5_28 u5_29 u5_30 x2_count y3_length y4_letters x5_thrown_1 y6_s y7_p_1)) rfl rfl
    refine W.widen (k := c1 + 14) (n := s1 + 846) (by omega) (by omega) ?_
    refine lv_istore (pc := 579) hexec hb dL_law_579 hl (nle rfl) rfl (fun ls (hl : lv_has ls 9 [(6, .int r576), (5, .int k558), (0, .ref sb), (1, .ref a0), (2, .ref a5), (3, .ref a7), (4, .int i)]) => ?_)
    refine lv_aload_n (pc := 581) hexec hb dL_law_581 rfl (lv_at hl 4 rfl) ?_
    obtain ⟨r582, hc, hf⟩ := bd1_e hf
    refine kVLt (pc := 582) (S := ⟨hexec, hb, hml, hown, hts⟩) hP hD hG hA hS [5] [0, 1, 2, 3, 4, 6, 7] rfl rfl rfl (me_of_mi (c_X9_thrown l g a5 _ (.ref a6) u5_1 u5_2 u5_3 u5_4 u5_5 u5_6 u5_8 u5_9 u5_10 u5_11 u5_12 u5_13 u5_14 u5_15 u5_16 u5_17 u5_18 u5_19 u5_20 u5_21 u5_22 u5_23 u5_24 u5_25 u5_26 u5_27 u5_28 u5_29 u5_30 x5_thrown_1 r582 hc)) gL_law_X9_thrown rfl hq_X9_thrown ⟨by omega, by omega⟩ 9 0 rfl rfl rfl (rest := []) rfl rfl hl.1 (nle rfl) dL_law_582 ⟨by omega, by omega⟩ (fun w1 H locs hF1 hP hD hS => ?_)
    subst hF1
    have hP := lbk hP [0, 1, 2, 3, 4, 7, 5, 6] (X := (w_case_7 g a0 a1 a2 a3 a4 a5 a6 a7 u0_1 u0_2 u0_3 u0_4 u0_5 u0_6 u0_7 u0_8 u0_9 u1_0 u1_2 u1_3 u1_4 u2_1 u2_2 u2_3 u5_1 u5_2 u5_3 u5_4 u5_5 u5_6 u5_8 u5_9 u5_10 u5_11 u5_12 u5_13 u5_14 u5_15 u5_16 u5_17 u5_18 u5_19 u5_20 u5_21 u5_22 u5_23 u5_24 u5_25 u5_26 u5_27 u5_28 u5_29 u5_30 x2_count y3_length y4_letters x5_thrown_1 y6_s y7_p_1)) rfl
    have hD := lbkD hD [0, 1, 2, 3, 4, 7, 5, 6] (X := (w_case_7 g a0 a1 a2 a3 a4 a5 a6 a7 u0_1 u0_2 u0_3 u0_4 u0_5 u0_6 u0_7 u0_8 u0_9 u1_0 u1_2 u1_3 u1_4 u2_1 u2_2 u2_3 u5_1 u5_2 u5_3 u5_4 u5_5 u5_6 u5_8 u5_9 u5_10 u5_11 u5_12 u5_13 u5_14 u5_15 u5_16 u5_17 u5_18 u5_19 u5_20 u5_21 u5_22 u5_23 u5_24 u5_25 u5_26 u5_27 u5_28 u5_29 u5_30 x2_count y3_length y4_letters x5_thrown_1 y6_s y7_p_1)) rfl rfl
    refine W.widen (k := c1 + 14) (n := s1 + 846) (by omega) (by omega) ?_
    refine lv_iload (pc := 585) hexec hb dL_law_585 (lv_at hl 1 rfl) ?_
    refine ki_eq (pc := 587) hexec hb dL_law_587 (tgt := 592) rfl hf (fun hc hf => ?_) (fun hc hf => ?_)
    · refine lv_iload (pc := 592) hexec hb dL_law_592 (lv_at hl 1 rfl) ?_
      obtain ⟨j609, ej609, hf⟩ := bvf1 hf
      have hj609 : ∀ (u : Unit) (H : Heap) (locs : List Loc) (ls : Array Slot), j609 u = some (o_x5_thrown, o_y7_p) → va_P g.1 vwCl (w_case_7 g a0 a1 a2 a3 a4 a5 a6 a7 u0_1 u0_2 u0_3 u0_4 u0_5 u0_6 u0_7 u0_8 u0_9 u1_0 u1_2 u1_3 u1_4 u2_1 u2_2 u2_3 u5_1 u5_2 u5_3 u5_4 u5_5 u5_6 u5_8 u5_9 u5_10 u5_11 u5_12 u5_13 u5_14 u5_15 u5_16 u5_17 u5_18 u5_19 u5_20 u5_21 u5_22 u5_23 u5_24 u5_25 u5_26 u5_27 u5_28 u5_29 u5_30 x2_count y3_length y4_letters x5_thrown_1 y6_s y7_p_1 ++ pl) H → va_D A (w_case_7 g a0 a1 a2 a3 a4 a5 a6 a7 u0_1 u0_2 u0_3 u0_4 u0_5 u0_6 u0_7 u0_8 u0_9 u1_0 u1_2 u1_3 u1_4 u2_1 u2_2 u2_3 u5_1 u5_2 u5_3 u5_4 u5_5 u5_6 u5_8 u5_9 u5_10 u5_11 u5_12 u5_13 u5_14 u5_15 u5_16 u5_17 u5_18 u5_19 u5_20 u5_21 u5_22 u5_23 u5_24 u5_25 u5_26 u5_27 u5_28 u5_29 u5_30 x2_count y3_length y4_letters x5_thrown_1 y6_s y7_p_1 ++ pl) → va_S A s.heap H locs → lv_has ls 9 [(0, .ref sb), (1, .ref a0), (2, .ref a5), (3, .ref a7), (4, .int i)] → W p l e R s m args below meth c H locs (c1 + 14) (s1 + 846) Q (F0 m 609 ls []) := by
        intro u H locs ls hf hP hD hS hl
        have hf := (ej609 u).symm.trans hf
        refine lv_goto (pc := 609) hexec hb dL_law_609 (tgt := 2565) rfl ?_
        cases hf
        exact W.widen (by omega) (by omega) (kk _ _ _ hP hD hS (lv_sub hl [0, 1, 2, 3, 4] rfl))
      refine kb_ne (pc := 594) hexec hb dL_law_594 (tgt := 609) rfl hf (fun hc hf => ?_) (fun hc hf => ?_)
      · exact hj609 _ _ _ _ hf hP hD hS (lv_sub hl [2, 3, 4, 5, 6] rfl)
      · refine lv_aload_n (pc := 597) hexec hb dL_law_597 rfl (lv_at hl 5 rfl) ?_
        refine lv_iconst (pc := 598) hexec hb dL_law_598 ki_0 ?_
        refine kr_lald (pc := 599) hexec hb hG hP 7 rfl hf dL_law_599 (fun hf => ?_)
        refine lv_iload (pc := 600) hexec hb dL_law_600 (lv_at hl 0 rfl) ?_
        refine lv_i2l (pc := 602) hexec hb dL_law_602 rfl ?_
        refine kc_lcmp (pc := 603) hexec hb dL_law_603 ?_
        refine kb_eq (pc := 604) hexec hb dL_law_604 (tgt := 609) rfl hf (fun hc hf => ?_) (fun hc hf => ?_)
        · exact hj609 _ _ _ _ hf hP hD hS (lv_sub hl [2, 3, 4, 5, 6] rfl)
        · cases hf
    · cases hf
  cases hT : t_X8_letter x2_count y3_length y4_letters (xs (i + 1).toNatClampNeg) (xs (i + 2).toNatClampNeg) with
  | some cls =>
    rw [hT] at hf
    rcases ite_or hf with ⟨hcl, hf⟩ | ⟨hcl, hf⟩
    · subst hcl
      refine kSLt (pc := 558) (S := ⟨hexec, hb, hml, hown, hts⟩) hP hD hG hA hS [0, 1, 2, 3, 4] [5, 6, 7] rfl rfl rfl (me_of_mh (hx_L_letter_o l hlt g a0 a1 a2 a3 a4 a7 _ u0_1 u0_2 u0_3 u0_4 u0_5 u0_6 u0_7 u0_8 u0_9 u1_0 u1_2 u1_3 u1_4 u2_1 u2_2 u2_3 x2_count y3_length y4_letters (xs (i + 1).toNatClampNeg) (xs (i + 2).toNatClampNeg) hT)) gL_law_L_letter rfl hq_L_letter ⟨by omega, by omega⟩ (rest := []) rfl rfl hl.1 (nle rfl) dL_law_558 ⟨by omega, by omega⟩ (fun w1 H locs hF1 hP hD hS => ?_)
      subst hF1
      have hP := lbk hP [3, 4, 5, 6, 7, 0, 1, 2] (X := (w_case_7 g a0 a1 a2 a3 a4 a5 a6 a7 u0_1 u0_2 u0_3 u0_4 u0_5 u0_6 u0_7 u0_8 u0_9 u1_0 u1_2 u1_3 u1_4 u2_1 u2_2 u2_3 u5_1 u5_2 u5_3 u5_4 u5_5 u5_6 u5_8 u5_9 u5_10 u5_11 u5_12 u5_13 u5_14 u5_15 u5_16 u5_17 u5_18 u5_19 u5_20 u5_21 u5_22 u5_23 u5_24 u5_25 u5_26 u5_27 u5_28 u5_29 u5_30 x2_count y3_length y4_letters x5_thrown y6_s y7_p)) rfl
      have hD := lbkD hD [3, 4, 5, 6, 7, 0, 1, 2] (X := (w_case_7 g a0 a1 a2 a3 a4 a5 a6 a7 u0_1 u0_2 u0_3 u0_4 u0_5 u0_6 u0_7 u0_8 u0_9 u1_0 u1_2 u1_3 u1_4 u2_1 u2_2 u2_3 u5_1 u5_2 u5_3 u5_4 u5_5 u5_6 u5_8 u5_9 u5_10 u5_11 u5_12 u5_13 u5_14 u5_15 u5_16 u5_17 u5_18 u5_19 u5_20 u5_21 u5_22 u5_23 u5_24 u5_25 u5_26 u5_27 u5_28 u5_29 u5_30 x2_count y3_length y4_letters x5_thrown y6_s y7_p)) rfl rfl
      exact W.widen (by omega) (by omega) (hjh558 _ _ _ _ _ hf hP hD hS (lv_sub hl [0, 1, 2, 3, 4] rfl))
    cases hf
  | none =>
    rw [hT] at hf
    obtain ⟨r558, hc, hf⟩ := bd1_e hf
    refine kSLt (pc := 558) (S := ⟨hexec, hb, hml, hown, hts⟩) hP hD hG hA hS [0, 1, 2, 3, 4, 7] [5, 6] rfl rfl rfl (me_of_mh (h_L_letter l g a0 a1 a2 a3 a4 a7 _ u0_1 u0_2 u0_3 u0_4 u0_5 u0_6 u0_7 u0_8 u0_9 u1_0 u1_2 u1_3 u1_4 u2_1 u2_2 u2_3 x2_count y3_length y4_letters y7_p (xs (i + 1).toNatClampNeg) (xs (i + 2).toNatClampNeg) r558 hc)) gL_law_L_letter rfl hq_L_letter ⟨by omega, by omega⟩ (rest := []) rfl rfl hl.1 (nle rfl) dL_law_558 ⟨by omega, by omega⟩ (fun w1 H locs hF1 hP hD hS => ?_)
    subst hF1
    have hP := lbk hP [2, 3, 4, 5, 6, 0, 1, 7] (X := (w_case_7 g a0 a1 a2 a3 a4 a5 a6 a7 u0_1 u0_2 u0_3 u0_4 u0_5 u0_6 u0_7 u0_8 u0_9 u1_0 u1_2 u1_3 u1_4 u2_1 u2_2 u2_3 u5_1 u5_2 u5_3 u5_4 u5_5 u5_6 u5_8 u5_9 u5_10 u5_11 u5_12 u5_13 u5_14 u5_15 u5_16 u5_17 u5_18 u5_19 u5_20 u5_21 u5_22 u5_23 u5_24 u5_25 u5_26 u5_27 u5_28 u5_29 u5_30 x2_count y3_length y4_letters x5_thrown y6_s (vp_updL y7_p (0 : Int32).toNatClampNeg r558.toInt64))) rfl
    have hD := lbkD hD [2, 3, 4, 5, 6, 0, 1, 7] (X := (w_case_7 g a0 a1 a2 a3 a4 a5 a6 a7 u0_1 u0_2 u0_3 u0_4 u0_5 u0_6 u0_7 u0_8 u0_9 u1_0 u1_2 u1_3 u1_4 u2_1 u2_2 u2_3 u5_1 u5_2 u5_3 u5_4 u5_5 u5_6 u5_8 u5_9 u5_10 u5_11 u5_12 u5_13 u5_14 u5_15 u5_16 u5_17 u5_18 u5_19 u5_20 u5_21 u5_22 u5_23 u5_24 u5_25 u5_26 u5_27 u5_28 u5_29 u5_30 x2_count y3_length y4_letters x5_thrown y6_s (vp_updL y7_p (0 : Int32).toNatClampNeg r558.toInt64))) rfl rfl
    exact W.widen (by omega) (by omega) (hjh558 _ _ _ _ _ hf hP hD hS (lv_sub hl [0, 1, 2, 3, 4] rfl))
end LAWC
