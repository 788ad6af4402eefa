section LAWC
variable {p : Program} {l : Launch} {e : Env} {R : Room} {s : State} {m : MethodId} {args : Array Value} {below : List Frame} {meth : Method} {c : Code} {H : Heap} {locs : List Loc} {c1 s1 : Nat} {Q : State → Prop} {ls : Array Slot} {A : Nat → Prop} {g : GE} {sb L : Nat} {xs : Nat → Int32} {i : Int32} {pl : va_W}
abbrev w_case_8 (g : GE) (a0 a1 a2 a3 a4 a5 a6 a7 : Nat) (u0_1 u0_2 u0_3 u0_4 u0_5 u0_6 u0_7 u0_8 u0_9 u1_1 u1_2 u1_3 u1_4 u2_0 u2_1 u2_3 u5_1 u5_2 u5_3 u5_4 u5_5 u5_6 u5_8 u5_9 u5_10 u5_11 u5_12 u5_13 u5_14 u5_15 u5_16 u5_17 u5_18 u5_19 u5_20 u5_21 u5_22 u5_23 u5_24 u5_25 u5_26 u5_27 u5_28 u5_29 u5_30 : Value) (x2_rivers : Int32) (y3_riverOf : Nat → Int32) (y4_riverPlace : Nat → Int32) (x5_thrown : Int32) (y6_s : Nat → Int32) (y7_p : Nat → Int64) : va_W := [(a0, .inr (8, [.ref a1, u0_1, u0_2, u0_3, u0_4, u0_5, u0_6, u0_7, u0_8, u0_9])), (a1, .inr (6, [.ref a2, u1_1, u1_2, u1_3, u1_4])), (a2, .inr (1, [u2_0, u2_1, .int x2_rivers, u2_3, .ref a3, .ref a4])), (a3, .inl (g.2.1 0, 144, .inl y3_riverOf)), (a4, .inl (g.2.1 0, 144, .inl y4_riverPlace)), (a5, .inr (9, [.ref a6, u5_1, u5_2, u5_3, u5_4, u5_5, u5_6, .int x5_thrown, u5_8, u5_9, u5_10, u5_11, u5_12, u5_13, u5_14, u5_15, u5_16, u5_17, u5_18, u5_19, u5_20, u5_21, u5_22, u5_23, u5_24, u5_25, u5_26, u5_27, u5_28, u5_29, u5_30])), (a6, .inl (g.2.1 0, 552, .inl y6_s)), (a7, .inl (g.2.1 3, 1, .inr (.inl y7_p)))]
set_option maxRecDepth 20000 in
theorem lc_8 (hlt : l.stackTraces = false) (hexec : p.tables.exec = Jvm.exec) (hb : c.code = cL_law) (hml : c.maxLocals = 9) (hown : s.vm.findClass RL = some m.cls) (hts : ∀ w ∈ wsL_law, w.before args s = true) (hG : GG g A s s.heap) (hA : ∀ q, s.heap.size ≤ q → A q) (hX : va_X sb L xs s s.heap) (hbl : sb < s.heap.size) (hbA : ¬ A sb) (hRf : 2000 ≤ R.frames) (hRl : 80000 ≤ R.locals) (hRc : c1 + 14 ≤ R.cells) (hRs : s1 + 846 ≤ R.slots) (a0 a1 a2 a3 a4 a5 a6 a7 : Nat) (u0_1 u0_2 u0_3 u0_4 u0_5 u0_6 u0_7 u0_8 u0_9 u1_1 u1_2 u1_3 u1_4 u2_0 u2_1 u2_3 u5_1 u5_2 u5_3 u5_4 u5_5 u5_6 u5_8 u5_9 u5_10 u5_11 u5_12 u5_13 u5_14 u5_15 u5_16 u5_17 u5_18 u5_19 u5_20 u5_21 u5_22 u5_23 u5_24 u5_25 u5_26 u5_27 u5_28 u5_29 u5_30 : Value) (x2_rivers : Int32) (y3_riverOf : Nat → Int32) (y4_riverPlace : Nat → Int32) (x5_thrown : Int32) (y6_s : Nat → Int32) (y7_p : Nat → Int64) (o_x5_thrown : Int32) (o_y7_p : Nat → Int64) (hf : f_case_8 L xs i x2_rivers y3_riverOf y4_riverPlace x5_thrown y6_s y7_p = some (o_x5_thrown, o_y7_p)) (hP : va_P g.1 vwCl (w_case_8 g a0 a1 a2 a3 a4 a5 a6 a7 u0_1 u0_2 u0_3 u0_4 u0_5 u0_6 u0_7 u0_8 u0_9 u1_1 u1_2 u1_3 u1_4 u2_0 u2_1 u2_3 u5_1 u5_2 u5_3 u5_4 u5_5 u5_6 u5_8 u5_9 u5_10 u5_11 u5_12 u5_13 u5_14 u5_15 u5_16 u5_17 u5_18 u5_19 u5_20 u5_21 u5_22 u5_23 u5_24 u5_25 u5_26 u5_27 u5_28 u5_29 u5_30 x2_rivers y3_riverOf y4_riverPlace x5_thrown y6_s y7_p ++ pl) H) (hD : va_D A (w_case_8 g a0 a1 a2 a3 a4 a5 a6 a7 u0_1 u0_2 u0_3 u0_4 u0_5 u0_6 u0_7 u0_8 u0_9 u1_1 u1_2 u1_3 u1_4 u2_0 u2_1 u2_3 u5_1 u5_2 u5_3 u5_4 u5_5 u5_6 u5_8 u5_9 u5_10 u5_11 u5_12 u5_13 u5_14 u5_15 u5_16 u5_17 u5_18 u5_19 u5_20 u5_21 u5_22 u5_23 u5_24 u5_25 u5_26 u5_27 u5_28 u5_29 u5_30 x2_rivers y3_riverOf y4_riverPlace x5_thrown y6_s y7_p ++ pl)) (hS : va_S A s.heap H locs) (hl : lv_has ls 9 [(0, .ref sb), (1, .ref a0), (2, .ref a5), (3, .ref a7), (4, .int i)]) (kk : ∀ (H : Heap) (locs : List Loc) (ls : Array Slot), va_P g.1 vwCl (w_case_8 g a0 a1 a2 a3 a4 a5 a6 a7 u0_1 u0_2 u0_3 u0_4 u0_5 u0_6 u0_7 u0_8 u0_9 u1_1 u1_2 u1_3 u1_4 u2_0 u2_1 u2_3 u5_1 u5_2 u5_3 u5_4 u5_5 u5_6 u5_8 u5_9 u5_10 u5_11 u5_12 u5_13 u5_14 u5_15 u5_16 u5_17 u5_18 u5_19 u5_20 u5_21 u5_22 u5_23 u5_24 u5_25 u5_26 u5_27 u5_28 u5_29 u5_30 x2_rivers y3_riverOf y4_riverPlace o_x5_thrown y6_s o_y7_p ++ pl) H → va_D A (w_case_8 g a0 a1 a2 a3 a4 a5 a6 a7 u0_1 u0_2 u0_3 u0_4 u0_5 u0_6 u0_7 u0_8 u0_9 u1_1 u1_2 u1_3 u1_4 u2_0 u2_1 u2_3 u5_1 u5_2 u5_3 u5_4 u5_5 u5_6 u5_8 u5_9 u5_10 u5_11 u5_12 u5_13 u5_14 u5_15 u5_16 u5_17 u5_18 u5_19 u5_20 u5_21 u5_22 u5_23 u5_24 u5_25 u5_26 u5_27 u5_28 u5_29 u5_30 x2_rivers y3_riverOf y4_riverPlace o_x5_thrown y6_s o_y7_p ++ pl) → va_S A s.heap H locs → lv_has ls 9 [(0, .ref sb), (1, .ref a0), (2, .ref a5), (3, .ref a7), (4, .int i)] → W p l e R s m args below meth c H locs (c1 + 14) (s1 + 846) Q (F0 m 2565 ls [])) : W p l e R s m args below meth c H locs c1 s1 Q (F0 m 612 ls []) := by
  unfold f_case_8 at hf
  refine lv_aload_n (pc := 612) hexec hb dL_law_612 rfl (lv_at hl 1 rfl) ?_
  refine lv_aload_n (pc := 613) hexec hb dL_law_613 rfl (lv_at hl 0 rfl) ?_
  refine lv_iload (pc := 614) hexec hb dL_law_614 (lv_at hl 4 rfl) ?_
  refine lv_iconst (pc := 616) hexec hb dL_law_616 ki_1 ?_
  refine lv_iadd (pc := 617) hexec hb dL_law_617 ?_
  refine k_scr (pc := 618) hexec hb hX hbl hbA hS hf dL_law_618 (fun hf => ?_)
  refine lv_aload_n (pc := 619) hexec hb dL_law_619 rfl (lv_at hl 0 rfl) ?_
  refine lv_iload (pc := 620) hexec hb dL_law_620 (lv_at hl 4 rfl) ?_
  refine lv_iconst (pc := 622) hexec hb dL_law_622 ki_2 ?_
  refine lv_iadd (pc := 623) hexec hb dL_law_623 ?_
  refine k_scr (pc := 624) hexec hb hX hbl hbA hS hf dL_law_624 (fun hf => ?_)
  refine lv_aload_n (pc := 625) hexec hb dL_law_625 rfl (lv_at hl 3 rfl) ?_
  obtain ⟨jh626, ejh626, hf⟩ := bvf2 hf
  have hjh626 : ∀ (k626 : Int32) (y7_p_1 : Nat → Int64) (H : Heap) (locs : List Loc) (ls : Array Slot), jh626 k626 y7_p_1 = some (o_x5_thrown, o_y7_p) → va_P g.1 vwCl (w_case_8 g a0 a1 a2 a3 a4 a5 a6 a7 u0_1 u0_2 u0_3 u0_4 u0_5 u0_6 u0_7 u0_8 u0_9 u1_1 u1_2 u1_3 u1_4 u2_0 u2_1 u2_3 u5_1 u5_2 u5_3 u5_4 u5_5 u5_6 u5_8 u5_9 u5_10 u5_11 u5_12 u5_13 u5_14 u5_15 u5_16 u5_17 u5_18 u5_19 u5_20 u5_21 u5_22 u5_23 u5_24 u5_25 u5_26 u5_27 u5_28 u5_29 u5_30 x2_rivers y3_riverOf y4_riverPlace x5_thrown y6_s y7_p_1 ++ pl) H → va_D A (w_case_8 g a0 a1 a2 a3 a4 a5 a6 a7 u0_1 u0_2 u0_3 u0_4 u0_5 u0_6 u0_7 u0_8 u0_9 u1_1 u1_2 u1_3 u1_4 u2_0 u2_1 u2_3 u5_1 u5_2 u5_3 u5_4 u5_5 u5_6 u5_8 u5_9 u5_10 u5_11 u5_12 u5_13 u5_14 u5_15 u5_16 u5_17 u5_18 u5_19 u5_20 u5_21 u5_22 u5_23 u5_24 u5_25 u5_26 u5_27 u5_28 u5_29 u5_30 x2_rivers y3_riverOf y4_riverPlace x5_thrown y6_s y7_p_1 ++ pl) → va_S A s.heap H locs → lv_has ls 9 [(0, .ref sb), (1, .ref a0), (2, .ref a5), (3, .ref a7), (4, .int i)] → W p l e R s m args below meth c H locs (c1 + 14) (s1 + 846) Q (F0 m 629 ls [.int k626]) := by
    intro k626 y7_p_1 H locs ls hf hP hD hS hl
    have hf := (ejh626 k626 y7_p_1).symm.trans hf
    refine lv_istore (pc := 629) hexec hb dL_law_629 hl (nle rfl) rfl (fun ls (hl : lv_has ls 9 [(5, .int k626), (0, .ref sb), (1, .ref a0), (2, .ref a5), (3, .ref a7), (4, .int i)]) => ?_)
    refine lv_aload_n (pc := 631) hexec hb dL_law_631 rfl (lv_at hl 3 rfl) ?_
    refine lv_aload_n (pc := 632) hexec hb dL_law_632 rfl (lv_at hl 1 rfl) ?_
    refine lv_iload (pc := 633) hexec hb dL_law_633 (lv_at hl 5 rfl) ?_
    refine lv_iconst (pc := 635) hexec hb dL_law_635 ki_1 ?_
    refine lv_iadd (pc := 636) hexec hb dL_law_636 ?_
    refine k_scr (pc := 637) hexec hb hX hbl hbA hS hf dL_law_637 (fun hf => ?_)
    refine lv_aload_n (pc := 638) hexec hb dL_law_638 rfl (lv_at hl 1 rfl) ?_
    refine lv_iload (pc := 639) hexec hb dL_law_639 (lv_at hl 5 rfl) ?_
    refine lv_iconst (pc := 641) hexec hb dL_law_641 ki_2 ?_
    refine lv_iadd (pc := 642) hexec hb dL_law_642 ?_
    refine k_scr (pc := 643) hexec hb hX hbl hbA hS hf dL_law_643 (fun hf => ?_)
    obtain ⟨r644, x5_thrown_1, hc, hf⟩ := bd2_e hf
    refine kVLt (pc := 644) (S := ⟨hexec, hb, hml, hown, hts⟩) hP hD hG hA hS [5, 6] [0, 1, 2, 3, 4, 7] rfl rfl rfl (me_of_mi (c_X9_river l g a5 a6 _ u5_1 u5_2 u5_3 u5_4 u5_5 u5_6 u5_8 u5_9 u5_10 u5_11 u5_12 u5_13 u5_14 u5_15 u5_16 u5_17 u5_18 u5_19 u5_20 u5_21 u5_22 u5_23 u5_24 u5_25 u5_26 u5_27 u5_28 u5_29 u5_30 x5_thrown y6_s (xs (i + 1).toNatClampNeg) (xs (i + 2).toNatClampNeg) r644 x5_thrown_1 hc)) gL_law_X9_river rfl hq_X9_river ⟨by omega, by omega⟩ 9 0 rfl rfl rfl (rest := []) rfl rfl hl.1 (nle rfl) dL_law_644 ⟨by omega, by omega⟩ (fun w1 H locs hF1 hP hD hS => ?_)
    subst hF1
    have hP := lbk hP [0, 1, 2, 3, 4, 6, 7, 5] (X := (w_case_8 g a0 a1 a2 a3 a4 a5 a6 a7 u0_1 u0_2 u0_3 u0_4 u0_5 u0_6 u0_7 u0_8 u0_9 u1_1 u1_2 u1_3 u1_4 u2_0 u2_1 u2_3 u5_1 u5_2 u5_3 u5_4 u5_5 u5_6 u5_8 u5_9 u5_10 u5_11 u5_12 u5_13 u5_14 u5_15 u5_16 u5_17 u5_18 u5_19 u5_20 u5_21 u5_22 u5_23 u5_24 u5_25 u5_26 u5_27 u5_28 u5_29 u5_30 x2_rivers y3_riverOf y4_riverPlace x5_thrown_1 y6_s y7_p_1)) rfl
    have hD := lbkD hD [0, 1, 2, 3, 4, 6, 7, 5] (X := (w_case_8 g a0 a1 a2 a3 a4 a5 a6 a7 u0_1 u0_2 u0_3 u0_4 u0_5 u0_6 u0_7 u0_8 u0_9 u1_1 u1_2 u1_3 u1_4 u2_0 u2_1 u2_3 u5_1 u5_2 u5_3 u5_4 u5_5 u5_6 u5_8 u5_9 u5_10 u5_11 u5_12 u5_13 u5_14 u5_15 u5_16 u5_17 u5_18 u5_19 u5_20 u5_21 u5_22 u5_23 u5_24 u5_25 u5_26 u5_27 u5_28 u5_29 u5_30 x2_rivers y3_riverOf y4_riverPlace x5_thrown_1 y6_s y7_p_1)) rfl rfl
    refine W.widen (k := c1 + 14) (n := s1 + 846) (by omega) (by omega) ?_
    refine lv_istore (pc := 647) hexec hb dL_law_647 hl (nle rfl) rfl (fun ls (hl : lv_has ls 9 [(6, .int r644), (5, .int k626), (0, .ref sb), (1, .ref a0), (2, .ref a5), (3, .ref a7), (4, .int i)]) => ?_)
    refine lv_aload_n (pc := 649) hexec hb dL_law_649 rfl (lv_at hl 4 rfl) ?_
    obtain ⟨r650, hc, hf⟩ := bd1_e hf
    refine kVLt (pc := 650) (S := ⟨hexec, hb, hml, hown, hts⟩) hP hD hG hA hS [5] [0, 1, 2, 3, 4, 6, 7] rfl rfl rfl (me_of_mi (c_X9_thrown l g a5 _ (.ref a6) u5_1 u5_2 u5_3 u5_4 u5_5 u5_6 u5_8 u5_9 u5_10 u5_11 u5_12 u5_13 u5_14 u5_15 u5_16 u5_17 u5_18 u5_19 u5_20 u5_21 u5_22 u5_23 u5_24 u5_25 u5_26 u5_27 u5_28 u5_29 u5_30 x5_thrown_1 r650 hc)) gL_law_X9_thrown rfl hq_X9_thrown ⟨by omega, by omega⟩ 9 0 rfl rfl rfl (rest := []) rfl rfl hl.1 (nle rfl) dL_law_650 ⟨by omega, by omega⟩ (fun w1 H locs hF1 hP hD hS => ?_)
    subst hF1
    have hP := lbk hP [0, 1, 2, 3, 4, 7, 5, 6] (X := (w_case_8 g a0 a1 a2 a3 a4 a5 a6 a7 u0_1 u0_2 u0_3 u0_4 u0_5 u0_6 u0_7 u0_8 u0_9 u1_1 u1_2 u1_3 u1_4 u2_0 u2_1 u2_3 u5_1 u5_2 u5_3 u5_4 u5_5 u5_6 u5_8 u5_9 u5_10 u5_11 u5_12 u5_13 u5_14 u5_15 u5_16 u5_17 u5_18 u5_19 u5_20 u5_21 u5_22 u5_23 u5_24 u5_25 u5_26 u5_27 u5_28 u5_29 u5_30 x2_rivers y3_riverOf y4_riverPlace x5_thrown_1 y6_s y7_p_1)) rfl
    have hD := lbkD hD [0, 1, 2, 3, 4, 7, 5, 6] (X := (w_case_8 g a0 a1 a2 a3 a4 a5 a6 a7 u0_1 u0_2 u0_3 u0_4 u0_5 u0_6 u0_7 u0_8 u0_9 u1_1 u1_2 u1_3 u1_4 u2_0 u2_1 u2_3 u5_1 u5_2 u5_3 u5_4 u5_5 u5_6 u5_8 u5_9 u5_10 u5_11 u5_12 u5_13 u5_14 u5_15 u5_16 u5_17 u5_18 u5_19 u5_20 u5_21 u5_22 u5_23 u5_24 u5_25 u5_26 u5_27 u5_28 u5_29 u5_30 x2_rivers y3_riverOf y4_riverPlace x5_thrown_1 y6_s y7_p_1)) rfl rfl
    refine W.widen (k := c1 + 14) (n := s1 + 846) (by omega) (by omega) ?_
    refine lv_iload (pc := 653) hexec hb dL_law_653 (lv_at hl 1 rfl) ?_
    refine ki_eq (pc := 655) hexec hb dL_law_655 (tgt := 660) rfl hf (fun hc hf => ?_) (fun hc hf => ?_)
    · refine lv_iload (pc := 660) hexec hb dL_law_660 (lv_at hl 1 rfl) ?_
      obtain ⟨j677, ej677, hf⟩ := bvf1 hf
      have hj677 : ∀ (u : Unit) (H : Heap) (locs : List Loc) (ls : Array Slot), j677 u = some (o_x5_thrown, o_y7_p) → va_P g.1 vwCl (w_case_8 g a0 a1 a2 a3 a4 a5 a6 a7 u0_1 u0_2 u0_3 u0_4 u0_5 u0_6 u0_7 u0_8 u0_9 u1_1 u1_2 u1_3 u1_4 u2_0 u2_1 u2_3 u5_1 u5_2 u5_3 u5_4 u5_5 u5_6 u5_8 u5_9 u5_10 u5_11 u5_12 u5_13 u5_14 u5_15 u5_16 u5_17 u5_18 u5_19 u5_20 u5_21 u5_22 u5_23 u5_24 u5_25 u5_26 u5_27 u5_28 u5_29 u5_30 x2_rivers y3_riverOf y4_riverPlace x5_thrown_1 y6_s y7_p_1 ++ pl) H → va_D A (w_case_8 g a0 a1 a2 a3 a4 a5 a6 a7 u0_1 u0_2 u0_3 u0_4 u0_5 u0_6 u0_7 u0_8 u0_9 u1_1 u1_2 u1_3 u1_4 u2_0 u2_1 u2_3 u5_1 u5_2 u5_3 u5_4 u5_5 u5_6 u5_8 u5_9 u5_10 u5_11 u5_12 u5_13 u5_14 u5_15 u5_16 u5_17 u5_18 u5_19 u5_20 u5_21 u5_22 u5_23 u5_24 u5_25 u5_26 u5_27 u5_28 u5_29 u5_30 x2_rivers y3_riverOf y4_riverPlace x5_thrown_1 y6_s y7_p_1 ++ pl) → va_S A s.heap H locs → lv_has ls 9 [(0, .ref sb), (1, .ref a0), (2, .ref a5), (3, .ref a7), (4, .int i)] → W p l e R s m args below meth c H locs (c1 + 14) (s1 + 846) Q (F0 m 677 ls []) := by
        intro u H locs ls hf hP hD hS hl
        have hf := (ej677 u).symm.trans hf
        refine lv_goto (pc := 677) hexec hb dL_law_677 (tgt := 2565) rfl ?_
        cases hf
        exact W.widen (by omega) (by omega) (kk _ _ _ hP hD hS (lv_sub hl [0, 1, 2, 3, 4] rfl))
      refine kb_ne (pc := 662) hexec hb dL_law_662 (tgt := 677) rfl hf (fun hc hf => ?_) (fun hc hf => ?_)
      · exact hj677 _ _ _ _ hf hP hD hS (lv_sub hl [2, 3, 4, 5, 6] rfl)
      · refine lv_aload_n (pc := 665) hexec hb dL_law_665 rfl (lv_at hl 5 rfl) ?_
        refine lv_iconst (pc := 666) hexec hb dL_law_666 ki_0 ?_
        refine kr_lald (pc := 667) hexec hb hG hP 7 rfl hf dL_law_667 (fun hf => ?_)
        refine lv_iload (pc := 668) hexec hb dL_law_668 (lv_at hl 0 rfl) ?_
        refine lv_i2l (pc := 670) hexec hb dL_law_670 rfl ?_
        refine kc_lcmp (pc := 671) hexec hb dL_law_671 ?_
        refine kb_eq (pc := 672) hexec hb dL_law_672 (tgt := 677) rfl hf (fun hc hf => ?_) (fun hc hf => ?_)
        · exact hj677 _ _ _ _ hf hP hD hS (lv_sub hl [2, 3, 4, 5, 6] rfl)
        · cases hf
    · cases hf
  cases hT : t_X8_river x2_rivers y3_riverOf y4_riverPlace (xs (i + 1).toNatClampNeg) (xs (i + 2).toNatClampNeg) with
  | some cls =>
    rw [hT] at hf
    rcases ite_or hf with ⟨hcl, hf⟩ | ⟨hcl, hf⟩
    · subst hcl
      refine kSLt (pc := 626) (S := ⟨hexec, hb, hml, hown, hts⟩) hP hD hG hA hS [0, 1, 2, 3, 4] [5, 6, 7] rfl rfl rfl (me_of_mh (hx_L_river_o l hlt g a0 a1 a2 a3 a4 a7 _ u0_1 u0_2 u0_3 u0_4 u0_5 u0_6 u0_7 u0_8 u0_9 u1_1 u1_2 u1_3 u1_4 u2_0 u2_1 u2_3 x2_rivers y3_riverOf y4_riverPlace (xs (i + 1).toNatClampNeg) (xs (i + 2).toNatClampNeg) hT)) gL_law_L_river rfl hq_L_river ⟨by omega, by omega⟩ (rest := []) rfl rfl hl.1 (nle rfl) dL_law_626 ⟨by omega, by omega⟩ (fun w1 H locs hF1 hP hD hS => ?_)
      subst hF1
      have hP := lbk hP [3, 4, 5, 6, 7, 0, 1, 2] (X := (w_case_8 g a0 a1 a2 a3 a4 a5 a6 a7 u0_1 u0_2 u0_3 u0_4 u0_5 u0_6 u0_7 u0_8 u0_9 u1_1 u1_2 u1_3 u1_4 u2_0 u2_1 u2_3 u5_1 u5_2 u5_3 u5_4 u5_5 u5_6 u5_8 u5_9 u5_10 u5_11 u5_12 u5_13 u5_14 u5_15 u5_16 u5_17 u5_18 u5_19 u5_20 u5_21 u5_22 u5_23 u5_24 u5_25 u5_26 u5_27 u5_28 u5_29 u5_30 x2_rivers y3_riverOf y4_riverPlace x5_thrown y6_s y7_p)) rfl
      have hD := lbkD hD [3, 4, 5, 6, 7, 0, 1, 2] (X := (w_case_8 g a0 a1 a2 a3 a4 a5 a6 a7 u0_1 u0_2 u0_3 u0_4 u0_5 u0_6 u0_7 u0_8 u0_9 u1_1 u1_2 u1_3 u1_4 u2_0 u2_1 u2_3 u5_1 u5_2 u5_3 u5_4 u5_5 u5_6 u5_8 u5_9 u5_10 u5_11 u5_12 u5_13 u5_14 u5_15 u5_16 u5_17 u5_18 u5_19 u5_20 u5_21 u5_22 u5_23 u5_24 u5_25 u5_26 u5_27 u5_28 u5_29 u5_30 x2_rivers y3_riverOf y4_riverPlace x5_thrown y6_s y7_p)) rfl rfl
      exact W.widen (by omega) (by omega) (hjh626 _ _ _ _ _ hf hP hD hS (lv_sub hl [0, 1, 2, 3, 4] rfl))
    cases hf
  | none =>
    rw [hT] at hf
    obtain ⟨r626, hc, hf⟩ := bd1_e hf
    refine kSLt (pc := 626) (S := ⟨hexec, hb, hml, hown, hts⟩) hP hD hG hA hS [0, 1, 2, 3, 4, 7] [5, 6] rfl rfl rfl (me_of_mh (h_L_river l g a0 a1 a2 a3 a4 a7 _ u0_1 u0_2 u0_3 u0_4 u0_5 u0_6 u0_7 u0_8 u0_9 u1_1 u1_2 u1_3 u1_4 u2_0 u2_1 u2_3 x2_rivers y3_riverOf y4_riverPlace y7_p (xs (i + 1).toNatClampNeg) (xs (i + 2).toNatClampNeg) r626 hc)) gL_law_L_river rfl hq_L_river ⟨by omega, by omega⟩ (rest := []) rfl rfl hl.1 (nle rfl) dL_law_626 ⟨by omega, by omega⟩ (fun w1 H locs hF1 hP hD hS => ?_)
    subst hF1
    have hP := lbk hP [2, 3, 4, 5, 6, 0, 1, 7] (X := (w_case_8 g a0 a1 a2 a3 a4 a5 a6 a7 u0_1 u0_2 u0_3 u0_4 u0_5 u0_6 u0_7 u0_8 u0_9 u1_1 u1_2 u1_3 u1_4 u2_0 u2_1 u2_3 u5_1 u5_2 u5_3 u5_4 u5_5 u5_6 u5_8 u5_9 u5_10 u5_11 u5_12 u5_13 u5_14 u5_15 u5_16 u5_17 u5_18 u5_19 u5_20 u5_21 u5_22 u5_23 u5_24 u5_25 u5_26 u5_27 u5_28 u5_29 u5_30 x2_rivers y3_riverOf y4_riverPlace x5_thrown y6_s (vp_updL y7_p (0 : Int32).toNatClampNeg r626.toInt64))) rfl
    have hD := lbkD hD [2, 3, 4, 5, 6, 0, 1, 7] (X := (w_case_8 g a0 a1 a2 a3 a4 a5 a6 a7 u0_1 u0_2 u0_3 u0_4 u0_5 u0_6 u0_7 u0_8 u0_9 u1_1 u1_2 u1_3 u1_4 u2_0 u2_1 u2_3 u5_1 u5_2 u5_3 u5_4 u5_5 u5_6 u5_8 u5_9 u5_10 u5_11 u5_12 u5_13 u5_14 u5_15 u5_16 u5_17 u5_18 u5_19 u5_20 u5_21 u5_22 u5_23 u5_24 u5_25 u5_26 u5_27 u5_28 u5_29 u5_30 x2_rivers y3_riverOf y4_riverPlace x5_thrown y6_s (vp_updL y7_p (0 : Int32).toNatClampNeg r626.toInt64))) rfl rfl
    exact W.widen (by omega) (by omega) (hjh626 _ _ _ _ _ hf hP hD hS (lv_sub hl [0, 1, 2, 3, 4] rfl))
end LAWC
