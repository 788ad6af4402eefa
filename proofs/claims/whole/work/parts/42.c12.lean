section LAWC
variable {p : Program} {l : Launch} {e : Env} {R : Room} {s : State} {m : MethodId} {args : Array Value} {below : List Frame} {meth : Method} {c : Code} {H : Heap} {locs : List Loc} {c1 s1 : Nat} {Q : State → Prop} {ls : Array Slot} {A : Nat → Prop} {g : GE} {sb L : Nat} {xs : Nat → Int32} {i : Int32} {pl : va_W}
abbrev w_case_12 (g : GE) (a0 a1 a2 a3 a4 a5 a6 a7 a8 a9 : Nat) (u0_1 u0_2 u0_3 u0_4 u0_5 u0_6 u0_7 u0_8 u0_9 u1_2 u1_3 u1_4 u2_2 u2_5 u3_1 u3_3 u3_4 u3_5 u7_1 u7_2 u7_3 u7_4 u7_5 u7_6 u7_8 u7_9 u7_10 u7_11 u7_12 u7_13 u7_14 u7_15 u7_16 u7_17 u7_18 u7_19 u7_20 u7_21 u7_22 u7_23 u7_24 u7_25 u7_26 u7_27 u7_28 u7_29 u7_30 : Value) (x2_rows : Int32) (x2_columns : Int32) (x3_count : Int32) (y4_land : Nat → Int32) (y5_riverOf : Nat → Int32) (y6_home : Nat → Int32) (x7_thrown : Int32) (y8_s : Nat → Int32) (y9_p : Nat → Int64) : va_W := [(a0, .inr (8, [.ref a1, u0_1, u0_2, u0_3, u0_4, u0_5, u0_6, u0_7, u0_8, u0_9])), (a1, .inr (6, [.ref a2, .ref a3, u1_2, u1_3, u1_4])), (a2, .inr (1, [.int x2_rows, .int x2_columns, u2_2, .ref a4, .ref a5, u2_5])), (a3, .inr (2, [.int x3_count, u3_1, .ref a6, u3_3, u3_4, u3_5])), (a4, .inl (g.2.1 1, 144, .inl y4_land)), (a5, .inl (g.2.1 0, 144, .inl y5_riverOf)), (a6, .inl (g.2.1 0, 8, .inl y6_home)), (a7, .inr (9, [.ref a8, u7_1, u7_2, u7_3, u7_4, u7_5, u7_6, .int x7_thrown, u7_8, u7_9, u7_10, u7_11, u7_12, u7_13, u7_14, u7_15, u7_16, u7_17, u7_18, u7_19, u7_20, u7_21, u7_22, u7_23, u7_24, u7_25, u7_26, u7_27, u7_28, u7_29, u7_30])), (a8, .inl (g.2.1 0, 552, .inl y8_s)), (a9, .inl (g.2.1 3, 1, .inr (.inl y9_p)))]
set_option maxRecDepth 20000 in
theorem lc_12 (hlt : l.stackTraces = false) (hexec : p.tables.exec = Jvm.exec) (hb : c.code = cL_law) (hml : c.maxLocals = 9) (hown : s.vm.findClass RL = some m.cls) (hts : ∀ w ∈ wsL_law, w.before args s = true) (hG : GG g A s s.heap) (hA : ∀ q, s.heap.size ≤ q → A q) (hX : va_X sb L xs s s.heap) (hbl : sb < s.heap.size) (hbA : ¬ A sb) (hRf : 2000 ≤ R.frames) (hRl : 80000 ≤ R.locals) (hRc : c1 + 14 ≤ R.cells) (hRs : s1 + 846 ≤ R.slots) (a0 a1 a2 a3 a4 a5 a6 a7 a8 a9 : Nat) (u0_1 u0_2 u0_3 u0_4 u0_5 u0_6 u0_7 u0_8 u0_9 u1_2 u1_3 u1_4 u2_2 u2_5 u3_1 u3_3 u3_4 u3_5 u7_1 u7_2 u7_3 u7_4 u7_5 u7_6 u7_8 u7_9 u7_10 u7_11 u7_12 u7_13 u7_14 u7_15 u7_16 u7_17 u7_18 u7_19 u7_20 u7_21 u7_22 u7_23 u7_24 u7_25 u7_26 u7_27 u7_28 u7_29 u7_30 : Value) (x2_rows : Int32) (x2_columns : Int32) (x3_count : Int32) (y4_land : Nat → Int32) (y5_riverOf : Nat → Int32) (y6_home : Nat → Int32) (x7_thrown : Int32) (y8_s : Nat → Int32) (y9_p : Nat → Int64) (o_x7_thrown : Int32) (o_y9_p : Nat → Int64) (hf : f_case_12 L xs i x2_rows x2_columns x3_count y4_land y5_riverOf y6_home x7_thrown y8_s y9_p = some (o_x7_thrown, o_y9_p)) (hP : va_P g.1 vwCl (w_case_12 g a0 a1 a2 a3 a4 a5 a6 a7 a8 a9 u0_1 u0_2 u0_3 u0_4 u0_5 u0_6 u0_7 u0_8 u0_9 u1_2 u1_3 u1_4 u2_2 u2_5 u3_1 u3_3 u3_4 u3_5 u7_1 u7_2 u7_3 u7_4 u7_5 u7_6 u7_8 u7_9 u7_10 u7_11 u7_12 u7_13 u7_14 u7_15 u7_16 u7_17 u7_18 u7_19 u7_20 u7_21 u7_22 u7_23 u7_24 u7_25 u7_26 u7_27 u7_28 u7_29 u7_30 x2_rows x2_columns x3_count y4_land y5_riverOf y6_home x7_thrown y8_s y9_p ++ pl) H) (hD : va_D A (w_case_12 g a0 a1 a2 a3 a4 a5 a6 a7 a8 a9 u0_1 u0_2 u0_3 u0_4 u0_5 u0_6 u0_7 u0_8 u0_9 u1_2 u1_3 u1_4 u2_2 u2_5 u3_1 u3_3 u3_4 u3_5 u7_1 u7_2 u7_3 u7_4 u7_5 u7_6 u7_8 u7_9 u7_10 u7_11 u7_12 u7_13 u7_14 u7_15 u7_16 u7_17 u7_18 u7_19 u7_20 u7_21 u7_22 u7_23 u7_24 u7_25 u7_26 u7_27 u7_28 u7_29 u7_30 x2_rows x2_columns x3_count y4_land y5_riverOf y6_home x7_thrown y8_s y9_p ++ pl)) (hS : va_S A s.heap H locs) (hl : lv_has ls 9 [(0, .ref sb), (1, .ref a0), (2, .ref a7), (3, .ref a9), (4, .int i)]) (kk : ∀ (H : Heap) (locs : List Loc) (ls : Array Slot), va_P g.1 vwCl (w_case_12 g a0 a1 a2 a3 a4 a5 a6 a7 a8 a9 u0_1 u0_2 u0_3 u0_4 u0_5 u0_6 u0_7 u0_8 u0_9 u1_2 u1_3 u1_4 u2_2 u2_5 u3_1 u3_3 u3_4 u3_5 u7_1 u7_2 u7_3 u7_4 u7_5 u7_6 u7_8 u7_9 u7_10 u7_11 u7_12 u7_13 u7_14 u7_15 u7_16 u7_17 u7_18 u7_19 u7_20 u7_21 u7_22 u7_23 u7_24 u7_25 u7_26 u7_27 u7_28 u7_29 u7_30 x2_rows x2_columns x3_count y4_land y5_riverOf y6_home o_x7_thrown y8_s o_y9_p ++ pl) H → va_D A (w_case_12 g a0 a1 a2 a3 a4 a5 a6 a7 a8 a9 u0_1 u0_2 u0_3 u0_4 u0_5 u0_6 u0_7 u0_8 u0_9 u1_2 u1_3 u1_4 u2_2 u2_5 u3_1 u3_3 u3_4 u3_5 u7_1 u7_2 u7_3 u7_4 u7_5 u7_6 u7_8 u7_9 u7_10 u7_11 u7_12 u7_13 u7_14 u7_15 u7_16 u7_17 u7_18 u7_19 u7_20 u7_21 u7_22 u7_23 u7_24 u7_25 u7_26 u7_27 u7_28 u7_29 u7_30 x2_rows x2_columns x3_count y4_land y5_riverOf y6_home o_x7_thrown y8_s o_y9_p ++ pl) → va_S A s.heap H locs → lv_has ls 9 [(0, .ref sb), (1, .ref a0), (2, .ref a7), (3, .ref a9), (4, .int i)] → W p l e R s m args below meth c H locs (c1 + 14) (s1 + 846) Q (F0 m 2565 ls [])) : W p l e R s m args below meth c H locs c1 s1 Q (F0 m 829 ls []) := by
  unfold f_case_12 at hf
  refine lv_aload_n (pc := 829) hexec hb dL_law_829 rfl (lv_at hl 1 rfl) ?_
  refine lv_aload_n (pc := 830) hexec hb dL_law_830 rfl (lv_at hl 0 rfl) ?_
  refine lv_iload (pc := 831) hexec hb dL_law_831 (lv_at hl 4 rfl) ?_
  refine lv_iconst (pc := 833) hexec hb dL_law_833 ki_1 ?_
  refine lv_iadd (pc := 834) hexec hb dL_law_834 ?_
  refine k_scr (pc := 835) hexec hb hX hbl hbA hS hf dL_law_835 (fun hf => ?_)
  refine lv_aload_n (pc := 836) hexec hb dL_law_836 rfl (lv_at hl 0 rfl) ?_
  refine lv_iload (pc := 837) hexec hb dL_law_837 (lv_at hl 4 rfl) ?_
  refine lv_iconst (pc := 839) hexec hb dL_law_839 ki_2 ?_
  refine lv_iadd (pc := 840) hexec hb dL_law_840 ?_
  refine k_scr (pc := 841) hexec hb hX hbl hbA hS hf dL_law_841 (fun hf => ?_)
  refine lv_aload_n (pc := 842) hexec hb dL_law_842 rfl (lv_at hl 3 rfl) ?_
  obtain ⟨jh843, ejh843, hf⟩ := bvf2 hf
  have hjh843 : ∀ (k843 : Int32) (y9_p_1 : Nat → Int64) (H : Heap) (locs : List Loc) (ls : Array Slot), jh843 k843 y9_p_1 = some (o_x7_thrown, o_y9_p) → va_P g.1 vwCl (w_case_12 g a0 a1 a2 a3 a4 a5 a6 a7 a8 a9 u0_1 u0_2 u0_3 u0_4 u0_5 u0_6 u0_7 u0_8 u0_9 u1_2 u1_3 u1_4 u2_2 u2_5 u3_1 u3_3 u3_4 u3_5 u7_1 u7_2 u7_3 u7_4 u7_5 u7_6 u7_8 u7_9 u7_10 u7_11 u7_12 u7_13 u7_14 u7_15 u7_16 u7_17 u7_18 u7_19 u7_20 u7_21 u7_22 u7_23 u7_24 u7_25 u7_26 u7_27 u7_28 u7_29 u7_30 x2_rows x2_columns x3_count y4_land y5_riverOf y6_home x7_thrown y8_s y9_p_1 ++ pl) H → va_D A (w_case_12 g a0 a1 a2 a3 a4 a5 a6 a7 a8 a9 u0_1 u0_2 u0_3 u0_4 u0_5 u0_6 u0_7 u0_8 u0_9 u1_2 u1_3 u1_4 u2_2 u2_5 u3_1 u3_3 u3_4 u3_5 u7_1 u7_2 u7_3 u7_4 u7_5 u7_6 u7_8 u7_9 u7_10 u7_11 u7_12 u7_13 u7_14 u7_15 u7_16 u7_17 u7_18 u7_19 u7_20 u7_21 u7_22 u7_23 u7_24 u7_25 u7_26 u7_27 u7_28 u7_29 u7_30 x2_rows x2_columns x3_count y4_land y5_riverOf y6_home x7_thrown y8_s y9_p_1 ++ pl) → va_S A s.heap H locs → lv_has ls 9 [(0, .ref sb), (1, .ref a0), (2, .ref a7), (3, .ref a9), (4, .int i)] → W p l e R s m args below meth c H locs (c1 + 14) (s1 + 846) Q (F0 m 846 ls [.int k843]) := by
    intro k843 y9_p_1 H locs ls hf hP hD hS hl
    have hf := (ejh843 k843 y9_p_1).symm.trans hf
    refine lv_istore (pc := 846) hexec hb dL_law_846 hl (nle rfl) rfl (fun ls (hl : lv_has ls 9 [(5, .int k843), (0, .ref sb), (1, .ref a0), (2, .ref a7), (3, .ref a9), (4, .int i)]) => ?_)
    refine lv_aload_n (pc := 848) hexec hb dL_law_848 rfl (lv_at hl 3 rfl) ?_
    refine lv_aload_n (pc := 849) hexec hb dL_law_849 rfl (lv_at hl 1 rfl) ?_
    refine lv_iload (pc := 850) hexec hb dL_law_850 (lv_at hl 5 rfl) ?_
    refine lv_iconst (pc := 852) hexec hb dL_law_852 ki_1 ?_
    refine lv_iadd (pc := 853) hexec hb dL_law_853 ?_
    refine k_scr (pc := 854) hexec hb hX hbl hbA hS hf dL_law_854 (fun hf => ?_)
    refine lv_aload_n (pc := 855) hexec hb dL_law_855 rfl (lv_at hl 1 rfl) ?_
    refine lv_iload (pc := 856) hexec hb dL_law_856 (lv_at hl 5 rfl) ?_
    refine lv_iconst (pc := 858) hexec hb dL_law_858 ki_2 ?_
    refine lv_iadd (pc := 859) hexec hb dL_law_859 ?_
    refine k_scr (pc := 860) hexec hb hX hbl hbA hS hf dL_law_860 (fun hf => ?_)
    obtain ⟨r861, x7_thrown_1, hc, hf⟩ := bd2_e hf
    refine kVLt (pc := 861) (S := ⟨hexec, hb, hml, hown, hts⟩) hP hD hG hA hS [7, 8] [0, 1, 2, 3, 4, 5, 6, 9] rfl rfl rfl (me_of_mi (c_X9_room l g a7 a8 _ u7_1 u7_2 u7_3 u7_4 u7_5 u7_6 u7_8 u7_9 u7_10 u7_11 u7_12 u7_13 u7_14 u7_15 u7_16 u7_17 u7_18 u7_19 u7_20 u7_21 u7_22 u7_23 u7_24 u7_25 u7_26 u7_27 u7_28 u7_29 u7_30 x7_thrown y8_s (xs (i + 1).toNatClampNeg) (xs (i + 2).toNatClampNeg) r861 x7_thrown_1 hc)) gL_law_X9_room rfl hq_X9_room ⟨by omega, by omega⟩ 9 0 rfl rfl rfl (rest := []) rfl rfl hl.1 (nle rfl) dL_law_861 ⟨by omega, by omega⟩ (fun w1 H locs hF1 hP hD hS => ?_)
    subst hF1
    have hP := lbk hP [0, 1, 2, 3, 4, 5, 6, 8, 9, 7] (X := (w_case_12 g a0 a1 a2 a3 a4 a5 a6 a7 a8 a9 u0_1 u0_2 u0_3 u0_4 u0_5 u0_6 u0_7 u0_8 u0_9 u1_2 u1_3 u1_4 u2_2 u2_5 u3_1 u3_3 u3_4 u3_5 u7_1 u7_2 u7_3 u7_4 u7_5 u7_6 u7_8 u7_9 u7_10 u7_11 u7_12 u7_13 u7_14 u7_15 u7_16 u7_17 u7_18 u7_19 u7_20 u7_21 u7_22 u7_23 u7_24 u7_25 u7_26 u7_27 u7_28 u7_29 u7_30 x2_rows x2_columns x3_count y4_land y5_riverOf y6_home x7_thrown_1 y8_s y9_p_1)) rfl
    have hD := lbkD hD [0, 1, 2, 3, 4, 5, 6, 8, 9, 7] (X := (w_case_12 g a0 a1 a2 a3 a4 a5 a6 a7 a8 a9 u0_1 u0_2 u0_3 u0_4 u0_5 u0_6 u0_7 u0_8 u0_9 u1_2 u1_3 u1_4 u2_2 u2_5 u3_1 u3_3 u3_4 u3_5 u7_1 u7_2 u7_3 u7_4 u7_5 u7_6 u7_8 u7_9 u7_10 u7_11 u7_12 u7_13 u7_14 u7_15 u7_16 u7_17 u7_18 u7_19 u7_20 u7_21 u7_22 u7_23 u7_24 u7_25 u7_26 u7_27 u7_28 u7_29 u7_30 x2_rows x2_columns x3_count y4_land y5_riverOf y6_home x7_thrown_1 y8_s y9_p_1)) rfl rfl
    refine W.widen (k := c1 + 14) (n := s1 + 846) (by omega) (by omega) ?_
    refine lv_istore (pc := 864) hexec hb dL_law_864 hl (nle rfl) rfl (fun ls (hl : lv_has ls 9 [(6, .int r861), (5, .int k843), (0, .ref sb), (1, .ref a0), (2, .ref a7), (3, .ref a9), (4, .int i)]) => ?_)
    refine lv_aload_n (pc := 866) hexec hb dL_law_866 rfl (lv_at hl 4 rfl) ?_
    obtain ⟨r867, hc, hf⟩ := bd1_e hf
    refine kVLt (pc := 867) (S := ⟨hexec, hb, hml, hown, hts⟩) hP hD hG hA hS [7] [0, 1, 2, 3, 4, 5, 6, 8, 9] rfl rfl rfl (me_of_mi (c_X9_thrown l g a7 _ (.ref a8) u7_1 u7_2 u7_3 u7_4 u7_5 u7_6 u7_8 u7_9 u7_10 u7_11 u7_12 u7_13 u7_14 u7_15 u7_16 u7_17 u7_18 u7_19 u7_20 u7_21 u7_22 u7_23 u7_24 u7_25 u7_26 u7_27 u7_28 u7_29 u7_30 x7_thrown_1 r867 hc)) gL_law_X9_thrown rfl hq_X9_thrown ⟨by omega, by omega⟩ 9 0 rfl rfl rfl (rest := []) rfl rfl hl.1 (nle rfl) dL_law_867 ⟨by omega, by omega⟩ (fun w1 H locs hF1 hP hD hS => ?_)
    subst hF1
    have hP := lbk hP [0, 1, 2, 3, 4, 5, 6, 9, 7, 8] (X := (w_case_12 g a0 a1 a2 a3 a4 a5 a6 a7 a8 a9 u0_1 u0_2 u0_3 u0_4 u0_5 u0_6 u0_7 u0_8 u0_9 u1_2 u1_3 u1_4 u2_2 u2_5 u3_1 u3_3 u3_4 u3_5 u7_1 u7_2 u7_3 u7_4 u7_5 u7_6 u7_8 u7_9 u7_10 u7_11 u7_12 u7_13 u7_14 u7_15 u7_16 u7_17 u7_18 u7_19 u7_20 u7_21 u7_22 u7_23 u7_24 u7_25 u7_26 u7_27 u7_28 u7_29 u7_30 x2_rows x2_columns x3_count y4_land y5_riverOf y6_home x7_thrown_1 y8_s y9_p_1)) rfl
    have hD := lbkD hD [0, 1, 2, 3, 4, 5, 6, 9, 7, 8] (X := (w_case_12 g a0 a1 a2 a3 a4 a5 a6 a7 a8 a9 u0_1 u0_2 u0_3 u0_4 u0_5 u0_6 u0_7 u0_8 u0_9 u1_2 u1_3 u1_4 u2_2 u2_5 u3_1 u3_3 u3_4 u3_5 u7_1 u7_2 u7_3 u7_4 u7_5 u7_6 u7_8 u7_9 u7_10 u7_11 u7_12 u7_13 u7_14 u7_15 u7_16 u7_17 u7_18 u7_19 u7_20 u7_21 u7_22 u7_23 u7_24 u7_25 u7_26 u7_27 u7_28 u7_29 u7_30 x2_rows x2_columns x3_count y4_land y5_riverOf y6_home x7_thrown_1 y8_s y9_p_1)) rfl rfl
    refine W.widen (k := c1 + 14) (n := s1 + 846) (by omega) (by omega) ?_
    refine lv_iload (pc := 870) hexec hb dL_law_870 (lv_at hl 1 rfl) ?_
    refine ki_eq (pc := 872) hexec hb dL_law_872 (tgt := 877) rfl hf (fun hc hf => ?_) (fun hc hf => ?_)
    · refine lv_iload (pc := 877) hexec hb dL_law_877 (lv_at hl 1 rfl) ?_
      obtain ⟨j894, ej894, hf⟩ := bvf1 hf
      have hj894 : ∀ (u : Unit) (H : Heap) (locs : List Loc) (ls : Array Slot), j894 u = some (o_x7_thrown, o_y9_p) → va_P g.1 vwCl (w_case_12 g a0 a1 a2 a3 a4 a5 a6 a7 a8 a9 u0_1 u0_2 u0_3 u0_4 u0_5 u0_6 u0_7 u0_8 u0_9 u1_2 u1_3 u1_4 u2_2 u2_5 u3_1 u3_3 u3_4 u3_5 u7_1 u7_2 u7_3 u7_4 u7_5 u7_6 u7_8 u7_9 u7_10 u7_11 u7_12 u7_13 u7_14 u7_15 u7_16 u7_17 u7_18 u7_19 u7_20 u7_21 u7_22 u7_23 u7_24 u7_25 u7_26 u7_27 u7_28 u7_29 u7_30 x2_rows x2_columns x3_count y4_land y5_riverOf y6_home x7_thrown_1 y8_s y9_p_1 ++ pl) H → va_D A (w_case_12 g a0 a1 a2 a3 a4 a5 a6 a7 a8 a9 u0_1 u0_2 u0_3 u0_4 u0_5 u0_6 u0_7 u0_8 u0_9 u1_2 u1_3 u1_4 u2_2 u2_5 u3_1 u3_3 u3_4 u3_5 u7_1 u7_2 u7_3 u7_4 u7_5 u7_6 u7_8 u7_9 u7_10 u7_11 u7_12 u7_13 u7_14 u7_15 u7_16 u7_17 u7_18 u7_19 u7_20 u7_21 u7_22 u7_23 u7_24 u7_25 u7_26 u7_27 u7_28 u7_29 u7_30 x2_rows x2_columns x3_count y4_land y5_riverOf y6_home x7_thrown_1 y8_s y9_p_1 ++ pl) → va_S A s.heap H locs → lv_has ls 9 [(0, .ref sb), (1, .ref a0), (2, .ref a7), (3, .ref a9), (4, .int i)] → W p l e R s m args below meth c H locs (c1 + 14) (s1 + 846) Q (F0 m 894 ls []) := by
        intro u H locs ls hf hP hD hS hl
        have hf := (ej894 u).symm.trans hf
        refine lv_goto (pc := 894) hexec hb dL_law_894 (tgt := 2565) rfl ?_
        cases hf
        exact W.widen (by omega) (by omega) (kk _ _ _ hP hD hS (lv_sub hl [0, 1, 2, 3, 4] rfl))
      refine kb_ne (pc := 879) hexec hb dL_law_879 (tgt := 894) rfl hf (fun hc hf => ?_) (fun hc hf => ?_)
      · exact hj894 _ _ _ _ hf hP hD hS (lv_sub hl [2, 3, 4, 5, 6] rfl)
      · refine lv_aload_n (pc := 882) hexec hb dL_law_882 rfl (lv_at hl 5 rfl) ?_
        refine lv_iconst (pc := 883) hexec hb dL_law_883 ki_0 ?_
        refine kr_lald (pc := 884) hexec hb hG hP 9 rfl hf dL_law_884 (fun hf => ?_)
        refine lv_iload (pc := 885) hexec hb dL_law_885 (lv_at hl 0 rfl) ?_
        refine lv_i2l (pc := 887) hexec hb dL_law_887 rfl ?_
        refine kc_lcmp (pc := 888) hexec hb dL_law_888 ?_
        refine kb_eq (pc := 889) hexec hb dL_law_889 (tgt := 894) rfl hf (fun hc hf => ?_) (fun hc hf => ?_)
        · exact hj894 _ _ _ _ hf hP hD hS (lv_sub hl [2, 3, 4, 5, 6] rfl)
        · cases hf
    · cases hf
  cases hT : t_X8_room x2_rows x2_columns x3_count y4_land y5_riverOf y6_home (xs (i + 1).toNatClampNeg) (xs (i + 2).toNatClampNeg) with
  | some cls =>
    rw [hT] at hf
    rcases ite_or hf with ⟨hcl, hf⟩ | ⟨hcl, hf⟩
    · subst hcl
      refine kSLt (pc := 843) (S := ⟨hexec, hb, hml, hown, hts⟩) hP hD hG hA hS [0, 1, 2, 3, 4, 5, 6] [7, 8, 9] rfl rfl rfl (me_of_mh (hx_L_room_o l hlt g a0 a1 a2 a3 a4 a5 a6 a9 _ u0_1 u0_2 u0_3 u0_4 u0_5 u0_6 u0_7 u0_8 u0_9 u1_2 u1_3 u1_4 u2_2 u2_5 u3_1 u3_3 u3_4 u3_5 x2_rows x2_columns x3_count y4_land y5_riverOf y6_home (xs (i + 1).toNatClampNeg) (xs (i + 2).toNatClampNeg) hT)) gL_law_L_room rfl hq_L_room ⟨by omega, by omega⟩ (rest := []) rfl rfl hl.1 (nle rfl) dL_law_843 ⟨by omega, by omega⟩ (fun w1 H locs hF1 hP hD hS => ?_)
      subst hF1
      have hP := lbk hP [3, 4, 5, 6, 7, 8, 9, 0, 1, 2] (X := (w_case_12 g a0 a1 a2 a3 a4 a5 a6 a7 a8 a9 u0_1 u0_2 u0_3 u0_4 u0_5 u0_6 u0_7 u0_8 u0_9 u1_2 u1_3 u1_4 u2_2 u2_5 u3_1 u3_3 u3_4 u3_5 u7_1 u7_2 u7_3 u7_4 u7_5 u7_6 u7_8 u7_9 u7_10 u7_11 u7_12 u7_13 u7_14 u7_15 u7_16 u7_17 u7_18 u7_19 u7_20 u7_21 u7_22 u7_23 u7_24 u7_25 u7_26 u7_27 u7_28 u7_29 u7_30 x2_rows x2_columns x3_count y4_land y5_riverOf y6_home x7_thrown y8_s y9_p)) rfl
      have hD := lbkD hD [3, 4, 5, 6, 7, 8, 9, 0, 1, 2] (X := (w_case_12 g a0 a1 a2 a3 a4 a5 a6 a7 a8 a9 u0_1 u0_2 u0_3 u0_4 u0_5 u0_6 u0_7 u0_8 u0_9 u1_2 u1_3 u1_4 u2_2 u2_5 u3_1 u3_3 u3_4 u3_5 u7_1 u7_2 u7_3 u7_4 u7_5 u7_6 u7_8 u7_9 u7_10 u7_11 u7_12 u7_13 u7_14 u7_15 u7_16 u7_17 u7_18 u7_19 u7_20 u7_21 u7_22 u7_23 u7_24 u7_25 u7_26 u7_27 u7_28 u7_29 u7_30 x2_rows x2_columns x3_count y4_land y5_riverOf y6_home x7_thrown y8_s y9_p)) rfl rfl
      exact W.widen (by omega) (by omega) (hjh843 _ _ _ _ _ hf hP hD hS (lv_sub hl [0, 1, 2, 3, 4] rfl))
    rcases ite_or hf with ⟨hcl, hf⟩ | ⟨hcl, hf⟩
    · subst hcl
      refine kSLt (pc := 843) (S := ⟨hexec, hb, hml, hown, hts⟩) hP hD hG hA hS [0, 1, 2, 3, 4, 5, 6] [7, 8, 9] rfl rfl rfl (me_of_mh (hx_L_room_a l hlt g a0 a1 a2 a3 a4 a5 a6 a9 _ u0_1 u0_2 u0_3 u0_4 u0_5 u0_6 u0_7 u0_8 u0_9 u1_2 u1_3 u1_4 u2_2 u2_5 u3_1 u3_3 u3_4 u3_5 x2_rows x2_columns x3_count y4_land y5_riverOf y6_home (xs (i + 1).toNatClampNeg) (xs (i + 2).toNatClampNeg) hT)) gL_law_L_room rfl hq_L_room ⟨by omega, by omega⟩ (rest := []) rfl rfl hl.1 (nle rfl) dL_law_843 ⟨by omega, by omega⟩ (fun w1 H locs hF1 hP hD hS => ?_)
      subst hF1
      have hP := lbk hP [3, 4, 5, 6, 7, 8, 9, 0, 1, 2] (X := (w_case_12 g a0 a1 a2 a3 a4 a5 a6 a7 a8 a9 u0_1 u0_2 u0_3 u0_4 u0_5 u0_6 u0_7 u0_8 u0_9 u1_2 u1_3 u1_4 u2_2 u2_5 u3_1 u3_3 u3_4 u3_5 u7_1 u7_2 u7_3 u7_4 u7_5 u7_6 u7_8 u7_9 u7_10 u7_11 u7_12 u7_13 u7_14 u7_15 u7_16 u7_17 u7_18 u7_19 u7_20 u7_21 u7_22 u7_23 u7_24 u7_25 u7_26 u7_27 u7_28 u7_29 u7_30 x2_rows x2_columns x3_count y4_land y5_riverOf y6_home x7_thrown y8_s y9_p)) rfl
      have hD := lbkD hD [3, 4, 5, 6, 7, 8, 9, 0, 1, 2] (X := (w_case_12 g a0 a1 a2 a3 a4 a5 a6 a7 a8 a9 u0_1 u0_2 u0_3 u0_4 u0_5 u0_6 u0_7 u0_8 u0_9 u1_2 u1_3 u1_4 u2_2 u2_5 u3_1 u3_3 u3_4 u3_5 u7_1 u7_2 u7_3 u7_4 u7_5 u7_6 u7_8 u7_9 u7_10 u7_11 u7_12 u7_13 u7_14 u7_15 u7_16 u7_17 u7_18 u7_19 u7_20 u7_21 u7_22 u7_23 u7_24 u7_25 u7_26 u7_27 u7_28 u7_29 u7_30 x2_rows x2_columns x3_count y4_land y5_riverOf y6_home x7_thrown y8_s y9_p)) rfl rfl
      exact W.widen (by omega) (by omega) (hjh843 _ _ _ _ _ hf hP hD hS (lv_sub hl [0, 1, 2, 3, 4] rfl))
    cases hf
  | none =>
    rw [hT] at hf
    obtain ⟨r843, hc, hf⟩ := bd1_e hf
    refine kSLt (pc := 843) (S := ⟨hexec, hb, hml, hown, hts⟩) hP hD hG hA hS [0, 1, 2, 3, 4, 5, 6, 9] [7, 8] rfl rfl rfl (me_of_mh (h_L_room l g a0 a1 a2 a3 a4 a5 a6 a9 _ u0_1 u0_2 u0_3 u0_4 u0_5 u0_6 u0_7 u0_8 u0_9 u1_2 u1_3 u1_4 u2_2 u2_5 u3_1 u3_3 u3_4 u3_5 x2_rows x2_columns x3_count y4_land y5_riverOf y6_home y9_p (xs (i + 1).toNatClampNeg) (xs (i + 2).toNatClampNeg) r843 hc)) gL_law_L_room rfl hq_L_room ⟨by omega, by omega⟩ (rest := []) rfl rfl hl.1 (nle rfl) dL_law_843 ⟨by omega, by omega⟩ (fun w1 H locs hF1 hP hD hS => ?_)
    subst hF1
    have hP := lbk hP [2, 3, 4, 5, 6, 7, 8, 0, 1, 9] (X := (w_case_12 g a0 a1 a2 a3 a4 a5 a6 a7 a8 a9 u0_1 u0_2 u0_3 u0_4 u0_5 u0_6 u0_7 u0_8 u0_9 u1_2 u1_3 u1_4 u2_2 u2_5 u3_1 u3_3 u3_4 u3_5 u7_1 u7_2 u7_3 u7_4 u7_5 u7_6 u7_8 u7_9 u7_10 u7_11 u7_12 u7_13 u7_14 u7_15 u7_16 u7_17 u7_18 u7_19 u7_20 u7_21 u7_22 u7_23 u7_24 u7_25 u7_26 u7_27 u7_28 u7_29 u7_30 x2_rows x2_columns x3_count y4_land y5_riverOf y6_home x7_thrown y8_s (vp_updL y9_p (0 : Int32).toNatClampNeg r843.toInt64))) rfl
    have hD := lbkD hD [2, 3, 4, 5, 6, 7, 8, 0, 1, 9] (X := (w_case_12 g a0 a1 a2 a3 a4 a5 a6 a7 a8 a9 u0_1 u0_2 u0_3 u0_4 u0_5 u0_6 u0_7 u0_8 u0_9 u1_2 u1_3 u1_4 u2_2 u2_5 u3_1 u3_3 u3_4 u3_5 u7_1 u7_2 u7_3 u7_4 u7_5 u7_6 u7_8 u7_9 u7_10 u7_11 u7_12 u7_13 u7_14 u7_15 u7_16 u7_17 u7_18 u7_19 u7_20 u7_21 u7_22 u7_23 u7_24 u7_25 u7_26 u7_27 u7_28 u7_29 u7_30 x2_rows x2_columns x3_count y4_land y5_riverOf y6_home x7_thrown y8_s (vp_updL y9_p (0 : Int32).toNatClampNeg r843.toInt64))) rfl rfl
    exact W.widen (by omega) (by omega) (hjh843 _ _ _ _ _ hf hP hD hS (lv_sub hl [0, 1, 2, 3, 4] rfl))
end LAWC
