section LAWC
variable {p : Program} {l : Launch} {e : Env} {R : Room} {s : State} {m : MethodId} {args : Array Value} {below : List Frame} {meth : Method} {c : Code} {H : Heap} {locs : List Loc} {c1 s1 : Nat} {Q : State → Prop} {ls : Array Slot} {A : Nat → Prop} {g : GE} {sb L : Nat} {xs : Nat → Int32} {i : Int32} {pl : va_W}
abbrev w_case_10 (g : GE) (a0 a1 a2 a3 a4 a5 a6 a7 a8 a9 a10 a11 a12 a13 : Nat) (u0_1 u0_2 u0_3 u0_4 u0_5 u0_6 u0_7 u0_8 u0_9 u1_2 u2_2 u2_5 u3_3 u11_1 u11_2 u11_3 u11_4 u11_5 u11_6 u11_8 u11_9 u11_10 u11_11 u11_12 u11_13 u11_14 u11_15 u11_16 u11_17 u11_18 u11_19 u11_20 u11_21 u11_22 u11_23 u11_24 u11_25 u11_26 u11_27 u11_28 u11_29 u11_30 : Value) (x2_rows : Int32) (x2_columns : Int32) (x3_count : Int32) (x3_reds : Int32) (y4_letterOn : Nat → Int32) (y5_namesOn : Nat → Int32) (y6_land : Nat → Int32) (y7_riverOf : Nat → Int32) (y8_home : Nat → Int32) (y9_length : Nat → Int32) (y10_letters : Nat → Int32) (x11_thrown : Int32) (y12_s : Nat → Int32) (y13_p : Nat → Int64) : va_W := [(a0, .inr (8, [.ref a1, u0_1, u0_2, u0_3, u0_4, u0_5, u0_6, u0_7, u0_8, u0_9])), (a1, .inr (6, [.ref a2, .ref a3, u1_2, .ref a5, .ref a4])), (a2, .inr (1, [.int x2_rows, .int x2_columns, u2_2, .ref a6, .ref a7, u2_5])), (a3, .inr (2, [.int x3_count, .int x3_reds, .ref a8, u3_3, .ref a9, .ref a10])), (a4, .inl (g.2.1 0, 144, .inl y4_letterOn)), (a5, .inl (g.2.1 0, 144, .inl y5_namesOn)), (a6, .inl (g.2.1 1, 144, .inl y6_land)), (a7, .inl (g.2.1 0, 144, .inl y7_riverOf)), (a8, .inl (g.2.1 0, 8, .inl y8_home)), (a9, .inl (g.2.1 0, 8, .inl y9_length)), (a10, .inl (g.2.1 0, 64, .inl y10_letters)), (a11, .inr (9, [.ref a12, u11_1, u11_2, u11_3, u11_4, u11_5, u11_6, .int x11_thrown, u11_8, u11_9, u11_10, u11_11, u11_12, u11_13, u11_14, u11_15, u11_16, u11_17, u11_18, u11_19, u11_20, u11_21, u11_22, u11_23, u11_24, u11_25, u11_26, u11_27, u11_28, u11_29, u11_30])), (a12, .inl (g.2.1 0, 552, .inl y12_s)), (a13, .inl (g.2.1 3, 1, .inr (.inl y13_p)))]
noncomputable def f_case_10 (L : Nat) (xs : Nat → Int32) (i : Int32) (x2_rows : Int32) (x2_columns : Int32) (x3_count : Int32) (x3_reds : Int32) (y4_letterOn : Nat → Int32) (y5_namesOn : Nat → Int32) (y6_land : Nat → Int32) (y7_riverOf : Nat → Int32) (y8_home : Nat → Int32) (y9_length : Nat → Int32) (y10_letters : Nat → Int32) (x11_thrown : Int32) (y12_s : Nat → Int32) (y13_p : Nat → Int64) : Option (Int32 × (Nat → Int64)) :=
  ar (i + 1) L <|
  ar (i + 2) L <|
  bv (fun (k719 : Int32) (y13_p_1 : Nat → Int64) => ((
    ar (i + 1) L <|
    ar (i + 2) L <|
    bd2 (f_X9_why x11_thrown y12_s (xs (i + 1).toNatClampNeg) (xs (i + 2).toNatClampNeg)) fun (r737 : Int32) (x11_thrown_1 : Int32) =>
    bd1 (f_X9_thrown x11_thrown_1) fun (r743 : Int32) =>
    (if r743 = k719 then (
      bv (fun (_ : Unit) => ((
        some (x11_thrown_1, y13_p_1)
        ) : Option (Int32 × (Nat → Int64)))) fun j770 =>
      (if k719 = 0 then (
        ar 0 1 <|
        (if (lg_cmp (y13_p_1 (0 : Int32).toNatClampNeg) (r737.toInt64)) = 0 then (
          j770 ()
        ) else (
          none
        ))
      ) else (
        j770 ()
      ))
    ) else (
      none
    ))
    ) : Option (Int32 × (Nat → Int64)))) fun jh719 =>
  match t_X8_why x2_rows x2_columns x3_count x3_reds y4_letterOn y5_namesOn y6_land y7_riverOf y8_home y9_length y10_letters (xs (i + 1).toNatClampNeg) (xs (i + 2).toNatClampNeg) with
  | some cls =>
    (if cls = "java/lang/IndexOutOfBoundsException" then jh719 1 y13_p  else
    (if cls = "java/lang/IllegalArgumentException" then jh719 2 y13_p  else
    none))
  | none =>
    bd1 (f_X8_why x2_rows x2_columns x3_count x3_reds y4_letterOn y5_namesOn y6_land y7_riverOf y8_home y9_length y10_letters (xs (i + 1).toNatClampNeg) (xs (i + 2).toNatClampNeg)) fun (r719 : Int32) =>
    jh719 0 (vp_updL y13_p (0 : Int32).toNatClampNeg r719.toInt64) 
set_option maxRecDepth 20000 in
theorem lc_10 (hlt : l.stackTraces = false) (hexec : p.tables.exec = Jvm.exec) (hb : c.code = cL_law) (hml : c.maxLocals = 9) (hown : s.vm.findClass RL = some m.cls) (hts : ∀ w ∈ wsL_law, w.before args s = true) (hG : GG g A s s.heap) (hA : ∀ q, s.heap.size ≤ q → A q) (hX : va_X sb L xs s s.heap) (hbl : sb < s.heap.size) (hbA : ¬ A sb) (hRf : 2000 ≤ R.frames) (hRl : 80000 ≤ R.locals) (hRc : c1 + 14 ≤ R.cells) (hRs : s1 + 846 ≤ R.slots) (a0 a1 a2 a3 a4 a5 a6 a7 a8 a9 a10 a11 a12 a13 : Nat) (u0_1 u0_2 u0_3 u0_4 u0_5 u0_6 u0_7 u0_8 u0_9 u1_2 u2_2 u2_5 u3_3 u11_1 u11_2 u11_3 u11_4 u11_5 u11_6 u11_8 u11_9 u11_10 u11_11 u11_12 u11_13 u11_14 u11_15 u11_16 u11_17 u11_18 u11_19 u11_20 u11_21 u11_22 u11_23 u11_24 u11_25 u11_26 u11_27 u11_28 u11_29 u11_30 : Value) (x2_rows : Int32) (x2_columns : Int32) (x3_count : Int32) (x3_reds : Int32) (y4_letterOn : Nat → Int32) (y5_namesOn : Nat → Int32) (y6_land : Nat → Int32) (y7_riverOf : Nat → Int32) (y8_home : Nat → Int32) (y9_length : Nat → Int32) (y10_letters : Nat → Int32) (x11_thrown : Int32) (y12_s : Nat → Int32) (y13_p : Nat → Int64) (o_x11_thrown : Int32) (o_y13_p : Nat → Int64) (hf : f_case_10 L xs i x2_rows x2_columns x3_count x3_reds y4_letterOn y5_namesOn y6_land y7_riverOf y8_home y9_length y10_letters x11_thrown y12_s y13_p = some (o_x11_thrown, o_y13_p)) (hP : va_P g.1 vwCl (w_case_10 g a0 a1 a2 a3 a4 a5 a6 a7 a8 a9 a10 a11 a12 a13 u0_1 u0_2 u0_3 u0_4 u0_5 u0_6 u0_7 u0_8 u0_9 u1_2 u2_2 u2_5 u3_3 u11_1 u11_2 u11_3 u11_4 u11_5 u11_6 u11_8 u11_9 u11_10 u11_11 u11_12 u11_13 u11_14 u11_15 u11_16 u11_17 u11_18 u11_19 u11_20 u11_21 u11_22 u11_23 u11_24 u11_25 u11_26 u11_27 u11_28 u11_29 u11_30 x2_rows x2_columns x3_count x3_reds y4_letterOn y5_namesOn y6_land y7_riverOf y8_home y9_length y10_letters x11_thrown y12_s y13_p ++ pl) H) (hD : va_D A (w_case_10 g a0 a1 a2 a3 a4 a5 a6 a7 a8 a9 a10 a11 a12 a13 u0_1 u0_2 u0_3 u0_4 u0_5 u0_6 u0_7 u0_8 u0_9 u1_2 u2_2 u2_5 u3_3 u11_1 u11_2 u11_3 u11_4 u11_5 u11_6 u11_8 u11_9 u11_10 u11_11 u11_12 u11_13 u11_14 u11_15 u11_16 u11_17 u11_18 u11_19 u11_20 u11_21 u11_22 u11_23 u11_24 u11_25 u11_26 u11_27 u11_28 u11_29 u11_30 x2_rows x2_columns x3_count x3_reds y4_letterOn y5_namesOn y6_land y7_riverOf y8_home y9_length y10_letters x11_thrown y12_s y13_p ++ pl)) (hS : va_S A s.heap H locs) (hl : lv_has ls 9 [(0, .ref sb), (1, .ref a0), (2, .ref a11), (3, .ref a13), (4, .int i)]) (kk : ∀ (H : Heap) (locs : List Loc) (ls : Array Slot), va_P g.1 vwCl (w_case_10 g a0 a1 a2 a3 a4 a5 a6 a7 a8 a9 a10 a11 a12 a13 u0_1 u0_2 u0_3 u0_4 u0_5 u0_6 u0_7 u0_8 u0_9 u1_2 u2_2 u2_5 u3_3 u11_1 u11_2 u11_3 u11_4 u11_5 u11_6 u11_8 u11_9 u11_10 u11_11 u11_12 u11_13 u11_14 u11_15 u11_16 u11_17 u11_18 u11_19 u11_20 u11_21 u11_22 u11_23 u11_24 u11_25 u11_26 u11_27 u11_28 u11_29 u11_30 x2_rows x2_columns x3_count x3_reds y4_letterOn y5_namesOn y6_land y7_riverOf y8_home y9_length y10_letters o_x11_thrown y12_s o_y13_p ++ pl) H → va_D A (w_case_10 g a0 a1 a2 a3 a4 a5 a6 a7 a8 a9 a10 a11 a12 a13 u0_1 u0_2 u0_3 u0_4 u0_5 u0_6 u0_7 u0_8 u0_9 u1_2 u2_2 u2_5 u3_3 u11_1 u11_2 u11_3 u11_4 u11_5 u11_6 u11_8 u11_9 u11_10 u11_11 u11_12 u11_13 u11_14 u11_15 u11_16 u11_17 u11_18 u11_19 u11_20 u11_21 u11_22 u11_23 u11_24 u11_25 u11_26 u11_27 u11_28 u11_29 u11_30 x2_rows x2_columns x3_count x3_reds y4_letterOn y5_namesOn y6_land y7_riverOf y8_home y9_length y10_letters o_x11_thrown y12_s o_y13_p ++ pl) → va_S A s.heap H locs → lv_has ls 9 [(0, .ref sb), (1, .ref a0), (2, .ref a11), (3, .ref a13), (4, .int i)] → W p l e R s m args below meth c H locs (c1 + 14) (s1 + 846) Q (F0 m 2565 ls [])) : W p l e R s m args below meth c H locs c1 s1 Q (F0 m 705 ls []) := by
  unfold f_case_10 at hf
  refine lv_aload_n (pc := 705) hexec hb dL_law_705 rfl (lv_at hl 1 rfl) ?_
  refine lv_aload_n (pc := 706) hexec hb dL_law_706 rfl (lv_at hl 0 rfl) ?_
  refine lv_iload (pc := 707) hexec hb dL_law_707 (lv_at hl 4 rfl) ?_
  refine lv_iconst (pc := 709) hexec hb dL_law_709 ki_1 ?_
  refine lv_iadd (pc := 710) hexec hb dL_law_710 ?_
  refine k_scr (pc := 711) hexec hb hX hbl hbA hS hf dL_law_711 (fun hf => ?_)
  refine lv_aload_n (pc := 712) hexec hb dL_law_712 rfl (lv_at hl 0 rfl) ?_
  refine lv_iload (pc := 713) hexec hb dL_law_713 (lv_at hl 4 rfl) ?_
  refine lv_iconst (pc := 715) hexec hb dL_law_715 ki_2 ?_
  refine lv_iadd (pc := 716) hexec hb dL_law_716 ?_
  refine k_scr (pc := 717) hexec hb hX hbl hbA hS hf dL_law_717 (fun hf => ?_)
  refine lv_aload_n (pc := 718) hexec hb dL_law_718 rfl (lv_at hl 3 rfl) ?_
  obtain ⟨jh719, ejh719, hf⟩ := bvf2 hf
  have hjh719 : ∀ (k719 : Int32) (y13_p_1 : Nat → Int64) (H : Heap) (locs : List Loc) (ls : Array Slot), jh719 k719 y13_p_1 = some (o_x11_thrown, o_y13_p) → va_P g.1 vwCl (w_case_10 g a0 a1 a2 a3 a4 a5 a6 a7 a8 a9 a10 a11 a12 a13 u0_1 u0_2 u0_3 u0_4 u0_5 u0_6 u0_7 u0_8 u0_9 u1_2 u2_2 u2_5 u3_3 u11_1 u11_2 u11_3 u11_4 u11_5 u11_6 u11_8 u11_9 u11_10 u11_11 u11_12 u11_13 u11_14 u11_15 u11_16 u11_17 u11_18 u11_19 u11_20 u11_21 u11_22 u11_23 u11_24 u11_25 u11_26 u11_27 u11_28 u11_29 u11_30 x2_rows x2_columns x3_count x3_reds y4_letterOn y5_namesOn y6_land y7_riverOf y8_home y9_length y10_letters x11_thrown y12_s y13_p_1 ++ pl) H → va_D A (w_case_10 g a0 a1 a2 a3 a4 a5 a6 a7 a8 a9 a10 a11 a12 a13 u0_1 u0_2 u0_3 u0_4 u0_5 u0_6 u0_7 u0_8 u0_9 u1_2 u2_2 u2_5 u3_3 u11_1 u11_2 u11_3 u11_4 u11_5 u11_6 u11_8 u11_9 u11_10 u11_11 u11_12 u11_13 u11_14 u11_15 u11_16 u11_17 u11_18 u11_19 u11_20 u11_21 u11_22 u11_23 u11_24 u11_25 u11_26 u11_27 u11_28 u11_29 u11_30 x2_rows x2_columns x3_count x3_reds y4_letterOn y5_namesOn y6_land y7_riverOf y8_home y9_length y10_letters x11_thrown y12_s y13_p_1 ++ pl) → va_S A s.heap H locs → lv_has ls 9 [(0, .ref sb), (1, .ref a0), (2, .ref a11), (3, .ref a13), (4, .int i)] → W p l e R s m args below meth c H locs (c1 + 14) (s1 + 846) Q (F0 m 722 ls [.int k719]) := by
    intro k719 y13_p_1 H locs ls hf hP hD hS hl
    have hf := (ejh719 k719 y13_p_1).symm.trans hf
    refine lv_istore (pc := 722) hexec hb dL_law_722 hl (nle rfl) rfl (fun ls (hl : lv_has ls 9 [(5, .int k719), (0, .ref sb), (1, .ref a0), (2, .ref a11), (3, .ref a13), (4, .int i)]) => ?_)
    refine lv_aload_n (pc := 724) hexec hb dL_law_724 rfl (lv_at hl 3 rfl) ?_
    refine lv_aload_n (pc := 725) hexec hb dL_law_725 rfl (lv_at hl 1 rfl) ?_
    refine lv_iload (pc := 726) hexec hb dL_law_726 (lv_at hl 5 rfl) ?_
    refine lv_iconst (pc := 728) hexec hb dL_law_728 ki_1 ?_
    refine lv_iadd (pc := 729) hexec hb dL_law_729 ?_
    refine k_scr (pc := 730) hexec hb hX hbl hbA hS hf dL_law_730 (fun hf => ?_)
    refine lv_aload_n (pc := 731) hexec hb dL_law_731 rfl (lv_at hl 1 rfl) ?_
    refine lv_iload (pc := 732) hexec hb dL_law_732 (lv_at hl 5 rfl) ?_
    refine lv_iconst (pc := 734) hexec hb dL_law_734 ki_2 ?_
    refine lv_iadd (pc := 735) hexec hb dL_law_735 ?_
    refine k_scr (pc := 736) hexec hb hX hbl hbA hS hf dL_law_736 (fun hf => ?_)
    obtain ⟨r737, x11_thrown_1, hc, hf⟩ := bd2_e hf
    refine kVLt (pc := 737) (S := ⟨hexec, hb, hml, hown, hts⟩) hP hD hG hA hS [11, 12] [0, 1, 2, 3, 4, 5, 6, 7, 8, 9, 10, 13] rfl rfl rfl (me_of_mi (c_X9_why l g a11 a12 _ u11_1 u11_2 u11_3 u11_4 u11_5 u11_6 u11_8 u11_9 u11_10 u11_11 u11_12 u11_13 u11_14 u11_15 u11_16 u11_17 u11_18 u11_19 u11_20 u11_21 u11_22 u11_23 u11_24 u11_25 u11_26 u11_27 u11_28 u11_29 u11_30 x11_thrown y12_s (xs (i + 1).toNatClampNeg) (xs (i + 2).toNatClampNeg) r737 x11_thrown_1 hc)) gL_law_X9_why rfl hq_X9_why ⟨by omega, by omega⟩ 9 0 rfl rfl rfl (rest := []) rfl rfl hl.1 (nle rfl) dL_law_737 ⟨by omega, by omega⟩ (fun w1 H locs hF1 hP hD hS => ?_)
    subst hF1
    have hP := lbk hP [0, 1, 2, 3, 4, 5, 6, 7, 8, 9, 10, 12, 13, 11] (X := (w_case_10 g a0 a1 a2 a3 a4 a5 a6 a7 a8 a9 a10 a11 a12 a13 u0_1 u0_2 u0_3 u0_4 u0_5 u0_6 u0_7 u0_8 u0_9 u1_2 u2_2 u2_5 u3_3 u11_1 u11_2 u11_3 u11_4 u11_5 u11_6 u11_8 u11_9 u11_10 u11_11 u11_12 u11_13 u11_14 u11_15 u11_16 u11_17 u11_18 u11_19 u11_20 u11_21 u11_22 u11_23 u11_24 u11_25 u11_26 u11_27 u11_28 u11_29 u11_30 x2_rows x2_columns x3_count x3_reds y4_letterOn y5_namesOn y6_land y7_riverOf y8_home y9_length y10_letters x11_thrown_1 y12_s y13_p_1)) rfl
    have hD := lbkD hD [0, 1, 2, 3, 4, 5, 6, 7, 8, 9, 10, 12, 13, 11] (X := (w_case_10 g a0 a1 a2 a3 a4 a5 a6 a7 a8 a9 a10 a11 a12 a13 u0_1 u0_2 u0_3 u0_4 u0_5 u0_6 u0_7 u0_8 u0_9 u1_2 u2_2 u2_5 u3_3 u11_1 u11_2 u11_3 u11_4 u11_5 u11_6 u11_8 u11_9 u11_10 u11_11 u11_12 u11_13 u11_14 u11_15 u11_16 u11_17 u11_18 u11_19 u11_20 u11_21 u11_22 u11_23 u11_24 u11_25 u11_26 u11_27 u11_28 u11_29 u11_30 x2_rows x2_columns x3_count x3_reds y4_letterOn y5_namesOn y6_land y7_riverOf y8_home y9_length y10_letters x11_thrown_1 y12_s y13_p_1)) rfl rfl
    refine W.widen (k := c1 + 14) (n := s1 + 846) (by omega) (by omega) ?_
    refine lv_istore (pc := 740) hexec hb dL_law_740 hl (nle rfl) rfl (fun ls (hl : lv_has ls 9 [(6, .int r737), (5, .int k719), (0, .ref sb), (1, .ref a0), (2, .ref a11), (3, .ref a13), (4, .int i)]) => ?_)
    refine lv_aload_n (pc := 742) hexec hb dL_law_742 rfl (lv_at hl 4 rfl) ?_
    obtain ⟨r743, hc, hf⟩ := bd1_e hf
    refine kVLt (pc := 743) (S := ⟨hexec, hb, hml, hown, hts⟩) hP hD hG hA hS [11] [0, 1, 2, 3, 4, 5, 6, 7, 8, 9, 10, 12, 13] rfl rfl rfl (me_of_mi (c_X9_thrown l g a11 _ (.ref a12) u11_1 u11_2 u11_3 u11_4 u11_5 u11_6 u11_8 u11_9 u11_10 u11_11 u11_12 u11_13 u11_14 u11_15 u11_16 u11_17 u11_18 u11_19 u11_20 u11_21 u11_22 u11_23 u11_24 u11_25 u11_26 u11_27 u11_28 u11_29 u11_30 x11_thrown_1 r743 hc)) gL_law_X9_thrown rfl hq_X9_thrown ⟨by omega, by omega⟩ 9 0 rfl rfl rfl (rest := []) rfl rfl hl.1 (nle rfl) dL_law_743 ⟨by omega, by omega⟩ (fun w1 H locs hF1 hP hD hS => ?_)
    subst hF1
    have hP := lbk hP [0, 1, 2, 3, 4, 5, 6, 7, 8, 9, 10, 13, 11, 12] (X := (w_case_10 g a0 a1 a2 a3 a4 a5 a6 a7 a8 a9 a10 a11 a12 a13 u0_1 u0_2 u0_3 u0_4 u0_5 u0_6 u0_7 u0_8 u0_9 u1_2 u2_2 u2_5 u3_3 u11_1 u11_2 u11_3 u11_4 u11_5 u11_6 u11_8 u11_9 u11_10 u11_11 u11_12 u11_13 u11_14 u11_15 u11_16 u11_17 u11_18 u11_19 u11_20 u11_21 u11_22 u11_23 u11_24 u11_25 u11_26 u11_27 u11_28 u11_29 u11_30 x2_rows x2_columns x3_count x3_reds y4_letterOn y5_namesOn y6_land y7_riverOf y8_home y9_length y10_letters x11_thrown_1 y12_s y13_p_1)) rfl
    have hD := lbkD hD [0, 1, 2, 3, 4, 5, 6, 7, 8, 9, 10, 13, 11, 12] (X := (w_case_10 g a0 a1 a2 a3 a4 a5 a6 a7 a8 a9 a10 a11 a12 a13 u0_1 u0_2 u0_3 u0_4 u0_5 u0_6 u0_7 u0_8 u0_9 u1_2 u2_2 u2_5 u3_3 u11_1 u11_2 u11_3 u11_4 u11_5 u11_6 u11_8 u11_9 u11_10 u11_11 u11_12 u11_13 u11_14 u11_15 u11_16 u11_17 u11_18 u11_19 u11_20 u11_21 u11_22 u11_23 u11_24 u11_25 u11_26 u11_27 u11_28 u11_29 u11_30 x2_rows x2_columns x3_count x3_reds y4_letterOn y5_namesOn y6_land y7_riverOf y8_home y9_length y10_letters x11_thrown_1 y12_s y13_p_1)) rfl rfl
    refine W.widen (k := c1 + 14) (n := s1 + 846) (by omega) (by omega) ?_
    refine lv_iload (pc := 746) hexec hb dL_law_746 (lv_at hl 1 rfl) ?_
    refine ki_eq (pc := 748) hexec hb dL_law_748 (tgt := 753) rfl hf (fun hc hf => ?_) (fun hc hf => ?_)
    · refine lv_iload (pc := 753) hexec hb dL_law_753 (lv_at hl 1 rfl) ?_
      obtain ⟨j770, ej770, hf⟩ := bvf1 hf
      have hj770 : ∀ (u : Unit) (H : Heap) (locs : List Loc) (ls : Array Slot), j770 u = some (o_x11_thrown, o_y13_p) → va_P g.1 vwCl (w_case_10 g a0 a1 a2 a3 a4 a5 a6 a7 a8 a9 a10 a11 a12 a13 u0_1 u0_2 u0_3 u0_4 u0_5 u0_6 u0_7 u0_8 u0_9 u1_2 u2_2 u2_5 u3_3 u11_1 u11_2 u11_3 u11_4 u11_5 u11_6 u11_8 u11_9 u11_10 u11_11 u11_12 u11_13 u11_14 u11_15 u11_16 u11_17 u11_18 u11_19 u11_20 u11_21 u11_22 u11_23 u11_24 u11_25 u11_26 u11_27 u11_28 u11_29 u11_30 x2_rows x2_columns x3_count x3_reds y4_letterOn y5_namesOn y6_land y7_riverOf y8_home y9_length y10_letters x11_thrown_1 y12_s y13_p_1 ++ pl) H → va_D A (w_case_10 g a0 a1 a2 a3 a4 a5 a6 a7 a8 a9 a10 a11 a12 a13 u0_1 u0_2 u0_3 u0_4 u0_5 u0_6 u0_7 u0_8 u0_9 u1_2 u2_2 u2_5 u3_3 u11_1 u11_2 u11_3 u11_4 u11_5 u11_6 u11_8 u11_9 u11_10 u11_11 u11_12 u11_13 u11_14 u11_15 u11_16 u11_17 u11_18 u11_19 u11_20 u11_21 u11_22 u11_23 u11_24 u11_25 u11_26 u11_27 u11_28 u11_29 u11_30 x2_rows x2_columns x3_count x3_reds y4_letterOn y5_namesOn y6_land y7_riverOf y8_home y9_length y10_letters x11_thrown_1 y12_s y13_p_1 ++ pl) → va_S A s.heap H locs → lv_has ls 9 [(0, .ref sb), (1, .ref a0), (2, .ref a11), (3, .ref a13), (4, .int i)] → W p l e R s m args below meth c H locs (c1 + 14) (s1 + 846) Q (F0 m 770 ls []) := by
        intro u H locs ls hf hP hD hS hl
        have hf := (ej770 u).symm.trans hf
        refine lv_goto (pc := 770) hexec hb dL_law_770 (tgt := 2565) rfl ?_
        cases hf
        exact W.widen (by omega) (by omega) (kk _ _ _ hP hD hS (lv_sub hl [0, 1, 2, 3, 4] rfl))
      refine kb_ne (pc := 755) hexec hb dL_law_755 (tgt := 770) rfl hf (fun hc hf => ?_) (fun hc hf => ?_)
      · exact hj770 _ _ _ _ hf hP hD hS (lv_sub hl [2, 3, 4, 5, 6] rfl)
      · refine lv_aload_n (pc := 758) hexec hb dL_law_758 rfl (lv_at hl 5 rfl) ?_
        refine lv_iconst (pc := 759) hexec hb dL_law_759 ki_0 ?_
        refine kr_lald (pc := 760) hexec hb hG hP 13 rfl hf dL_law_760 (fun hf => ?_)
        refine lv_iload (pc := 761) hexec hb dL_law_761 (lv_at hl 0 rfl) ?_
        refine lv_i2l (pc := 763) hexec hb dL_law_763 rfl ?_
        refine kc_lcmp (pc := 764) hexec hb dL_law_764 ?_
        refine kb_eq (pc := 765) hexec hb dL_law_765 (tgt := 770) rfl hf (fun hc hf => ?_) (fun hc hf => ?_)
        · exact hj770 _ _ _ _ hf hP hD hS (lv_sub hl [2, 3, 4, 5, 6] rfl)
        · cases hf
    · cases hf
  cases hT : t_X8_why x2_rows x2_columns x3_count x3_reds y4_letterOn y5_namesOn y6_land y7_riverOf y8_home y9_length y10_letters (xs (i + 1).toNatClampNeg) (xs (i + 2).toNatClampNeg) with
  | some cls =>
    rw [hT] at hf
    rcases ite_or hf with ⟨hcl, hf⟩ | ⟨hcl, hf⟩
    · subst hcl
      refine kSLt (pc := 719) (S := ⟨hexec, hb, hml, hown, hts⟩) hP hD hG hA hS [0, 1, 2, 3, 4, 5, 6, 7, 8, 9, 10] [11, 12, 13] rfl rfl rfl (me_of_mh (hx_L_why_o l hlt g a0 a1 a2 a3 a4 a5 a6 a7 a8 a9 a10 a13 _ u0_1 u0_2 u0_3 u0_4 u0_5 u0_6 u0_7 u0_8 u0_9 u1_2 u2_2 u2_5 u3_3 x2_rows x2_columns x3_count x3_reds y4_letterOn y5_namesOn y6_land y7_riverOf y8_home y9_length y10_letters (xs (i + 1).toNatClampNeg) (xs (i + 2).toNatClampNeg) hT)) gL_law_L_why rfl hq_L_why ⟨by omega, by omega⟩ (rest := []) rfl rfl hl.1 (nle rfl) dL_law_719 ⟨by omega, by omega⟩ (fun w1 H locs hF1 hP hD hS => ?_)
      subst hF1
      have hP := lbk hP [3, 4, 5, 6, 7, 8, 9, 10, 11, 12, 13, 0, 1, 2] (X := (w_case_10 g a0 a1 a2 a3 a4 a5 a6 a7 a8 a9 a10 a11 a12 a13 u0_1 u0_2 u0_3 u0_4 u0_5 u0_6 u0_7 u0_8 u0_9 u1_2 u2_2 u2_5 u3_3 u11_1 u11_2 u11_3 u11_4 u11_5 u11_6 u11_8 u11_9 u11_10 u11_11 u11_12 u11_13 u11_14 u11_15 u11_16 u11_17 u11_18 u11_19 u11_20 u11_21 u11_22 u11_23 u11_24 u11_25 u11_26 u11_27 u11_28 u11_29 u11_30 x2_rows x2_columns x3_count x3_reds y4_letterOn y5_namesOn y6_land y7_riverOf y8_home y9_length y10_letters x11_thrown y12_s y13_p)) rfl
      have hD := lbkD hD [3, 4, 5, 6, 7, 8, 9, 10, 11, 12, 13, 0, 1, 2] (X := (w_case_10 g a0 a1 a2 a3 a4 a5 a6 a7 a8 a9 a10 a11 a12 a13 u0_1 u0_2 u0_3 u0_4 u0_5 u0_6 u0_7 u0_8 u0_9 u1_2 u2_2 u2_5 u3_3 u11_1 u11_2 u11_3 u11_4 u11_5 u11_6 u11_8 u11_9 u11_10 u11_11 u11_12 u11_13 u11_14 u11_15 u11_16 u11_17 u11_18 u11_19 u11_20 u11_21 u11_22 u11_23 u11_24 u11_25 u11_26 u11_27 u11_28 u11_29 u11_30 x2_rows x2_columns x3_count x3_reds y4_letterOn y5_namesOn y6_land y7_riverOf y8_home y9_length y10_letters x11_thrown y12_s y13_p)) rfl rfl
      exact W.widen (by omega) (by omega) (hjh719 _ _ _ _ _ hf hP hD hS (lv_sub hl [0, 1, 2, 3, 4] rfl))
    rcases ite_or hf with ⟨hcl, hf⟩ | ⟨hcl, hf⟩
    · subst hcl
      refine kSLt (pc := 719) (S := ⟨hexec, hb, hml, hown, hts⟩) hP hD hG hA hS [0, 1, 2, 3, 4, 5, 6, 7, 8, 9, 10] [11, 12, 13] rfl rfl rfl (me_of_mh (hx_L_why_a l hlt g a0 a1 a2 a3 a4 a5 a6 a7 a8 a9 a10 a13 _ u0_1 u0_2 u0_3 u0_4 u0_5 u0_6 u0_7 u0_8 u0_9 u1_2 u2_2 u2_5 u3_3 x2_rows x2_columns x3_count x3_reds y4_letterOn y5_namesOn y6_land y7_riverOf y8_home y9_length y10_letters (xs (i + 1).toNatClampNeg) (xs (i + 2).toNatClampNeg) hT)) gL_law_L_why rfl hq_L_why ⟨by omega, by omega⟩ (rest := []) rfl rfl hl.1 (nle rfl) dL_law_719 ⟨by omega, by omega⟩ (fun w1 H locs hF1 hP hD hS => ?_)
      subst hF1
      have hP := lbk hP [3, 4, 5, 6, 7, 8, 9, 10, 11, 12, 13, 0, 1, 2] (X := (w_case_10 g a0 a1 a2 a3 a4 a5 a6 a7 a8 a9 a10 a11 a12 a13 u0_1 u0_2 u0_3 u0_4 u0_5 u0_6 u0_7 u0_8 u0_9 u1_2 u2_2 u2_5 u3_3 u11_1 u11_2 u11_3 u11_4 u11_5 u11_6 u11_8 u11_9 u11_10 u11_11 u11_12 u11_13 u11_14 u11_15 u11_16 u11_17 u11_18 u11_19 u11_20 u11_21 u11_22 u11_23 u11_24 u11_25 u11_26 u11_27 u11_28 u11_29 u11_30 x2_rows x2_columns x3_count x3_reds y4_letterOn y5_namesOn y6_land y7_riverOf y8_home y9_length y10_letters x11_thrown y12_s y13_p)) rfl
      have hD := lbkD hD [3, 4, 5, 6, 7, 8, 9, 10, 11, 12, 13, 0, 1, 2] (X := (w_case_10 g a0 a1 a2 a3 a4 a5 a6 a7 a8 a9 a10 a11 a12 a13 u0_1 u0_2 u0_3 u0_4 u0_5 u0_6 u0_7 u0_8 u0_9 u1_2 u2_2 u2_5 u3_3 u11_1 u11_2 u11_3 u11_4 u11_5 u11_6 u11_8 u11_9 u11_10 u11_11 u11_12 u11_13 u11_14 u11_15 u11_16 u11_17 u11_18 u11_19 u11_20 u11_21 u11_22 u11_23 u11_24 u11_25 u11_26 u11_27 u11_28 u11_29 u11_30 x2_rows x2_columns x3_count x3_reds y4_letterOn y5_namesOn y6_land y7_riverOf y8_home y9_length y10_letters x11_thrown y12_s y13_p)) rfl rfl
      exact W.widen (by omega) (by omega) (hjh719 _ _ _ _ _ hf hP hD hS (lv_sub hl [0, 1, 2, 3, 4] rfl))
    cases hf
  | none =>
    rw [hT] at hf
    obtain ⟨r719, hc, hf⟩ := bd1_e hf
    refine kSLt (pc := 719) (S := ⟨hexec, hb, hml, hown, hts⟩) hP hD hG hA hS [0, 1, 2, 3, 4, 5, 6, 7, 8, 9, 10, 13] [11, 12] rfl rfl rfl (me_of_mh (h_L_why l g a0 a1 a2 a3 a4 a5 a6 a7 a8 a9 a10 a13 _ u0_1 u0_2 u0_3 u0_4 u0_5 u0_6 u0_7 u0_8 u0_9 u1_2 u2_2 u2_5 u3_3 x2_rows x2_columns x3_count x3_reds y4_letterOn y5_namesOn y6_land y7_riverOf y8_home y9_length y10_letters y13_p (xs (i + 1).toNatClampNeg) (xs (i + 2).toNatClampNeg) r719 hc)) gL_law_L_why rfl hq_L_why ⟨by omega, by omega⟩ (rest := []) rfl rfl hl.1 (nle rfl) dL_law_719 ⟨by omega, by omega⟩ (fun w1 H locs hF1 hP hD hS => ?_)
    subst hF1
    have hP := lbk hP [2, 3, 4, 5, 6, 7, 8, 9, 10, 11, 12, 0, 1, 13] (X := (w_case_10 g a0 a1 a2 a3 a4 a5 a6 a7 a8 a9 a10 a11 a12 a13 u0_1 u0_2 u0_3 u0_4 u0_5 u0_6 u0_7 u0_8 u0_9 u1_2 u2_2 u2_5 u3_3 u11_1 u11_2 u11_3 u11_4 u11_5 u11_6 u11_8 u11_9 u11_10 u11_11 u11_12 u11_13 u11_14 u11_15 u11_16 u11_17 u11_18 u11_19 u11_20 u11_21 u11_22 u11_23 u11_24 u11_25 u11_26 u11_27 u11_28 u11_29 u11_30 x2_rows x2_columns x3_count x3_reds y4_letterOn y5_namesOn y6_land y7_riverOf y8_home y9_length y10_letters x11_thrown y12_s (vp_updL y13_p (0 : Int32).toNatClampNeg r719.toInt64))) rfl
    have hD := lbkD hD [2, 3, 4, 5, 6, 7, 8, 9, 10, 11, 12, 0, 1, 13] (X := (w_case_10 g a0 a1 a2 a3 a4 a5 a6 a7 a8 a9 a10 a11 a12 a13 u0_1 u0_2 u0_3 u0_4 u0_5 u0_6 u0_7 u0_8 u0_9 u1_2 u2_2 u2_5 u3_3 u11_1 u11_2 u11_3 u11_4 u11_5 u11_6 u11_8 u11_9 u11_10 u11_11 u11_12 u11_13 u11_14 u11_15 u11_16 u11_17 u11_18 u11_19 u11_20 u11_21 u11_22 u11_23 u11_24 u11_25 u11_26 u11_27 u11_28 u11_29 u11_30 x2_rows x2_columns x3_count x3_reds y4_letterOn y5_namesOn y6_land y7_riverOf y8_home y9_length y10_letters x11_thrown y12_s (vp_updL y13_p (0 : Int32).toNatClampNeg r719.toInt64))) rfl rfl
    exact W.widen (by omega) (by omega) (hjh719 _ _ _ _ _ hf hP hD hS (lv_sub hl [0, 1, 2, 3, 4] rfl))
end LAWC
