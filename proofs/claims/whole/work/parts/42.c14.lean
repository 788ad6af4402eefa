section LAWC
variable {p : Program} {l : Launch} {e : Env} {R : Room} {s : State} {m : MethodId} {args : Array Value} {below : List Frame} {meth : Method} {c : Code} {H : Heap} {locs : List Loc} {c1 s1 : Nat} {Q : State → Prop} {ls : Array Slot} {A : Nat → Prop} {g : GE} {sb L : Nat} {xs : Nat → Int32} {i : Int32} {pl : va_W}
abbrev w_case_14 (g : GE) (a0 a1 a2 a3 a4 a5 a6 a7 a8 a9 a10 : Nat) (u0_1 u0_2 u0_3 u0_4 u0_5 u0_6 u0_7 u0_8 u0_9 u1_2 u1_4 u2_2 u2_3 u2_4 u2_5 u3_1 u3_5 u8_1 u8_2 u8_3 u8_4 u8_5 u8_6 u8_8 u8_9 u8_10 u8_11 u8_12 u8_13 u8_14 u8_15 u8_16 u8_17 u8_18 u8_19 u8_20 u8_21 u8_22 u8_23 u8_24 u8_25 u8_26 u8_27 u8_28 u8_29 u8_30 : Value) (x2_rows : Int32) (x2_columns : Int32) (x3_count : Int32) (y4_namesOn : Nat → Int32) (y5_direction : Nat → Int32) (y6_home : Nat → Int32) (y7_length : Nat → Int32) (x8_thrown : Int32) (y9_s : Nat → Int32) (y10_p : Nat → Int64) : va_W := [(a0, .inr (8, [.ref a1, u0_1, u0_2, u0_3, u0_4, u0_5, u0_6, u0_7, u0_8, u0_9])), (a1, .inr (6, [.ref a2, .ref a3, u1_2, .ref a4, u1_4])), (a2, .inr (1, [.int x2_rows, .int x2_columns, u2_2, u2_3, u2_4, u2_5])), (a3, .inr (2, [.int x3_count, u3_1, .ref a6, .ref a5, .ref a7, u3_5])), (a4, .inl (g.2.1 0, 144, .inl y4_namesOn)), (a5, .inl (g.2.1 0, 8, .inl y5_direction)), (a6, .inl (g.2.1 0, 8, .inl y6_home)), (a7, .inl (g.2.1 0, 8, .inl y7_length)), (a8, .inr (9, [.ref a9, u8_1, u8_2, u8_3, u8_4, u8_5, u8_6, .int x8_thrown, u8_8, u8_9, u8_10, u8_11, u8_12, u8_13, u8_14, u8_15, u8_16, u8_17, u8_18, u8_19, u8_20, u8_21, u8_22, u8_23, u8_24, u8_25, u8_26, u8_27, u8_28, u8_29, u8_30])), (a9, .inl (g.2.1 0, 552, .inl y9_s)), (a10, .inl (g.2.1 3, 1, .inr (.inl y10_p)))]
noncomputable def f_case_14 (L : Nat) (xs : Nat → Int32) (i : Int32) (x2_rows : Int32) (x2_columns : Int32) (x3_count : Int32) (y4_namesOn : Nat → Int32) (y5_direction : Nat → Int32) (y6_home : Nat → Int32) (y7_length : Nat → Int32) (x8_thrown : Int32) (y9_s : Nat → Int32) (y10_p : Nat → Int64) : Option (Int32 × (Nat → Int64)) :=
  ar (i + 1) L <|
  bv (fun (k918 : Int32) (y10_p_1 : Nat → Int64) => ((
    ar (i + 1) L <|
    bd2 (f_X9_crossed x8_thrown y9_s (xs (i + 1).toNatClampNeg)) fun (r930 : Int32) (x8_thrown_1 : Int32) =>
    bd1 (f_X9_thrown x8_thrown_1) fun (r936 : Int32) =>
    (if r936 = k918 then (
      bv (fun (_ : Unit) => ((
        some (x8_thrown_1, y10_p_1)
        ) : Option (Int32 × (Nat → Int64)))) fun j963 =>
      (if k918 = 0 then (
        ar 0 1 <|
        (if (lg_cmp (y10_p_1 (0 : Int32).toNatClampNeg) (r930.toInt64)) = 0 then (
          j963 ()
        ) else (
          none
        ))
      ) else (
        j963 ()
      ))
    ) else (
      none
    ))
    ) : Option (Int32 × (Nat → Int64)))) fun jh918 =>
  match t_X8_crossed x2_rows x2_columns x3_count y4_namesOn y5_direction y6_home y7_length (xs (i + 1).toNatClampNeg) with
  | some cls =>
    (if cls = "java/lang/IndexOutOfBoundsException" then jh918 1 y10_p  else
    none)
  | none =>
    bd1 (f_X8_crossed x2_rows x2_columns x3_count y4_namesOn y5_direction y6_home y7_length (xs (i + 1).toNatClampNeg)) fun (r918 : Int32) =>
    jh918 0 (vp_updL y10_p (0 : Int32).toNatClampNeg r918.toInt64) 
set_option maxRecDepth 20000 in
theorem lc_14 (hlt : l.stackTraces = false) (hexec : p.tables.exec = Jvm.exec) (hb : c.code = cL_law) (hml : c.maxLocals = 9) (hown : s.vm.findClass RL = some m.cls) (hts : ∀ w ∈ wsL_law, w.before args s = true) (hG : GG g A s s.heap) (hA : ∀ q, s.heap.size ≤ q → A q) (hX : va_X sb L xs s s.heap) (hbl : sb < s.heap.size) (hbA : ¬ A sb) (hRf : 2000 ≤ R.frames) (hRl : 80000 ≤ R.locals) (hRc : c1 + 14 ≤ R.cells) (hRs : s1 + 846 ≤ R.slots) (a0 a1 a2 a3 a4 a5 a6 a7 a8 a9 a10 : Nat) (u0_1 u0_2 u0_3 u0_4 u0_5 u0_6 u0_7 u0_8 u0_9 u1_2 u1_4 u2_2 u2_3 u2_4 u2_5 u3_1 u3_5 u8_1 u8_2 u8_3 u8_4 u8_5 u8_6 u8_8 u8_9 u8_10 u8_11 u8_12 u8_13 u8_14 u8_15 u8_16 u8_17 u8_18 u8_19 u8_20 u8_21 u8_22 u8_23 u8_24 u8_25 u8_26 u8_27 u8_28 u8_29 u8_30 : Value) (x2_rows : Int32) (x2_columns : Int32) (x3_count : Int32) (y4_namesOn : Nat → Int32) (y5_direction : Nat → Int32) (y6_home : Nat → Int32) (y7_length : Nat → Int32) (x8_thrown : Int32) (y9_s : Nat → Int32) (y10_p : Nat → Int64) (o_x8_thrown : Int32) (o_y10_p : Nat → Int64) (hf : f_case_14 L xs i x2_rows x2_columns x3_count y4_namesOn y5_direction y6_home y7_length x8_thrown y9_s y10_p = some (o_x8_thrown, o_y10_p)) (hP : va_P g.1 vwCl (w_case_14 g a0 a1 a2 a3 a4 a5 a6 a7 a8 a9 a10 u0_1 u0_2 u0_3 u0_4 u0_5 u0_6 u0_7 u0_8 u0_9 u1_2 u1_4 u2_2 u2_3 u2_4 u2_5 u3_1 u3_5 u8_1 u8_2 u8_3 u8_4 u8_5 u8_6 u8_8 u8_9 u8_10 u8_11 u8_12 u8_13 u8_14 u8_15 u8_16 u8_17 u8_18 u8_19 u8_20 u8_21 u8_22 u8_23 u8_24 u8_25 u8_26 u8_27 u8_28 u8_29 u8_30 x2_rows x2_columns x3_count y4_namesOn y5_direction y6_home y7_length x8_thrown y9_s y10_p ++ pl) H) (hD : va_D A (w_case_14 g a0 a1 a2 a3 a4 a5 a6 a7 a8 a9 a10 u0_1 u0_2 u0_3 u0_4 u0_5 u0_6 u0_7 u0_8 u0_9 u1_2 u1_4 u2_2 u2_3 u2_4 u2_5 u3_1 u3_5 u8_1 u8_2 u8_3 u8_4 u8_5 u8_6 u8_8 u8_9 u8_10 u8_11 u8_12 u8_13 u8_14 u8_15 u8_16 u8_17 u8_18 u8_19 u8_20 u8_21 u8_22 u8_23 u8_24 u8_25 u8_26 u8_27 u8_28 u8_29 u8_30 x2_rows x2_columns x3_count y4_namesOn y5_direction y6_home y7_length x8_thrown y9_s y10_p ++ pl)) (hS : va_S A s.heap H locs) (hl : lv_has ls 9 [(0, .ref sb), (1, .ref a0), (2, .ref a8), (3, .ref a10), (4, .int i)]) (kk : ∀ (H : Heap) (locs : List Loc) (ls : Array Slot), va_P g.1 vwCl (w_case_14 g a0 a1 a2 a3 a4 a5 a6 a7 a8 a9 a10 u0_1 u0_2 u0_3 u0_4 u0_5 u0_6 u0_7 u0_8 u0_9 u1_2 u1_4 u2_2 u2_3 u2_4 u2_5 u3_1 u3_5 u8_1 u8_2 u8_3 u8_4 u8_5 u8_6 u8_8 u8_9 u8_10 u8_11 u8_12 u8_13 u8_14 u8_15 u8_16 u8_17 u8_18 u8_19 u8_20 u8_21 u8_22 u8_23 u8_24 u8_25 u8_26 u8_27 u8_28 u8_29 u8_30 x2_rows x2_columns x3_count y4_namesOn y5_direction y6_home y7_length o_x8_thrown y9_s o_y10_p ++ pl) H → va_D A (w_case_14 g a0 a1 a2 a3 a4 a5 a6 a7 a8 a9 a10 u0_1 u0_2 u0_3 u0_4 u0_5 u0_6 u0_7 u0_8 u0_9 u1_2 u1_4 u2_2 u2_3 u2_4 u2_5 u3_1 u3_5 u8_1 u8_2 u8_3 u8_4 u8_5 u8_6 u8_8 u8_9 u8_10 u8_11 u8_12 u8_13 u8_14 u8_15 u8_16 u8_17 u8_18 u8_19 u8_20 u8_21 u8_22 u8_23 u8_24 u8_25 u8_26 u8_27 u8_28 u8_29 u8_30 x2_rows x2_columns x3_count y4_namesOn y5_direction y6_home y7_length o_x8_thrown y9_s o_y10_p ++ pl) → va_S A s.heap H locs → lv_has ls 9 [(0, .ref sb), (1, .ref a0), (2, .ref a8), (3, .ref a10), (4, .int i)] → W p l e R s m args below meth c H locs (c1 + 14) (s1 + 846) Q (F0 m 2565 ls [])) : W p l e R s m args below meth c H locs c1 s1 Q (F0 m 910 ls []) := by
  unfold f_case_14 at hf
  refine lv_aload_n (pc := 910) hexec hb dL_law_910 rfl (lv_at hl 1 rfl) ?_
  refine lv_aload_n (pc := 911) hexec hb dL_law_911 rfl (lv_at hl 0 rfl) ?_
  refine lv_iload (pc := 912) hexec hb dL_law_912 (lv_at hl 4 rfl) ?_
  refine lv_iconst (pc := 914) hexec hb dL_law_914 ki_1 ?_
  refine lv_iadd (pc := 915) hexec hb dL_law_915 ?_
  refine k_scr (pc := 916) hexec hb hX hbl hbA hS hf dL_law_916 (fun hf => ?_)
  refine lv_aload_n (pc := 917) hexec hb dL_law_917 rfl (lv_at hl 3 rfl) ?_
  obtain ⟨jh918, ejh918, hf⟩ := bvf2 hf
  have hjh918 : ∀ (k918 : Int32) (y10_p_1 : Nat → Int64) (H : Heap) (locs : List Loc) (ls : Array Slot), jh918 k918 y10_p_1 = some (o_x8_thrown, o_y10_p) → va_P g.1 vwCl (w_case_14 g a0 a1 a2 a3 a4 a5 a6 a7 a8 a9 a10 u0_1 u0_2 u0_3 u0_4 u0_5 u0_6 u0_7 u0_8 u0_9 u1_2 u1_4 u2_2 u2_3 u2_4 u2_5 u3_1 u3_5 u8_1 u8_2 u8_3 u8_4 u8_5 u8_6 u8_8 u8_9 u8_10 u8_11 u8_12 u8_13 u8_14 u8_15 u8_16 u8_17 u8_18 u8_19 u8_20 u8_21 u8_22 u8_23 u8_24 u8_25 u8_26 u8_27 u8_28 u8_29 u8_30 x2_rows x2_columns x3_count y4_namesOn y5_direction y6_home y7_length x8_thrown y9_s y10_p_1 ++ pl) H → va_D A (w_case_14 g a0 a1 a2 a3 a4 a5 a6 a7 a8 a9 a10 u0_1 u0_2 u0_3 u0_4 u0_5 u0_6 u0_7 u0_8 u0_9 u1_2 u1_4 u2_2 u2_3 u2_4 u2_5 u3_1 u3_5 u8_1 u8_2 u8_3 u8_4 u8_5 u8_6 u8_8 u8_9 u8_10 u8_11 u8_12 u8_13 u8_14 u8_15 u8_16 u8_17 u8_18 u8_19 u8_20 u8_21 u8_22 u8_23 u8_24 u8_25 u8_26 u8_27 u8_28 u8_29 u8_30 x2_rows x2_columns x3_count y4_namesOn y5_direction y6_home y7_length x8_thrown y9_s y10_p_1 ++ pl) → va_S A s.heap H locs → lv_has ls 9 [(0, .ref sb), (1, .ref a0), (2, .ref a8), (3, .ref a10), (4, .int i)] → W p l e R s m args below meth c H locs (c1 + 14) (s1 + 846) Q (F0 m 921 ls [.int k918]) := by
    intro k918 y10_p_1 H locs ls hf hP hD hS hl
    have hf := (ejh918 k918 y10_p_1).symm.trans hf
    refine lv_istore (pc := 921) hexec hb dL_law_921 hl (nle rfl) rfl (fun ls (hl : lv_has ls 9 [(5, .int k918), (0, .ref sb), (1, .ref a0), (2, .ref a8), (3, .ref a10), (4, .int i)]) => ?_)
    refine lv_aload_n (pc := 923) hexec hb dL_law_923 rfl (lv_at hl 3 rfl) ?_
    refine lv_aload_n (pc := 924) hexec hb dL_law_924 rfl (lv_at hl 1 rfl) ?_
    refine lv_iload (pc := 925) hexec hb dL_law_925 (lv_at hl 5 rfl) ?_
    refine lv_iconst (pc := 927) hexec hb dL_law_927 ki_1 ?_
    refine lv_iadd (pc := 928) hexec hb dL_law_928 ?_
    refine k_scr (pc := 929) hexec hb hX hbl hbA hS hf dL_law_929 (fun hf => ?_)
    obtain ⟨r930, x8_thrown_1, hc, hf⟩ := bd2_e hf
    refine kVLt (pc := 930) (S := ⟨hexec, hb, hml, hown, hts⟩) hP hD hG hA hS [8, 9] [0, 1, 2, 3, 4, 5, 6, 7, 10] rfl rfl rfl (me_of_mi (c_X9_crossed l g a8 a9 _ u8_1 u8_2 u8_3 u8_4 u8_5 u8_6 u8_8 u8_9 u8_10 u8_11 u8_12 u8_13 u8_14 u8_15 u8_16 u8_17 u8_18 u8_19 u8_20 u8_21 u8_22 u8_23 u8_24 u8_25 u8_26 u8_27 u8_28 u8_29 u8_30 x8_thrown y9_s (xs (i + 1).toNatClampNeg) r930 x8_thrown_1 hc)) gL_law_X9_crossed rfl hq_X9_crossed ⟨by omega, by omega⟩ 9 0 rfl rfl rfl (rest := []) rfl rfl hl.1 (nle rfl) dL_law_930 ⟨by omega, by omega⟩ (fun w1 H locs hF1 hP hD hS => ?_)
    subst hF1
    have hP := lbk hP [0, 1, 2, 3, 4, 5, 6, 7, 9, 10, 8] (X := (w_case_14 g a0 a1 a2 a3 a4 a5 a6 a7 a8 a9 a10 u0_1 u0_2 u0_3 u0_4 u0_5 u0_6 u0_7 u0_8 u0_9 u1_2 u1_4 u2_2 u2_3 u2_4 u2_5 u3_1 u3_5 u8_1 u8_2 u8_3 u8_4 u8_5 u8_6 u8_8 u8_9 u8_10 u8_11 u8_12 u8_13 u8_14 u8_15 u8_16 u8_17 u8_18 u8_19 u8_20 u8_21 u8_22 u8_23 u8_24 u8_25 u8_26 u8_27 u8_28 u8_29 u8_30 x2_rows x2_columns x3_count y4_namesOn y5_direction y6_home y7_length x8_thrown_1 y9_s y10_p_1)) rfl
    have hD := lbkD hD [0, 1, 2, 3, 4, 5, 6, 7, 9, 10, 8] (X := (w_case_14 g a0 a1 a2 a3 a4 a5 a6 a7 a8 a9 a10 u0_1 u0_2 u0_3 u0_4 u0_5 u0_6 u0_7 u0_8 u0_9 u1_2 u1_4 u2_2 u2_3 u2_4 u2_5 u3_1 u3_5 u8_1 u8_2 u8_3 u8_4 u8_5 u8_6 u8_8 u8_9 u8_10 u8_11 u8_12 u8_13 u8_14 u8_15 u8_16 u8_17 u8_18 u8_19 u8_20 u8_21 u8_22 u8_23 u8_24 u8_25 u8_26 u8_27 u8_28 u8_29 u8_30 x2_rows x2_columns x3_count y4_namesOn y5_direction y6_home y7_length x8_thrown_1 y9_s y10_p_1)) rfl rfl
    refine W.widen (k := c1 + 14) (n := s1 + 846) (by omega) (by omega) ?_
    refine lv_istore (pc := 933) hexec hb dL_law_933 hl (nle rfl) rfl (fun ls (hl : lv_has ls 9 [(6, .int r930), (5, .int k918), (0, .ref sb), (1, .ref a0), (2, .ref a8), (3, .ref a10), (4, .int i)]) => ?_)
    refine lv_aload_n (pc := 935) hexec hb dL_law_935 rfl (lv_at hl 4 rfl) ?_
    obtain ⟨r936, hc, hf⟩ := bd1_e hf
    refine kVLt (pc := 936) (S := ⟨hexec, hb, hml, hown, hts⟩) hP hD hG hA hS [8] [0, 1, 2, 3, 4, 5, 6, 7, 9, 10] rfl rfl rfl (me_of_mi (c_X9_thrown l g a8 _ (.ref a9) u8_1 u8_2 u8_3 u8_4 u8_5 u8_6 u8_8 u8_9 u8_10 u8_11 u8_12 u8_13 u8_14 u8_15 u8_16 u8_17 u8_18 u8_19 u8_20 u8_21 u8_22 u8_23 u8_24 u8_25 u8_26 u8_27 u8_28 u8_29 u8_30 x8_thrown_1 r936 hc)) gL_law_X9_thrown rfl hq_X9_thrown ⟨by omega, by omega⟩ 9 0 rfl rfl rfl (rest := []) rfl rfl hl.1 (nle rfl) dL_law_936 ⟨by omega, by omega⟩ (fun w1 H locs hF1 hP hD hS => ?_)
    subst hF1
    have hP := lbk hP [0, 1, 2, 3, 4, 5, 6, 7, 10, 8, 9] (X := (w_case_14 g a0 a1 a2 a3 a4 a5 a6 a7 a8 a9 a10 u0_1 u0_2 u0_3 u0_4 u0_5 u0_6 u0_7 u0_8 u0_9 u1_2 u1_4 u2_2 u2_3 u2_4 u2_5 u3_1 u3_5 u8_1 u8_2 u8_3 u8_4 u8_5 u8_6 u8_8 u8_9 u8_10 u8_11 u8_12 u8_13 u8_14 u8_15 u8_16 u8_17 u8_18 u8_19 u8_20 u8_21 u8_22 u8_23 u8_24 u8_25 u8_26 u8_27 u8_28 u8_29 u8_30 x2_rows x2_columns x3_count y4_namesOn y5_direction y6_home y7_length x8_thrown_1 y9_s y10_p_1)) rfl
    have hD := lbkD hD [0, 1, 2, 3, 4, 5, 6, 7, 10, 8, 9] (X := (w_case_14 g a0 a1 a2 a3 a4 a5 a6 a7 a8 a9 a10 u0_1 u0_2 u0_3 u0_4 u0_5 u0_6 u0_7 u0_8 u0_9 u1_2 u1_4 u2_2 u2_3 u2_4 u2_5 u3_1 u3_5 u8_1 u8_2 u8_3 u8_4 u8_5 u8_6 u8_8 u8_9 u8_10 u8_11 u8_12 u8_13 u8_14 u8_15 u8_16 u8_17 u8_18 u8_19 u8_20 u8_21 u8_22 u8_23 u8_24 u8_25 u8_26 u8_27 u8_28 u8_29 u8_30 x2_rows x2_columns x3_count y4_namesOn y5_direction y6_home y7_length x8_thrown_1 y9_s y10_p_1)) rfl rfl
    refine W.widen (k := c1 + 14) (n := s1 + 846) (by omega) (by omega) ?_
    refine lv_iload (pc := 939) hexec hb dL_law_939 (lv_at hl 1 rfl) ?_
    refine ki_eq (pc := 941) hexec hb dL_law_941 (tgt := 946) rfl hf (fun hc hf => ?_) (fun hc hf => ?_)
    · refine lv_iload (pc := 946) hexec hb dL_law_946 (lv_at hl 1 rfl) ?_
      obtain ⟨j963, ej963, hf⟩ := bvf1 hf
      have hj963 : ∀ (u : Unit) (H : Heap) (locs : List Loc) (ls : Array Slot), j963 u = some (o_x8_thrown, o_y10_p) → va_P g.1 vwCl (w_case_14 g a0 a1 a2 a3 a4 a5 a6 a7 a8 a9 a10 u0_1 u0_2 u0_3 u0_4 u0_5 u0_6 u0_7 u0_8 u0_9 u1_2 u1_4 u2_2 u2_3 u2_4 u2_5 u3_1 u3_5 u8_1 u8_2 u8_3 u8_4 u8_5 u8_6 u8_8 u8_9 u8_10 u8_11 u8_12 u8_13 u8_14 u8_15 u8_16 u8_17 u8_18 u8_19 u8_20 u8_21 u8_22 u8_23 u8_24 u8_25 u8_26 u8_27 u8_28 u8_29 u8_30 x2_rows x2_columns x3_count y4_namesOn y5_direction y6_home y7_length x8_thrown_1 y9_s y10_p_1 ++ pl) H → va_D A (w_case_14 g a0 a1 a2 a3 a4 a5 a6 a7 a8 a9 a10 u0_1 u0_2 u0_3 u0_4 u0_5 u0_6 u0_7 u0_8 u0_9 u1_2 u1_4 u2_2 u2_3 u2_4 u2_5 u3_1 u3_5 u8_1 u8_2 u8_3 u8_4 u8_5 u8_6 u8_8 u8_9 u8_10 u8_11 u8_12 u8_13 u8_14 u8_15 u8_16 u8_17 u8_18 u8_19 u8_20 u8_21 u8_22 u8_23 u8_24 u8_25 u8_26 u8_27 u8_28 u8_29 u8_30 x2_rows x2_columns x3_count y4_namesOn y5_direction y6_home y7_length x8_thrown_1 y9_s y10_p_1 ++ pl) → va_S A s.heap H locs → lv_has ls 9 [(0, .ref sb), (1, .ref a0), (2, .ref a8), (3, .ref a10), (4, .int i)] → W p l e R s m args below meth c H locs (c1 + 14) (s1 + 846) Q (F0 m 963 ls []) := by
        intro u H locs ls hf hP hD hS hl
        have hf := (ej963 u).symm.trans hf
        refine lv_goto (pc := 963) hexec hb dL_law_963 (tgt := 2565) rfl ?_
        cases hf
        exact W.widen (by omega) (by omega) (kk _ _ _ hP hD hS (lv_sub hl [0, 1, 2, 3, 4] rfl))
      refine kb_ne (pc := 948) hexec hb dL_law_948 (tgt := 963) rfl hf (fun hc hf => ?_) (fun hc hf => ?_)
      · exact hj963 _ _ _ _ hf hP hD hS (lv_sub hl [2, 3, 4, 5, 6] rfl)
      · refine lv_aload_n (pc := 951) hexec hb dL_law_951 rfl (lv_at hl 5 rfl) ?_
        refine lv_iconst (pc := 952) hexec hb dL_law_952 ki_0 ?_
        refine kr_lald (pc := 953) hexec hb hG hP 10 rfl hf dL_law_953 (fun hf => ?_)
        refine lv_iload (pc := 954) hexec hb dL_law_954 (lv_at hl 0 rfl) ?_
        refine lv_i2l (pc := 956) hexec hb dL_law_956 rfl ?_
        refine kc_lcmp (pc := 957) hexec hb dL_law_957 ?_
        refine kb_eq (pc := 958) hexec hb dL_law_958 (tgt := 963) rfl hf (fun hc hf => ?_) (fun hc hf => ?_)
        · exact hj963 _ _ _ _ hf hP hD hS (lv_sub hl [2, 3, 4, 5, 6] rfl)
        · cases hf
    · cases hf
  cases hT : t_X8_crossed x2_rows x2_columns x3_count y4_namesOn y5_direction y6_home y7_length (xs (i + 1).toNatClampNeg) with
  | some cls =>
    rw [hT] at hf
    rcases ite_or hf with ⟨hcl, hf⟩ | ⟨hcl, hf⟩
    · subst hcl
      refine kSLt (pc := 918) (S := ⟨hexec, hb, hml, hown, hts⟩) hP hD hG hA hS [0, 1, 2, 3, 4, 5, 6, 7] [8, 9, 10] rfl rfl rfl (me_of_mh (hx_L_crossed_o l hlt g a0 a1 a2 a3 a4 a5 a6 a7 a10 _ u0_1 u0_2 u0_3 u0_4 u0_5 u0_6 u0_7 u0_8 u0_9 u1_2 u1_4 u2_2 u2_3 u2_4 u2_5 u3_1 u3_5 x2_rows x2_columns x3_count y4_namesOn y5_direction y6_home y7_length (xs (i + 1).toNatClampNeg) hT)) gL_law_L_crossed rfl hq_L_crossed ⟨by omega, by omega⟩ (rest := []) rfl rfl hl.1 (nle rfl) dL_law_918 ⟨by omega, by omega⟩ (fun w1 H locs hF1 hP hD hS => ?_)
      subst hF1
      have hP := lbk hP [3, 4, 5, 6, 7, 8, 9, 10, 0, 1, 2] (X := (w_case_14 g a0 a1 a2 a3 a4 a5 a6 a7 a8 a9 a10 u0_1 u0_2 u0_3 u0_4 u0_5 u0_6 u0_7 u0_8 u0_9 u1_2 u1_4 u2_2 u2_3 u2_4 u2_5 u3_1 u3_5 u8_1 u8_2 u8_3 u8_4 u8_5 u8_6 u8_8 u8_9 u8_10 u8_11 u8_12 u8_13 u8_14 u8_15 u8_16 u8_17 u8_18 u8_19 u8_20 u8_21 u8_22 u8_23 u8_24 u8_25 u8_26 u8_27 u8_28 u8_29 u8_30 x2_rows x2_columns x3_count y4_namesOn y5_direction y6_home y7_length x8_thrown y9_s y10_p)) rfl
      have hD := lbkD hD [3, 4, 5, 6, 7, 8, 9, 10, 0, 1, 2] (X := (w_case_14 g a0 a1 a2 a3 a4 a5 a6 a7 a8 a9 a10 u0_1 u0_2 u0_3 u0_4 u0_5 u0_6 u0_7 u0_8 u0_9 u1_2 u1_4 u2_2 u2_3 u2_4 u2_5 u3_1 u3_5 u8_1 u8_2 u8_3 u8_4 u8_5 u8_6 u8_8 u8_9 u8_10 u8_11 u8_12 u8_13 u8_14 u8_15 u8_16 u8_17 u8_18 u8_19 u8_20 u8_21 u8_22 u8_23 u8_24 u8_25 u8_26 u8_27 u8_28 u8_29 u8_30 x2_rows x2_columns x3_count y4_namesOn y5_direction y6_home y7_length x8_thrown y9_s y10_p)) rfl rfl
      exact W.widen (by omega) (by omega) (hjh918 _ _ _ _ _ hf hP hD hS (lv_sub hl [0, 1, 2, 3, 4] rfl))
    cases hf
  | none =>
    rw [hT] at hf
    obtain ⟨r918, hc, hf⟩ := bd1_e hf
    refine kSLt (pc := 918) (S := ⟨hexec, hb, hml, hown, hts⟩) hP hD hG hA hS [0, 1, 2, 3, 4, 5, 6, 7, 10] [8, 9] rfl rfl rfl (me_of_mh (h_L_crossed l g a0 a1 a2 a3 a4 a5 a6 a7 a10 _ u0_1 u0_2 u0_3 u0_4 u0_5 u0_6 u0_7 u0_8 u0_9 u1_2 u1_4 u2_2 u2_3 u2_4 u2_5 u3_1 u3_5 x2_rows x2_columns x3_count y4_namesOn y5_direction y6_home y7_length y10_p (xs (i + 1).toNatClampNeg) r918 hc)) gL_law_L_crossed rfl hq_L_crossed ⟨by omega, by omega⟩ (rest := []) rfl rfl hl.1 (nle rfl) dL_law_918 ⟨by omega, by omega⟩ (fun w1 H locs hF1 hP hD hS => ?_)
    subst hF1
    have hP := lbk hP [2, 3, 4, 5, 6, 7, 8, 9, 0, 1, 10] (X := (w_case_14 g a0 a1 a2 a3 a4 a5 a6 a7 a8 a9 a10 u0_1 u0_2 u0_3 u0_4 u0_5 u0_6 u0_7 u0_8 u0_9 u1_2 u1_4 u2_2 u2_3 u2_4 u2_5 u3_1 u3_5 u8_1 u8_2 u8_3 u8_4 u8_5 u8_6 u8_8 u8_9 u8_10 u8_11 u8_12 u8_13 u8_14 u8_15 u8_16 u8_17 u8_18 u8_19 u8_20 u8_21 u8_22 u8_23 u8_24 u8_25 u8_26 u8_27 u8_28 u8_29 u8_30 x2_rows x2_columns x3_count y4_namesOn y5_direction y6_home y7_length x8_thrown y9_s (vp_updL y10_p (0 : Int32).toNatClampNeg r918.toInt64))) rfl
    have hD := lbkD hD [2, 3, 4, 5, 6, 7, 8, 9, 0, 1, 10] (X := (w_case_14 g a0 a1 a2 a3 a4 a5 a6 a7 a8 a9 a10 u0_1 u0_2 u0_3 u0_4 u0_5 u0_6 u0_7 u0_8 u0_9 u1_2 u1_4 u2_2 u2_3 u2_4 u2_5 u3_1 u3_5 u8_1 u8_2 u8_3 u8_4 u8_5 u8_6 u8_8 u8_9 u8_10 u8_11 u8_12 u8_13 u8_14 u8_15 u8_16 u8_17 u8_18 u8_19 u8_20 u8_21 u8_22 u8_23 u8_24 u8_25 u8_26 u8_27 u8_28 u8_29 u8_30 x2_rows x2_columns x3_count y4_namesOn y5_direction y6_home y7_length x8_thrown y9_s (vp_updL y10_p (0 : Int32).toNatClampNeg r918.toInt64))) rfl rfl
    exact W.widen (by omega) (by omega) (hjh918 _ _ _ _ _ hf hP hD hS (lv_sub hl [0, 1, 2, 3, 4] rfl))
end LAWC
