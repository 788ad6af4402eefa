section LAWC
variable {p : Program} {l : Launch} {e : Env} {R : Room} {s : State} {m : MethodId} {args : Array Value} {below : List Frame} {meth : Method} {c : Code} {H : Heap} {locs : List Loc} {c1 s1 : Nat} {Q : State → Prop} {ls : Array Slot} {A : Nat → Prop} {g : GE} {sb L : Nat} {xs : Nat → Int32} {i : Int32} {pl : va_W}
abbrev w_case_46 (g : GE) (a0 a1 a2 a3 a4 a5 a6 a7 a8 a9 a10 a11 a12 a13 : Nat) (u0_1 u0_2 u0_3 u0_4 u0_5 u0_6 u0_9 u2_2 u3_2 u3_5 u4_3 u4_4 u4_5 u10_1 u10_2 u10_3 u10_4 u10_5 u10_6 u10_8 u10_9 u10_10 u10_11 u10_12 u10_13 u10_14 u10_15 u10_16 u10_17 u10_18 u10_19 u10_20 u10_21 u10_22 u10_23 u10_24 u10_25 u10_26 u10_27 u10_28 : Value) (x0_outputLength : Int32) (y1_output : Nat → Int32) (x3_rows : Int32) (x3_columns : Int32) (x4_count : Int32) (x4_reds : Int32) (y5_letterOn : Nat → Int32) (y6_namesOn : Nat → Int32) (y7_land : Nat → Int32) (y8_riverOf : Nat → Int32) (y9_home : Nat → Int32) (x10_thrown : Int32) (x10_written : Int32) (y11_output : Nat → Int32) (y12_s : Nat → Int32) (y13_p : Nat → Int64) : va_W := [(a0, .inr (8, [.ref a2, u0_1, u0_2, u0_3, u0_4, u0_5, u0_6, .ref a1, .int x0_outputLength, u0_9])), (a1, .inl (g.2.1 0, 12, .inl y1_output)), (a2, .inr (6, [.ref a3, .ref a4, u2_2, .ref a6, .ref a5])), (a3, .inr (1, [.int x3_rows, .int x3_columns, u3_2, .ref a7, .ref a8, u3_5])), (a4, .inr (2, [.int x4_count, .int x4_reds, .ref a9, u4_3, u4_4, u4_5])), (a5, .inl (g.2.1 0, 144, .inl y5_letterOn)), (a6, .inl (g.2.1 0, 144, .inl y6_namesOn)), (a7, .inl (g.2.1 1, 144, .inl y7_land)), (a8, .inl (g.2.1 0, 144, .inl y8_riverOf)), (a9, .inl (g.2.1 0, 8, .inl y9_home)), (a10, .inr (9, [.ref a12, u10_1, u10_2, u10_3, u10_4, u10_5, u10_6, .int x10_thrown, u10_8, u10_9, u10_10, u10_11, u10_12, u10_13, u10_14, u10_15, u10_16, u10_17, u10_18, u10_19, u10_20, u10_21, u10_22, u10_23, u10_24, u10_25, u10_26, u10_27, u10_28, .ref a11, .int x10_written])), (a11, .inl (g.2.1 0, 12, .inl y11_output)), (a12, .inl (g.2.1 0, 552, .inl y12_s)), (a13, .inl (g.2.1 3, 1, .inr (.inl y13_p)))]
noncomputable def f_case_46 (L : Nat) (xs : Nat → Int32) (i : Int32) (x0_outputLength : Int32) (y1_output : Nat → Int32) (x3_rows : Int32) (x3_columns : Int32) (x4_count : Int32) (x4_reds : Int32) (y5_letterOn : Nat → Int32) (y6_namesOn : Nat → Int32) (y7_land : Nat → Int32) (y8_riverOf : Nat → Int32) (y9_home : Nat → Int32) (x10_thrown : Int32) (x10_written : Int32) (y11_output : Nat → Int32) (y12_s : Nat → Int32) (y13_p : Nat → Int64) : Option (Int32 × (Nat → Int32) × Int32 × Int32 × (Nat → Int32) × (Nat → Int64)) :=
  ar (i + 1) L <|
  bv (fun (k2367 : Int32) (y13_p_1 : Nat → Int64) (x0_outputLength_2 : Int32) (y1_output_2 : Nat → Int32) => ((
    ar (i + 1) L <|
    bd4 (f_X9_writeRow x10_thrown x10_written y11_output y12_s (xs (i + 1).toNatClampNeg)) fun (r2379 : Int32) (x10_thrown_1 : Int32) (x10_written_1 : Int32) (y11_output_1 : Nat → Int32) =>
    bd1 (f_X9_thrown x10_thrown_1) fun (r2385 : Int32) =>
    (if r2385 = k2367 then (
      bv (fun (_ : Unit) => ((
        some (x0_outputLength_2, y1_output_2, x10_thrown_1, x10_written_1, y11_output_1, y13_p_1)
        ) : Option (Int32 × (Nat → Int32) × Int32 × Int32 × (Nat → Int32) × (Nat → Int64)))) fun j2412 =>
      (if k2367 = 0 then (
        ar 0 1 <|
        (if (lg_cmp (y13_p_1 (0 : Int32).toNatClampNeg) (r2379.toInt64)) = 0 then (
          j2412 ()
        ) else (
          none
        ))
      ) else (
        j2412 ()
      ))
    ) else (
      none
    ))
    ) : Option (Int32 × (Nat → Int32) × Int32 × Int32 × (Nat → Int32) × (Nat → Int64)))) fun jh2367 =>
  match t_X8_writeRow x0_outputLength y1_output x3_rows x3_columns x4_count x4_reds y5_letterOn y6_namesOn y7_land y8_riverOf y9_home (xs (i + 1).toNatClampNeg) with
  | some cls =>
    (if cls = "java/lang/IndexOutOfBoundsException" then jh2367 1 y13_p x0_outputLength y1_output else
    none)
  | none =>
    bd3 (f_X8_writeRow x0_outputLength y1_output x3_rows x3_columns x4_count x4_reds y5_letterOn y6_namesOn y7_land y8_riverOf y9_home (xs (i + 1).toNatClampNeg)) fun (r2367 : Int32) (x0_outputLength_1 : Int32) (y1_output_1 : Nat → Int32) =>
    jh2367 0 (vp_updL y13_p (0 : Int32).toNatClampNeg r2367.toInt64) x0_outputLength_1 y1_output_1
set_option maxRecDepth 20000 in
theorem lc_46 (hlt : l.stackTraces = false) (hexec : p.tables.exec = Jvm.exec) (hb : c.code = cL_law) (hml : c.maxLocals = 9) (hown : s.vm.findClass RL = some m.cls) (hts : ∀ w ∈ wsL_law, w.before args s = true) (hG : GG g A s s.heap) (hA : ∀ q, s.heap.size ≤ q → A q) (hX : va_X sb L xs s s.heap) (hbl : sb < s.heap.size) (hbA : ¬ A sb) (hRf : 2000 ≤ R.frames) (hRl : 80000 ≤ R.locals) (hRc : c1 + 14 ≤ R.cells) (hRs : s1 + 846 ≤ R.slots) (a0 a1 a2 a3 a4 a5 a6 a7 a8 a9 a10 a11 a12 a13 : Nat) (u0_1 u0_2 u0_3 u0_4 u0_5 u0_6 u0_9 u2_2 u3_2 u3_5 u4_3 u4_4 u4_5 u10_1 u10_2 u10_3 u10_4 u10_5 u10_6 u10_8 u10_9 u10_10 u10_11 u10_12 u10_13 u10_14 u10_15 u10_16 u10_17 u10_18 u10_19 u10_20 u10_21 u10_22 u10_23 u10_24 u10_25 u10_26 u10_27 u10_28 : Value) (x0_outputLength : Int32) (y1_output : Nat → Int32) (x3_rows : Int32) (x3_columns : Int32) (x4_count : Int32) (x4_reds : Int32) (y5_letterOn : Nat → Int32) (y6_namesOn : Nat → Int32) (y7_land : Nat → Int32) (y8_riverOf : Nat → Int32) (y9_home : Nat → Int32) (x10_thrown : Int32) (x10_written : Int32) (y11_output : Nat → Int32) (y12_s : Nat → Int32) (y13_p : Nat → Int64) (o_x0_outputLength : Int32) (o_y1_output : Nat → Int32) (o_x10_thrown : Int32) (o_x10_written : Int32) (o_y11_output : Nat → Int32) (o_y13_p : Nat → Int64) (hf : f_case_46 L xs i x0_outputLength y1_output x3_rows x3_columns x4_count x4_reds y5_letterOn y6_namesOn y7_land y8_riverOf y9_home x10_thrown x10_written y11_output y12_s y13_p = some (o_x0_outputLength, o_y1_output, o_x10_thrown, o_x10_written, o_y11_output, o_y13_p)) (hP : va_P g.1 vwCl (w_case_46 g a0 a1 a2 a3 a4 a5 a6 a7 a8 a9 a10 a11 a12 a13 u0_1 u0_2 u0_3 u0_4 u0_5 u0_6 u0_9 u2_2 u3_2 u3_5 u4_3 u4_4 u4_5 u10_1 u10_2 u10_3 u10_4 u10_5 u10_6 u10_8 u10_9 u10_10 u10_11 u10_12 u10_13 u10_14 u10_15 u10_16 u10_17 u10_18 u10_19 u10_20 u10_21 u10_22 u10_23 u10_24 u10_25 u10_26 u10_27 u10_28 x0_outputLength y1_output x3_rows x3_columns x4_count x4_reds y5_letterOn y6_namesOn y7_land y8_riverOf y9_home x10_thrown x10_written y11_output y12_s y13_p ++ pl) H) (hD : va_D A (w_case_46 g a0 a1 a2 a3 a4 a5 a6 a7 a8 a9 a10 a11 a12 a13 u0_1 u0_2 u0_3 u0_4 u0_5 u0_6 u0_9 u2_2 u3_2 u3_5 u4_3 u4_4 u4_5 u10_1 u10_2 u10_3 u10_4 u10_5 u10_6 u10_8 u10_9 u10_10 u10_11 u10_12 u10_13 u10_14 u10_15 u10_16 u10_17 u10_18 u10_19 u10_20 u10_21 u10_22 u10_23 u10_24 u10_25 u10_26 u10_27 u10_28 x0_outputLength y1_output x3_rows x3_columns x4_count x4_reds y5_letterOn y6_namesOn y7_land y8_riverOf y9_home x10_thrown x10_written y11_output y12_s y13_p ++ pl)) (hS : va_S A s.heap H locs) (hl : lv_has ls 9 [(0, .ref sb), (1, .ref a0), (2, .ref a10), (3, .ref a13), (4, .int i)]) (kk : ∀ (H : Heap) (locs : List Loc) (ls : Array Slot), va_P g.1 vwCl (w_case_46 g a0 a1 a2 a3 a4 a5 a6 a7 a8 a9 a10 a11 a12 a13 u0_1 u0_2 u0_3 u0_4 u0_5 u0_6 u0_9 u2_2 u3_2 u3_5 u4_3 u4_4 u4_5 u10_1 u10_2 u10_3 u10_4 u10_5 u10_6 u10_8 u10_9 u10_10 u10_11 u10_12 u10_13 u10_14 u10_15 u10_16 u10_17 u10_18 u10_19 u10_20 u10_21 u10_22 u10_23 u10_24 u10_25 u10_26 u10_27 u10_28 o_x0_outputLength o_y1_output x3_rows x3_columns x4_count x4_reds y5_letterOn y6_namesOn y7_land y8_riverOf y9_home o_x10_thrown o_x10_written o_y11_output y12_s o_y13_p ++ pl) H → va_D A (w_case_46 g a0 a1 a2 a3 a4 a5 a6 a7 a8 a9 a10 a11 a12 a13 u0_1 u0_2 u0_3 u0_4 u0_5 u0_6 u0_9 u2_2 u3_2 u3_5 u4_3 u4_4 u4_5 u10_1 u10_2 u10_3 u10_4 u10_5 u10_6 u10_8 u10_9 u10_10 u10_11 u10_12 u10_13 u10_14 u10_15 u10_16 u10_17 u10_18 u10_19 u10_20 u10_21 u10_22 u10_23 u10_24 u10_25 u10_26 u10_27 u10_28 o_x0_outputLength o_y1_output x3_rows x3_columns x4_count x4_reds y5_letterOn y6_namesOn y7_land y8_riverOf y9_home o_x10_thrown o_x10_written o_y11_output y12_s o_y13_p ++ pl) → va_S A s.heap H locs → lv_has ls 9 [(0, .ref sb), (1, .ref a0), (2, .ref a10), (3, .ref a13), (4, .int i)] → W p l e R s m args below meth c H locs (c1 + 14) (s1 + 846) Q (F0 m 2565 ls [])) : W p l e R s m args below meth c H locs c1 s1 Q (F0 m 2359 ls []) := by
  unfold f_case_46 at hf
  refine lv_aload_n (pc := 2359) hexec hb dL_law_2359 rfl (lv_at hl 1 rfl) ?_
  refine lv_aload_n (pc := 2360) hexec hb dL_law_2360 rfl (lv_at hl 0 rfl) ?_
  refine lv_iload (pc := 2361) hexec hb dL_law_2361 (lv_at hl 4 rfl) ?_
  refine lv_iconst (pc := 2363) hexec hb dL_law_2363 ki_1 ?_
  refine lv_iadd (pc := 2364) hexec hb dL_law_2364 ?_
  refine k_scr (pc := 2365) hexec hb hX hbl hbA hS hf dL_law_2365 (fun hf => ?_)
  refine lv_aload_n (pc := 2366) hexec hb dL_law_2366 rfl (lv_at hl 3 rfl) ?_
  obtain ⟨jh2367, ejh2367, hf⟩ := bvf4 hf
  have hjh2367 : ∀ (k2367 : Int32) (y13_p_1 : Nat → Int64) (x0_outputLength_2 : Int32) (y1_output_2 : Nat → Int32) (H : Heap) (locs : List Loc) (ls : Array Slot), jh2367 k2367 y13_p_1 x0_outputLength_2 y1_output_2 = some (o_x0_outputLength, o_y1_output, o_x10_thrown, o_x10_written, o_y11_output, o_y13_p) → va_P g.1 vwCl (w_case_46 g a0 a1 a2 a3 a4 a5 a6 a7 a8 a9 a10 a11 a12 a13 u0_1 u0_2 u0_3 u0_4 u0_5 u0_6 u0_9 u2_2 u3_2 u3_5 u4_3 u4_4 u4_5 u10_1 u10_2 u10_3 u10_4 u10_5 u10_6 u10_8 u10_9 u10_10 u10_11 u10_12 u10_13 u10_14 u10_15 u10_16 u10_17 u10_18 u10_19 u10_20 u10_21 u10_22 u10_23 u10_24 u10_25 u10_26 u10_27 u10_28 x0_outputLength_2 y1_output_2 x3_rows x3_columns x4_count x4_reds y5_letterOn y6_namesOn y7_land y8_riverOf y9_home x10_thrown x10_written y11_output y12_s y13_p_1 ++ pl) H → va_D A (w_case_46 g a0 a1 a2 a3 a4 a5 a6 a7 a8 a9 a10 a11 a12 a13 u0_1 u0_2 u0_3 u0_4 u0_5 u0_6 u0_9 u2_2 u3_2 u3_5 u4_3 u4_4 u4_5 u10_1 u10_2 u10_3 u10_4 u10_5 u10_6 u10_8 u10_9 u10_10 u10_11 u10_12 u10_13 u10_14 u10_15 u10_16 u10_17 u10_18 u10_19 u10_20 u10_21 u10_22 u10_23 u10_24 u10_25 u10_26 u10_27 u10_28 x0_outputLength_2 y1_output_2 x3_rows x3_columns x4_count x4_reds y5_letterOn y6_namesOn y7_land y8_riverOf y9_home x10_thrown x10_written y11_output y12_s y13_p_1 ++ pl) → va_S A s.heap H locs → lv_has ls 9 [(0, .ref sb), (1, .ref a0), (2, .ref a10), (3, .ref a13), (4, .int i)] → W p l e R s m args below meth c H locs (c1 + 14) (s1 + 846) Q (F0 m 2370 ls [.int k2367]) := by
    intro k2367 y13_p_1 x0_outputLength_2 y1_output_2 H locs ls hf hP hD hS hl
    have hf := (ejh2367 k2367 y13_p_1 x0_outputLength_2 y1_output_2).symm.trans hf
    refine lv_istore (pc := 2370) hexec hb dL_law_2370 hl (nle rfl) rfl (fun ls (hl : lv_has ls 9 [(5, .int k2367), (0, .ref sb), (1, .ref a0), (2, .ref a10), (3, .ref a13), (4, .int i)]) => ?_)
    refine lv_aload_n (pc := 2372) hexec hb dL_law_2372 rfl (lv_at hl 3 rfl) ?_
    refine lv_aload_n (pc := 2373) hexec hb dL_law_2373 rfl (lv_at hl 1 rfl) ?_
    refine lv_iload (pc := 2374) hexec hb dL_law_2374 (lv_at hl 5 rfl) ?_
    refine lv_iconst (pc := 2376) hexec hb dL_law_2376 ki_1 ?_
    refine lv_iadd (pc := 2377) hexec hb dL_law_2377 ?_
    refine k_scr (pc := 2378) hexec hb hX hbl hbA hS hf dL_law_2378 (fun hf => ?_)
    obtain ⟨r2379, x10_thrown_1, x10_written_1, y11_output_1, hc, hf⟩ := bd4_e hf
    refine kVLt (pc := 2379) (S := ⟨hexec, hb, hml, hown, hts⟩) hP hD hG hA hS [10, 11, 12] [0, 1, 2, 3, 4, 5, 6, 7, 8, 9, 13] rfl rfl rfl (me_of_mi (c_X9_writeRow l g a10 a11 a12 _ u10_1 u10_2 u10_3 u10_4 u10_5 u10_6 u10_8 u10_9 u10_10 u10_11 u10_12 u10_13 u10_14 u10_15 u10_16 u10_17 u10_18 u10_19 u10_20 u10_21 u10_22 u10_23 u10_24 u10_25 u10_26 u10_27 u10_28 x10_thrown x10_written y11_output y12_s (xs (i + 1).toNatClampNeg) r2379 x10_thrown_1 x10_written_1 y11_output_1 hc)) gL_law_X9_writeRow rfl hq_X9_writeRow ⟨by omega, by omega⟩ 9 0 rfl rfl rfl (rest := []) rfl rfl hl.1 (nle rfl) dL_law_2379 ⟨by omega, by omega⟩ (fun w1 H locs hF1 hP hD hS => ?_)
    subst hF1
    have hP := lbk hP [0, 1, 2, 3, 4, 5, 6, 7, 8, 9, 11, 12, 13, 10] (X := (w_case_46 g a0 a1 a2 a3 a4 a5 a6 a7 a8 a9 a10 a11 a12 a13 u0_1 u0_2 u0_3 u0_4 u0_5 u0_6 u0_9 u2_2 u3_2 u3_5 u4_3 u4_4 u4_5 u10_1 u10_2 u10_3 u10_4 u10_5 u10_6 u10_8 u10_9 u10_10 u10_11 u10_12 u10_13 u10_14 u10_15 u10_16 u10_17 u10_18 u10_19 u10_20 u10_21 u10_22 u10_23 u10_24 u10_25 u10_26 u10_27 u10_28 x0_outputLength_2 y1_output_2 x3_rows x3_columns x4_count x4_reds y5_letterOn y6_namesOn y7_land y8_riverOf y9_home x10_thrown_1 x10_written_1 y11_output_1 y12_s y13_p_1)) rfl
    have hD := lbkD hD [0, 1, 2, 3, 4, 5, 6, 7, 8, 9, 11, 12, 13, 10] (X := (w_case_46 g a0 a1 a2 a3 a4 a5 a6 a7 a8 a9 a10 a11 a12 a13 u0_1 u0_2 u0_3 u0_4 u0_5 u0_6 u0_9 u2_2 u3_2 u3_5 u4_3 u4_4 u4_5 u10_1 u10_2 u10_3 u10_4 u10_5 u10_6 u10_8 u10_9 u10_10 u10_11 u10_12 u10_13 u10_14 u10_15 u10_16 u10_17 u10_18 u10_19 u10_20 u10_21 u10_22 u10_23 u10_24 u10_25 u10_26 u10_27 u10_28 x0_outputLength_2 y1_output_2 x3_rows x3_columns x4_count x4_reds y5_letterOn y6_namesOn y7_land y8_riverOf y9_home x10_thrown_1 x10_written_1 y11_output_1 y12_s y13_p_1)) rfl rfl
    refine W.widen (k := c1 + 14) (n := s1 + 846) (by omega) (by omega) ?_
    refine lv_istore (pc := 2382) hexec hb dL_law_2382 hl (nle rfl) rfl (fun ls (hl : lv_has ls 9 [(6, .int r2379), (5, .int k2367), (0, .ref sb), (1, .ref a0), (2, .ref a10), (3, .ref a13), (4, .int i)]) => ?_)
    refine lv_aload_n (pc := 2384) hexec hb dL_law_2384 rfl (lv_at hl 4 rfl) ?_
    obtain ⟨r2385, hc, hf⟩ := bd1_e hf
    refine kVLt (pc := 2385) (S := ⟨hexec, hb, hml, hown, hts⟩) hP hD hG hA hS [10] [0, 1, 2, 3, 4, 5, 6, 7, 8, 9, 11, 12, 13] rfl rfl rfl (me_of_mi (c_X9_thrown l g a10 _ (.ref a12) u10_1 u10_2 u10_3 u10_4 u10_5 u10_6 u10_8 u10_9 u10_10 u10_11 u10_12 u10_13 u10_14 u10_15 u10_16 u10_17 u10_18 u10_19 u10_20 u10_21 u10_22 u10_23 u10_24 u10_25 u10_26 u10_27 u10_28 (.ref a11) (.int x10_written_1) x10_thrown_1 r2385 hc)) gL_law_X9_thrown rfl hq_X9_thrown ⟨by omega, by omega⟩ 9 0 rfl rfl rfl (rest := []) rfl rfl hl.1 (nle rfl) dL_law_2385 ⟨by omega, by omega⟩ (fun w1 H locs hF1 hP hD hS => ?_)
    subst hF1
    have hP := lbk hP [0, 1, 2, 3, 4, 5, 6, 7, 8, 9, 13, 10, 11, 12] (X := (w_case_46 g a0 a1 a2 a3 a4 a5 a6 a7 a8 a9 a10 a11 a12 a13 u0_1 u0_2 u0_3 u0_4 u0_5 u0_6 u0_9 u2_2 u3_2 u3_5 u4_3 u4_4 u4_5 u10_1 u10_2 u10_3 u10_4 u10_5 u10_6 u10_8 u10_9 u10_10 u10_11 u10_12 u10_13 u10_14 u10_15 u10_16 u10_17 u10_18 u10_19 u10_20 u10_21 u10_22 u10_23 u10_24 u10_25 u10_26 u10_27 u10_28 x0_outputLength_2 y1_output_2 x3_rows x3_columns x4_count x4_reds y5_letterOn y6_namesOn y7_land y8_riverOf y9_home x10_thrown_1 x10_written_1 y11_output_1 y12_s y13_p_1)) rfl
    have hD := lbkD hD [0, 1, 2, 3, 4, 5, 6, 7, 8, 9, 13, 10, 11, 12] (X := (w_case_46 g a0 a1 a2 a3 a4 a5 a6 a7 a8 a9 a10 a11 a12 a13 u0_1 u0_2 u0_3 u0_4 u0_5 u0_6 u0_9 u2_2 u3_2 u3_5 u4_3 u4_4 u4_5 u10_1 u10_2 u10_3 u10_4 u10_5 u10_6 u10_8 u10_9 u10_10 u10_11 u10_12 u10_13 u10_14 u10_15 u10_16 u10_17 u10_18 u10_19 u10_20 u10_21 u10_22 u10_23 u10_24 u10_25 u10_26 u10_27 u10_28 x0_outputLength_2 y1_output_2 x3_rows x3_columns x4_count x4_reds y5_letterOn y6_namesOn y7_land y8_riverOf y9_home x10_thrown_1 x10_written_1 y11_output_1 y12_s y13_p_1)) rfl rfl
    refine W.widen (k := c1 + 14) (n := s1 + 846) (by omega) (by omega) ?_
    refine lv_iload (pc := 2388) hexec hb dL_law_2388 (lv_at hl 1 rfl) ?_
    refine ki_eq (pc := 2390) hexec hb dL_law_2390 (tgt := 2395) rfl hf (fun hc hf => ?_) (fun hc hf => ?_)
    · refine lv_iload (pc := 2395) hexec hb dL_law_2395 (lv_at hl 1 rfl) ?_
      obtain ⟨j2412, ej2412, hf⟩ := bvf1 hf
      have hj2412 : ∀ (u : Unit) (H : Heap) (locs : List Loc) (ls : Array Slot), j2412 u = some (o_x0_outputLength, o_y1_output, o_x10_thrown, o_x10_written, o_y11_output, o_y13_p) → va_P g.1 vwCl (w_case_46 g a0 a1 a2 a3 a4 a5 a6 a7 a8 a9 a10 a11 a12 a13 u0_1 u0_2 u0_3 u0_4 u0_5 u0_6 u0_9 u2_2 u3_2 u3_5 u4_3 u4_4 u4_5 u10_1 u10_2 u10_3 u10_4 u10_5 u10_6 u10_8 u10_9 u10_10 u10_11 u10_12 u10_13 u10_14 u10_15 u10_16 u10_17 u10_18 u10_19 u10_20 u10_21 u10_22 u10_23 u10_24 u10_25 u10_26 u10_27 u10_28 x0_outputLength_2 y1_output_2 x3_rows x3_columns x4_count x4_reds y5_letterOn y6_namesOn y7_land y8_riverOf y9_home x10_thrown_1 x10_written_1 y11_output_1 y12_s y13_p_1 ++ pl) H → va_D A (w_case_46 g a0 a1 a2 a3 a4 a5 a6 a7 a8 a9 a10 a11 a12 a13 u0_1 u0_2 u0_3 u0_4 u0_5 u0_6 u0_9 u2_2 u3_2 u3_5 u4_3 u4_4 u4_5 u10_1 u10_2 u10_3 u10_4 u10_5 u10_6 u10_8 u10_9 u10_10 u10_11 u10_12 u10_13 u10_14 u10_15 u10_16 u10_17 u10_18 u10_19 u10_20 u10_21 u10_22 u10_23 u10_24 u10_25 u10_26 u10_27 u10_28 x0_outputLength_2 y1_output_2 x3_rows x3_columns x4_count x4_reds y5_letterOn y6_namesOn y7_land y8_riverOf y9_home x10_thrown_1 x10_written_1 y11_output_1 y12_s y13_p_1 ++ pl) → va_S A s.heap H locs → lv_has ls 9 [(0, .ref sb), (1, .ref a0), (2, .ref a10), (3, .ref a13), (4, .int i)] → W p l e R s m args below meth c H locs (c1 + 14) (s1 + 846) Q (F0 m 2412 ls []) := by
        intro u H locs ls hf hP hD hS hl
        have hf := (ej2412 u).symm.trans hf
        refine lv_goto (pc := 2412) hexec hb dL_law_2412 (tgt := 2565) rfl ?_
        cases hf
        exact W.widen (by omega) (by omega) (kk _ _ _ hP hD hS (lv_sub hl [0, 1, 2, 3, 4] rfl))
      refine kb_ne (pc := 2397) hexec hb dL_law_2397 (tgt := 2412) rfl hf (fun hc hf => ?_) (fun hc hf => ?_)
      · exact hj2412 _ _ _ _ hf hP hD hS (lv_sub hl [2, 3, 4, 5, 6] rfl)
      · refine lv_aload_n (pc := 2400) hexec hb dL_law_2400 rfl (lv_at hl 5 rfl) ?_
        refine lv_iconst (pc := 2401) hexec hb dL_law_2401 ki_0 ?_
        refine kr_lald (pc := 2402) hexec hb hG hP 13 rfl hf dL_law_2402 (fun hf => ?_)
        refine lv_iload (pc := 2403) hexec hb dL_law_2403 (lv_at hl 0 rfl) ?_
        refine lv_i2l (pc := 2405) hexec hb dL_law_2405 rfl ?_
        refine kc_lcmp (pc := 2406) hexec hb dL_law_2406 ?_
        refine kb_eq (pc := 2407) hexec hb dL_law_2407 (tgt := 2412) rfl hf (fun hc hf => ?_) (fun hc hf => ?_)
        · exact hj2412 _ _ _ _ hf hP hD hS (lv_sub hl [2, 3, 4, 5, 6] rfl)
        · cases hf
    · cases hf
  cases hT : t_X8_writeRow x0_outputLength y1_output x3_rows x3_columns x4_count x4_reds y5_letterOn y6_namesOn y7_land y8_riverOf y9_home (xs (i + 1).toNatClampNeg) with
  | some cls =>
    rw [hT] at hf
    rcases ite_or hf with ⟨hcl, hf⟩ | ⟨hcl, hf⟩
    · subst hcl
      refine kSLt (pc := 2367) (S := ⟨hexec, hb, hml, hown, hts⟩) hP hD hG hA hS [0, 1, 2, 3, 4, 5, 6, 7, 8, 9] [10, 11, 12, 13] rfl rfl rfl (me_of_mh (hx_L_writeRow_o l hlt g a0 a1 a2 a3 a4 a5 a6 a7 a8 a9 a13 _ u0_1 u0_2 u0_3 u0_4 u0_5 u0_6 u0_9 u2_2 u3_2 u3_5 u4_3 u4_4 u4_5 x0_outputLength y1_output x3_rows x3_columns x4_count x4_reds y5_letterOn y6_namesOn y7_land y8_riverOf y9_home (xs (i + 1).toNatClampNeg) hT)) gL_law_L_writeRow rfl hq_L_writeRow ⟨by omega, by omega⟩ (rest := []) rfl rfl hl.1 (nle rfl) dL_law_2367 ⟨by omega, by omega⟩ (fun w1 H locs hF1 hP hD hS => ?_)
      subst hF1
      have hP := lbk hP [4, 5, 6, 7, 8, 9, 10, 11, 12, 13, 0, 1, 2, 3] (X := (w_case_46 g a0 a1 a2 a3 a4 a5 a6 a7 a8 a9 a10 a11 a12 a13 u0_1 u0_2 u0_3 u0_4 u0_5 u0_6 u0_9 u2_2 u3_2 u3_5 u4_3 u4_4 u4_5 u10_1 u10_2 u10_3 u10_4 u10_5 u10_6 u10_8 u10_9 u10_10 u10_11 u10_12 u10_13 u10_14 u10_15 u10_16 u10_17 u10_18 u10_19 u10_20 u10_21 u10_22 u10_23 u10_24 u10_25 u10_26 u10_27 u10_28 x0_outputLength y1_output x3_rows x3_columns x4_count x4_reds y5_letterOn y6_namesOn y7_land y8_riverOf y9_home x10_thrown x10_written y11_output y12_s y13_p)) rfl
      have hD := lbkD hD [4, 5, 6, 7, 8, 9, 10, 11, 12, 13, 0, 1, 2, 3] (X := (w_case_46 g a0 a1 a2 a3 a4 a5 a6 a7 a8 a9 a10 a11 a12 a13 u0_1 u0_2 u0_3 u0_4 u0_5 u0_6 u0_9 u2_2 u3_2 u3_5 u4_3 u4_4 u4_5 u10_1 u10_2 u10_3 u10_4 u10_5 u10_6 u10_8 u10_9 u10_10 u10_11 u10_12 u10_13 u10_14 u10_15 u10_16 u10_17 u10_18 u10_19 u10_20 u10_21 u10_22 u10_23 u10_24 u10_25 u10_26 u10_27 u10_28 x0_outputLength y1_output x3_rows x3_columns x4_count x4_reds y5_letterOn y6_namesOn y7_land y8_riverOf y9_home x10_thrown x10_written y11_output y12_s y13_p)) rfl rfl
      exact W.widen (by omega) (by omega) (hjh2367 _ _ _ _ _ _ _ hf hP hD hS (lv_sub hl [0, 1, 2, 3, 4] rfl))
    cases hf
  | none =>
    rw [hT] at hf
    obtain ⟨r2367, x0_outputLength_1, y1_output_1, hc, hf⟩ := bd3_e hf
    refine kSLt (pc := 2367) (S := ⟨hexec, hb, hml, hown, hts⟩) hP hD hG hA hS [0, 1, 2, 3, 4, 5, 6, 7, 8, 9, 13] [10, 11, 12] rfl rfl rfl (me_of_mh (h_L_writeRow l g a0 a1 a2 a3 a4 a5 a6 a7 a8 a9 a13 _ u0_1 u0_2 u0_3 u0_4 u0_5 u0_6 u0_9 u2_2 u3_2 u3_5 u4_3 u4_4 u4_5 x0_outputLength y1_output x3_rows x3_columns x4_count x4_reds y5_letterOn y6_namesOn y7_land y8_riverOf y9_home y13_p (xs (i + 1).toNatClampNeg) r2367 x0_outputLength_1 y1_output_1 hc)) gL_law_L_writeRow rfl hq_L_writeRow ⟨by omega, by omega⟩ (rest := []) rfl rfl hl.1 (nle rfl) dL_law_2367 ⟨by omega, by omega⟩ (fun w1 H locs hF1 hP hD hS => ?_)
    subst hF1
    have hP := lbk hP [3, 4, 5, 6, 7, 8, 9, 10, 11, 12, 0, 1, 2, 13] (X := (w_case_46 g a0 a1 a2 a3 a4 a5 a6 a7 a8 a9 a10 a11 a12 a13 u0_1 u0_2 u0_3 u0_4 u0_5 u0_6 u0_9 u2_2 u3_2 u3_5 u4_3 u4_4 u4_5 u10_1 u10_2 u10_3 u10_4 u10_5 u10_6 u10_8 u10_9 u10_10 u10_11 u10_12 u10_13 u10_14 u10_15 u10_16 u10_17 u10_18 u10_19 u10_20 u10_21 u10_22 u10_23 u10_24 u10_25 u10_26 u10_27 u10_28 x0_outputLength_1 y1_output_1 x3_rows x3_columns x4_count x4_reds y5_letterOn y6_namesOn y7_land y8_riverOf y9_home x10_thrown x10_written y11_output y12_s (vp_updL y13_p (0 : Int32).toNatClampNeg r2367.toInt64))) rfl
    have hD := lbkD hD [3, 4, 5, 6, 7, 8, 9, 10, 11, 12, 0, 1, 2, 13] (X := (w_case_46 g a0 a1 a2 a3 a4 a5 a6 a7 a8 a9 a10 a11 a12 a13 u0_1 u0_2 u0_3 u0_4 u0_5 u0_6 u0_9 u2_2 u3_2 u3_5 u4_3 u4_4 u4_5 u10_1 u10_2 u10_3 u10_4 u10_5 u10_6 u10_8 u10_9 u10_10 u10_11 u10_12 u10_13 u10_14 u10_15 u10_16 u10_17 u10_18 u10_19 u10_20 u10_21 u10_22 u10_23 u10_24 u10_25 u10_26 u10_27 u10_28 x0_outputLength_1 y1_output_1 x3_rows x3_columns x4_count x4_reds y5_letterOn y6_namesOn y7_land y8_riverOf y9_home x10_thrown x10_written y11_output y12_s (vp_updL y13_p (0 : Int32).toNatClampNeg r2367.toInt64))) rfl rfl
    exact W.widen (by omega) (by omega) (hjh2367 _ _ _ _ _ _ _ hf hP hD hS (lv_sub hl [0, 1, 2, 3, 4] rfl))
end LAWC
