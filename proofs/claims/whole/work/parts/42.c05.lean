section LAWC
variable {p : Program} {l : Launch} {e : Env} {R : Room} {s : State} {m : MethodId} {args : Array Value} {below : List Frame} {meth : Method} {c : Code} {H : Heap} {locs : List Loc} {c1 s1 : Nat} {Q : State → Prop} {ls : Array Slot} {A : Nat → Prop} {g : GE} {sb L : Nat} {xs : Nat → Int32} {i : Int32} {pl : va_W}
abbrev w_case_5 (g : GE) (a0 a1 a2 a3 a4 a5 a6 a7 a8 a9 a10 a11 : Nat) (u0_1 u0_2 u0_3 u0_4 u0_5 u0_6 u0_7 u0_8 u0_9 u1_2 u2_2 u2_5 u3_1 u3_3 u3_4 u3_5 u9_1 u9_2 u9_3 u9_4 u9_5 u9_6 u9_8 u9_9 u9_10 u9_11 u9_12 u9_13 u9_14 u9_15 u9_16 u9_17 u9_18 u9_19 u9_20 u9_21 u9_22 u9_23 u9_24 u9_25 u9_26 u9_27 u9_28 u9_29 u9_30 : Value) (x2_rows : Int32) (x2_columns : Int32) (x3_count : Int32) (y4_letterOn : Nat → Int32) (y5_namesOn : Nat → Int32) (y6_land : Nat → Int32) (y7_riverOf : Nat → Int32) (y8_home : Nat → Int32) (x9_thrown : Int32) (y10_s : Nat → Int32) (y11_p : Nat → Int64) : va_W := [(a0, .inr (8, [.ref a1, u0_1, u0_2, u0_3, u0_4, u0_5, u0_6, u0_7, u0_8, u0_9])), (a1, .inr (6, [.ref a2, .ref a3, u1_2, .ref a5, .ref a4])), (a2, .inr (1, [.int x2_rows, .int x2_columns, u2_2, .ref a6, .ref a7, u2_5])), (a3, .inr (2, [.int x3_count, u3_1, .ref a8, u3_3, u3_4, u3_5])), (a4, .inl (g.2.1 0, 144, .inl y4_letterOn)), (a5, .inl (g.2.1 0, 144, .inl y5_namesOn)), (a6, .inl (g.2.1 1, 144, .inl y6_land)), (a7, .inl (g.2.1 0, 144, .inl y7_riverOf)), (a8, .inl (g.2.1 0, 8, .inl y8_home)), (a9, .inr (9, [.ref a10, u9_1, u9_2, u9_3, u9_4, u9_5, u9_6, .int x9_thrown, u9_8, u9_9, u9_10, u9_11, u9_12, u9_13, u9_14, u9_15, u9_16, u9_17, u9_18, u9_19, u9_20, u9_21, u9_22, u9_23, u9_24, u9_25, u9_26, u9_27, u9_28, u9_29, u9_30])), (a10, .inl (g.2.1 0, 552, .inl y10_s)), (a11, .inl (g.2.1 3, 1, .inr (.inl y11_p)))]
noncomputable def f_case_5 (L : Nat) (xs : Nat → Int32) (i : Int32) (x2_rows : Int32) (x2_columns : Int32) (x3_count : Int32) (y4_letterOn : Nat → Int32) (y5_namesOn : Nat → Int32) (y6_land : Nat → Int32) (y7_riverOf : Nat → Int32) (y8_home : Nat → Int32) (x9_thrown : Int32) (y10_s : Nat → Int32) (y11_p : Nat → Int64) : Option (Int32 × (Nat → Int64)) :=
  ar (i + 1) L <|
  ar (i + 2) L <|
  bv (fun (k422 : Int32) (y11_p_1 : Nat → Int64) => ((
    ar (i + 1) L <|
    ar (i + 2) L <|
    bd2 (f_X9_cell x9_thrown y10_s (xs (i + 1).toNatClampNeg) (xs (i + 2).toNatClampNeg)) fun (r440 : Int32) (x9_thrown_1 : Int32) =>
    bd1 (f_X9_thrown x9_thrown_1) fun (r446 : Int32) =>
    (if r446 = k422 then (
      bv (fun (_ : Unit) => ((
        some (x9_thrown_1, y11_p_1)
        ) : Option (Int32 × (Nat → Int64)))) fun j473 =>
      (if k422 = 0 then (
        ar 0 1 <|
        (if (lg_cmp (y11_p_1 (0 : Int32).toNatClampNeg) (r440.toInt64)) = 0 then (
          j473 ()
        ) else (
          none
        ))
      ) else (
        j473 ()
      ))
    ) else (
      none
    ))
    ) : Option (Int32 × (Nat → Int64)))) fun jh422 =>
  match t_X8_cell x2_rows x2_columns x3_count y4_letterOn y5_namesOn y6_land y7_riverOf y8_home (xs (i + 1).toNatClampNeg) (xs (i + 2).toNatClampNeg) with
  | some cls =>
    (if cls = "java/lang/IndexOutOfBoundsException" then jh422 1 y11_p  else
    (if cls = "java/lang/IllegalArgumentException" then jh422 2 y11_p  else
    none))
  | none =>
    bd1 (f_X8_cell x2_rows x2_columns x3_count y4_letterOn y5_namesOn y6_land y7_riverOf y8_home (xs (i + 1).toNatClampNeg) (xs (i + 2).toNatClampNeg)) fun (r422 : Int32) =>
    jh422 0 (vp_updL y11_p (0 : Int32).toNatClampNeg r422.toInt64) 
set_option maxRecDepth 20000 in
theorem lc_5 (hlt : l.stackTraces = false) (hexec : p.tables.exec = Jvm.exec) (hb : c.code = cL_law) (hml : c.maxLocals = 9) (hown : s.vm.findClass RL = some m.cls) (hts : ∀ w ∈ wsL_law, w.before args s = true) (hG : GG g A s s.heap) (hA : ∀ q, s.heap.size ≤ q → A q) (hX : va_X sb L xs s s.heap) (hbl : sb < s.heap.size) (hbA : ¬ A sb) (hRf : 2000 ≤ R.frames) (hRl : 80000 ≤ R.locals) (hRc : c1 + 14 ≤ R.cells) (hRs : s1 + 846 ≤ R.slots) (a0 a1 a2 a3 a4 a5 a6 a7 a8 a9 a10 a11 : Nat) (u0_1 u0_2 u0_3 u0_4 u0_5 u0_6 u0_7 u0_8 u0_9 u1_2 u2_2 u2_5 u3_1 u3_3 u3_4 u3_5 u9_1 u9_2 u9_3 u9_4 u9_5 u9_6 u9_8 u9_9 u9_10 u9_11 u9_12 u9_13 u9_14 u9_15 u9_16 u9_17 u9_18 u9_19 u9_20 u9_21 u9_22 u9_23 u9_24 u9_25 u9_26 u9_27 u9_28 u9_29 u9_30 : Value) (x2_rows : Int32) (x2_columns : Int32) (x3_count : Int32) (y4_letterOn : Nat → Int32) (y5_namesOn : Nat → Int32) (y6_land : Nat → Int32) (y7_riverOf : Nat → Int32) (y8_home : Nat → Int32) (x9_thrown : Int32) (y10_s : Nat → Int32) (y11_p : Nat → Int64) (o_x9_thrown : Int32) (o_y11_p : Nat → Int64) (hf : f_case_5 L xs i x2_rows x2_columns x3_count y4_letterOn y5_namesOn y6_land y7_riverOf y8_home x9_thrown y10_s y11_p = some (o_x9_thrown, o_y11_p)) (hP : va_P g.1 vwCl (w_case_5 g a0 a1 a2 a3 a4 a5 a6 a7 a8 a9 a10 a11 u0_1 u0_2 u0_3 u0_4 u0_5 u0_6 u0_7 u0_8 u0_9 u1_2 u2_2 u2_5 u3_1 u3_3 u3_4 u3_5 u9_1 u9_2 u9_3 u9_4 u9_5 u9_6 u9_8 u9_9 u9_10 u9_11 u9_12 u9_13 u9_14 u9_15 u9_16 u9_17 u9_18 u9_19 u9_20 u9_21 u9_22 u9_23 u9_24 u9_25 u9_26 u9_27 u9_28 u9_29 u9_30 x2_rows x2_columns x3_count y4_letterOn y5_namesOn y6_land y7_riverOf y8_home x9_thrown y10_s y11_p ++ pl) H) (hD : va_D A (w_case_5 g a0 a1 a2 a3 a4 a5 a6 a7 a8 a9 a10 a11 u0_1 u0_2 u0_3 u0_4 u0_5 u0_6 u0_7 u0_8 u0_9 u1_2 u2_2 u2_5 u3_1 u3_3 u3_4 u3_5 u9_1 u9_2 u9_3 u9_4 u9_5 u9_6 u9_8 u9_9 u9_10 u9_11 u9_12 u9_13 u9_14 u9_15 u9_16 u9_17 u9_18 u9_19 u9_20 u9_21 u9_22 u9_23 u9_24 u9_25 u9_26 u9_27 u9_28 u9_29 u9_30 x2_rows x2_columns x3_count y4_letterOn y5_namesOn y6_land y7_riverOf y8_home x9_thrown y10_s y11_p ++ pl)) (hS : va_S A s.heap H locs) (hl : lv_has ls 9 [(0, .ref sb), (1, .ref a0), (2, .ref a9), (3, .ref a11), (4, .int i)]) (kk : ∀ (H : Heap) (locs : List Loc) (ls : Array Slot), va_P g.1 vwCl (w_case_5 g a0 a1 a2 a3 a4 a5 a6 a7 a8 a9 a10 a11 u0_1 u0_2 u0_3 u0_4 u0_5 u0_6 u0_7 u0_8 u0_9 u1_2 u2_2 u2_5 u3_1 u3_3 u3_4 u3_5 u9_1 u9_2 u9_3 u9_4 u9_5 u9_6 u9_8 u9_9 u9_10 u9_11 u9_12 u9_13 u9_14 u9_15 u9_16 u9_17 u9_18 u9_19 u9_20 u9_21 u9_22 u9_23 u9_24 u9_25 u9_26 u9_27 u9_28 u9_29 u9_30 x2_rows x2_columns x3_count y4_letterOn y5_namesOn y6_land y7_riverOf y8_home o_x9_thrown y10_s o_y11_p ++ pl) H → va_D A (w_case_5 g a0 a1 a2 a3 a4 a5 a6 a7 a8 a9 a10 a11 u0_1 u0_2 u0_3 u0_4 u0_5 u0_6 u0_7 u0_8 u0_9 u1_2 u2_2 u2_5 u3_1 u3_3 u3_4 u3_5 u9_1 u9_2 u9_3 u9_4 u9_5 u9_6 u9_8 u9_9 u9_10 u9_11 u9_12 u9_13 u9_14 u9_15 u9_16 u9_17 u9_18 u9_19 u9_20 u9_21 u9_22 u9_23 u9_24 u9_25 u9_26 u9_27 u9_28 u9_29 u9_30 x2_rows x2_columns x3_count y4_letterOn y5_namesOn y6_land y7_riverOf y8_home o_x9_thrown y10_s o_y11_p ++ pl) → va_S A s.heap H locs → lv_has ls 9 [(0, .ref sb), (1, .ref a0), (2, .ref a9), (3, .ref a11), (4, .int i)] → W p l e R s m args below meth c H locs (c1 + 14) (s1 + 846) Q (F0 m 2565 ls [])) : W p l e R s m args below meth c H locs c1 s1 Q (F0 m 408 ls []) := by
  unfold f_case_5 at hf
  refine lv_aload_n (pc := 408) hexec hb dL_law_408 rfl (lv_at hl 1 rfl) ?_
  refine lv_aload_n (pc := 409) hexec hb dL_law_409 rfl (lv_at hl 0 rfl) ?_
  refine lv_iload (pc := 410) hexec hb dL_law_410 (lv_at hl 4 rfl) ?_
  refine lv_iconst (pc := 412) hexec hb dL_law_412 ki_1 ?_
  refine lv_iadd (pc := 413) hexec hb dL_law_413 ?_
  refine k_scr (pc := 414) hexec hb hX hbl hbA hS hf dL_law_414 (fun hf => ?_)
  refine lv_aload_n (pc := 415) hexec hb dL_law_415 rfl (lv_at hl 0 rfl) ?_
  refine lv_iload (pc := 416) hexec hb dL_law_416 (lv_at hl 4 rfl) ?_
  refine lv_iconst (pc := 418) hexec hb dL_law_418 ki_2 ?_
  refine lv_iadd (pc := 419) hexec hb dL_law_419 ?_
  refine k_scr (pc := 420) hexec hb hX hbl hbA hS hf dL_law_420 (fun hf => ?_)
  refine lv_aload_n (pc := 421) hexec hb dL_law_421 rfl (lv_at hl 3 rfl) ?_
  obtain ⟨jh422, ejh422, hf⟩ := bvf2 hf
  have hjh422 : ∀ (k422 : Int32) (y11_p_1 : Nat → Int64) (H : Heap) (locs : List Loc) (ls : Array Slot), jh422 k422 y11_p_1 = some (o_x9_thrown, o_y11_p) → va_P g.1 vwCl (w_case_5 g a0 a1 a2 a3 a4 a5 a6 a7 a8 a9 a10 a11 u0_1 u0_2 u0_3 u0_4 u0_5 u0_6 u0_7 u0_8 u0_9 u1_2 u2_2 u2_5 u3_1 u3_3 u3_4 u3_5 u9_1 u9_2 u9_3 u9_4 u9_5 u9_6 u9_8 u9_9 u9_10 u9_11 u9_12 u9_13 u9_14 u9_15 u9_16 u9_17 u9_18 u9_19 u9_20 u9_21 u9_22 u9_23 u9_24 u9_25 u9_26 u9_27 u9_28 u9_29 u9_30 x2_rows x2_columns x3_count y4_letterOn y5_namesOn y6_land y7_riverOf y8_home x9_thrown y10_s y11_p_1 ++ pl) H → va_D A (w_case_5 g a0 a1 a2 a3 a4 a5 a6 a7 a8 a9 a10 a11 u0_1 u0_2 u0_3 u0_4 u0_5 u0_6 u0_7 u0_8 u0_9 u1_2 u2_2 u2_5 u3_1 u3_3 u3_4 u3_5 u9_1 u9_2 u9_3 u9_4 u9_5 u9_6 u9_8 u9_9 u9_10 u9_11 u9_12 u9_13 u9_14 u9_15 u9_16 u9_17 u9_18 u9_19 u9_20 u9_21 u9_22 u9_23 u9_24 u9_25 u9_26 u9_27 u9_28 u9_29 u9_30 x2_rows x2_columns x3_count y4_letterOn y5_namesOn y6_land y7_riverOf y8_home x9_thrown y10_s y11_p_1 ++ pl) → va_S A s.heap H locs → lv_has ls 9 [(0, .ref sb), (1, .ref a0), (2, .ref a9), (3, .ref a11), (4, .int i)] → W p l e R s m args below meth c H locs (c1 + 14) (s1 + 846) Q (F0 m 425 ls [.int k422]) := by
    intro k422 y11_p_1 H locs ls hf hP hD hS hl
    have hf := (ejh422 k422 y11_p_1).symm.trans hf
    refine lv_istore (pc := 425) hexec hb dL_law_425 hl (nle rfl) rfl (fun ls (hl : lv_has ls 9 [(5, .int k422), (0, .ref sb), (1, .ref a0), (2, .ref a9), (3, .ref a11), (4, .int i)]) => ?_)
    refine lv_aload_n (pc := 427) hexec hb dL_law_427 rfl (lv_at hl 3 rfl) ?_
    refine lv_aload_n (pc := 428) hexec hb dL_law_428 rfl (lv_at hl 1 rfl) ?_
    refine lv_iload (pc := 429) hexec hb dL_law_429 (lv_at hl 5 rfl) ?_
    refine lv_iconst (pc := 431) hexec hb dL_law_431 ki_1 ?_
    refine lv_iadd (pc := 432) hexec hb dL_law_432 ?_
    refine k_scr (pc := 433) hexec hb hX hbl hbA hS hf dL_law_433 (fun hf => ?_)
    refine lv_aload_n (pc := 434) hexec hb dL_law_434 rfl (lv_at hl 1 rfl) ?_
    refine lv_iload (pc := 435) hexec hb dL_law_435 (lv_at hl 5 rfl) ?_
    refine lv_iconst (pc := 437) hexec hb dL_law_437 ki_2 ?_
    refine lv_iadd (pc := 438) hexec hb dL_law_438 ?_
    refine k_scr (pc := 439) hexec hb hX hbl hbA hS hf dL_law_439 (fun hf => ?_)
    obtain ⟨r440, x9_thrown_1, hc, hf⟩ := bd2_e hf
    refine kVLt (pc := 440) (S := ⟨hexec, hb, hml, hown, hts⟩) hP hD hG hA hS [9, 10] [0, 1, 2, 3, 4, 5, 6, 7, 8, 11] rfl rfl rfl (me_of_mi (c_X9_cell l g a9 a10 _ u9_1 u9_2 u9_3 u9_4 u9_5 u9_6 u9_8 u9_9 u9_10 u9_11 u9_12 u9_13 u9_14 u9_15 u9_16 u9_17 u9_18 u9_19 u9_20 u9_21 u9_22 u9_23 u9_24 u9_25 u9_26 u9_27 u9_28 u9_29 u9_30 x9_thrown y10_s (xs (i + 1).toNatClampNeg) (xs (i + 2).toNatClampNeg) r440 x9_thrown_1 hc)) gL_law_X9_cell rfl hq_X9_cell ⟨by omega, by omega⟩ 9 0 rfl rfl rfl (rest := []) rfl rfl hl.1 (nle rfl) dL_law_440 ⟨by omega, by omega⟩ (fun w1 H locs hF1 hP hD hS => ?_)
    subst hF1
    have hP := lbk hP [0, 1, 2, 3, 4, 5, 6, 7, 8, 10, 11, 9] (X := (w_case_5 g a0 a1 a2 a3 a4 a5 a6 a7 a8 a9 a10 a11 u0_1 u0_2 u0_3 u0_4 u0_5 u0_6 u0_7 u0_8 u0_9 u1_2 u2_2 u2_5 u3_1 u3_3 u3_4 u3_5 u9_1 u9_2 u9_3 u9_4 u9_5 u9_6 u9_8 u9_9 u9_10 u9_11 u9_12 u9_13 u9_14 u9_15 u9_16 u9_17 u9_18 u9_19 u9_20 u9_21 u9_22 u9_23 u9_24 u9_25 u9_26 u9_27 u9_28 u9_29 u9_30 x2_rows x2_columns x3_count y4_letterOn y5_namesOn y6_land y7_riverOf y8_home x9_thrown_1 y10_s y11_p_1)) rfl
    have hD := lbkD hD [0, 1, 2, 3, 4, 5, 6, 7, 8, 10, 11, 9] (X := (w_case_5 g a0 a1 a2 a3 a4 a5 a6 a7 a8 a9 a10 a11 u0_1 u0_2 u0_3 u0_4 u0_5 u0_6 u0_7 u0_8 u0_9 u1_2 u2_2 u2_5 u3_1 u3_3 u3_4 u3_5 u9_1 u9_2 u9_3 u9_4 u9_5 u9_6 u9_8 u9_9 u9_10 u9_11 u9_12 u9_13 u9_14 u9_15 u9_16 u9_17 u9_18 u9_19 u9_20 u9_21 u9_22 u9_23 u9_24 u9_25 u9_26 u9_27 u9_28 u9_29 u9_30 x2_rows x2_columns x3_count y4_letterOn y5_namesOn y6_land y7_riverOf y8_home x9_thrown_1 y10_s y11_p_1)) rfl rfl
    refine W.widen (k := c1 + 14) (n := s1 + 846) (by omega) (by omega) ?_
    refine lv_istore (pc := 443) hexec hb dL_law_443 hl (nle rfl) rfl (fun ls (hl : lv_has ls 9 [(6, .int r440), (5, .int k422), (0, .ref sb), (1, .ref a0), (2, .ref a9), (3, .ref a11), (4, .int i)]) => ?_)
    refine lv_aload_n (pc := 445) hexec hb dL_law_445 rfl (lv_at hl 4 rfl) ?_
    obtain ⟨r446, hc, hf⟩ := bd1_e hf
    refine kVLt (pc := 446) (S := ⟨hexec, hb, hml, hown, hts⟩) hP hD hG hA hS [9] [0, 1, 2, 3, 4, 5, 6, 7, 8, 10, 11] rfl rfl rfl (me_of_mi (c_X9_thrown l g a9 _ (.ref a10) u9_1 u9_2 u9_3 u9_4 u9_5 u9_6 u9_8 u9_9 u9_10 u9_11 u9_12 u9_13 u9_14 u9_15 u9_16 u9_17 u9_18 u9_19 u9_20 u9_21 u9_22 u9_23 u9_24 u9_25 u9_26 u9_27 u9_28 u9_29 u9_30 x9_thrown_1 r446 hc)) gL_law_X9_thrown rfl hq_X9_thrown ⟨by omega, by omega⟩ 9 0 rfl rfl rfl (rest := []) rfl rfl hl.1 (nle rfl) dL_law_446 ⟨by omega, by omega⟩ (fun w1 H locs hF1 hP hD hS => ?_)
    subst hF1
    have hP := lbk hP [0, 1, 2, 3, 4, 5, 6, 7, 8, 11, 9, 10] (X := (w_case_5 g a0 a1 a2 a3 a4 a5 a6 a7 a8 a9 a10 a11 u0_1 u0_2 u0_3 u0_4 u0_5 u0_6 u0_7 u0_8 u0_9 u1_2 u2_2 u2_5 u3_1 u3_3 u3_4 u3_5 u9_1 u9_2 u9_3 u9_4 u9_5 u9_6 u9_8 u9_9 u9_10 u9_11 u9_12 u9_13 u9_14 u9_15 u9_16 u9_17 u9_18 u9_19 u9_20 u9_21 u9_22 u9_23 u9_24 u9_25 u9_26 u9_27 u9_28 u9_29 u9_30 x2_rows x2_columns x3_count y4_letterOn y5_namesOn y6_land y7_riverOf y8_home x9_thrown_1 y10_s y11_p_1)) rfl
    have hD := lbkD hD [0, 1, 2, 3, 4, 5, 6, 7, 8, 11, 9, 10] (X := (w_case_5 g a0 a1 a2 a3 a4 a5 a6 a7 a8 a9 a10 a11 u0_1 u0_2 u0_3 u0_4 u0_5 u0_6 u0_7 u0_8 u0_9 u1_2 u2_2 u2_5 u3_1 u3_3 u3_4 u3_5 u9_1 u9_2 u9_3 u9_4 u9_5 u9_6 u9_8 u9_9 u9_10 u9_11 u9_12 u9_13 u9_14 u9_15 u9_16 u9_17 u9_18 u9_19 u9_20 u9_21 u9_22 u9_23 u9_24 u9_25 u9_26 u9_27 u9_28 u9_29 u9_30 x2_rows x2_columns x3_count y4_letterOn y5_namesOn y6_land y7_riverOf y8_home x9_thrown_1 y10_s y11_p_1)) rfl rfl
    refine W.widen (k := c1 + 14) (n := s1 + 846) (by omega) (by omega) ?_
    refine lv_iload (pc := 449) hexec hb dL_law_449 (lv_at hl 1 rfl) ?_
    refine ki_eq (pc := 451) hexec hb dL_law_451 (tgt := 456) rfl hf (fun hc hf => ?_) (fun hc hf => ?_)
    · refine lv_iload (pc := 456) hexec hb dL_law_456 (lv_at hl 1 rfl) ?_
      obtain ⟨j473, ej473, hf⟩ := bvf1 hf
      have hj473 : ∀ (u : Unit) (H : Heap) (locs : List Loc) (ls : Array Slot), j473 u = some (o_x9_thrown, o_y11_p) → va_P g.1 vwCl (w_case_5 g a0 a1 a2 a3 a4 a5 a6 a7 a8 a9 a10 a11 u0_1 u0_2 u0_3 u0_4 u0_5 u0_6 u0_7 u0_8 u0_9 u1_2 u2_2 u2_5 u3_1 u3_3 u3_4 u3_5 u9_1 u9_2 u9_3 u9_4 u9_5 u9_6 u9_8 u9_9 u9_10 u9_11 u9_12 u9_13 u9_14 u9_15 u9_16 u9_17 u9_18 u9_19 u9_20 u9_21 u9_22 u9_23 u9_24 u9_25 u9_26 u9_27 u9_28 u9_29 u9_30 x2_rows x2_columns x3_count y4_letterOn y5_namesOn y6_land y7_riverOf y8_home x9_thrown_1 y10_s y11_p_1 ++ pl) H → va_D A (w_case_5 g a0 a1 a2 a3 a4 a5 a6 a7 a8 a9 a10 a11 u0_1 u0_2 u0_3 u0_4 u0_5 u0_6 u0_7 u0_8 u0_9 u1_2 u2_2 u2_5 u3_1 u3_3 u3_4 u3_5 u9_1 u9_2 u9_3 u9_4 u9_5 u9_6 u9_8 u9_9 u9_10 u9_11 u9_12 u9_13 u9_14 u9_15 u9_16 u9_17 u9_18 u9_19 u9_20 u9_21 u9_22 u9_23 u9_24 u9_25 u9_26 u9_27 u9_28 u9_29 u9_30 x2_rows x2_columns x3_count y4_letterOn y5_namesOn y6_land y7_riverOf y8_home x9_thrown_1 y10_s y11_p_1 ++ pl) → va_S A s.heap H locs → lv_has ls 9 [(0, .ref sb), (1, .ref a0), (2, .ref a9), (3, .ref a11), (4, .int i)] → W p l e R s m args below meth c H locs (c1 + 14) (s1 + 846) Q (F0 m 473 ls []) := by
        intro u H locs ls hf hP hD hS hl
        have hf := (ej473 u).symm.trans hf
        refine lv_goto (pc := 473) hexec hb dL_law_473 (tgt := 2565) rfl ?_
        cases hf
        exact W.widen (by omega) (by omega) (kk _ _ _ hP hD hS (lv_sub hl [0, 1, 2, 3, 4] rfl))
      refine kb_ne (pc := 458) hexec hb dL_law_458 (tgt := 473) rfl hf (fun hc hf => ?_) (fun hc hf => ?_)
      · exact hj473 _ _ _ _ hf hP hD hS (lv_sub hl [2, 3, 4, 5, 6] rfl)
      · refine lv_aload_n (pc := 461) hexec hb dL_law_461 rfl (lv_at hl 5 rfl) ?_
        refine lv_iconst (pc := 462) hexec hb dL_law_462 ki_0 ?_
        refine kr_lald (pc := 463) hexec hb hG hP 11 rfl hf dL_law_463 (fun hf => ?_)
        refine lv_iload (pc := 464) hexec hb dL_law_464 (lv_at hl 0 rfl) ?_
        refine lv_i2l (pc := 466) hexec hb dL_law_466 rfl ?_
        refine kc_lcmp (pc := 467) hexec hb dL_law_467 ?_
        refine kb_eq (pc := 468) hexec hb dL_law_468 (tgt := 473) rfl hf (fun hc hf => ?_) (fun hc hf => ?_)
        · exact hj473 _ _ _ _ hf hP hD hS (lv_sub hl [2, 3, 4, 5, 6] rfl)
        · cases hf
    · cases hf
  cases hT : t_X8_cell x2_rows x2_columns x3_count y4_letterOn y5_namesOn y6_land y7_riverOf y8_home (xs (i + 1).toNatClampNeg) (xs (i + 2).toNatClampNeg) with
  | some cls =>
    rw [hT] at hf
    rcases ite_or hf with ⟨hcl, hf⟩ | ⟨hcl, hf⟩
    · subst hcl
      refine kSLt (pc := 422) (S := ⟨hexec, hb, hml, hown, hts⟩) hP hD hG hA hS [0, 1, 2, 3, 4, 5, 6, 7, 8] [9, 10, 11] rfl rfl rfl (me_of_mh (hx_L_cell_o l hlt g a0 a1 a2 a3 a4 a5 a6 a7 a8 a11 _ u0_1 u0_2 u0_3 u0_4 u0_5 u0_6 u0_7 u0_8 u0_9 u1_2 u2_2 u2_5 u3_1 u3_3 u3_4 u3_5 x2_rows x2_columns x3_count y4_letterOn y5_namesOn y6_land y7_riverOf y8_home (xs (i + 1).toNatClampNeg) (xs (i + 2).toNatClampNeg) hT)) gL_law_L_cell rfl hq_L_cell ⟨by omega, by omega⟩ (rest := []) rfl rfl hl.1 (nle rfl) dL_law_422 ⟨by omega, by omega⟩ (fun w1 H locs hF1 hP hD hS => ?_)
      subst hF1
      have hP := lbk hP [3, 4, 5, 6, 7, 8, 9, 10, 11, 0, 1, 2] (X := (w_case_5 g a0 a1 a2 a3 a4 a5 a6 a7 a8 a9 a10 a11 u0_1 u0_2 u0_3 u0_4 u0_5 u0_6 u0_7 u0_8 u0_9 u1_2 u2_2 u2_5 u3_1 u3_3 u3_4 u3_5 u9_1 u9_2 u9_3 u9_4 u9_5 u9_6 u9_8 u9_9 u9_10 u9_11 u9_12 u9_13 u9_14 u9_15 u9_16 u9_17 u9_18 u9_19 u9_20 u9_21 u9_22 u9_23 u9_24 u9_25 u9_26 u9_27 u9_28 u9_29 u9_30 x2_rows x2_columns x3_count y4_letterOn y5_namesOn y6_land y7_riverOf y8_home x9_thrown y10_s y11_p)) rfl
      have hD := lbkD hD [3, 4, 5, 6, 7, 8, 9, 10, 11, 0, 1, 2] (X := (w_case_5 g a0 a1 a2 a3 a4 a5 a6 a7 a8 a9 a10 a11 u0_1 u0_2 u0_3 u0_4 u0_5 u0_6 u0_7 u0_8 u0_9 u1_2 u2_2 u2_5 u3_1 u3_3 u3_4 u3_5 u9_1 u9_2 u9_3 u9_4 u9_5 u9_6 u9_8 u9_9 u9_10 u9_11 u9_12 u9_13 u9_14 u9_15 u9_16 u9_17 u9_18 u9_19 u9_20 u9_21 u9_22 u9_23 u9_24 u9_25 u9_26 u9_27 u9_28 u9_29 u9_30 x2_rows x2_columns x3_count y4_letterOn y5_namesOn y6_land y7_riverOf y8_home x9_thrown y10_s y11_p)) rfl rfl
      exact W.widen (by omega) (by omega) (hjh422 _ _ _ _ _ hf hP hD hS (lv_sub hl [0, 1, 2, 3, 4] rfl))
    rcases ite_or hf with ⟨hcl, hf⟩ | ⟨hcl, hf⟩
    · subst hcl
      refine kSLt (pc := 422) (S := ⟨hexec, hb, hml, hown, hts⟩) hP hD hG hA hS [0, 1, 2, 3, 4, 5, 6, 7, 8] [9, 10, 11] rfl rfl rfl (me_of_mh (hx_L_cell_a l hlt g a0 a1 a2 a3 a4 a5 a6 a7 a8 a11 _ u0_1 u0_2 u0_3 u0_4 u0_5 u0_6 u0_7 u0_8 u0_9 u1_2 u2_2 u2_5 u3_1 u3_3 u3_4 u3_5 x2_rows x2_columns x3_count y4_letterOn y5_namesOn y6_land y7_riverOf y8_home (xs (i + 1).toNatClampNeg) (xs (i + 2).toNatClampNeg) hT)) gL_law_L_cell rfl hq_L_cell ⟨by omega, by omega⟩ (rest := []) rfl rfl hl.1 (nle rfl) dL_law_422 ⟨by omega, by omega⟩ (fun w1 H locs hF1 hP hD hS => ?_)
      subst hF1
      have hP := lbk hP [3, 4, 5, 6, 7, 8, 9, 10, 11, 0, 1, 2] (X := (w_case_5 g a0 a1 a2 a3 a4 a5 a6 a7 a8 a9 a10 a11 u0_1 u0_2 u0_3 u0_4 u0_5 u0_6 u0_7 u0_8 u0_9 u1_2 u2_2 u2_5 u3_1 u3_3 u3_4 u3_5 u9_1 u9_2 u9_3 u9_4 u9_5 u9_6 u9_8 u9_9 u9_10 u9_11 u9_12 u9_13 u9_14 u9_15 u9_16 u9_17 u9_18 u9_19 u9_20 u9_21 u9_22 u9_23 u9_24 u9_25 u9_26 u9_27 u9_28 u9_29 u9_30 x2_rows x2_columns x3_count y4_letterOn y5_namesOn y6_land y7_riverOf y8_home x9_thrown y10_s y11_p)) rfl
      have hD := lbkD hD [3, 4, 5, 6, 7, 8, 9, 10, 11, 0, 1, 2] (X := (w_case_5 g a0 a1 a2 a3 a4 a5 a6 a7 a8 a9 a10 a11 u0_1 u0_2 u0_3 u0_4 u0_5 u0_6 u0_7 u0_8 u0_9 u1_2 u2_2 u2_5 u3_1 u3_3 u3_4 u3_5 u9_1 u9_2 u9_3 u9_4 u9_5 u9_6 u9_8 u9_9 u9_10 u9_11 u9_12 u9_13 u9_14 u9_15 u9_16 u9_17 u9_18 u9_19 u9_20 u9_21 u9_22 u9_23 u9_24 u9_25 u9_26 u9_27 u9_28 u9_29 u9_30 x2_rows x2_columns x3_count y4_letterOn y5_namesOn y6_land y7_riverOf y8_home x9_thrown y10_s y11_p)) rfl rfl
      exact W.widen (by omega) (by omega) (hjh422 _ _ _ _ _ hf hP hD hS (lv_sub hl [0, 1, 2, 3, 4] rfl))
    cases hf
  | none =>
    rw [hT] at hf
    obtain ⟨r422, hc, hf⟩ := bd1_e hf
    refine kSLt (pc := 422) (S := ⟨hexec, hb, hml, hown, hts⟩) hP hD hG hA hS [0, 1, 2, 3, 4, 5, 6, 7, 8, 11] [9, 10] rfl rfl rfl (me_of_mh (h_L_cell l g a0 a1 a2 a3 a4 a5 a6 a7 a8 a11 _ u0_1 u0_2 u0_3 u0_4 u0_5 u0_6 u0_7 u0_8 u0_9 u1_2 u2_2 u2_5 u3_1 u3_3 u3_4 u3_5 x2_rows x2_columns x3_count y4_letterOn y5_namesOn y6_land y7_riverOf y8_home y11_p (xs (i + 1).toNatClampNeg) (xs (i + 2).toNatClampNeg) r422 hc)) gL_law_L_cell rfl hq_L_cell ⟨by omega, by omega⟩ (rest := []) rfl rfl hl.1 (nle rfl) dL_law_422 ⟨by omega, by omega⟩ (fun w1 H locs hF1 hP hD hS => ?_)
    subst hF1
    have hP := lbk hP [2, 3, 4, 5, 6, 7, 8, 9, 10, 0, 1, 11] (X := (w_case_5 g a0 a1 a2 a3 a4 a5 a6 a7 a8 a9 a10 a11 u0_1 u0_2 u0_3 u0_4 u0_5 u0_6 u0_7 u0_8 u0_9 u1_2 u2_2 u2_5 u3_1 u3_3 u3_4 u3_5 u9_1 u9_2 u9_3 u9_4 u9_5 u9_6 u9_8 u9_9 u9_10 u9_11 u9_12 u9_13 u9_14 u9_15 u9_16 u9_17 u9_18 u9_19 u9_20 u9_21 u9_22 u9_23 u9_24 u9_25 u9_26 u9_27 u9_28 u9_29 u9_30 x2_rows x2_columns x3_count y4_letterOn y5_namesOn y6_land y7_riverOf y8_home x9_thrown y10_s (vp_updL y11_p (0 : Int32).toNatClampNeg r422.toInt64))) rfl
    have hD := lbkD hD [2, 3, 4, 5, 6, 7, 8, 9, 10, 0, 1, 11] (X := (w_case_5 g a0 a1 a2 a3 a4 a5 a6 a7 a8 a9 a10 a11 u0_1 u0_2 u0_3 u0_4 u0_5 u0_6 u0_7 u0_8 u0_9 u1_2 u2_2 u2_5 u3_1 u3_3 u3_4 u3_5 u9_1 u9_2 u9_3 u9_4 u9_5 u9_6 u9_8 u9_9 u9_10 u9_11 u9_12 u9_13 u9_14 u9_15 u9_16 u9_17 u9_18 u9_19 u9_20 u9_21 u9_22 u9_23 u9_24 u9_25 u9_26 u9_27 u9_28 u9_29 u9_30 x2_rows x2_columns x3_count y4_letterOn y5_namesOn y6_land y7_riverOf y8_home x9_thrown y10_s (vp_updL y11_p (0 : Int32).toNatClampNeg r422.toInt64))) rfl rfl
    exact W.widen (by omega) (by omega) (hjh422 _ _ _ _ _ hf hP hD hS (lv_sub hl [0, 1, 2, 3, 4] rfl))
end LAWC
