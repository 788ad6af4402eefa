section LAWC
variable {p : Program} {l : Launch} {e : Env} {R : Room} {s : State} {m : MethodId} {args : Array Value} {below : List Frame} {meth : Method} {c : Code} {H : Heap} {locs : List Loc} {c1 s1 : Nat} {Q : State → Prop} {ls : Array Slot} {A : Nat → Prop} {g : GE} {sb L : Nat} {xs : Nat → Int32} {i : Int32} {pl : va_W}
abbrev w_case_4 (g : GE) (a0 a1 a2 a3 a4 a5 a6 a7 a8 a9 a10 : Nat) (u0_2 u0_3 u0_4 u0_5 u0_6 u0_7 u0_8 u0_9 u1_0 u1_1 u2_3 u2_4 u3_4 u3_5 u4_2 u4_4 u4_5 u5_4 u8_1 u8_2 u8_3 u8_4 u8_5 u8_8 u8_9 u8_10 u8_11 u8_12 u8_13 u8_14 u8_15 u8_16 u8_17 u8_18 u8_19 u8_20 u8_21 u8_22 u8_23 u8_24 u8_25 u8_26 u8_27 u8_28 u8_29 u8_30 : Value) (x1_count : Int32) (x3_rows : Int32) (x3_columns : Int32) (x3_rivers : Int32) (x4_count : Int32) (x4_reds : Int32) (x5_count : Int32) (x5_next : Int32) (x5_turn : Int32) (x5_quarters : Int32) (y6_land : Nat → Int32) (y7_direction : Nat → Int32) (x8_acts : Int32) (x8_thrown : Int32) (y9_s : Nat → Int32) (y10_p : Nat → Int64) : va_W := [(a0, .inr (8, [.ref a2, .ref a1, u0_2, u0_3, u0_4, u0_5, u0_6, u0_7, u0_8, u0_9])), (a1, .inr (3, [u1_0, u1_1, .int x1_count])), (a2, .inr (6, [.ref a3, .ref a4, .ref a5, u2_3, u2_4])), (a3, .inr (1, [.int x3_rows, .int x3_columns, .int x3_rivers, .ref a6, u3_4, u3_5])), (a4, .inr (2, [.int x4_count, .int x4_reds, u4_2, .ref a7, u4_4, u4_5])), (a5, .inr (4, [.int x5_count, .int x5_next, .int x5_turn, .int x5_quarters, u5_4])), (a6, .inl (g.2.1 1, 144, .inl y6_land)), (a7, .inl (g.2.1 0, 8, .inl y7_direction)), (a8, .inr (9, [.ref a9, u8_1, u8_2, u8_3, u8_4, u8_5, .int x8_acts, .int x8_thrown, u8_8, u8_9, u8_10, u8_11, u8_12, u8_13, u8_14, u8_15, u8_16, u8_17, u8_18, u8_19, u8_20, u8_21, u8_22, u8_23, u8_24, u8_25, u8_26, u8_27, u8_28, u8_29, u8_30])), (a9, .inl (g.2.1 0, 552, .inl y9_s)), (a10, .inl (g.2.1 3, 1, .inr (.inl y10_p)))]
noncomputable def f_case_4 (L : Nat) (xs : Nat → Int32) (i : Int32) (x1_count : Int32) (x3_rows : Int32) (x3_columns : Int32) (x3_rivers : Int32) (x4_count : Int32) (x4_reds : Int32) (x5_count : Int32) (x5_next : Int32) (x5_turn : Int32) (x5_quarters : Int32) (y6_land : Nat → Int32) (y7_direction : Nat → Int32) (x8_acts : Int32) (x8_thrown : Int32) (y9_s : Nat → Int32) (y10_p : Nat → Int64) : Option (Int32 × (Nat → Int64)) :=
  ar (i + 1) L <|
  bv (fun (k360 : Int32) (y10_p_1 : Nat → Int64) => ((
    ar (i + 1) L <|
    bd2 (f_X9_size x8_acts x8_thrown y9_s (xs (i + 1).toNatClampNeg)) fun (r372 : Int32) (x8_thrown_1 : Int32) =>
    bd1 (f_X9_thrown x8_thrown_1) fun (r378 : Int32) =>
    (if r378 = k360 then (
      bv (fun (_ : Unit) => ((
        some (x8_thrown_1, y10_p_1)
        ) : Option (Int32 × (Nat → Int64)))) fun j405 =>
      (if k360 = 0 then (
        ar 0 1 <|
        (if (lg_cmp (y10_p_1 (0 : Int32).toNatClampNeg) (r372.toInt64)) = 0 then (
          j405 ()
        ) else (
          none
        ))
      ) else (
        j405 ()
      ))
    ) else (
      none
    ))
    ) : Option (Int32 × (Nat → Int64)))) fun jh360 =>
  match t_X8_size x1_count x3_rows x3_columns x3_rivers x4_count x4_reds x5_count x5_next x5_turn x5_quarters y6_land y7_direction (xs (i + 1).toNatClampNeg) with
  | some cls =>
    (if cls = "java/lang/IllegalArgumentException" then jh360 1 y10_p  else
    none)
  | none =>
    bd1 (f_X8_size x1_count x3_rows x3_columns x3_rivers x4_count x4_reds x5_count x5_next x5_turn x5_quarters y6_land y7_direction (xs (i + 1).toNatClampNeg)) fun (r360 : Int32) =>
    jh360 0 (vp_updL y10_p (0 : Int32).toNatClampNeg r360.toInt64) 
set_option maxRecDepth 20000 in
theorem lc_4 (hlt : l.stackTraces = false) (hexec : p.tables.exec = Jvm.exec) (hb : c.code = cL_law) (hml : c.maxLocals = 9) (hown : s.vm.findClass RL = some m.cls) (hts : ∀ w ∈ wsL_law, w.before args s = true) (hG : GG g A s s.heap) (hA : ∀ q, s.heap.size ≤ q → A q) (hX : va_X sb L xs s s.heap) (hbl : sb < s.heap.size) (hbA : ¬ A sb) (hRf : 2000 ≤ R.frames) (hRl : 80000 ≤ R.locals) (hRc : c1 + 14 ≤ R.cells) (hRs : s1 + 846 ≤ R.slots) (a0 a1 a2 a3 a4 a5 a6 a7 a8 a9 a10 : Nat) (u0_2 u0_3 u0_4 u0_5 u0_6 u0_7 u0_8 u0_9 u1_0 u1_1 u2_3 u2_4 u3_4 u3_5 u4_2 u4_4 u4_5 u5_4 u8_1 u8_2 u8_3 u8_4 u8_5 u8_8 u8_9 u8_10 u8_11 u8_12 u8_13 u8_14 u8_15 u8_16 u8_17 u8_18 u8_19 u8_20 u8_21 u8_22 u8_23 u8_24 u8_25 u8_26 u8_27 u8_28 u8_29 u8_30 : Value) (x1_count : Int32) (x3_rows : Int32) (x3_columns : Int32) (x3_rivers : Int32) (x4_count : Int32) (x4_reds : Int32) (x5_count : Int32) (x5_next : Int32) (x5_turn : Int32) (x5_quarters : Int32) (y6_land : Nat → Int32) (y7_direction : Nat → Int32) (x8_acts : Int32) (x8_thrown : Int32) (y9_s : Nat → Int32) (y10_p : Nat → Int64) (o_x8_thrown : Int32) (o_y10_p : Nat → Int64) (hf : f_case_4 L xs i x1_count x3_rows x3_columns x3_rivers x4_count x4_reds x5_count x5_next x5_turn x5_quarters y6_land y7_direction x8_acts x8_thrown y9_s y10_p = some (o_x8_thrown, o_y10_p)) (hP : va_P g.1 vwCl (w_case_4 g a0 a1 a2 a3 a4 a5 a6 a7 a8 a9 a10 u0_2 u0_3 u0_4 u0_5 u0_6 u0_7 u0_8 u0_9 u1_0 u1_1 u2_3 u2_4 u3_4 u3_5 u4_2 u4_4 u4_5 u5_4 u8_1 u8_2 u8_3 u8_4 u8_5 u8_8 u8_9 u8_10 u8_11 u8_12 u8_13 u8_14 u8_15 u8_16 u8_17 u8_18 u8_19 u8_20 u8_21 u8_22 u8_23 u8_24 u8_25 u8_26 u8_27 u8_28 u8_29 u8_30 x1_count x3_rows x3_columns x3_rivers x4_count x4_reds x5_count x5_next x5_turn x5_quarters y6_land y7_direction x8_acts x8_thrown y9_s y10_p ++ pl) H) (hD : va_D A (w_case_4 g a0 a1 a2 a3 a4 a5 a6 a7 a8 a9 a10 u0_2 u0_3 u0_4 u0_5 u0_6 u0_7 u0_8 u0_9 u1_0 u1_1 u2_3 u2_4 u3_4 u3_5 u4_2 u4_4 u4_5 u5_4 u8_1 u8_2 u8_3 u8_4 u8_5 u8_8 u8_9 u8_10 u8_11 u8_12 u8_13 u8_14 u8_15 u8_16 u8_17 u8_18 u8_19 u8_20 u8_21 u8_22 u8_23 u8_24 u8_25 u8_26 u8_27 u8_28 u8_29 u8_30 x1_count x3_rows x3_columns x3_rivers x4_count x4_reds x5_count x5_next x5_turn x5_quarters y6_land y7_direction x8_acts x8_thrown y9_s y10_p ++ pl)) (hS : va_S A s.heap H locs) (hl : lv_has ls 9 [(0, .ref sb), (1, .ref a0), (2, .ref a8), (3, .ref a10), (4, .int i)]) (kk : ∀ (H : Heap) (locs : List Loc) (ls : Array Slot), va_P g.1 vwCl (w_case_4 g a0 a1 a2 a3 a4 a5 a6 a7 a8 a9 a10 u0_2 u0_3 u0_4 u0_5 u0_6 u0_7 u0_8 u0_9 u1_0 u1_1 u2_3 u2_4 u3_4 u3_5 u4_2 u4_4 u4_5 u5_4 u8_1 u8_2 u8_3 u8_4 u8_5 u8_8 u8_9 u8_10 u8_11 u8_12 u8_13 u8_14 u8_15 u8_16 u8_17 u8_18 u8_19 u8_20 u8_21 u8_22 u8_23 u8_24 u8_25 u8_26 u8_27 u8_28 u8_29 u8_30 x1_count x3_rows x3_columns x3_rivers x4_count x4_reds x5_count x5_next x5_turn x5_quarters y6_land y7_direction x8_acts o_x8_thrown y9_s o_y10_p ++ pl) H → va_D A (w_case_4 g a0 a1 a2 a3 a4 a5 a6 a7 a8 a9 a10 u0_2 u0_3 u0_4 u0_5 u0_6 u0_7 u0_8 u0_9 u1_0 u1_1 u2_3 u2_4 u3_4 u3_5 u4_2 u4_4 u4_5 u5_4 u8_1 u8_2 u8_3 u8_4 u8_5 u8_8 u8_9 u8_10 u8_11 u8_12 u8_13 u8_14 u8_15 u8_16 u8_17 u8_18 u8_19 u8_20 u8_21 u8_22 u8_23 u8_24 u8_25 u8_26 u8_27 u8_28 u8_29 u8_30 x1_count x3_rows x3_columns x3_rivers x4_count x4_reds x5_count x5_next x5_turn x5_quarters y6_land y7_direction x8_acts o_x8_thrown y9_s o_y10_p ++ pl) → va_S A s.heap H locs → lv_has ls 9 [(0, .ref sb), (1, .ref a0), (2, .ref a8), (3, .ref a10), (4, .int i)] → W p l e R s m args below meth c H locs (c1 + 14) (s1 + 846) Q (F0 m 2565 ls [])) : W p l e R s m args below meth c H locs c1 s1 Q (F0 m 352 ls []) := by
  unfold f_case_4 at hf
  refine lv_aload_n (pc := 352) hexec hb dL_law_352 rfl (lv_at hl 1 rfl) ?_
  refine lv_aload_n (pc := 353) hexec hb dL_law_353 rfl (lv_at hl 0 rfl) ?_
  refine lv_iload (pc := 354) hexec hb dL_law_354 (lv_at hl 4 rfl) ?_
  refine lv_iconst (pc := 356) hexec hb dL_law_356 ki_1 ?_
  refine lv_iadd (pc := 357) hexec hb dL_law_357 ?_
  refine k_scr (pc := 358) hexec hb hX hbl hbA hS hf dL_law_358 (fun hf => ?_)
  refine lv_aload_n (pc := 359) hexec hb dL_law_359 rfl (lv_at hl 3 rfl) ?_
  obtain ⟨jh360, ejh360, hf⟩ := bvf2 hf
  have hjh360 : ∀ (k360 : Int32) (y10_p_1 : Nat → Int64) (H : Heap) (locs : List Loc) (ls : Array Slot), jh360 k360 y10_p_1 = some (o_x8_thrown, o_y10_p) → va_P g.1 vwCl (w_case_4 g a0 a1 a2 a3 a4 a5 a6 a7 a8 a9 a10 u0_2 u0_3 u0_4 u0_5 u0_6 u0_7 u0_8 u0_9 u1_0 u1_1 u2_3 u2_4 u3_4 u3_5 u4_2 u4_4 u4_5 u5_4 u8_1 u8_2 u8_3 u8_4 u8_5 u8_8 u8_9 u8_10 u8_11 u8_12 u8_13 u8_14 u8_15 u8_16 u8_17 u8_18 u8_19 u8_20 u8_21 u8_22 u8_23 u8_24 u8_25 u8_26 u8_27 u8_28 u8_29 u8_30 x1_count x3_rows x3_columns x3_rivers x4_count x4_reds x5_count x5_next x5_turn x5_quarters y6_land y7_direction x8_acts x8_thrown y9_s y10_p_1 ++ pl) H → va_D A (w_case_4 g a0 a1 a2 a3 a4 a5 a6 a7 a8 a9 a10 u0_2 u0_3 u0_4 u0_5 u0_6 u0_7 u0_8 u0_9 u1_0 u1_1 u2_3 u2_4 u3_4 u3_5 u4_2 u4_4 u4_5 u5_4 u8_1 u8_2 u8_3 u8_4 u8_5 u8_8 u8_9 u8_10 u8_11 u8_12 u8_13 u8_14 u8_15 u8_16 u8_17 u8_18 u8_19 u8_20 u8_21 u8_22 u8_23 u8_24 u8_25 u8_26 u8_27 u8_28 u8_29 u8_30 x1_count x3_rows x3_columns x3_rivers x4_count x4_reds x5_count x5_next x5_turn x5_quarters y6_land y7_direction x8_acts x8_thrown y9_s y10_p_1 ++ pl) → va_S A s.heap H locs → lv_has ls 9 [(0, .ref sb), (1, .ref a0), (2, .ref a8), (3, .ref a10), (4, .int i)] → W p l e R s m args below meth c H locs (c1 + 14) (s1 + 846) Q (F0 m 363 ls [.int k360]) := by
    intro k360 y10_p_1 H locs ls hf hP hD hS hl
    have hf := (ejh360 k360 y10_p_1).symm.trans hf
    refine lv_istore (pc := 363) hexec hb dL_law_363 hl (nle rfl) rfl (fun ls (hl : lv_has ls 9 [(5, .int k360), (0, .ref sb), (1, .ref a0), (2, .ref a8), (3, .ref a10), (4, .int i)]) => ?_)
    refine lv_aload_n (pc := 365) hexec hb dL_law_365 rfl (lv_at hl 3 rfl) ?_
    refine lv_aload_n (pc := 366) hexec hb dL_law_366 rfl (lv_at hl 1 rfl) ?_
    refine lv_iload (pc := 367) hexec hb dL_law_367 (lv_at hl 5 rfl) ?_
    refine lv_iconst (pc := 369) hexec hb dL_law_369 ki_1 ?_
    refine lv_iadd (pc := 370) hexec hb dL_law_370 ?_
    refine k_scr (pc := 371) hexec hb hX hbl hbA hS hf dL_law_371 (fun hf => ?_)
    obtain ⟨r372, x8_thrown_1, hc, hf⟩ := bd2_e hf
    refine kVLt (pc := 372) (S := ⟨hexec, hb, hml, hown, hts⟩) hP hD hG hA hS [8, 9] [0, 1, 2, 3, 4, 5, 6, 7, 10] rfl rfl rfl (me_of_mi (c_X9_size l g a8 a9 _ u8_1 u8_2 u8_3 u8_4 u8_5 u8_8 u8_9 u8_10 u8_11 u8_12 u8_13 u8_14 u8_15 u8_16 u8_17 u8_18 u8_19 u8_20 u8_21 u8_22 u8_23 u8_24 u8_25 u8_26 u8_27 u8_28 u8_29 u8_30 x8_acts x8_thrown y9_s (xs (i + 1).toNatClampNeg) r372 x8_thrown_1 hc)) gL_law_X9_size rfl hq_X9_size ⟨by omega, by omega⟩ 9 0 rfl rfl rfl (rest := []) rfl rfl hl.1 (nle rfl) dL_law_372 ⟨by omega, by omega⟩ (fun w1 H locs hF1 hP hD hS => ?_)
    subst hF1
    have hP := lbk hP [0, 1, 2, 3, 4, 5, 6, 7, 9, 10, 8] (X := (w_case_4 g a0 a1 a2 a3 a4 a5 a6 a7 a8 a9 a10 u0_2 u0_3 u0_4 u0_5 u0_6 u0_7 u0_8 u0_9 u1_0 u1_1 u2_3 u2_4 u3_4 u3_5 u4_2 u4_4 u4_5 u5_4 u8_1 u8_2 u8_3 u8_4 u8_5 u8_8 u8_9 u8_10 u8_11 u8_12 u8_13 u8_14 u8_15 u8_16 u8_17 u8_18 u8_19 u8_20 u8_21 u8_22 u8_23 u8_24 u8_25 u8_26 u8_27 u8_28 u8_29 u8_30 x1_count x3_rows x3_columns x3_rivers x4_count x4_reds x5_count x5_next x5_turn x5_quarters y6_land y7_direction x8_acts x8_thrown_1 y9_s y10_p_1)) rfl
    have hD := lbkD hD [0, 1, 2, 3, 4, 5, 6, 7, 9, 10, 8] (X := (w_case_4 g a0 a1 a2 a3 a4 a5 a6 a7 a8 a9 a10 u0_2 u0_3 u0_4 u0_5 u0_6 u0_7 u0_8 u0_9 u1_0 u1_1 u2_3 u2_4 u3_4 u3_5 u4_2 u4_4 u4_5 u5_4 u8_1 u8_2 u8_3 u8_4 u8_5 u8_8 u8_9 u8_10 u8_11 u8_12 u8_13 u8_14 u8_15 u8_16 u8_17 u8_18 u8_19 u8_20 u8_21 u8_22 u8_23 u8_24 u8_25 u8_26 u8_27 u8_28 u8_29 u8_30 x1_count x3_rows x3_columns x3_rivers x4_count x4_reds x5_count x5_next x5_turn x5_quarters y6_land y7_direction x8_acts x8_thrown_1 y9_s y10_p_1)) rfl rfl
    refine W.widen (k := c1 + 14) (n := s1 + 846) (by omega) (by omega) ?_
    refine lv_istore (pc := 375) hexec hb dL_law_375 hl (nle rfl) rfl (fun ls (hl : lv_has ls 9 [(6, .int r372), (5, .int k360), (0, .ref sb), (1, .ref a0), (2, .ref a8), (3, .ref a10), (4, .int i)]) => ?_)
    refine lv_aload_n (pc := 377) hexec hb dL_law_377 rfl (lv_at hl 4 rfl) ?_
    obtain ⟨r378, hc, hf⟩ := bd1_e hf
    refine kVLt (pc := 378) (S := ⟨hexec, hb, hml, hown, hts⟩) hP hD hG hA hS [8] [0, 1, 2, 3, 4, 5, 6, 7, 9, 10] rfl rfl rfl (me_of_mi (c_X9_thrown l g a8 _ (.ref a9) u8_1 u8_2 u8_3 u8_4 u8_5 (.int x8_acts) u8_8 u8_9 u8_10 u8_11 u8_12 u8_13 u8_14 u8_15 u8_16 u8_17 u8_18 u8_19 u8_20 u8_21 u8_22 u8_23 u8_24 u8_25 u8_26 u8_27 u8_28 u8_29 u8_30 x8_thrown_1 r378 hc)) gL_law_X9_thrown rfl hq_X9_thrown ⟨by omega, by omega⟩ 9 0 rfl rfl rfl (rest := []) rfl rfl hl.1 (nle rfl) dL_law_378 ⟨by omega, by omega⟩ (fun w1 H locs hF1 hP hD hS => ?_)
    subst hF1
    have hP := lbk hP [0, 1, 2, 3, 4, 5, 6, 7, 10, 8, 9] (X := (w_case_4 g a0 a1 a2 a3 a4 a5 a6 a7 a8 a9 a10 u0_2 u0_3 u0_4 u0_5 u0_6 u0_7 u0_8 u0_9 u1_0 u1_1 u2_3 u2_4 u3_4 u3_5 u4_2 u4_4 u4_5 u5_4 u8_1 u8_2 u8_3 u8_4 u8_5 u8_8 u8_9 u8_10 u8_11 u8_12 u8_13 u8_14 u8_15 u8_16 u8_17 u8_18 u8_19 u8_20 u8_21 u8_22 u8_23 u8_24 u8_25 u8_26 u8_27 u8_28 u8_29 u8_30 x1_count x3_rows x3_columns x3_rivers x4_count x4_reds x5_count x5_next x5_turn x5_quarters y6_land y7_direction x8_acts x8_thrown_1 y9_s y10_p_1)) rfl
    have hD := lbkD hD [0, 1, 2, 3, 4, 5, 6, 7, 10, 8, 9] (X := (w_case_4 g a0 a1 a2 a3 a4 a5 a6 a7 a8 a9 a10 u0_2 u0_3 u0_4 u0_5 u0_6 u0_7 u0_8 u0_9 u1_0 u1_1 u2_3 u2_4 u3_4 u3_5 u4_2 u4_4 u4_5 u5_4 u8_1 u8_2 u8_3 u8_4 u8_5 u8_8 u8_9 u8_10 u8_11 u8_12 u8_13 u8_14 u8_15 u8_16 u8_17 u8_18 u8_19 u8_20 u8_21 u8_22 u8_23 u8_24 u8_25 u8_26 u8_27 u8_28 u8_29 u8_30 x1_count x3_rows x3_columns x3_rivers x4_count x4_reds x5_count x5_next x5_turn x5_quarters y6_land y7_direction x8_acts x8_thrown_1 y9_s y10_p_1)) rfl rfl
    refine W.widen (k := c1 + 14) (n := s1 + 846) (by omega) (by omega) ?_
    refine lv_iload (pc := 381) hexec hb dL_law_381 (lv_at hl 1 rfl) ?_
    refine ki_eq (pc := 383) hexec hb dL_law_383 (tgt := 388) rfl hf (fun hc hf => ?_) (fun hc hf => ?_)
    · refine lv_iload (pc := 388) hexec hb dL_law_388 (lv_at hl 1 rfl) ?_
      obtain ⟨j405, ej405, hf⟩ := bvf1 hf
      have hj405 : ∀ (u : Unit) (H : Heap) (locs : List Loc) (ls : Array Slot), j405 u = some (o_x8_thrown, o_y10_p) → va_P g.1 vwCl (w_case_4 g a0 a1 a2 a3 a4 a5 a6 a7 a8 a9 a10 u0_2 u0_3 u0_4 u0_5 u0_6 u0_7 u0_8 u0_9 u1_0 u1_1 u2_3 u2_4 u3_4 u3_5 u4_2 u4_4 u4_5 u5_4 u8_1 u8_2 u8_3 u8_4 u8_5 u8_8 u8_9 u8_10 u8_11 u8_12 u8_13 u8_14 u8_15 u8_16 u8_17 u8_18 u8_19 u8_20 u8_21 u8_22 u8_23 u8_24 u8_25 u8_26 u8_27 u8_28 u8_29 u8_30 x1_count x3_rows x3_columns x3_rivers x4_count x4_reds x5_count x5_next x5_turn x5_quarters y6_land y7_direction x8_acts x8_thrown_1 y9_s y10_p_1 ++ pl) H → va_D A (w_case_4 g a0 a1 a2 a3 a4 a5 a6 a7 a8 a9 a10 u0_2 u0_3 u0_4 u0_5 u0_6 u0_7 u0_8 u0_9 u1_0 u1_1 u2_3 u2_4 u3_4 u3_5 u4_2 u4_4 u4_5 u5_4 u8_1 u8_2 u8_3 u8_4 u8_5 u8_8 u8_9 u8_10 u8_11 u8_12 u8_13 u8_14 u8_15 u8_16 u8_17 u8_18 u8_19 u8_20 u8_21 u8_22 u8_23 u8_24 u8_25 u8_26 u8_27 u8_28 u8_29 u8_30 x1_count x3_rows x3_columns x3_rivers x4_count x4_reds x5_count x5_next x5_turn x5_quarters y6_land y7_direction x8_acts x8_thrown_1 y9_s y10_p_1 ++ pl) → va_S A s.heap H locs → lv_has ls 9 [(0, .ref sb), (1, .ref a0), (2, .ref a8), (3, .ref a10), (4, .int i)] → W p l e R s m args below meth c H locs (c1 + 14) (s1 + 846) Q (F0 m 405 ls []) := by
        intro u H locs ls hf hP hD hS hl
        have hf := (ej405 u).symm.trans hf
        refine lv_goto (pc := 405) hexec hb dL_law_405 (tgt := 2565) rfl ?_
        cases hf
        exact W.widen (by omega) (by omega) (kk _ _ _ hP hD hS (lv_sub hl [0, 1, 2, 3, 4] rfl))
      refine kb_ne (pc := 390) hexec hb dL_law_390 (tgt := 405) rfl hf (fun hc hf => ?_) (fun hc hf => ?_)
      · exact hj405 _ _ _ _ hf hP hD hS (lv_sub hl [2, 3, 4, 5, 6] rfl)
      · refine lv_aload_n (pc := 393) hexec hb dL_law_393 rfl (lv_at hl 5 rfl) ?_
        refine lv_iconst (pc := 394) hexec hb dL_law_394 ki_0 ?_
        refine kr_lald (pc := 395) hexec hb hG hP 10 rfl hf dL_law_395 (fun hf => ?_)
        refine lv_iload (pc := 396) hexec hb dL_law_396 (lv_at hl 0 rfl) ?_
        refine lv_i2l (pc := 398) hexec hb dL_law_398 rfl ?_
        refine kc_lcmp (pc := 399) hexec hb dL_law_399 ?_
        refine kb_eq (pc := 400) hexec hb dL_law_400 (tgt := 405) rfl hf (fun hc hf => ?_) (fun hc hf => ?_)
        · exact hj405 _ _ _ _ hf hP hD hS (lv_sub hl [2, 3, 4, 5, 6] rfl)
        · cases hf
    · cases hf
  cases hT : t_X8_size x1_count x3_rows x3_columns x3_rivers x4_count x4_reds x5_count x5_next x5_turn x5_quarters y6_land y7_direction (xs (i + 1).toNatClampNeg) with
  | some cls =>
    rw [hT] at hf
    rcases ite_or hf with ⟨hcl, hf⟩ | ⟨hcl, hf⟩
    · subst hcl
      refine kSLt (pc := 360) (S := ⟨hexec, hb, hml, hown, hts⟩) hP hD hG hA hS [0, 1, 2, 3, 4, 5, 6, 7] [8, 9, 10] rfl rfl rfl (me_of_mh (hx_L_size_a l hlt g a0 a1 a2 a3 a4 a5 a6 a7 a10 _ u0_2 u0_3 u0_4 u0_5 u0_6 u0_7 u0_8 u0_9 u1_0 u1_1 u2_3 u2_4 u3_4 u3_5 u4_2 u4_4 u4_5 u5_4 x1_count x3_rows x3_columns x3_rivers x4_count x4_reds x5_count x5_next x5_turn x5_quarters y6_land y7_direction (xs (i + 1).toNatClampNeg) hT)) gL_law_L_size rfl hq_L_size ⟨by omega, by omega⟩ (rest := []) rfl rfl hl.1 (nle rfl) dL_law_360 ⟨by omega, by omega⟩ (fun w1 H locs hF1 hP hD hS => ?_)
      subst hF1
      have hP := lbk hP [3, 4, 5, 6, 7, 8, 9, 10, 0, 1, 2] (X := (w_case_4 g a0 a1 a2 a3 a4 a5 a6 a7 a8 a9 a10 u0_2 u0_3 u0_4 u0_5 u0_6 u0_7 u0_8 u0_9 u1_0 u1_1 u2_3 u2_4 u3_4 u3_5 u4_2 u4_4 u4_5 u5_4 u8_1 u8_2 u8_3 u8_4 u8_5 u8_8 u8_9 u8_10 u8_11 u8_12 u8_13 u8_14 u8_15 u8_16 u8_17 u8_18 u8_19 u8_20 u8_21 u8_22 u8_23 u8_24 u8_25 u8_26 u8_27 u8_28 u8_29 u8_30 x1_count x3_rows x3_columns x3_rivers x4_count x4_reds x5_count x5_next x5_turn x5_quarters y6_land y7_direction x8_acts x8_thrown y9_s y10_p)) rfl
      have hD := lbkD hD [3, 4, 5, 6, 7, 8, 9, 10, 0, 1, 2] (X := (w_case_4 g a0 a1 a2 a3 a4 a5 a6 a7 a8 a9 a10 u0_2 u0_3 u0_4 u0_5 u0_6 u0_7 u0_8 u0_9 u1_0 u1_1 u2_3 u2_4 u3_4 u3_5 u4_2 u4_4 u4_5 u5_4 u8_1 u8_2 u8_3 u8_4 u8_5 u8_8 u8_9 u8_10 u8_11 u8_12 u8_13 u8_14 u8_15 u8_16 u8_17 u8_18 u8_19 u8_20 u8_21 u8_22 u8_23 u8_24 u8_25 u8_26 u8_27 u8_28 u8_29 u8_30 x1_count x3_rows x3_columns x3_rivers x4_count x4_reds x5_count x5_next x5_turn x5_quarters y6_land y7_direction x8_acts x8_thrown y9_s y10_p)) rfl rfl
      exact W.widen (by omega) (by omega) (hjh360 _ _ _ _ _ hf hP hD hS (lv_sub hl [0, 1, 2, 3, 4] rfl))
    cases hf
  | none =>
    rw [hT] at hf
    obtain ⟨r360, hc, hf⟩ := bd1_e hf
    refine kSLt (pc := 360) (S := ⟨hexec, hb, hml, hown, hts⟩) hP hD hG hA hS [0, 1, 2, 3, 4, 5, 6, 7, 10] [8, 9] rfl rfl rfl (me_of_mh (h_L_size l g a0 a1 a2 a3 a4 a5 a6 a7 a10 _ u0_2 u0_3 u0_4 u0_5 u0_6 u0_7 u0_8 u0_9 u1_0 u1_1 u2_3 u2_4 u3_4 u3_5 u4_2 u4_4 u4_5 u5_4 x1_count x3_rows x3_columns x3_rivers x4_count x4_reds x5_count x5_next x5_turn x5_quarters y6_land y7_direction y10_p (xs (i + 1).toNatClampNeg) r360 hc)) gL_law_L_size rfl hq_L_size ⟨by omega, by omega⟩ (rest := []) rfl rfl hl.1 (nle rfl) dL_law_360 ⟨by omega, by omega⟩ (fun w1 H locs hF1 hP hD hS => ?_)
    subst hF1
    have hP := lbk hP [2, 3, 4, 5, 6, 7, 8, 9, 0, 1, 10] (X := (w_case_4 g a0 a1 a2 a3 a4 a5 a6 a7 a8 a9 a10 u0_2 u0_3 u0_4 u0_5 u0_6 u0_7 u0_8 u0_9 u1_0 u1_1 u2_3 u2_4 u3_4 u3_5 u4_2 u4_4 u4_5 u5_4 u8_1 u8_2 u8_3 u8_4 u8_5 u8_8 u8_9 u8_10 u8_11 u8_12 u8_13 u8_14 u8_15 u8_16 u8_17 u8_18 u8_19 u8_20 u8_21 u8_22 u8_23 u8_24 u8_25 u8_26 u8_27 u8_28 u8_29 u8_30 x1_count x3_rows x3_columns x3_rivers x4_count x4_reds x5_count x5_next x5_turn x5_quarters y6_land y7_direction x8_acts x8_thrown y9_s (vp_updL y10_p (0 : Int32).toNatClampNeg r360.toInt64))) rfl
    have hD := lbkD hD [2, 3, 4, 5, 6, 7, 8, 9, 0, 1, 10] (X := (w_case_4 g a0 a1 a2 a3 a4 a5 a6 a7 a8 a9 a10 u0_2 u0_3 u0_4 u0_5 u0_6 u0_7 u0_8 u0_9 u1_0 u1_1 u2_3 u2_4 u3_4 u3_5 u4_2 u4_4 u4_5 u5_4 u8_1 u8_2 u8_3 u8_4 u8_5 u8_8 u8_9 u8_10 u8_11 u8_12 u8_13 u8_14 u8_15 u8_16 u8_17 u8_18 u8_19 u8_20 u8_21 u8_22 u8_23 u8_24 u8_25 u8_26 u8_27 u8_28 u8_29 u8_30 x1_count x3_rows x3_columns x3_rivers x4_count x4_reds x5_count x5_next x5_turn x5_quarters y6_land y7_direction x8_acts x8_thrown y9_s (vp_updL y10_p (0 : Int32).toNatClampNeg r360.toInt64))) rfl rfl
    exact W.widen (by omega) (by omega) (hjh360 _ _ _ _ _ hf hP hD hS (lv_sub hl [0, 1, 2, 3, 4] rfl))
end LAWC
