section LAWC
variable {p : Program} {l : Launch} {e : Env} {R : Room} {s : State} {m : MethodId} {args : Array Value} {below : List Frame} {meth : Method} {c : Code} {H : Heap} {locs : List Loc} {c1 s1 : Nat} {Q : State → Prop} {ls : Array Slot} {A : Nat → Prop} {g : GE} {sb L : Nat} {xs : Nat → Int32} {i : Int32} {pl : va_W}
abbrev w_case_6 (g : GE) (a0 a1 a2 a3 a4 a5 a6 a7 a8 a9 a10 : Nat) (u0_1 u0_2 u0_3 u0_4 u0_5 u0_6 u0_7 u0_8 u0_9 u1_0 u1_3 u1_4 u2_5 u3_1 u3_2 u3_3 u8_1 u8_2 u8_3 u8_4 u8_5 u8_6 u8_8 u8_9 u8_10 u8_11 u8_12 u8_13 u8_14 u8_15 u8_16 u8_17 u8_18 u8_19 u8_20 u8_21 u8_22 u8_23 u8_24 u8_25 u8_26 u8_27 u8_28 u8_29 u8_30 : Value) (x2_count : Int32) (x2_reds : Int32) (x3_count : Int32) (y4_direction : Nat → Int32) (y5_home : Nat → Int32) (y6_length : Nat → Int32) (y7_stops : Nat → Int32) (x8_thrown : Int32) (y9_s : Nat → Int32) (y10_p : Nat → Int64) : va_W := [(a0, .inr (8, [.ref a1, u0_1, u0_2, u0_3, u0_4, u0_5, u0_6, u0_7, u0_8, u0_9])), (a1, .inr (6, [u1_0, .ref a2, .ref a3, u1_3, u1_4])), (a2, .inr (2, [.int x2_count, .int x2_reds, .ref a5, .ref a4, .ref a6, u2_5])), (a3, .inr (4, [.int x3_count, u3_1, u3_2, u3_3, .ref a7])), (a4, .inl (g.2.1 0, 8, .inl y4_direction)), (a5, .inl (g.2.1 0, 8, .inl y5_home)), (a6, .inl (g.2.1 0, 8, .inl y6_length)), (a7, .inl (g.2.1 0, 16, .inl y7_stops)), (a8, .inr (9, [.ref a9, u8_1, u8_2, u8_3, u8_4, u8_5, u8_6, .int x8_thrown, u8_8, u8_9, u8_10, u8_11, u8_12, u8_13, u8_14, u8_15, u8_16, u8_17, u8_18, u8_19, u8_20, u8_21, u8_22, u8_23, u8_24, u8_25, u8_26, u8_27, u8_28, u8_29, u8_30])), (a9, .inl (g.2.1 0, 552, .inl y9_s)), (a10, .inl (g.2.1 3, 1, .inr (.inl y10_p)))]
set_option maxRecDepth 20000 in
theorem lc_6 (hlt : l.stackTraces = false) (hexec : p.tables.exec = Jvm.exec) (hb : c.code = cL_law) (hml : c.maxLocals = 9) (hown : s.vm.findClass RL = some m.cls) (hts : ∀ w ∈ wsL_law, w.before args s = true) (hG : GG g A s s.heap) (hA : ∀ q, s.heap.size ≤ q → A q) (hX : va_X sb L xs s s.heap) (hbl : sb < s.heap.size) (hbA : ¬ A sb) (hRf : 2000 ≤ R.frames) (hRl : 80000 ≤ R.locals) (hRc : c1 + 14 ≤ R.cells) (hRs : s1 + 846 ≤ R.slots) (a0 a1 a2 a3 a4 a5 a6 a7 a8 a9 a10 : Nat) (u0_1 u0_2 u0_3 u0_4 u0_5 u0_6 u0_7 u0_8 u0_9 u1_0 u1_3 u1_4 u2_5 u3_1 u3_2 u3_3 u8_1 u8_2 u8_3 u8_4 u8_5 u8_6 u8_8 u8_9 u8_10 u8_11 u8_12 u8_13 u8_14 u8_15 u8_16 u8_17 u8_18 u8_19 u8_20 u8_21 u8_22 u8_23 u8_24 u8_25 u8_26 u8_27 u8_28 u8_29 u8_30 : Value) (x2_count : Int32) (x2_reds : Int32) (x3_count : Int32) (y4_direction : Nat → Int32) (y5_home : Nat → Int32) (y6_length : Nat → Int32) (y7_stops : Nat → Int32) (x8_thrown : Int32) (y9_s : Nat → Int32) (y10_p : Nat → Int64) (o_x8_thrown : Int32) (o_y10_p : Nat → Int64) (hf : f_case_6 L xs i x2_count x2_reds x3_count y4_direction y5_home y6_length y7_stops x8_thrown y9_s y10_p = some (o_x8_thrown, o_y10_p)) (hP : va_P g.1 vwCl (w_case_6 g a0 a1 a2 a3 a4 a5 a6 a7 a8 a9 a10 u0_1 u0_2 u0_3 u0_4 u0_5 u0_6 u0_7 u0_8 u0_9 u1_0 u1_3 u1_4 u2_5 u3_1 u3_2 u3_3 u8_1 u8_2 u8_3 u8_4 u8_5 u8_6 u8_8 u8_9 u8_10 u8_11 u8_12 u8_13 u8_14 u8_15 u8_16 u8_17 u8_18 u8_19 u8_20 u8_21 u8_22 u8_23 u8_24 u8_25 u8_26 u8_27 u8_28 u8_29 u8_30 x2_count x2_reds x3_count y4_direction y5_home y6_length y7_stops x8_thrown y9_s y10_p ++ pl) H) (hD : va_D A (w_case_6 g a0 a1 a2 a3 a4 a5 a6 a7 a8 a9 a10 u0_1 u0_2 u0_3 u0_4 u0_5 u0_6 u0_7 u0_8 u0_9 u1_0 u1_3 u1_4 u2_5 u3_1 u3_2 u3_3 u8_1 u8_2 u8_3 u8_4 u8_5 u8_6 u8_8 u8_9 u8_10 u8_11 u8_12 u8_13 u8_14 u8_15 u8_16 u8_17 u8_18 u8_19 u8_20 u8_21 u8_22 u8_23 u8_24 u8_25 u8_26 u8_27 u8_28 u8_29 u8_30 x2_count x2_reds x3_count y4_direction y5_home y6_length y7_stops x8_thrown y9_s y10_p ++ pl)) (hS : va_S A s.heap H locs) (hl : lv_has ls 9 [(0, .ref sb), (1, .ref a0), (2, .ref a8), (3, .ref a10), (4, .int i)]) (kk : ∀ (H : Heap) (locs : List Loc) (ls : Array Slot), va_P g.1 vwCl (w_case_6 g a0 a1 a2 a3 a4 a5 a6 a7 a8 a9 a10 u0_1 u0_2 u0_3 u0_4 u0_5 u0_6 u0_7 u0_8 u0_9 u1_0 u1_3 u1_4 u2_5 u3_1 u3_2 u3_3 u8_1 u8_2 u8_3 u8_4 u8_5 u8_6 u8_8 u8_9 u8_10 u8_11 u8_12 u8_13 u8_14 u8_15 u8_16 u8_17 u8_18 u8_19 u8_20 u8_21 u8_22 u8_23 u8_24 u8_25 u8_26 u8_27 u8_28 u8_29 u8_30 x2_count x2_reds x3_count y4_direction y5_home y6_length y7_stops o_x8_thrown y9_s o_y10_p ++ pl) H → va_D A (w_case_6 g a0 a1 a2 a3 a4 a5 a6 a7 a8 a9 a10 u0_1 u0_2 u0_3 u0_4 u0_5 u0_6 u0_7 u0_8 u0_9 u1_0 u1_3 u1_4 u2_5 u3_1 u3_2 u3_3 u8_1 u8_2 u8_3 u8_4 u8_5 u8_6 u8_8 u8_9 u8_10 u8_11 u8_12 u8_13 u8_14 u8_15 u8_16 u8_17 u8_18 u8_19 u8_20 u8_21 u8_22 u8_23 u8_24 u8_25 u8_26 u8_27 u8_28 u8_29 u8_30 x2_count x2_reds x3_count y4_direction y5_home y6_length y7_stops o_x8_thrown y9_s o_y10_p ++ pl) → va_S A s.heap H locs → lv_has ls 9 [(0, .ref sb), (1, .ref a0), (2, .ref a8), (3, .ref a10), (4, .int i)] → W p l e R s m args below meth c H locs (c1 + 14) (s1 + 846) Q (F0 m 2565 ls [])) : W p l e R s m args below meth c H locs c1 s1 Q (F0 m 476 ls []) := by
  unfold f_case_6 at hf
  refine lv_aload_n (pc := 476) hexec hb dL_law_476 rfl (lv_at hl 1 rfl) ?_
  refine lv_aload_n (pc := 477) hexec hb dL_law_477 rfl (lv_at hl 0 rfl) ?_
  refine lv_iload (pc := 478) hexec hb dL_law_478 (lv_at hl 4 rfl) ?_
  refine lv_iconst (pc := 480) hexec hb dL_law_480 ki_1 ?_
  refine lv_iadd (pc := 481) hexec hb dL_law_481 ?_
  refine k_scr (pc := 482) hexec hb hX hbl hbA hS hf dL_law_482 (fun hf => ?_)
  refine lv_aload_n (pc := 483) hexec hb dL_law_483 rfl (lv_at hl 0 rfl) ?_
  refine lv_iload (pc := 484) hexec hb dL_law_484 (lv_at hl 4 rfl) ?_
  refine lv_iconst (pc := 486) hexec hb dL_law_486 ki_2 ?_
  refine lv_iadd (pc := 487) hexec hb dL_law_487 ?_
  refine k_scr (pc := 488) hexec hb hX hbl hbA hS hf dL_law_488 (fun hf => ?_)
  refine lv_aload_n (pc := 489) hexec hb dL_law_489 rfl (lv_at hl 3 rfl) ?_
  obtain ⟨jh490, ejh490, hf⟩ := bvf2 hf
  have hjh490 : ∀ (k490 : Int32) (y10_p_1 : Nat → Int64) (H : Heap) (locs : List Loc) (ls : Array Slot), jh490 k490 y10_p_1 = some (o_x8_thrown, o_y10_p) → va_P g.1 vwCl (w_case_6 g a0 a1 a2 a3 a4 a5 a6 a7 a8 a9 a10 u0_1 u0_2 u0_3 u0_4 u0_5 u0_6 u0_7 u0_8 u0_9 u1_0 u1_3 u1_4 u2_5 u3_1 u3_2 u3_3 u8_1 u8_2 u8_3 u8_4 u8_5 u8_6 u8_8 u8_9 u8_10 u8_11 u8_12 u8_13 u8_14 u8_15 u8_16 u8_17 u8_18 u8_19 u8_20 u8_21 u8_22 u8_23 u8_24 u8_25 u8_26 u8_27 u8_28 u8_29 u8_30 x2_count x2_reds x3_count y4_direction y5_home y6_length y7_stops x8_thrown y9_s y10_p_1 ++ pl) H → va_D A (w_case_6 g a0 a1 a2 a3 a4 a5 a6 a7 a8 a9 a10 u0_1 u0_2 u0_3 u0_4 u0_5 u0_6 u0_7 u0_8 u0_9 u1_0 u1_3 u1_4 u2_5 u3_1 u3_2 u3_3 u8_1 u8_2 u8_3 u8_4 u8_5 u8_6 u8_8 u8_9 u8_10 u8_11 u8_12 u8_13 u8_14 u8_15 u8_16 u8_17 u8_18 u8_19 u8_20 u8_21 u8_22 u8_23 u8_24 u8_25 u8_26 u8_27 u8_28 u8_29 u8_30 x2_count x2_reds x3_count y4_direction y5_home y6_length y7_stops x8_thrown y9_s y10_p_1 ++ pl) → va_S A s.heap H locs → lv_has ls 9 [(0, .ref sb), (1, .ref a0), (2, .ref a8), (3, .ref a10), (4, .int i)] → W p l e R s m args below meth c H locs (c1 + 14) (s1 + 846) Q (F0 m 493 ls [.int k490]) := by
    intro k490 y10_p_1 H locs ls hf hP hD hS hl
    have hf := (ejh490 k490 y10_p_1).symm.trans hf
    refine lv_istore (pc := 493) hexec hb dL_law_493 hl (nle rfl) rfl (fun ls (hl : lv_has ls 9 [(5, .int k490), (0, .ref sb), (1, .ref a0), (2, .ref a8), (3, .ref a10), (4, .int i)]) => ?_)
    refine lv_aload_n (pc := 495) hexec hb dL_law_495 rfl (lv_at hl 3 rfl) ?_
    refine lv_aload_n (pc := 496) hexec hb dL_law_496 rfl (lv_at hl 1 rfl) ?_
    refine lv_iload (pc := 497) hexec hb dL_law_497 (lv_at hl 5 rfl) ?_
    refine lv_iconst (pc := 499) hexec hb dL_law_499 ki_1 ?_
    refine lv_iadd (pc := 500) hexec hb dL_law_500 ?_
    refine k_scr (pc := 501) hexec hb hX hbl hbA hS hf dL_law_501 (fun hf => ?_)
    refine lv_aload_n (pc := 502) hexec hb dL_law_502 rfl (lv_at hl 1 rfl) ?_
    refine lv_iload (pc := 503) hexec hb dL_law_503 (lv_at hl 5 rfl) ?_
    refine lv_iconst (pc := 505) hexec hb dL_law_505 ki_2 ?_
    refine lv_iadd (pc := 506) hexec hb dL_law_506 ?_
    refine k_scr (pc := 507) hexec hb hX hbl hbA hS hf dL_law_507 (fun hf => ?_)
    obtain ⟨r508, x8_thrown_1, hc, hf⟩ := bd2_e hf
    refine kVLt (pc := 508) (S := ⟨hexec, hb, hml, hown, hts⟩) hP hD hG hA hS [8, 9] [0, 1, 2, 3, 4, 5, 6, 7, 10] rfl rfl rfl (me_of_mi (c_X9_harbour l g a8 a9 _ u8_1 u8_2 u8_3 u8_4 u8_5 u8_6 u8_8 u8_9 u8_10 u8_11 u8_12 u8_13 u8_14 u8_15 u8_16 u8_17 u8_18 u8_19 u8_20 u8_21 u8_22 u8_23 u8_24 u8_25 u8_26 u8_27 u8_28 u8_29 u8_30 x8_thrown y9_s (xs (i + 1).toNatClampNeg) (xs (i + 2).toNatClampNeg) r508 x8_thrown_1 hc)) gL_law_X9_harbour rfl hq_X9_harbour ⟨by omega, by omega⟩ 9 0 rfl rfl rfl (rest := []) rfl rfl hl.1 (nle rfl) dL_law_508 ⟨by omega, by omega⟩ (fun w1 H locs hF1 hP hD hS => ?_)
    subst hF1
    have hP := lbk hP [0, 1, 2, 3, 4, 5, 6, 7, 9, 10, 8] (X := (w_case_6 g a0 a1 a2 a3 a4 a5 a6 a7 a8 a9 a10 u0_1 u0_2 u0_3 u0_4 u0_5 u0_6 u0_7 u0_8 u0_9 u1_0 u1_3 u1_4 u2_5 u3_1 u3_2 u3_3 u8_1 u8_2 u8_3 u8_4 u8_5 u8_6 u8_8 u8_9 u8_10 u8_11 u8_12 u8_13 u8_14 u8_15 u8_16 u8_17 u8_18 u8_19 u8_20 u8_21 u8_22 u8_23 u8_24 u8_25 u8_26 u8_27 u8_28 u8_29 u8_30 x2_count x2_reds x3_count y4_direction y5_home y6_length y7_stops x8_thrown_1 y9_s y10_p_1)) rfl
    have hD := lbkD hD [0, 1, 2, 3, 4, 5, 6, 7, 9, 10, 8] (X := (w_case_6 g a0 a1 a2 a3 a4 a5 a6 a7 a8 a9 a10 u0_1 u0_2 u0_3 u0_4 u0_5 u0_6 u0_7 u0_8 u0_9 u1_0 u1_3 u1_4 u2_5 u3_1 u3_2 u3_3 u8_1 u8_2 u8_3 u8_4 u8_5 u8_6 u8_8 u8_9 u8_10 u8_11 u8_12 u8_13 u8_14 u8_15 u8_16 u8_17 u8_18 u8_19 u8_20 u8_21 u8_22 u8_23 u8_24 u8_25 u8_26 u8_27 u8_28 u8_29 u8_30 x2_count x2_reds x3_count y4_direction y5_home y6_length y7_stops x8_thrown_1 y9_s y10_p_1)) rfl rfl
    refine W.widen (k := c1 + 14) (n := s1 + 846) (by omega) (by omega) ?_
    refine lv_istore (pc := 511) hexec hb dL_law_511 hl (nle rfl) rfl (fun ls (hl : lv_has ls 9 [(6, .int r508), (5, .int k490), (0, .ref sb), (1, .ref a0), (2, .ref a8), (3, .ref a10), (4, .int i)]) => ?_)
    refine lv_aload_n (pc := 513) hexec hb dL_law_513 rfl (lv_at hl 4 rfl) ?_
    obtain ⟨r514, hc, hf⟩ := bd1_e hf
    refine kVLt (pc := 514) (S := ⟨hexec, hb, hml, hown, hts⟩) hP hD hG hA hS [8] [0, 1, 2, 3, 4, 5, 6, 7, 9, 10] rfl rfl rfl (me_of_mi (c_X9_thrown l g a8 _ (.ref a9) u8_1 u8_2 u8_3 u8_4 u8_5 u8_6 u8_8 u8_9 u8_10 u8_11 u8_12 u8_13 u8_14 u8_15 u8_16 u8_17 u8_18 u8_19 u8_20 u8_21 u8_22 u8_23 u8_24 u8_25 u8_26 u8_27 u8_28 u8_29 u8_30 x8_thrown_1 r514 hc)) gL_law_X9_thrown rfl hq_X9_thrown ⟨by omega, by omega⟩ 9 0 rfl rfl rfl (rest := []) rfl rfl hl.1 (nle rfl) dL_law_514 ⟨by omega, by omega⟩ (fun w1 H locs hF1 hP hD hS => ?_)
    subst hF1
    have hP := lbk hP [0, 1, 2, 3, 4, 5, 6, 7, 10, 8, 9] (X := (w_case_6 g a0 a1 a2 a3 a4 a5 a6 a7 a8 a9 a10 u0_1 u0_2 u0_3 u0_4 u0_5 u0_6 u0_7 u0_8 u0_9 u1_0 u1_3 u1_4 u2_5 u3_1 u3_2 u3_3 u8_1 u8_2 u8_3 u8_4 u8_5 u8_6 u8_8 u8_9 u8_10 u8_11 u8_12 u8_13 u8_14 u8_15 u8_16 u8_17 u8_18 u8_19 u8_20 u8_21 u8_22 u8_23 u8_24 u8_25 u8_26 u8_27 u8_28 u8_29 u8_30 x2_count x2_reds x3_count y4_direction y5_home y6_length y7_stops x8_thrown_1 y9_s y10_p_1)) rfl
    have hD := lbkD hD [0, 1, 2, 3, 4, 5, 6, 7, 10, 8, 9] (X := (w_case_6 g a0 a1 a2 a3 a4 a5 a6 a7 a8 a9 a10 u0_1 u0_2 u0_3 u0_4 u0_5 u0_6 u0_7 u0_8 u0_9 u1_0 u1_3 u1_4 u2_5 u3_1 u3_2 u3_3 u8_1 u8_2 u8_3 u8_4 u8_5 u8_6 u8_8 u8_9 u8_10 u8_11 u8_12 u8_13 u8_14 u8_15 u8_16 u8_17 u8_18 u8_19 u8_20 u8_21 u8_22 u8_23 u8_24 u8_25 u8_26 u8_27 u8_28 u8_29 u8_30 x2_count x2_reds x3_count y4_direction y5_home y6_length y7_stops x8_thrown_1 y9_s y10_p_1)) rfl rfl
    refine W.widen (k := c1 + 14) (n := s1 + 846) (by omega) (by omega) ?_
    refine lv_iload (pc := 517) hexec hb dL_law_517 (lv_at hl 1 rfl) ?_
    refine ki_eq (pc := 519) hexec hb dL_law_519 (tgt := 524) rfl hf (fun hc hf => ?_) (fun hc hf => ?_)
    · refine lv_iload (pc := 524) hexec hb dL_law_524 (lv_at hl 1 rfl) ?_
      obtain ⟨j541, ej541, hf⟩ := bvf1 hf
      have hj541 : ∀ (u : Unit) (H : Heap) (locs : List Loc) (ls : Array Slot), j541 u = some (o_x8_thrown, o_y10_p) → va_P g.1 vwCl (w_case_6 g a0 a1 a2 a3 a4 a5 a6 a7 a8 a9 a10 u0_1 u0_2 u0_3 u0_4 u0_5 u0_6 u0_7 u0_8 u0_9 u1_0 u1_3 u1_4 u2_5 u3_1 u3_2 u3_3 u8_1 u8_2 u8_3 u8_4 u8_5 u8_6 u8_8 u8_9 u8_10 u8_11 u8_12 u8_13 u8_14 u8_15 u8_16 u8_17 u8_18 u8_19 u8_20 u8_21 u8_22 u8_23 u8_24 u8_25 u8_26 u8_27 u8_28 u8_29 u8_30 x2_count x2_reds x3_count y4_direction y5_home y6_length y7_stops x8_thrown_1 y9_s y10_p_1 ++ pl) H → va_D A (w_case_6 g a0 a1 a2 a3 a4 a5 a6 a7 a8 a9 a10 u0_1 u0_2 u0_3 u0_4 u0_5 u0_6 u0_7 u0_8 u0_9 u1_0 u1_3 u1_4 u2_5 u3_1 u3_2 u3_3 u8_1 u8_2 u8_3 u8_4 u8_5 u8_6 u8_8 u8_9 u8_10 u8_11 u8_12 u8_13 u8_14 u8_15 u8_16 u8_17 u8_18 u8_19 u8_20 u8_21 u8_22 u8_23 u8_24 u8_25 u8_26 u8_27 u8_28 u8_29 u8_30 x2_count x2_reds x3_count y4_direction y5_home y6_length y7_stops x8_thrown_1 y9_s y10_p_1 ++ pl) → va_S A s.heap H locs → lv_has ls 9 [(0, .ref sb), (1, .ref a0), (2, .ref a8), (3, .ref a10), (4, .int i)] → W p l e R s m args below meth c H locs (c1 + 14) (s1 + 846) Q (F0 m 541 ls []) := by
        intro u H locs ls hf hP hD hS hl
        have hf := (ej541 u).symm.trans hf
        refine lv_goto (pc := 541) hexec hb dL_law_541 (tgt := 2565) rfl ?_
        cases hf
        exact W.widen (by omega) (by omega) (kk _ _ _ hP hD hS (lv_sub hl [0, 1, 2, 3, 4] rfl))
      refine kb_ne (pc := 526) hexec hb dL_law_526 (tgt := 541) rfl hf (fun hc hf => ?_) (fun hc hf => ?_)
      · exact hj541 _ _ _ _ hf hP hD hS (lv_sub hl [2, 3, 4, 5, 6] rfl)
      · refine lv_aload_n (pc := 529) hexec hb dL_law_529 rfl (lv_at hl 5 rfl) ?_
        refine lv_iconst (pc := 530) hexec hb dL_law_530 ki_0 ?_
        refine kr_lald (pc := 531) hexec hb hG hP 10 rfl hf dL_law_531 (fun hf => ?_)
        refine lv_iload (pc := 532) hexec hb dL_law_532 (lv_at hl 0 rfl) ?_
        refine lv_i2l (pc := 534) hexec hb dL_law_534 rfl ?_
        refine kc_lcmp (pc := 535) hexec hb dL_law_535 ?_
        refine kb_eq (pc := 536) hexec hb dL_law_536 (tgt := 541) rfl hf (fun hc hf => ?_) (fun hc hf => ?_)
        · exact hj541 _ _ _ _ hf hP hD hS (lv_sub hl [2, 3, 4, 5, 6] rfl)
        · cases hf
    · cases hf
  cases hT : t_X8_harbour x2_count x2_reds x3_count y4_direction y5_home y6_length y7_stops (xs (i + 1).toNatClampNeg) (xs (i + 2).toNatClampNeg) with
  | some cls =>
    rw [hT] at hf
    rcases ite_or hf with ⟨hcl, hf⟩ | ⟨hcl, hf⟩
    · subst hcl
      refine kSLt (pc := 490) (S := ⟨hexec, hb, hml, hown, hts⟩) hP hD hG hA hS [0, 1, 2, 3, 4, 5, 6, 7] [8, 9, 10] rfl rfl rfl (me_of_mh (hx_L_harbour_o l hlt g a0 a1 a2 a3 a4 a5 a6 a7 a10 _ u0_1 u0_2 u0_3 u0_4 u0_5 u0_6 u0_7 u0_8 u0_9 u1_0 u1_3 u1_4 u2_5 u3_1 u3_2 u3_3 x2_count x2_reds x3_count y4_direction y5_home y6_length y7_stops (xs (i + 1).toNatClampNeg) (xs (i + 2).toNatClampNeg) hT)) gL_law_L_harbour rfl hq_L_harbour ⟨by omega, by omega⟩ (rest := []) rfl rfl hl.1 (nle rfl) dL_law_490 ⟨by omega, by omega⟩ (fun w1 H locs hF1 hP hD hS => ?_)
      subst hF1
      have hP := lbk hP [3, 4, 5, 6, 7, 8, 9, 10, 0, 1, 2] (X := (w_case_6 g a0 a1 a2 a3 a4 a5 a6 a7 a8 a9 a10 u0_1 u0_2 u0_3 u0_4 u0_5 u0_6 u0_7 u0_8 u0_9 u1_0 u1_3 u1_4 u2_5 u3_1 u3_2 u3_3 u8_1 u8_2 u8_3 u8_4 u8_5 u8_6 u8_8 u8_9 u8_10 u8_11 u8_12 u8_13 u8_14 u8_15 u8_16 u8_17 u8_18 u8_19 u8_20 u8_21 u8_22 u8_23 u8_24 u8_25 u8_26 u8_27 u8_28 u8_29 u8_30 x2_count x2_reds x3_count y4_direction y5_home y6_length y7_stops x8_thrown y9_s y10_p)) rfl
      have hD := lbkD hD [3, 4, 5, 6, 7, 8, 9, 10, 0, 1, 2] (X := (w_case_6 g a0 a1 a2 a3 a4 a5 a6 a7 a8 a9 a10 u0_1 u0_2 u0_3 u0_4 u0_5 u0_6 u0_7 u0_8 u0_9 u1_0 u1_3 u1_4 u2_5 u3_1 u3_2 u3_3 u8_1 u8_2 u8_3 u8_4 u8_5 u8_6 u8_8 u8_9 u8_10 u8_11 u8_12 u8_13 u8_14 u8_15 u8_16 u8_17 u8_18 u8_19 u8_20 u8_21 u8_22 u8_23 u8_24 u8_25 u8_26 u8_27 u8_28 u8_29 u8_30 x2_count x2_reds x3_count y4_direction y5_home y6_length y7_stops x8_thrown y9_s y10_p)) rfl rfl
      exact W.widen (by omega) (by omega) (hjh490 _ _ _ _ _ hf hP hD hS (lv_sub hl [0, 1, 2, 3, 4] rfl))
    rcases ite_or hf with ⟨hcl, hf⟩ | ⟨hcl, hf⟩
    · subst hcl
      refine kSLt (pc := 490) (S := ⟨hexec, hb, hml, hown, hts⟩) hP hD hG hA hS [0, 1, 2, 3, 4, 5, 6, 7] [8, 9, 10] rfl rfl rfl (me_of_mh (hx_L_harbour_a l hlt g a0 a1 a2 a3 a4 a5 a6 a7 a10 _ u0_1 u0_2 u0_3 u0_4 u0_5 u0_6 u0_7 u0_8 u0_9 u1_0 u1_3 u1_4 u2_5 u3_1 u3_2 u3_3 x2_count x2_reds x3_count y4_direction y5_home y6_length y7_stops (xs (i + 1).toNatClampNeg) (xs (i + 2).toNatClampNeg) hT)) gL_law_L_harbour rfl hq_L_harbour ⟨by omega, by omega⟩ (rest := []) rfl rfl hl.1 (nle rfl) dL_law_490 ⟨by omega, by omega⟩ (fun w1 H locs hF1 hP hD hS => ?_)
      subst hF1
      have hP := lbk hP [3, 4, 5, 6, 7, 8, 9, 10, 0, 1, 2] (X := (w_case_6 g a0 a1 a2 a3 a4 a5 a6 a7 a8 a9 a10 u0_1 u0_2 u0_3 u0_4 u0_5 u0_6 u0_7 u0_8 u0_9 u1_0 u1_3 u1_4 u2_5 u3_1 u3_2 u3_3 u8_1 u8_2 u8_3 u8_4 u8_5 u8_6 u8_8 u8_9 u8_10 u8_11 u8_12 u8_13 u8_14 u8_15 u8_16 u8_17 u8_18 u8_19 u8_20 u8_21 u8_22 u8_23 u8_24 u8_25 u8_26 u8_27 u8_28 u8_29 u8_30 x2_count x2_reds x3_count y4_direction y5_home y6_length y7_stops x8_thrown y9_s y10_p)) rfl
      have hD := lbkD hD [3, 4, 5, 6, 7, 8, 9, 10, 0, 1, 2] (X := (w_case_6 g a0 a1 a2 a3 a4 a5 a6 a7 a8 a9 a10 u0_1 u0_2 u0_3 u0_4 u0_5 u0_6 u0_7 u0_8 u0_9 u1_0 u1_3 u1_4 u2_5 u3_1 u3_2 u3_3 u8_1 u8_2 u8_3 u8_4 u8_5 u8_6 u8_8 u8_9 u8_10 u8_11 u8_12 u8_13 u8_14 u8_15 u8_16 u8_17 u8_18 u8_19 u8_20 u8_21 u8_22 u8_23 u8_24 u8_25 u8_26 u8_27 u8_28 u8_29 u8_30 x2_count x2_reds x3_count y4_direction y5_home y6_length y7_stops x8_thrown y9_s y10_p)) rfl rfl
      exact W.widen (by omega) (by omega) (hjh490 _ _ _ _ _ hf hP hD hS (lv_sub hl [0, 1, 2, 3, 4] rfl))
    cases hf
  | none =>
    rw [hT] at hf
    obtain ⟨r490, hc, hf⟩ := bd1_e hf
    refine kSLt (pc := 490) (S := ⟨hexec, hb, hml, hown, hts⟩) hP hD hG hA hS [0, 1, 2, 3, 4, 5, 6, 7, 10] [8, 9] rfl rfl rfl (me_of_mh (h_L_harbour l g a0 a1 a2 a3 a4 a5 a6 a7 a10 _ u0_1 u0_2 u0_3 u0_4 u0_5 u0_6 u0_7 u0_8 u0_9 u1_0 u1_3 u1_4 u2_5 u3_1 u3_2 u3_3 x2_count x2_reds x3_count y4_direction y5_home y6_length y7_stops y10_p (xs (i + 1).toNatClampNeg) (xs (i + 2).toNatClampNeg) r490 hc)) gL_law_L_harbour rfl hq_L_harbour ⟨by omega, by omega⟩ (rest := []) rfl rfl hl.1 (nle rfl) dL_law_490 ⟨by omega, by omega⟩ (fun w1 H locs hF1 hP hD hS => ?_)
    subst hF1
    have hP := lbk hP [2, 3, 4, 5, 6, 7, 8, 9, 0, 1, 10] (X := (w_case_6 g a0 a1 a2 a3 a4 a5 a6 a7 a8 a9 a10 u0_1 u0_2 u0_3 u0_4 u0_5 u0_6 u0_7 u0_8 u0_9 u1_0 u1_3 u1_4 u2_5 u3_1 u3_2 u3_3 u8_1 u8_2 u8_3 u8_4 u8_5 u8_6 u8_8 u8_9 u8_10 u8_11 u8_12 u8_13 u8_14 u8_15 u8_16 u8_17 u8_18 u8_19 u8_20 u8_21 u8_22 u8_23 u8_24 u8_25 u8_26 u8_27 u8_28 u8_29 u8_30 x2_count x2_reds x3_count y4_direction y5_home y6_length y7_stops x8_thrown y9_s (vp_updL y10_p (0 : Int32).toNatClampNeg r490.toInt64))) rfl
    have hD := lbkD hD [2, 3, 4, 5, 6, 7, 8, 9, 0, 1, 10] (X := (w_case_6 g a0 a1 a2 a3 a4 a5 a6 a7 a8 a9 a10 u0_1 u0_2 u0_3 u0_4 u0_5 u0_6 u0_7 u0_8 u0_9 u1_0 u1_3 u1_4 u2_5 u3_1 u3_2 u3_3 u8_1 u8_2 u8_3 u8_4 u8_5 u8_6 u8_8 u8_9 u8_10 u8_11 u8_12 u8_13 u8_14 u8_15 u8_16 u8_17 u8_18 u8_19 u8_20 u8_21 u8_22 u8_23 u8_24 u8_25 u8_26 u8_27 u8_28 u8_29 u8_30 x2_count x2_reds x3_count y4_direction y5_home y6_length y7_stops x8_thrown y9_s (vp_updL y10_p (0 : Int32).toNatClampNeg r490.toInt64))) rfl rfl
    exact W.widen (by omega) (by omega) (hjh490 _ _ _ _ _ hf hP hD hS (lv_sub hl [0, 1, 2, 3, 4] rfl))
end LAWC
