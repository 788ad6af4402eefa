section LAWC
variable {p : Program} {l : Launch} {e : Env} {R : Room} {s : State} {m : MethodId} {args : Array Value} {below : List Frame} {meth : Method} {c : Code} {H : Heap} {locs : List Loc} {c1 s1 : Nat} {Q : State → Prop} {ls : Array Slot} {A : Nat → Prop} {g : GE} {sb L : Nat} {xs : Nat → Int32} {i : Int32} {pl : va_W}
abbrev w_case_45 (g : GE) (a0 a1 a2 a3 a4 a5 a6 b3 : Nat) (u0_1 u0_2 u0_3 u0_4 u0_5 u0_6 u0_7 u0_8 u0_9 u1_1 u1_2 u1_4 u2_2 u2_4 u2_5 u5_1 u5_2 u5_3 u5_4 u5_5 u5_6 u5_8 u5_9 u5_10 u5_11 u5_12 u5_13 u5_14 u5_15 u5_16 u5_17 u5_18 u5_19 u5_20 u5_21 u5_22 u5_23 u5_24 u5_25 u5_26 u5_27 u5_28 u5_29 u5_30 : Value) (x2_rows : Int32) (x2_columns : Int32) (y3_namesOn : Nat → Int32) (y4_land : Nat → Int32) (x5_thrown : Int32) (y6_s : Nat → Int32) : va_W := [(a0, .inr (8, [.ref a1, u0_1, u0_2, u0_3, u0_4, u0_5, u0_6, u0_7, u0_8, u0_9])), (a1, .inr (6, [.ref a2, u1_1, u1_2, .ref a3, u1_4])), (a2, .inr (1, [.int x2_rows, .int x2_columns, u2_2, .ref a4, u2_4, u2_5])), (a3, .inl (g.2.1 0, 144, .inl y3_namesOn)), (a4, .inl (g.2.1 1, 144, .inl y4_land)), (a5, .inr (9, [.ref a6, u5_1, u5_2, u5_3, u5_4, u5_5, u5_6, .int x5_thrown, u5_8, u5_9, u5_10, u5_11, u5_12, u5_13, u5_14, u5_15, u5_16, u5_17, u5_18, u5_19, u5_20, u5_21, u5_22, u5_23, u5_24, u5_25, u5_26, u5_27, u5_28, u5_29, u5_30])), (a6, .inl (g.2.1 0, 552, .inl y6_s))]
set_option maxRecDepth 20000 in
theorem lc_45 (hlt : l.stackTraces = false) (hexec : p.tables.exec = Jvm.exec) (hb : c.code = cL_law) (hml : c.maxLocals = 9) (hown : s.vm.findClass RL = some m.cls) (hts : ∀ w ∈ wsL_law, w.before args s = true) (hG : GG g A s s.heap) (hA : ∀ q, s.heap.size ≤ q → A q) (hX : va_X sb L xs s s.heap) (hbl : sb < s.heap.size) (hbA : ¬ A sb) (hRf : 2000 ≤ R.frames) (hRl : 80000 ≤ R.locals) (hRc : c1 + 14 ≤ R.cells) (hRs : s1 + 846 ≤ R.slots) (a0 a1 a2 a3 a4 a5 a6 b3 : Nat) (u0_1 u0_2 u0_3 u0_4 u0_5 u0_6 u0_7 u0_8 u0_9 u1_1 u1_2 u1_4 u2_2 u2_4 u2_5 u5_1 u5_2 u5_3 u5_4 u5_5 u5_6 u5_8 u5_9 u5_10 u5_11 u5_12 u5_13 u5_14 u5_15 u5_16 u5_17 u5_18 u5_19 u5_20 u5_21 u5_22 u5_23 u5_24 u5_25 u5_26 u5_27 u5_28 u5_29 u5_30 : Value) (x2_rows : Int32) (x2_columns : Int32) (y3_namesOn : Nat → Int32) (y4_land : Nat → Int32) (x5_thrown : Int32) (y6_s : Nat → Int32) (o_x5_thrown : Int32) (hf : f_case_45 L xs i x2_rows x2_columns y3_namesOn y4_land x5_thrown y6_s = some o_x5_thrown) (hP : va_P g.1 vwCl (w_case_45 g a0 a1 a2 a3 a4 a5 a6 b3 u0_1 u0_2 u0_3 u0_4 u0_5 u0_6 u0_7 u0_8 u0_9 u1_1 u1_2 u1_4 u2_2 u2_4 u2_5 u5_1 u5_2 u5_3 u5_4 u5_5 u5_6 u5_8 u5_9 u5_10 u5_11 u5_12 u5_13 u5_14 u5_15 u5_16 u5_17 u5_18 u5_19 u5_20 u5_21 u5_22 u5_23 u5_24 u5_25 u5_26 u5_27 u5_28 u5_29 u5_30 x2_rows x2_columns y3_namesOn y4_land x5_thrown y6_s ++ pl) H) (hD : va_D A (w_case_45 g a0 a1 a2 a3 a4 a5 a6 b3 u0_1 u0_2 u0_3 u0_4 u0_5 u0_6 u0_7 u0_8 u0_9 u1_1 u1_2 u1_4 u2_2 u2_4 u2_5 u5_1 u5_2 u5_3 u5_4 u5_5 u5_6 u5_8 u5_9 u5_10 u5_11 u5_12 u5_13 u5_14 u5_15 u5_16 u5_17 u5_18 u5_19 u5_20 u5_21 u5_22 u5_23 u5_24 u5_25 u5_26 u5_27 u5_28 u5_29 u5_30 x2_rows x2_columns y3_namesOn y4_land x5_thrown y6_s ++ pl)) (hS : va_S A s.heap H locs) (hl : lv_has ls 9 [(0, .ref sb), (1, .ref a0), (2, .ref a5), (3, .ref b3), (4, .int i)]) (kk : ∀ (H : Heap) (locs : List Loc) (ls : Array Slot), va_P g.1 vwCl (w_case_45 g a0 a1 a2 a3 a4 a5 a6 b3 u0_1 u0_2 u0_3 u0_4 u0_5 u0_6 u0_7 u0_8 u0_9 u1_1 u1_2 u1_4 u2_2 u2_4 u2_5 u5_1 u5_2 u5_3 u5_4 u5_5 u5_6 u5_8 u5_9 u5_10 u5_11 u5_12 u5_13 u5_14 u5_15 u5_16 u5_17 u5_18 u5_19 u5_20 u5_21 u5_22 u5_23 u5_24 u5_25 u5_26 u5_27 u5_28 u5_29 u5_30 x2_rows x2_columns y3_namesOn y4_land o_x5_thrown y6_s ++ pl) H → va_D A (w_case_45 g a0 a1 a2 a3 a4 a5 a6 b3 u0_1 u0_2 u0_3 u0_4 u0_5 u0_6 u0_7 u0_8 u0_9 u1_1 u1_2 u1_4 u2_2 u2_4 u2_5 u5_1 u5_2 u5_3 u5_4 u5_5 u5_6 u5_8 u5_9 u5_10 u5_11 u5_12 u5_13 u5_14 u5_15 u5_16 u5_17 u5_18 u5_19 u5_20 u5_21 u5_22 u5_23 u5_24 u5_25 u5_26 u5_27 u5_28 u5_29 u5_30 x2_rows x2_columns y3_namesOn y4_land o_x5_thrown y6_s ++ pl) → va_S A s.heap H locs → lv_has ls 9 [(0, .ref sb), (1, .ref a0), (2, .ref a5), (3, .ref b3), (4, .int i)] → W p l e R s m args below meth c H locs (c1 + 14) (s1 + 846) Q (F0 m 2565 ls [])) : W p l e R s m args below meth c H locs c1 s1 Q (F0 m 2316 ls []) := by
  unfold f_case_45 at hf
  refine lv_aload_n (pc := 2316) hexec hb dL_law_2316 rfl (lv_at hl 1 rfl) ?_
  obtain ⟨r2317, hc, hf⟩ := bd1_e hf
  refine kVLt (pc := 2317) (S := ⟨hexec, hb, hml, hown, hts⟩) hP hD hG hA hS [0, 1, 2, 3, 4] [5, 6] rfl rfl rfl (me_of_mi (c_X8_cover l g a0 a1 a2 a3 a4 _ u0_1 u0_2 u0_3 u0_4 u0_5 u0_6 u0_7 u0_8 u0_9 u1_1 u1_2 u1_4 u2_2 u2_4 u2_5 x2_rows x2_columns y3_namesOn y4_land r2317 hc)) gL_law_X8_cover rfl hq_X8_cover ⟨by omega, by omega⟩ 8 0 rfl rfl rfl (rest := []) rfl rfl hl.1 (nle rfl) dL_law_2317 ⟨by omega, by omega⟩ (fun w1 H locs hF1 hP hD hS => ?_)
  subst hF1
  have hP := lbk hP [2, 3, 4, 5, 6, 0, 1] (X := (w_case_45 g a0 a1 a2 a3 a4 a5 a6 b3 u0_1 u0_2 u0_3 u0_4 u0_5 u0_6 u0_7 u0_8 u0_9 u1_1 u1_2 u1_4 u2_2 u2_4 u2_5 u5_1 u5_2 u5_3 u5_4 u5_5 u5_6 u5_8 u5_9 u5_10 u5_11 u5_12 u5_13 u5_14 u5_15 u5_16 u5_17 u5_18 u5_19 u5_20 u5_21 u5_22 u5_23 u5_24 u5_25 u5_26 u5_27 u5_28 u5_29 u5_30 x2_rows x2_columns y3_namesOn y4_land x5_thrown y6_s)) rfl
  have hD := lbkD hD [2, 3, 4, 5, 6, 0, 1] (X := (w_case_45 g a0 a1 a2 a3 a4 a5 a6 b3 u0_1 u0_2 u0_3 u0_4 u0_5 u0_6 u0_7 u0_8 u0_9 u1_1 u1_2 u1_4 u2_2 u2_4 u2_5 u5_1 u5_2 u5_3 u5_4 u5_5 u5_6 u5_8 u5_9 u5_10 u5_11 u5_12 u5_13 u5_14 u5_15 u5_16 u5_17 u5_18 u5_19 u5_20 u5_21 u5_22 u5_23 u5_24 u5_25 u5_26 u5_27 u5_28 u5_29 u5_30 x2_rows x2_columns y3_namesOn y4_land x5_thrown y6_s)) rfl rfl
  refine W.widen (k := c1) (n := s1) (by omega) (by omega) ?_
  refine lv_f2d (pc := 2320) hexec hb dL_law_2320 (nn64_e hf).1 ?_
  have hf := (nn64_e hf).2
  obtain ⟨v5, ev5, hf⟩ := bv_e hf
  refine kn_v (congrArg Value.double ev5) ?_
  refine lv_dstore (pc := 2321) hexec hb dL_law_2321 hl (nle rfl) rfl (fun ls (hl : lv_has ls 9 [(5, .double v5), (0, .ref sb), (1, .ref a0), (2, .ref a5), (3, .ref b3), (4, .int i)]) => ?_)
  refine lv_aload_n (pc := 2323) hexec hb dL_law_2323 rfl (lv_at hl 3 rfl) ?_
  obtain ⟨r2324, x5_thrown_1, hc, hf⟩ := bd2_e hf
  refine kVLt (pc := 2324) (S := ⟨hexec, hb, hml, hown, hts⟩) hP hD hG hA hS [5, 6] [0, 1, 2, 3, 4] rfl rfl rfl (me_of_mi (c_X9_cover l g a5 a6 _ u5_1 u5_2 u5_3 u5_4 u5_5 u5_6 u5_8 u5_9 u5_10 u5_11 u5_12 u5_13 u5_14 u5_15 u5_16 u5_17 u5_18 u5_19 u5_20 u5_21 u5_22 u5_23 u5_24 u5_25 u5_26 u5_27 u5_28 u5_29 u5_30 x5_thrown y6_s r2324 x5_thrown_1 hc)) gL_law_X9_cover rfl hq_X9_cover ⟨by omega, by omega⟩ 9 0 rfl rfl rfl (rest := []) rfl rfl hl.1 (nle rfl) dL_law_2324 ⟨by omega, by omega⟩ (fun w1 H locs hF1 hP hD hS => ?_)
  subst hF1
  have hP := lbk hP [0, 1, 2, 3, 4, 5, 6] (X := (w_case_45 g a0 a1 a2 a3 a4 a5 a6 b3 u0_1 u0_2 u0_3 u0_4 u0_5 u0_6 u0_7 u0_8 u0_9 u1_1 u1_2 u1_4 u2_2 u2_4 u2_5 u5_1 u5_2 u5_3 u5_4 u5_5 u5_6 u5_8 u5_9 u5_10 u5_11 u5_12 u5_13 u5_14 u5_15 u5_16 u5_17 u5_18 u5_19 u5_20 u5_21 u5_22 u5_23 u5_24 u5_25 u5_26 u5_27 u5_28 u5_29 u5_30 x2_rows x2_columns y3_namesOn y4_land x5_thrown_1 y6_s)) rfl
  have hD := lbkD hD [0, 1, 2, 3, 4, 5, 6] (X := (w_case_45 g a0 a1 a2 a3 a4 a5 a6 b3 u0_1 u0_2 u0_3 u0_4 u0_5 u0_6 u0_7 u0_8 u0_9 u1_1 u1_2 u1_4 u2_2 u2_4 u2_5 u5_1 u5_2 u5_3 u5_4 u5_5 u5_6 u5_8 u5_9 u5_10 u5_11 u5_12 u5_13 u5_14 u5_15 u5_16 u5_17 u5_18 u5_19 u5_20 u5_21 u5_22 u5_23 u5_24 u5_25 u5_26 u5_27 u5_28 u5_29 u5_30 x2_rows x2_columns y3_namesOn y4_land x5_thrown_1 y6_s)) rfl rfl
  refine W.widen (k := c1) (n := s1) (by omega) (by omega) ?_
  refine lv_f2d (pc := 2327) hexec hb dL_law_2327 (nn64_e hf).1 ?_
  have hf := (nn64_e hf).2
  obtain ⟨v7, ev7, hf⟩ := bv_e hf
  refine kn_v (congrArg Value.double ev7) ?_
  refine lv_dstore (pc := 2328) hexec hb dL_law_2328 hl (nle rfl) rfl (fun ls (hl : lv_has ls 9 [(7, .double v7), (5, .double v5), (0, .ref sb), (1, .ref a0), (2, .ref a5), (3, .ref b3), (4, .int i)]) => ?_)
  refine lv_dload (pc := 2330) hexec hb dL_law_2330 (lv_at hl 1 rfl) ?_
  refine lv_dload (pc := 2332) hexec hb dL_law_2332 (lv_at hl 0 rfl) ?_
  refine lv_dcmp (pc := 2334) hexec hb dL_law_2334 ?_
  obtain ⟨j2356, ej2356, hf⟩ := bvf1 hf
  have hj2356 : ∀ (u : Unit) (H : Heap) (locs : List Loc) (ls : Array Slot), j2356 u = some o_x5_thrown → va_P g.1 vwCl (w_case_45 g a0 a1 a2 a3 a4 a5 a6 b3 u0_1 u0_2 u0_3 u0_4 u0_5 u0_6 u0_7 u0_8 u0_9 u1_1 u1_2 u1_4 u2_2 u2_4 u2_5 u5_1 u5_2 u5_3 u5_4 u5_5 u5_6 u5_8 u5_9 u5_10 u5_11 u5_12 u5_13 u5_14 u5_15 u5_16 u5_17 u5_18 u5_19 u5_20 u5_21 u5_22 u5_23 u5_24 u5_25 u5_26 u5_27 u5_28 u5_29 u5_30 x2_rows x2_columns y3_namesOn y4_land x5_thrown_1 y6_s ++ pl) H → va_D A (w_case_45 g a0 a1 a2 a3 a4 a5 a6 b3 u0_1 u0_2 u0_3 u0_4 u0_5 u0_6 u0_7 u0_8 u0_9 u1_1 u1_2 u1_4 u2_2 u2_4 u2_5 u5_1 u5_2 u5_3 u5_4 u5_5 u5_6 u5_8 u5_9 u5_10 u5_11 u5_12 u5_13 u5_14 u5_15 u5_16 u5_17 u5_18 u5_19 u5_20 u5_21 u5_22 u5_23 u5_24 u5_25 u5_26 u5_27 u5_28 u5_29 u5_30 x2_rows x2_columns y3_namesOn y4_land x5_thrown_1 y6_s ++ pl) → va_S A s.heap H locs → lv_has ls 9 [(0, .ref sb), (1, .ref a0), (2, .ref a5), (3, .ref b3), (4, .int i)] → W p l e R s m args below meth c H locs c1 s1 Q (F0 m 2356 ls []) := by
    intro u H locs ls hf hP hD hS hl
    have hf := (ej2356 u).symm.trans hf
    refine lv_goto (pc := 2356) hexec hb dL_law_2356 (tgt := 2565) rfl ?_
    cases hf
    exact W.widen (by omega) (by omega) (kk _ _ _ hP hD hS (lv_sub hl [0, 1, 2, 3, 4] rfl))
  refine kb_eq (pc := 2335) hexec hb dL_law_2335 (tgt := 2356) rfl hf (fun hc hf => ?_) (fun hc hf => ?_)
  · exact hj2356 _ _ _ _ hf hP hD hS (lv_sub hl [2, 3, 4, 5, 6] rfl)
  · refine lv_dload (pc := 2338) hexec hb dL_law_2338 (lv_at hl 1 rfl) ?_
    refine lv_dload (pc := 2340) hexec hb dL_law_2340 (lv_at hl 1 rfl) ?_
    refine lv_dcmp (pc := 2342) hexec hb dL_law_2342 ?_
    refine kb_eq (pc := 2343) hexec hb dL_law_2343 (tgt := 2354) rfl hf (fun hc hf => ?_) (fun hc hf => ?_)
    · cases hf
    · refine lv_dload (pc := 2346) hexec hb dL_law_2346 (lv_at hl 0 rfl) ?_
      refine lv_dload (pc := 2348) hexec hb dL_law_2348 (lv_at hl 0 rfl) ?_
      refine lv_dcmp (pc := 2350) hexec hb dL_law_2350 ?_
      refine kb_ne (pc := 2351) hexec hb dL_law_2351 (tgt := 2356) rfl hf (fun hc hf => ?_) (fun hc hf => ?_)
      · exact hj2356 _ _ _ _ hf hP hD hS (lv_sub hl [2, 3, 4, 5, 6] rfl)
      · cases hf
end LAWC
