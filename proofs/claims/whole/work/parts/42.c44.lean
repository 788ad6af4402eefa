section LAWC
variable {p : Program} {l : Launch} {e : Env} {R : Room} {s : State} {m : MethodId} {args : Array Value} {below : List Frame} {meth : Method} {c : Code} {H : Heap} {locs : List Loc} {c1 s1 : Nat} {Q : State → Prop} {ls : Array Slot} {A : Nat → Prop} {g : GE} {sb L : Nat} {xs : Nat → Int32} {i : Int32} {pl : va_W}
abbrev w_case_44 (g : GE) (a0 a1 a2 a3 a4 a5 a6 a7 a8 b3 : Nat) (u0_1 u0_2 u0_3 u0_4 u0_5 u0_6 u0_7 u0_8 u0_9 u1_0 u1_3 u1_4 u2_1 u2_2 u2_4 u2_5 u3_1 u3_3 u6_1 u6_2 u6_3 u6_4 u6_5 u6_6 u6_8 u6_9 u6_10 u6_12 u6_13 u6_14 u6_15 u6_16 u6_17 u6_18 u6_19 u6_20 u6_21 u6_22 u6_23 u6_24 u6_25 u6_26 u6_27 u6_28 u6_29 u6_30 : Value) (x2_count : Int32) (x3_count : Int32) (x3_turn : Int32) (y4_direction : Nat → Int32) (y5_stops : Nat → Int32) (x6_thrown : Int32) (y7_s : Nat → Int32) (y8_ways : Nat → Int32) : va_W := [(a0, .inr (8, [.ref a1, u0_1, u0_2, u0_3, u0_4, u0_5, u0_6, u0_7, u0_8, u0_9])), (a1, .inr (6, [u1_0, .ref a2, .ref a3, u1_3, u1_4])), (a2, .inr (2, [.int x2_count, u2_1, u2_2, .ref a4, u2_4, u2_5])), (a3, .inr (4, [.int x3_count, u3_1, .int x3_turn, u3_3, .ref a5])), (a4, .inl (g.2.1 0, 8, .inl y4_direction)), (a5, .inl (g.2.1 0, 16, .inl y5_stops)), (a6, .inr (9, [.ref a7, u6_1, u6_2, u6_3, u6_4, u6_5, u6_6, .int x6_thrown, u6_8, u6_9, u6_10, .ref a8, u6_12, u6_13, u6_14, u6_15, u6_16, u6_17, u6_18, u6_19, u6_20, u6_21, u6_22, u6_23, u6_24, u6_25, u6_26, u6_27, u6_28, u6_29, u6_30])), (a7, .inl (g.2.1 0, 552, .inl y7_s)), (a8, .inl (g.2.1 0, 8, .inl y8_ways))]
noncomputable def f_case_44 (L : Nat) (xs : Nat → Int32) (i : Int32) (x2_count : Int32) (x3_count : Int32) (x3_turn : Int32) (y4_direction : Nat → Int32) (y5_stops : Nat → Int32) (x6_thrown : Int32) (y7_s : Nat → Int32) (y8_ways : Nat → Int32) : Option (Int32 × (Nat → Int32)) :=
  bd1 (f_X8_meanTurn x2_count x3_count x3_turn y4_direction y5_stops) fun (r2276 : UInt64) =>
  bd3 (f_X9_meanTurn x6_thrown y7_s y8_ways) fun (r2282 : UInt64) (x6_thrown_1 : Int32) (y8_ways_1 : Nat → Int32) =>
  bv (fun (_ : Unit) => ((
    some (x6_thrown_1, y8_ways_1)
    ) : Option (Int32 × (Nat → Int32)))) fun j2313 =>
  (if (Op.cmpValue (FP.dcmp r2276 r2282) .l) = 0 then (
    j2313 ()
  ) else (
    (if (Op.cmpValue (FP.dcmp r2276 r2276) .l) = 0 then (
      none
    ) else (
      (if (Op.cmpValue (FP.dcmp r2282 r2282) .l) = 0 then (
        none
      ) else (
        j2313 ()
      ))
    ))
  ))
set_option maxRecDepth 20000 in
theorem lc_44 (hlt : l.stackTraces = false) (hexec : p.tables.exec = Jvm.exec) (hb : c.code = cL_law) (hml : c.maxLocals = 9) (hown : s.vm.findClass RL = some m.cls) (hts : ∀ w ∈ wsL_law, w.before args s = true) (hG : GG g A s s.heap) (hA : ∀ q, s.heap.size ≤ q → A q) (hX : va_X sb L xs s s.heap) (hbl : sb < s.heap.size) (hbA : ¬ A sb) (hRf : 2000 ≤ R.frames) (hRl : 80000 ≤ R.locals) (hRc : c1 + 14 ≤ R.cells) (hRs : s1 + 846 ≤ R.slots) (a0 a1 a2 a3 a4 a5 a6 a7 a8 b3 : Nat) (u0_1 u0_2 u0_3 u0_4 u0_5 u0_6 u0_7 u0_8 u0_9 u1_0 u1_3 u1_4 u2_1 u2_2 u2_4 u2_5 u3_1 u3_3 u6_1 u6_2 u6_3 u6_4 u6_5 u6_6 u6_8 u6_9 u6_10 u6_12 u6_13 u6_14 u6_15 u6_16 u6_17 u6_18 u6_19 u6_20 u6_21 u6_22 u6_23 u6_24 u6_25 u6_26 u6_27 u6_28 u6_29 u6_30 : Value) (x2_count : Int32) (x3_count : Int32) (x3_turn : Int32) (y4_direction : Nat → Int32) (y5_stops : Nat → Int32) (x6_thrown : Int32) (y7_s : Nat → Int32) (y8_ways : Nat → Int32) (o_x6_thrown : Int32) (o_y8_ways : Nat → Int32) (hf : f_case_44 L xs i x2_count x3_count x3_turn y4_direction y5_stops x6_thrown y7_s y8_ways = some (o_x6_thrown, o_y8_ways)) (hP : va_P g.1 vwCl (w_case_44 g a0 a1 a2 a3 a4 a5 a6 a7 a8 b3 u0_1 u0_2 u0_3 u0_4 u0_5 u0_6 u0_7 u0_8 u0_9 u1_0 u1_3 u1_4 u2_1 u2_2 u2_4 u2_5 u3_1 u3_3 u6_1 u6_2 u6_3 u6_4 u6_5 u6_6 u6_8 u6_9 u6_10 u6_12 u6_13 u6_14 u6_15 u6_16 u6_17 u6_18 u6_19 u6_20 u6_21 u6_22 u6_23 u6_24 u6_25 u6_26 u6_27 u6_28 u6_29 u6_30 x2_count x3_count x3_turn y4_direction y5_stops x6_thrown y7_s y8_ways ++ pl) H) (hD : va_D A (w_case_44 g a0 a1 a2 a3 a4 a5 a6 a7 a8 b3 u0_1 u0_2 u0_3 u0_4 u0_5 u0_6 u0_7 u0_8 u0_9 u1_0 u1_3 u1_4 u2_1 u2_2 u2_4 u2_5 u3_1 u3_3 u6_1 u6_2 u6_3 u6_4 u6_5 u6_6 u6_8 u6_9 u6_10 u6_12 u6_13 u6_14 u6_15 u6_16 u6_17 u6_18 u6_19 u6_20 u6_21 u6_22 u6_23 u6_24 u6_25 u6_26 u6_27 u6_28 u6_29 u6_30 x2_count x3_count x3_turn y4_direction y5_stops x6_thrown y7_s y8_ways ++ pl)) (hS : va_S A s.heap H locs) (hl : lv_has ls 9 [(0, .ref sb), (1, .ref a0), (2, .ref a6), (3, .ref b3), (4, .int i)]) (kk : ∀ (H : Heap) (locs : List Loc) (ls : Array Slot), va_P g.1 vwCl (w_case_44 g a0 a1 a2 a3 a4 a5 a6 a7 a8 b3 u0_1 u0_2 u0_3 u0_4 u0_5 u0_6 u0_7 u0_8 u0_9 u1_0 u1_3 u1_4 u2_1 u2_2 u2_4 u2_5 u3_1 u3_3 u6_1 u6_2 u6_3 u6_4 u6_5 u6_6 u6_8 u6_9 u6_10 u6_12 u6_13 u6_14 u6_15 u6_16 u6_17 u6_18 u6_19 u6_20 u6_21 u6_22 u6_23 u6_24 u6_25 u6_26 u6_27 u6_28 u6_29 u6_30 x2_count x3_count x3_turn y4_direction y5_stops o_x6_thrown y7_s o_y8_ways ++ pl) H → va_D A (w_case_44 g a0 a1 a2 a3 a4 a5 a6 a7 a8 b3 u0_1 u0_2 u0_3 u0_4 u0_5 u0_6 u0_7 u0_8 u0_9 u1_0 u1_3 u1_4 u2_1 u2_2 u2_4 u2_5 u3_1 u3_3 u6_1 u6_2 u6_3 u6_4 u6_5 u6_6 u6_8 u6_9 u6_10 u6_12 u6_13 u6_14 u6_15 u6_16 u6_17 u6_18 u6_19 u6_20 u6_21 u6_22 u6_23 u6_24 u6_25 u6_26 u6_27 u6_28 u6_29 u6_30 x2_count x3_count x3_turn y4_direction y5_stops o_x6_thrown y7_s o_y8_ways ++ pl) → va_S A s.heap H locs → lv_has ls 9 [(0, .ref sb), (1, .ref a0), (2, .ref a6), (3, .ref b3), (4, .int i)] → W p l e R s m args below meth c H locs (c1 + 14) (s1 + 846) Q (F0 m 2565 ls [])) : W p l e R s m args below meth c H locs c1 s1 Q (F0 m 2275 ls []) := by
  unfold f_case_44 at hf
  refine lv_aload_n (pc := 2275) hexec hb dL_law_2275 rfl (lv_at hl 1 rfl) ?_
  obtain ⟨r2276, hc, hf⟩ := bd1_e hf
  refine kVLt (pc := 2276) (S := ⟨hexec, hb, hml, hown, hts⟩) hP hD hG hA hS [0, 1, 2, 3, 4, 5] [6, 7, 8] rfl rfl rfl (me_of_mi (c_X8_meanTurn l g a0 a1 a2 a3 a4 a5 _ u0_1 u0_2 u0_3 u0_4 u0_5 u0_6 u0_7 u0_8 u0_9 u1_0 u1_3 u1_4 u2_1 u2_2 u2_4 u2_5 u3_1 u3_3 x2_count x3_count x3_turn y4_direction y5_stops r2276 hc)) gL_law_X8_meanTurn rfl hq_X8_meanTurn ⟨by omega, by omega⟩ 8 0 rfl rfl rfl (rest := []) rfl rfl hl.1 (nle rfl) dL_law_2276 ⟨by omega, by omega⟩ (fun w1 H locs hF1 hP hD hS => ?_)
  subst hF1
  have hP := lbk hP [3, 4, 5, 6, 7, 8, 0, 1, 2] (X := (w_case_44 g a0 a1 a2 a3 a4 a5 a6 a7 a8 b3 u0_1 u0_2 u0_3 u0_4 u0_5 u0_6 u0_7 u0_8 u0_9 u1_0 u1_3 u1_4 u2_1 u2_2 u2_4 u2_5 u3_1 u3_3 u6_1 u6_2 u6_3 u6_4 u6_5 u6_6 u6_8 u6_9 u6_10 u6_12 u6_13 u6_14 u6_15 u6_16 u6_17 u6_18 u6_19 u6_20 u6_21 u6_22 u6_23 u6_24 u6_25 u6_26 u6_27 u6_28 u6_29 u6_30 x2_count x3_count x3_turn y4_direction y5_stops x6_thrown y7_s y8_ways)) rfl
  have hD := lbkD hD [3, 4, 5, 6, 7, 8, 0, 1, 2] (X := (w_case_44 g a0 a1 a2 a3 a4 a5 a6 a7 a8 b3 u0_1 u0_2 u0_3 u0_4 u0_5 u0_6 u0_7 u0_8 u0_9 u1_0 u1_3 u1_4 u2_1 u2_2 u2_4 u2_5 u3_1 u3_3 u6_1 u6_2 u6_3 u6_4 u6_5 u6_6 u6_8 u6_9 u6_10 u6_12 u6_13 u6_14 u6_15 u6_16 u6_17 u6_18 u6_19 u6_20 u6_21 u6_22 u6_23 u6_24 u6_25 u6_26 u6_27 u6_28 u6_29 u6_30 x2_count x3_count x3_turn y4_direction y5_stops x6_thrown y7_s y8_ways)) rfl rfl
  refine W.widen (k := c1) (n := s1) (by omega) (by omega) ?_
  refine lv_dstore (pc := 2279) hexec hb dL_law_2279 hl (nle rfl) rfl (fun ls (hl : lv_has ls 9 [(5, .double r2276), (0, .ref sb), (1, .ref a0), (2, .ref a6), (3, .ref b3), (4, .int i)]) => ?_)
  refine lv_aload_n (pc := 2281) hexec hb dL_law_2281 rfl (lv_at hl 3 rfl) ?_
  obtain ⟨r2282, x6_thrown_1, y8_ways_1, hc, hf⟩ := bd3_e hf
  refine kVLt (pc := 2282) (S := ⟨hexec, hb, hml, hown, hts⟩) hP hD hG hA hS [6, 7, 8] [0, 1, 2, 3, 4, 5] rfl rfl rfl (me_of_mi (c_X9_meanTurn l g a6 a7 a8 _ u6_1 u6_2 u6_3 u6_4 u6_5 u6_6 u6_8 u6_9 u6_10 u6_12 u6_13 u6_14 u6_15 u6_16 u6_17 u6_18 u6_19 u6_20 u6_21 u6_22 u6_23 u6_24 u6_25 u6_26 u6_27 u6_28 u6_29 u6_30 x6_thrown y7_s y8_ways r2282 x6_thrown_1 y8_ways_1 hc)) gL_law_X9_meanTurn rfl hq_X9_meanTurn ⟨by omega, by omega⟩ 9 0 rfl rfl rfl (rest := []) rfl rfl hl.1 (nle rfl) dL_law_2282 ⟨by omega, by omega⟩ (fun w1 H locs hF1 hP hD hS => ?_)
  subst hF1
  have hP := lbk hP [0, 1, 2, 3, 4, 5, 6, 7, 8] (X := (w_case_44 g a0 a1 a2 a3 a4 a5 a6 a7 a8 b3 u0_1 u0_2 u0_3 u0_4 u0_5 u0_6 u0_7 u0_8 u0_9 u1_0 u1_3 u1_4 u2_1 u2_2 u2_4 u2_5 u3_1 u3_3 u6_1 u6_2 u6_3 u6_4 u6_5 u6_6 u6_8 u6_9 u6_10 u6_12 u6_13 u6_14 u6_15 u6_16 u6_17 u6_18 u6_19 u6_20 u6_21 u6_22 u6_23 u6_24 u6_25 u6_26 u6_27 u6_28 u6_29 u6_30 x2_count x3_count x3_turn y4_direction y5_stops x6_thrown_1 y7_s y8_ways_1)) rfl
  have hD := lbkD hD [0, 1, 2, 3, 4, 5, 6, 7, 8] (X := (w_case_44 g a0 a1 a2 a3 a4 a5 a6 a7 a8 b3 u0_1 u0_2 u0_3 u0_4 u0_5 u0_6 u0_7 u0_8 u0_9 u1_0 u1_3 u1_4 u2_1 u2_2 u2_4 u2_5 u3_1 u3_3 u6_1 u6_2 u6_3 u6_4 u6_5 u6_6 u6_8 u6_9 u6_10 u6_12 u6_13 u6_14 u6_15 u6_16 u6_17 u6_18 u6_19 u6_20 u6_21 u6_22 u6_23 u6_24 u6_25 u6_26 u6_27 u6_28 u6_29 u6_30 x2_count x3_count x3_turn y4_direction y5_stops x6_thrown_1 y7_s y8_ways_1)) rfl rfl
  refine W.widen (k := c1) (n := s1) (by omega) (by omega) ?_
  refine lv_dstore (pc := 2285) hexec hb dL_law_2285 hl (nle rfl) rfl (fun ls (hl : lv_has ls 9 [(7, .double r2282), (5, .double r2276), (0, .ref sb), (1, .ref a0), (2, .ref a6), (3, .ref b3), (4, .int i)]) => ?_)
  refine lv_dload (pc := 2287) hexec hb dL_law_2287 (lv_at hl 1 rfl) ?_
  refine lv_dload (pc := 2289) hexec hb dL_law_2289 (lv_at hl 0 rfl) ?_
  refine lv_dcmp (pc := 2291) hexec hb dL_law_2291 ?_
  obtain ⟨j2313, ej2313, hf⟩ := bvf1 hf
  have hj2313 : ∀ (u : Unit) (H : Heap) (locs : List Loc) (ls : Array Slot), j2313 u = some (o_x6_thrown, o_y8_ways) → va_P g.1 vwCl (w_case_44 g a0 a1 a2 a3 a4 a5 a6 a7 a8 b3 u0_1 u0_2 u0_3 u0_4 u0_5 u0_6 u0_7 u0_8 u0_9 u1_0 u1_3 u1_4 u2_1 u2_2 u2_4 u2_5 u3_1 u3_3 u6_1 u6_2 u6_3 u6_4 u6_5 u6_6 u6_8 u6_9 u6_10 u6_12 u6_13 u6_14 u6_15 u6_16 u6_17 u6_18 u6_19 u6_20 u6_21 u6_22 u6_23 u6_24 u6_25 u6_26 u6_27 u6_28 u6_29 u6_30 x2_count x3_count x3_turn y4_direction y5_stops x6_thrown_1 y7_s y8_ways_1 ++ pl) H → va_D A (w_case_44 g a0 a1 a2 a3 a4 a5 a6 a7 a8 b3 u0_1 u0_2 u0_3 u0_4 u0_5 u0_6 u0_7 u0_8 u0_9 u1_0 u1_3 u1_4 u2_1 u2_2 u2_4 u2_5 u3_1 u3_3 u6_1 u6_2 u6_3 u6_4 u6_5 u6_6 u6_8 u6_9 u6_10 u6_12 u6_13 u6_14 u6_15 u6_16 u6_17 u6_18 u6_19 u6_20 u6_21 u6_22 u6_23 u6_24 u6_25 u6_26 u6_27 u6_28 u6_29 u6_30 x2_count x3_count x3_turn y4_direction y5_stops x6_thrown_1 y7_s y8_ways_1 ++ pl) → va_S A s.heap H locs → lv_has ls 9 [(0, .ref sb), (1, .ref a0), (2, .ref a6), (3, .ref b3), (4, .int i)] → W p l e R s m args below meth c H locs c1 s1 Q (F0 m 2313 ls []) := by
    intro u H locs ls hf hP hD hS hl
    have hf := (ej2313 u).symm.trans hf
    refine lv_goto (pc := 2313) hexec hb dL_law_2313 (tgt := 2565) rfl ?_
    cases hf
    exact W.widen (by omega) (by omega) (kk _ _ _ hP hD hS (lv_sub hl [0, 1, 2, 3, 4] rfl))
  refine kb_eq (pc := 2292) hexec hb dL_law_2292 (tgt := 2313) rfl hf (fun hc hf => ?_) (fun hc hf => ?_)
  · exact hj2313 _ _ _ _ hf hP hD hS (lv_sub hl [2, 3, 4, 5, 6] rfl)
  · refine lv_dload (pc := 2295) hexec hb dL_law_2295 (lv_at hl 1 rfl) ?_
    refine lv_dload (pc := 2297) hexec hb dL_law_2297 (lv_at hl 1 rfl) ?_
    refine lv_dcmp (pc := 2299) hexec hb dL_law_2299 ?_
    refine kb_eq (pc := 2300) hexec hb dL_law_2300 (tgt := 2311) rfl hf (fun hc hf => ?_) (fun hc hf => ?_)
    · cases hf
    · refine lv_dload (pc := 2303) hexec hb dL_law_2303 (lv_at hl 0 rfl) ?_
      refine lv_dload (pc := 2305) hexec hb dL_law_2305 (lv_at hl 0 rfl) ?_
      refine lv_dcmp (pc := 2307) hexec hb dL_law_2307 ?_
      refine kb_ne (pc := 2308) hexec hb dL_law_2308 (tgt := 2313) rfl hf (fun hc hf => ?_) (fun hc hf => ?_)
      · exact hj2313 _ _ _ _ hf hP hD hS (lv_sub hl [2, 3, 4, 5, 6] rfl)
      · cases hf
end LAWC
