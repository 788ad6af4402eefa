section LAWC
variable {p : Program} {l : Launch} {e : Env} {R : Room} {s : State} {m : MethodId} {args : Array Value} {below : List Frame} {meth : Method} {c : Code} {H : Heap} {locs : List Loc} {c1 s1 : Nat} {Q : State → Prop} {ls : Array Slot} {A : Nat → Prop} {g : GE} {sb L : Nat} {xs : Nat → Int32} {i : Int32} {pl : va_W}
abbrev w_case_18 (g : GE) (a0 a1 a2 a3 a4 a5 a6 a7 a8 a9 : Nat) (u0_1 u0_2 u0_3 u0_4 u0_5 u0_6 u0_7 u0_8 u0_9 u1_0 u1_3 u1_4 u2_0 u2_1 u2_2 u2_4 u2_5 u3_1 u3_2 u3_3 u6_1 u6_2 u6_3 u6_4 u6_5 u6_6 u6_8 u6_9 u6_10 u6_12 u6_13 u6_14 u6_15 u6_16 u6_17 u6_18 u6_19 u6_20 u6_21 u6_22 u6_23 u6_24 u6_25 u6_26 u6_27 u6_28 u6_29 u6_30 : Value) (x3_count : Int32) (y4_direction : Nat → Int32) (y5_stops : Nat → Int32) (x6_thrown : Int32) (y7_s : Nat → Int32) (y8_ways : Nat → Int32) (y9_p : Nat → Int64) : va_W := [(a0, .inr (8, [.ref a1, u0_1, u0_2, u0_3, u0_4, u0_5, u0_6, u0_7, u0_8, u0_9])), (a1, .inr (6, [u1_0, .ref a2, .ref a3, u1_3, u1_4])), (a2, .inr (2, [u2_0, u2_1, u2_2, .ref a4, u2_4, u2_5])), (a3, .inr (4, [.int x3_count, u3_1, u3_2, u3_3, .ref a5])), (a4, .inl (g.2.1 0, 8, .inl y4_direction)), (a5, .inl (g.2.1 0, 16, .inl y5_stops)), (a6, .inr (9, [.ref a7, u6_1, u6_2, u6_3, u6_4, u6_5, u6_6, .int x6_thrown, u6_8, u6_9, u6_10, .ref a8, u6_12, u6_13, u6_14, u6_15, u6_16, u6_17, u6_18, u6_19, u6_20, u6_21, u6_22, u6_23, u6_24, u6_25, u6_26, u6_27, u6_28, u6_29, u6_30])), (a7, .inl (g.2.1 0, 552, .inl y7_s)), (a8, .inl (g.2.1 0, 8, .inl y8_ways)), (a9, .inl (g.2.1 3, 1, .inr (.inl y9_p)))]
noncomputable def f_case_18 (L : Nat) (xs : Nat → Int32) (i : Int32) (x3_count : Int32) (y4_direction : Nat → Int32) (y5_stops : Nat → Int32) (x6_thrown : Int32) (y7_s : Nat → Int32) (y8_ways : Nat → Int32) (y9_p : Nat → Int64) : Option (Int32 × (Nat → Int32) × (Nat → Int64)) :=
  ar (i + 1) L <|
  bv (fun (k1056 : Int32) (y9_p_1 : Nat → Int64) => ((
    ar (i + 1) L <|
    bd3 (f_X9_turningFrom x6_thrown y7_s y8_ways (xs (i + 1).toNatClampNeg)) fun (r1068 : Int32) (x6_thrown_1 : Int32) (y8_ways_1 : Nat → Int32) =>
    bd1 (f_X9_thrown x6_thrown_1) fun (r1074 : Int32) =>
    (if r1074 = k1056 then (
      bv (fun (_ : Unit) => ((
        some (x6_thrown_1, y8_ways_1, y9_p_1)
        ) : Option (Int32 × (Nat → Int32) × (Nat → Int64)))) fun j1101 =>
      (if k1056 = 0 then (
        ar 0 1 <|
        (if (lg_cmp (y9_p_1 (0 : Int32).toNatClampNeg) (r1068.toInt64)) = 0 then (
          j1101 ()
        ) else (
          none
        ))
      ) else (
        j1101 ()
      ))
    ) else (
      none
    ))
    ) : Option (Int32 × (Nat → Int32) × (Nat → Int64)))) fun jh1056 =>
  match t_X8_turningFrom x3_count y4_direction y5_stops (xs (i + 1).toNatClampNeg) with
  | some cls =>
    (if cls = "java/lang/IllegalArgumentException" then jh1056 1 y9_p  else
    none)
  | none =>
    bd1 (f_X8_turningFrom x3_count y4_direction y5_stops (xs (i + 1).toNatClampNeg)) fun (r1056 : Int32) =>
    jh1056 0 (vp_updL y9_p (0 : Int32).toNatClampNeg r1056.toInt64) 
set_option maxRecDepth 20000 in
theorem lc_18 (hlt : l.stackTraces = false) (hexec : p.tables.exec = Jvm.exec) (hb : c.code = cL_law) (hml : c.maxLocals = 9) (hown : s.vm.findClass RL = some m.cls) (hts : ∀ w ∈ wsL_law, w.before args s = true) (hG : GG g A s s.heap) (hA : ∀ q, s.heap.size ≤ q → A q) (hX : va_X sb L xs s s.heap) (hbl : sb < s.heap.size) (hbA : ¬ A sb) (hRf : 2000 ≤ R.frames) (hRl : 80000 ≤ R.locals) (hRc : c1 + 14 ≤ R.cells) (hRs : s1 + 846 ≤ R.slots) (a0 a1 a2 a3 a4 a5 a6 a7 a8 a9 : Nat) (u0_1 u0_2 u0_3 u0_4 u0_5 u0_6 u0_7 u0_8 u0_9 u1_0 u1_3 u1_4 u2_0 u2_1 u2_2 u2_4 u2_5 u3_1 u3_2 u3_3 u6_1 u6_2 u6_3 u6_4 u6_5 u6_6 u6_8 u6_9 u6_10 u6_12 u6_13 u6_14 u6_15 u6_16 u6_17 u6_18 u6_19 u6_20 u6_21 u6_22 u6_23 u6_24 u6_25 u6_26 u6_27 u6_28 u6_29 u6_30 : Value) (x3_count : Int32) (y4_direction : Nat → Int32) (y5_stops : Nat → Int32) (x6_thrown : Int32) (y7_s : Nat → Int32) (y8_ways : Nat → Int32) (y9_p : Nat → Int64) (o_x6_thrown : Int32) (o_y8_ways : Nat → Int32) (o_y9_p : Nat → Int64) (hf : f_case_18 L xs i x3_count y4_direction y5_stops x6_thrown y7_s y8_ways y9_p = some (o_x6_thrown, o_y8_ways, o_y9_p)) (hP : va_P g.1 vwCl (w_case_18 g a0 a1 a2 a3 a4 a5 a6 a7 a8 a9 u0_1 u0_2 u0_3 u0_4 u0_5 u0_6 u0_7 u0_8 u0_9 u1_0 u1_3 u1_4 u2_0 u2_1 u2_2 u2_4 u2_5 u3_1 u3_2 u3_3 u6_1 u6_2 u6_3 u6_4 u6_5 u6_6 u6_8 u6_9 u6_10 u6_12 u6_13 u6_14 u6_15 u6_16 u6_17 u6_18 u6_19 u6_20 u6_21 u6_22 u6_23 u6_24 u6_25 u6_26 u6_27 u6_28 u6_29 u6_30 x3_count y4_direction y5_stops x6_thrown y7_s y8_ways y9_p ++ pl) H) (hD : va_D A (w_case_18 g a0 a1 a2 a3 a4 a5 a6 a7 a8 a9 u0_1 u0_2 u0_3 u0_4 u0_5 u0_6 u0_7 u0_8 u0_9 u1_0 u1_3 u1_4 u2_0 u2_1 u2_2 u2_4 u2_5 u3_1 u3_2 u3_3 u6_1 u6_2 u6_3 u6_4 u6_5 u6_6 u6_8 u6_9 u6_10 u6_12 u6_13 u6_14 u6_15 u6_16 u6_17 u6_18 u6_19 u6_20 u6_21 u6_22 u6_23 u6_24 u6_25 u6_26 u6_27 u6_28 u6_29 u6_30 x3_count y4_direction y5_stops x6_thrown y7_s y8_ways y9_p ++ pl)) (hS : va_S A s.heap H locs) (hl : lv_has ls 9 [(0, .ref sb), (1, .ref a0), (2, .ref a6), (3, .ref a9), (4, .int i)]) (kk : ∀ (H : Heap) (locs : List Loc) (ls : Array Slot), va_P g.1 vwCl (w_case_18 g a0 a1 a2 a3 a4 a5 a6 a7 a8 a9 u0_1 u0_2 u0_3 u0_4 u0_5 u0_6 u0_7 u0_8 u0_9 u1_0 u1_3 u1_4 u2_0 u2_1 u2_2 u2_4 u2_5 u3_1 u3_2 u3_3 u6_1 u6_2 u6_3 u6_4 u6_5 u6_6 u6_8 u6_9 u6_10 u6_12 u6_13 u6_14 u6_15 u6_16 u6_17 u6_18 u6_19 u6_20 u6_21 u6_22 u6_23 u6_24 u6_25 u6_26 u6_27 u6_28 u6_29 u6_30 x3_count y4_direction y5_stops o_x6_thrown y7_s o_y8_ways o_y9_p ++ pl) H → va_D A (w_case_18 g a0 a1 a2 a3 a4 a5 a6 a7 a8 a9 u0_1 u0_2 u0_3 u0_4 u0_5 u0_6 u0_7 u0_8 u0_9 u1_0 u1_3 u1_4 u2_0 u2_1 u2_2 u2_4 u2_5 u3_1 u3_2 u3_3 u6_1 u6_2 u6_3 u6_4 u6_5 u6_6 u6_8 u6_9 u6_10 u6_12 u6_13 u6_14 u6_15 u6_16 u6_17 u6_18 u6_19 u6_20 u6_21 u6_22 u6_23 u6_24 u6_25 u6_26 u6_27 u6_28 u6_29 u6_30 x3_count y4_direction y5_stops o_x6_thrown y7_s o_y8_ways o_y9_p ++ pl) → va_S A s.heap H locs → lv_has ls 9 [(0, .ref sb), (1, .ref a0), (2, .ref a6), (3, .ref a9), (4, .int i)] → W p l e R s m args below meth c H locs (c1 + 14) (s1 + 846) Q (F0 m 2565 ls [])) : W p l e R s m args below meth c H locs c1 s1 Q (F0 m 1048 ls []) := by
  unfold f_case_18 at hf
  refine lv_aload_n (pc := 1048) hexec hb dL_law_1048 rfl (lv_at hl 1 rfl) ?_
  refine lv_aload_n (pc := 1049) hexec hb dL_law_1049 rfl (lv_at hl 0 rfl) ?_
  refine lv_iload (pc := 1050) hexec hb dL_law_1050 (lv_at hl 4 rfl) ?_
  refine lv_iconst (pc := 1052) hexec hb dL_law_1052 ki_1 ?_
  refine lv_iadd (pc := 1053) hexec hb dL_law_1053 ?_
  refine k_scr (pc := 1054) hexec hb hX hbl hbA hS hf dL_law_1054 (fun hf => ?_)
  refine lv_aload_n (pc := 1055) hexec hb dL_law_1055 rfl (lv_at hl 3 rfl) ?_
  obtain ⟨jh1056, ejh1056, hf⟩ := bvf2 hf
  have hjh1056 : ∀ (k1056 : Int32) (y9_p_1 : Nat → Int64) (H : Heap) (locs : List Loc) (ls : Array Slot), jh1056 k1056 y9_p_1 = some (o_x6_thrown, o_y8_ways, o_y9_p) → va_P g.1 vwCl (w_case_18 g a0 a1 a2 a3 a4 a5 a6 a7 a8 a9 u0_1 u0_2 u0_3 u0_4 u0_5 u0_6 u0_7 u0_8 u0_9 u1_0 u1_3 u1_4 u2_0 u2_1 u2_2 u2_4 u2_5 u3_1 u3_2 u3_3 u6_1 u6_2 u6_3 u6_4 u6_5 u6_6 u6_8 u6_9 u6_10 u6_12 u6_13 u6_14 u6_15 u6_16 u6_17 u6_18 u6_19 u6_20 u6_21 u6_22 u6_23 u6_24 u6_25 u6_26 u6_27 u6_28 u6_29 u6_30 x3_count y4_direction y5_stops x6_thrown y7_s y8_ways y9_p_1 ++ pl) H → va_D A (w_case_18 g a0 a1 a2 a3 a4 a5 a6 a7 a8 a9 u0_1 u0_2 u0_3 u0_4 u0_5 u0_6 u0_7 u0_8 u0_9 u1_0 u1_3 u1_4 u2_0 u2_1 u2_2 u2_4 u2_5 u3_1 u3_2 u3_3 u6_1 u6_2 u6_3 u6_4 u6_5 u6_6 u6_8 u6_9 u6_10 u6_12 u6_13 u6_14 u6_15 u6_16 u6_17 u6_18 u6_19 u6_20 u6_21 u6_22 u6_23 u6_24 u6_25 u6_26 u6_27 u6_28 u6_29 u6_30 x3_count y4_direction y5_stops x6_thrown y7_s y8_ways y9_p_1 ++ pl) → va_S A s.heap H locs → lv_has ls 9 [(0, .ref sb), (1, .ref a0), (2, .ref a6), (3, .ref a9), (4, .int i)] → W p l e R s m args below meth c H locs (c1 + 14) (s1 + 846) Q (F0 m 1059 ls [.int k1056]) := by
    intro k1056 y9_p_1 H locs ls hf hP hD hS hl
    have hf := (ejh1056 k1056 y9_p_1).symm.trans hf
    refine lv_istore (pc := 1059) hexec hb dL_law_1059 hl (nle rfl) rfl (fun ls (hl : lv_has ls 9 [(5, .int k1056), (0, .ref sb), (1, .ref a0), (2, .ref a6), (3, .ref a9), (4, .int i)]) => ?_)
    refine lv_aload_n (pc := 1061) hexec hb dL_law_1061 rfl (lv_at hl 3 rfl) ?_
    refine lv_aload_n (pc := 1062) hexec hb dL_law_1062 rfl (lv_at hl 1 rfl) ?_
    refine lv_iload (pc := 1063) hexec hb dL_law_1063 (lv_at hl 5 rfl) ?_
    refine lv_iconst (pc := 1065) hexec hb dL_law_1065 ki_1 ?_
    refine lv_iadd (pc := 1066) hexec hb dL_law_1066 ?_
    refine k_scr (pc := 1067) hexec hb hX hbl hbA hS hf dL_law_1067 (fun hf => ?_)
    obtain ⟨r1068, x6_thrown_1, y8_ways_1, hc, hf⟩ := bd3_e hf
    refine kVLt (pc := 1068) (S := ⟨hexec, hb, hml, hown, hts⟩) hP hD hG hA hS [6, 7, 8] [0, 1, 2, 3, 4, 5, 9] rfl rfl rfl (me_of_mi (c_X9_turningFrom l g a6 a7 a8 _ u6_1 u6_2 u6_3 u6_4 u6_5 u6_6 u6_8 u6_9 u6_10 u6_12 u6_13 u6_14 u6_15 u6_16 u6_17 u6_18 u6_19 u6_20 u6_21 u6_22 u6_23 u6_24 u6_25 u6_26 u6_27 u6_28 u6_29 u6_30 x6_thrown y7_s y8_ways (xs (i + 1).toNatClampNeg) r1068 x6_thrown_1 y8_ways_1 hc)) gL_law_X9_turningFrom rfl hq_X9_turningFrom ⟨by omega, by omega⟩ 9 0 rfl rfl rfl (rest := []) rfl rfl hl.1 (nle rfl) dL_law_1068 ⟨by omega, by omega⟩ (fun w1 H locs hF1 hP hD hS => ?_)
    subst hF1
    have hP := lbk hP [0, 1, 2, 3, 4, 5, 7, 8, 9, 6] (X := (w_case_18 g a0 a1 a2 a3 a4 a5 a6 a7 a8 a9 u0_1 u0_2 u0_3 u0_4 u0_5 u0_6 u0_7 u0_8 u0_9 u1_0 u1_3 u1_4 u2_0 u2_1 u2_2 u2_4 u2_5 u3_1 u3_2 u3_3 u6_1 u6_2 u6_3 u6_4 u6_5 u6_6 u6_8 u6_9 u6_10 u6_12 u6_13 u6_14 u6_15 u6_16 u6_17 u6_18 u6_19 u6_20 u6_21 u6_22 u6_23 u6_24 u6_25 u6_26 u6_27 u6_28 u6_29 u6_30 x3_count y4_direction y5_stops x6_thrown_1 y7_s y8_ways_1 y9_p_1)) rfl
    have hD := lbkD hD [0, 1, 2, 3, 4, 5, 7, 8, 9, 6] (X := (w_case_18 g a0 a1 a2 a3 a4 a5 a6 a7 a8 a9 u0_1 u0_2 u0_3 u0_4 u0_5 u0_6 u0_7 u0_8 u0_9 u1_0 u1_3 u1_4 u2_0 u2_1 u2_2 u2_4 u2_5 u3_1 u3_2 u3_3 u6_1 u6_2 u6_3 u6_4 u6_5 u6_6 u6_8 u6_9 u6_10 u6_12 u6_13 u6_14 u6_15 u6_16 u6_17 u6_18 u6_19 u6_20 u6_21 u6_22 u6_23 u6_24 u6_25 u6_26 u6_27 u6_28 u6_29 u6_30 x3_count y4_direction y5_stops x6_thrown_1 y7_s y8_ways_1 y9_p_1)) rfl rfl
    refine W.widen (k := c1 + 14) (n := s1 + 846) (by omega) (by omega) ?_
    refine lv_istore (pc := 1071) hexec hb dL_law_1071 hl (nle rfl) rfl (fun ls (hl : lv_has ls 9 [(6, .int r1068), (5, .int k1056), (0, .ref sb), (1, .ref a0), (2, .ref a6), (3, .ref a9), (4, .int i)]) => ?_)
    refine lv_aload_n (pc := 1073) hexec hb dL_law_1073 rfl (lv_at hl 4 rfl) ?_
    obtain ⟨r1074, hc, hf⟩ := bd1_e hf
    refine kVLt (pc := 1074) (S := ⟨hexec, hb, hml, hown, hts⟩) hP hD hG hA hS [6] [0, 1, 2, 3, 4, 5, 7, 8, 9] rfl rfl rfl (me_of_mi (c_X9_thrown l g a6 _ (.ref a7) u6_1 u6_2 u6_3 u6_4 u6_5 u6_6 u6_8 u6_9 u6_10 (.ref a8) u6_12 u6_13 u6_14 u6_15 u6_16 u6_17 u6_18 u6_19 u6_20 u6_21 u6_22 u6_23 u6_24 u6_25 u6_26 u6_27 u6_28 u6_29 u6_30 x6_thrown_1 r1074 hc)) gL_law_X9_thrown rfl hq_X9_thrown ⟨by omega, by omega⟩ 9 0 rfl rfl rfl (rest := []) rfl rfl hl.1 (nle rfl) dL_law_1074 ⟨by omega, by omega⟩ (fun w1 H locs hF1 hP hD hS => ?_)
    subst hF1
    have hP := lbk hP [0, 1, 2, 3, 4, 5, 9, 6, 7, 8] (X := (w_case_18 g a0 a1 a2 a3 a4 a5 a6 a7 a8 a9 u0_1 u0_2 u0_3 u0_4 u0_5 u0_6 u0_7 u0_8 u0_9 u1_0 u1_3 u1_4 u2_0 u2_1 u2_2 u2_4 u2_5 u3_1 u3_2 u3_3 u6_1 u6_2 u6_3 u6_4 u6_5 u6_6 u6_8 u6_9 u6_10 u6_12 u6_13 u6_14 u6_15 u6_16 u6_17 u6_18 u6_19 u6_20 u6_21 u6_22 u6_23 u6_24 u6_25 u6_26 u6_27 u6_28 u6_29 u6_30 x3_count y4_direction y5_stops x6_thrown_1 y7_s y8_ways_1 y9_p_1)) rfl
    have hD := lbkD hD [0, 1, 2, 3, 4, 5, 9, 6, 7, 8] (X := (w_case_18 g a0 a1 a2 a3 a4 a5 a6 a7 a8 a9 u0_1 u0_2 u0_3 u0_4 u0_5 u0_6 u0_7 u0_8 u0_9 u1_0 u1_3 u1_4 u2_0 u2_1 u2_2 u2_4 u2_5 u3_1 u3_2 u3_3 u6_1 u6_2 u6_3 u6_4 u6_5 u6_6 u6_8 u6_9 u6_10 u6_12 u6_13 u6_14 u6_15 u6_16 u6_17 u6_18 u6_19 u6_20 u6_21 u6_22 u6_23 u6_24 u6_25 u6_26 u6_27 u6_28 u6_29 u6_30 x3_count y4_direction y5_stops x6_thrown_1 y7_s y8_ways_1 y9_p_1)) rfl rfl
    refine W.widen (k := c1 + 14) (n := s1 + 846) (by omega) (by omega) ?_
    refine lv_iload (pc := 1077) hexec hb dL_law_1077 (lv_at hl 1 rfl) ?_
    refine ki_eq (pc := 1079) hexec hb dL_law_1079 (tgt := 1084) rfl hf (fun hc hf => ?_) (fun hc hf => ?_)
    · refine lv_iload (pc := 1084) hexec hb dL_law_1084 (lv_at hl 1 rfl) ?_
      obtain ⟨j1101, ej1101, hf⟩ := bvf1 hf
      have hj1101 : ∀ (u : Unit) (H : Heap) (locs : List Loc) (ls : Array Slot), j1101 u = some (o_x6_thrown, o_y8_ways, o_y9_p) → va_P g.1 vwCl (w_case_18 g a0 a1 a2 a3 a4 a5 a6 a7 a8 a9 u0_1 u0_2 u0_3 u0_4 u0_5 u0_6 u0_7 u0_8 u0_9 u1_0 u1_3 u1_4 u2_0 u2_1 u2_2 u2_4 u2_5 u3_1 u3_2 u3_3 u6_1 u6_2 u6_3 u6_4 u6_5 u6_6 u6_8 u6_9 u6_10 u6_12 u6_13 u6_14 u6_15 u6_16 u6_17 u6_18 u6_19 u6_20 u6_21 u6_22 u6_23 u6_24 u6_25 u6_26 u6_27 u6_28 u6_29 u6_30 x3_count y4_direction y5_stops x6_thrown_1 y7_s y8_ways_1 y9_p_1 ++ pl) H → va_D A (w_case_18 g a0 a1 a2 a3 a4 a5 a6 a7 a8 a9 u0_1 u0_2 u0_3 u0_4 u0_5 u0_6 u0_7 u0_8 u0_9 u1_0 u1_3 u1_4 u2_0 u2_1 u2_2 u2_4 u2_5 u3_1 u3_2 u3_3 u6_1 u6_2 u6_3 u6_4 u6_5 u6_6 u6_8 u6_9 u6_10 u6_12 u6_13 u6_14 u6_15 u6_16 u6_17 u6_18 u6_19 u6_20 u6_21 u6_22 u6_23 u6_24 u6_25 u6_26 u6_27 u6_28 u6_29 u6_30 x3_count y4_direction y5_stops x6_thrown_1 y7_s y8_ways_1 y9_p_1 ++ pl) → va_S A s.heap H locs → lv_has ls 9 [(0, .ref sb), (1, .ref a0), (2, .ref a6), (3, .ref a9), (4, .int i)] → W p l e R s m args below meth c H locs (c1 + 14) (s1 + 846) Q (F0 m 1101 ls []) := by
        intro u H locs ls hf hP hD hS hl
        have hf := (ej1101 u).symm.trans hf
        refine lv_goto (pc := 1101) hexec hb dL_law_1101 (tgt := 2565) rfl ?_
        cases hf
        exact W.widen (by omega) (by omega) (kk _ _ _ hP hD hS (lv_sub hl [0, 1, 2, 3, 4] rfl))
      refine kb_ne (pc := 1086) hexec hb dL_law_1086 (tgt := 1101) rfl hf (fun hc hf => ?_) (fun hc hf => ?_)
      · exact hj1101 _ _ _ _ hf hP hD hS (lv_sub hl [2, 3, 4, 5, 6] rfl)
      · refine lv_aload_n (pc := 1089) hexec hb dL_law_1089 rfl (lv_at hl 5 rfl) ?_
        refine lv_iconst (pc := 1090) hexec hb dL_law_1090 ki_0 ?_
        refine kr_lald (pc := 1091) hexec hb hG hP 9 rfl hf dL_law_1091 (fun hf => ?_)
        refine lv_iload (pc := 1092) hexec hb dL_law_1092 (lv_at hl 0 rfl) ?_
        refine lv_i2l (pc := 1094) hexec hb dL_law_1094 rfl ?_
        refine kc_lcmp (pc := 1095) hexec hb dL_law_1095 ?_
        refine kb_eq (pc := 1096) hexec hb dL_law_1096 (tgt := 1101) rfl hf (fun hc hf => ?_) (fun hc hf => ?_)
        · exact hj1101 _ _ _ _ hf hP hD hS (lv_sub hl [2, 3, 4, 5, 6] rfl)
        · cases hf
    · cases hf
  cases hT : t_X8_turningFrom x3_count y4_direction y5_stops (xs (i + 1).toNatClampNeg) with
  | some cls =>
    rw [hT] at hf
    rcases ite_or hf with ⟨hcl, hf⟩ | ⟨hcl, hf⟩
    · subst hcl
      refine kSLt (pc := 1056) (S := ⟨hexec, hb, hml, hown, hts⟩) hP hD hG hA hS [0, 1, 2, 3, 4, 5] [6, 7, 8, 9] rfl rfl rfl (me_of_mh (hx_L_turningFrom_a l hlt g a0 a1 a2 a3 a4 a5 a9 _ u0_1 u0_2 u0_3 u0_4 u0_5 u0_6 u0_7 u0_8 u0_9 u1_0 u1_3 u1_4 u2_0 u2_1 u2_2 u2_4 u2_5 u3_1 u3_2 u3_3 x3_count y4_direction y5_stops (xs (i + 1).toNatClampNeg) hT)) gL_law_L_turningFrom rfl hq_L_turningFrom ⟨by omega, by omega⟩ (rest := []) rfl rfl hl.1 (nle rfl) dL_law_1056 ⟨by omega, by omega⟩ (fun w1 H locs hF1 hP hD hS => ?_)
      subst hF1
      have hP := lbk hP [4, 5, 6, 7, 8, 9, 0, 1, 2, 3] (X := (w_case_18 g a0 a1 a2 a3 a4 a5 a6 a7 a8 a9 u0_1 u0_2 u0_3 u0_4 u0_5 u0_6 u0_7 u0_8 u0_9 u1_0 u1_3 u1_4 u2_0 u2_1 u2_2 u2_4 u2_5 u3_1 u3_2 u3_3 u6_1 u6_2 u6_3 u6_4 u6_5 u6_6 u6_8 u6_9 u6_10 u6_12 u6_13 u6_14 u6_15 u6_16 u6_17 u6_18 u6_19 u6_20 u6_21 u6_22 u6_23 u6_24 u6_25 u6_26 u6_27 u6_28 u6_29 u6_30 x3_count y4_direction y5_stops x6_thrown y7_s y8_ways y9_p)) rfl
      have hD := lbkD hD [4, 5, 6, 7, 8, 9, 0, 1, 2, 3] (X := (w_case_18 g a0 a1 a2 a3 a4 a5 a6 a7 a8 a9 u0_1 u0_2 u0_3 u0_4 u0_5 u0_6 u0_7 u0_8 u0_9 u1_0 u1_3 u1_4 u2_0 u2_1 u2_2 u2_4 u2_5 u3_1 u3_2 u3_3 u6_1 u6_2 u6_3 u6_4 u6_5 u6_6 u6_8 u6_9 u6_10 u6_12 u6_13 u6_14 u6_15 u6_16 u6_17 u6_18 u6_19 u6_20 u6_21 u6_22 u6_23 u6_24 u6_25 u6_26 u6_27 u6_28 u6_29 u6_30 x3_count y4_direction y5_stops x6_thrown y7_s y8_ways y9_p)) rfl rfl
      exact W.widen (by omega) (by omega) (hjh1056 _ _ _ _ _ hf hP hD hS (lv_sub hl [0, 1, 2, 3, 4] rfl))
    cases hf
  | none =>
    rw [hT] at hf
    obtain ⟨r1056, hc, hf⟩ := bd1_e hf
    refine kSLt (pc := 1056) (S := ⟨hexec, hb, hml, hown, hts⟩) hP hD hG hA hS [0, 1, 2, 3, 4, 5, 9] [6, 7, 8] rfl rfl rfl (me_of_mh (h_L_turningFrom l g a0 a1 a2 a3 a4 a5 a9 _ u0_1 u0_2 u0_3 u0_4 u0_5 u0_6 u0_7 u0_8 u0_9 u1_0 u1_3 u1_4 u2_0 u2_1 u2_2 u2_4 u2_5 u3_1 u3_2 u3_3 x3_count y4_direction y5_stops y9_p (xs (i + 1).toNatClampNeg) r1056 hc)) gL_law_L_turningFrom rfl hq_L_turningFrom ⟨by omega, by omega⟩ (rest := []) rfl rfl hl.1 (nle rfl) dL_law_1056 ⟨by omega, by omega⟩ (fun w1 H locs hF1 hP hD hS => ?_)
    subst hF1
    have hP := lbk hP [3, 4, 5, 6, 7, 8, 0, 1, 2, 9] (X := (w_case_18 g a0 a1 a2 a3 a4 a5 a6 a7 a8 a9 u0_1 u0_2 u0_3 u0_4 u0_5 u0_6 u0_7 u0_8 u0_9 u1_0 u1_3 u1_4 u2_0 u2_1 u2_2 u2_4 u2_5 u3_1 u3_2 u3_3 u6_1 u6_2 u6_3 u6_4 u6_5 u6_6 u6_8 u6_9 u6_10 u6_12 u6_13 u6_14 u6_15 u6_16 u6_17 u6_18 u6_19 u6_20 u6_21 u6_22 u6_23 u6_24 u6_25 u6_26 u6_27 u6_28 u6_29 u6_30 x3_count y4_direction y5_stops x6_thrown y7_s y8_ways (vp_updL y9_p (0 : Int32).toNatClampNeg r1056.toInt64))) rfl
    have hD := lbkD hD [3, 4, 5, 6, 7, 8, 0, 1, 2, 9] (X := (w_case_18 g a0 a1 a2 a3 a4 a5 a6 a7 a8 a9 u0_1 u0_2 u0_3 u0_4 u0_5 u0_6 u0_7 u0_8 u0_9 u1_0 u1_3 u1_4 u2_0 u2_1 u2_2 u2_4 u2_5 u3_1 u3_2 u3_3 u6_1 u6_2 u6_3 u6_4 u6_5 u6_6 u6_8 u6_9 u6_10 u6_12 u6_13 u6_14 u6_15 u6_16 u6_17 u6_18 u6_19 u6_20 u6_21 u6_22 u6_23 u6_24 u6_25 u6_26 u6_27 u6_28 u6_29 u6_30 x3_count y4_direction y5_stops x6_thrown y7_s y8_ways (vp_updL y9_p (0 : Int32).toNatClampNeg r1056.toInt64))) rfl rfl
    exact W.widen (by omega) (by omega) (hjh1056 _ _ _ _ _ hf hP hD hS (lv_sub hl [0, 1, 2, 3, 4] rfl))
end LAWC
