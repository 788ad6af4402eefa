section LAWC
variable {p : Program} {l : Launch} {e : Env} {R : Room} {s : State} {m : MethodId} {args : Array Value} {below : List Frame} {meth : Method} {c : Code} {H : Heap} {locs : List Loc} {c1 s1 : Nat} {Q : State → Prop} {ls : Array Slot} {A : Nat → Prop} {g : GE} {sb L : Nat} {xs : Nat → Int32} {i : Int32} {pl : va_W}
abbrev w_case_28 (g : GE) (a0 a1 a2 a3 a4 a5 a6 a7 a8 a9 a10 a11 a12 a13 a14 a15 a16 : Nat) (u0_1 u0_3 u0_4 u0_5 u0_6 u0_7 u0_8 u0_9 u1_2 u1_4 u3_2 u3_5 u4_1 u4_3 u4_4 u4_5 u12_1 u12_2 u12_3 u12_4 u12_5 u12_6 u12_11 u12_12 u12_13 u12_14 u12_15 u12_16 u12_17 u12_18 u12_19 u12_20 u12_21 u12_22 u12_23 u12_24 u12_25 u12_26 u12_27 u12_28 u12_29 u12_30 : Value) (x2_length : Int32) (x3_rows : Int32) (x3_columns : Int32) (x4_count : Int32) (y5_namesOn : Nat → Int32) (y6_costs : Nat → Int32) (y7_sums : Nat → Int32) (y8_way : Nat → Int32) (y9_land : Nat → Int32) (y10_riverOf : Nat → Int32) (y11_home : Nat → Int32) (x12_thrown : Int32) (x12_flowLong : Int32) (y13_flow : Nat → Int32) (y14_s : Nat → Int32) (y15_sums : Nat → Int32) (y16_p : Nat → Int64) : va_W := [(a0, .inr (8, [.ref a1, u0_1, .ref a2, u0_3, u0_4, u0_5, u0_6, u0_7, u0_8, u0_9])), (a1, .inr (6, [.ref a3, .ref a4, u1_2, .ref a5, u1_4])), (a2, .inr (7, [.ref a6, .ref a7, .ref a8, .int x2_length])), (a3, .inr (1, [.int x3_rows, .int x3_columns, u3_2, .ref a9, .ref a10, u3_5])), (a4, .inr (2, [.int x4_count, u4_1, .ref a11, u4_3, u4_4, u4_5])), (a5, .inl (g.2.1 0, 144, .inl y5_namesOn)), (a6, .inl (g.2.1 0, 144, .inl y6_costs)), (a7, .inl (g.2.1 0, 144, .inl y7_sums)), (a8, .inl (g.2.1 0, 144, .inl y8_way)), (a9, .inl (g.2.1 1, 144, .inl y9_land)), (a10, .inl (g.2.1 0, 144, .inl y10_riverOf)), (a11, .inl (g.2.1 0, 8, .inl y11_home)), (a12, .inr (9, [.ref a14, u12_1, u12_2, u12_3, u12_4, u12_5, u12_6, .int x12_thrown, .ref a15, .ref a13, .int x12_flowLong, u12_11, u12_12, u12_13, u12_14, u12_15, u12_16, u12_17, u12_18, u12_19, u12_20, u12_21, u12_22, u12_23, u12_24, u12_25, u12_26, u12_27, u12_28, u12_29, u12_30])), (a13, .inl (g.2.1 0, 144, .inl y13_flow)), (a14, .inl (g.2.1 0, 552, .inl y14_s)), (a15, .inl (g.2.1 0, 144, .inl y15_sums)), (a16, .inl (g.2.1 3, 1, .inr (.inl y16_p)))]
noncomputable def f_case_28 (L : Nat) (xs : Nat → Int32) (i : Int32) (x2_length : Int32) (x3_rows : Int32) (x3_columns : Int32) (x4_count : Int32) (y5_namesOn : Nat → Int32) (y6_costs : Nat → Int32) (y7_sums : Nat → Int32) (y8_way : Nat → Int32) (y9_land : Nat → Int32) (y10_riverOf : Nat → Int32) (y11_home : Nat → Int32) (x12_thrown : Int32) (x12_flowLong : Int32) (y13_flow : Nat → Int32) (y14_s : Nat → Int32) (y15_sums : Nat → Int32) (y16_p : Nat → Int64) : Option (Int32 × (Nat → Int32) × (Nat → Int32) × (Nat → Int32) × Int32 × Int32 × (Nat → Int32) × (Nat → Int32) × (Nat → Int64)) :=
  ar (i + 1) L <|
  ar (i + 2) L <|
  bv (fun (k1463 : Int32) (y16_p_1 : Nat → Int64) (x2_length_2 : Int32) (y6_costs_2 : Nat → Int32) (y7_sums_2 : Nat → Int32) (y8_way_2 : Nat → Int32) => ((
    ar (i + 1) L <|
    ar (i + 2) L <|
    bd5 (f_X9_wayCell x12_thrown x12_flowLong y13_flow y14_s y15_sums (xs (i + 1).toNatClampNeg) (xs (i + 2).toNatClampNeg)) fun (r1481 : Int32) (x12_thrown_1 : Int32) (x12_flowLong_1 : Int32) (y13_flow_1 : Nat → Int32) (y15_sums_1 : Nat → Int32) =>
    bd1 (f_X9_thrown x12_thrown_1) fun (r1487 : Int32) =>
    (if r1487 = k1463 then (
      bv (fun (_ : Unit) => ((
        some (x2_length_2, y6_costs_2, y7_sums_2, y8_way_2, x12_thrown_1, x12_flowLong_1, y13_flow_1, y15_sums_1, y16_p_1)
        ) : Option (Int32 × (Nat → Int32) × (Nat → Int32) × (Nat → Int32) × Int32 × Int32 × (Nat → Int32) × (Nat → Int32) × (Nat → Int64)))) fun j1514 =>
      (if k1463 = 0 then (
        ar 0 1 <|
        (if (lg_cmp (y16_p_1 (0 : Int32).toNatClampNeg) (r1481.toInt64)) = 0 then (
          j1514 ()
        ) else (
          none
        ))
      ) else (
        j1514 ()
      ))
    ) else (
      none
    ))
    ) : Option (Int32 × (Nat → Int32) × (Nat → Int32) × (Nat → Int32) × Int32 × Int32 × (Nat → Int32) × (Nat → Int32) × (Nat → Int64)))) fun jh1463 =>
  match t_X8_wayCell x2_length x3_rows x3_columns x4_count y5_namesOn y6_costs y7_sums y8_way y9_land y10_riverOf y11_home (xs (i + 1).toNatClampNeg) (xs (i + 2).toNatClampNeg) with
  | some cls =>
    (if cls = "java/lang/IndexOutOfBoundsException" then jh1463 1 y16_p x2_length y6_costs y7_sums y8_way else
    none)
  | none =>
    bd5 (f_X8_wayCell x2_length x3_rows x3_columns x4_count y5_namesOn y6_costs y7_sums y8_way y9_land y10_riverOf y11_home (xs (i + 1).toNatClampNeg) (xs (i + 2).toNatClampNeg)) fun (r1463 : Int32) (x2_length_1 : Int32) (y6_costs_1 : Nat → Int32) (y7_sums_1 : Nat → Int32) (y8_way_1 : Nat → Int32) =>
    jh1463 0 (vp_updL y16_p (0 : Int32).toNatClampNeg r1463.toInt64) x2_length_1 y6_costs_1 y7_sums_1 y8_way_1
set_option maxRecDepth 20000 in
theorem lc_28 (hlt : l.stackTraces = false) (hexec : p.tables.exec = Jvm.exec) (hb : c.code = cL_law) (hml : c.maxLocals = 9) (hown : s.vm.findClass RL = some m.cls) (hts : ∀ w ∈ wsL_law, w.before args s = true) (hG : GG g A s s.heap) (hA : ∀ q, s.heap.size ≤ q → A q) (hX : va_X sb L xs s s.heap) (hbl : sb < s.heap.size) (hbA : ¬ A sb) (hRf : 2000 ≤ R.frames) (hRl : 80000 ≤ R.locals) (hRc : c1 + 14 ≤ R.cells) (hRs : s1 + 846 ≤ R.slots) (a0 a1 a2 a3 a4 a5 a6 a7 a8 a9 a10 a11 a12 a13 a14 a15 a16 : Nat) (u0_1 u0_3 u0_4 u0_5 u0_6 u0_7 u0_8 u0_9 u1_2 u1_4 u3_2 u3_5 u4_1 u4_3 u4_4 u4_5 u12_1 u12_2 u12_3 u12_4 u12_5 u12_6 u12_11 u12_12 u12_13 u12_14 u12_15 u12_16 u12_17 u12_18 u12_19 u12_20 u12_21 u12_22 u12_23 u12_24 u12_25 u12_26 u12_27 u12_28 u12_29 u12_30 : Value) (x2_length : Int32) (x3_rows : Int32) (x3_columns : Int32) (x4_count : Int32) (y5_namesOn : Nat → Int32) (y6_costs : Nat → Int32) (y7_sums : Nat → Int32) (y8_way : Nat → Int32) (y9_land : Nat → Int32) (y10_riverOf : Nat → Int32) (y11_home : Nat → Int32) (x12_thrown : Int32) (x12_flowLong : Int32) (y13_flow : Nat → Int32) (y14_s : Nat → Int32) (y15_sums : Nat → Int32) (y16_p : Nat → Int64) (o_x2_length : Int32) (o_y6_costs : Nat → Int32) (o_y7_sums : Nat → Int32) (o_y8_way : Nat → Int32) (o_x12_thrown : Int32) (o_x12_flowLong : Int32) (o_y13_flow : Nat → Int32) (o_y15_sums : Nat → Int32) (o_y16_p : Nat → Int64) (hf : f_case_28 L xs i x2_length x3_rows x3_columns x4_count y5_namesOn y6_costs y7_sums y8_way y9_land y10_riverOf y11_home x12_thrown x12_flowLong y13_flow y14_s y15_sums y16_p = some (o_x2_length, o_y6_costs, o_y7_sums, o_y8_way, o_x12_thrown, o_x12_flowLong, o_y13_flow, o_y15_sums, o_y16_p)) (hP : va_P g.1 vwCl (w_case_28 g a0 a1 a2 a3 a4 a5 a6 a7 a8 a9 a10 a11 a12 a13 a14 a15 a16 u0_1 u0_3 u0_4 u0_5 u0_6 u0_7 u0_8 u0_9 u1_2 u1_4 u3_2 u3_5 u4_1 u4_3 u4_4 u4_5 u12_1 u12_2 u12_3 u12_4 u12_5 u12_6 u12_11 u12_12 u12_13 u12_14 u12_15 u12_16 u12_17 u12_18 u12_19 u12_20 u12_21 u12_22 u12_23 u12_24 u12_25 u12_26 u12_27 u12_28 u12_29 u12_30 x2_length x3_rows x3_columns x4_count y5_namesOn y6_costs y7_sums y8_way y9_land y10_riverOf y11_home x12_thrown x12_flowLong y13_flow y14_s y15_sums y16_p ++ pl) H) (hD : va_D A (w_case_28 g a0 a1 a2 a3 a4 a5 a6 a7 a8 a9 a10 a11 a12 a13 a14 a15 a16 u0_1 u0_3 u0_4 u0_5 u0_6 u0_7 u0_8 u0_9 u1_2 u1_4 u3_2 u3_5 u4_1 u4_3 u4_4 u4_5 u12_1 u12_2 u12_3 u12_4 u12_5 u12_6 u12_11 u12_12 u12_13 u12_14 u12_15 u12_16 u12_17 u12_18 u12_19 u12_20 u12_21 u12_22 u12_23 u12_24 u12_25 u12_26 u12_27 u12_28 u12_29 u12_30 x2_length x3_rows x3_columns x4_count y5_namesOn y6_costs y7_sums y8_way y9_land y10_riverOf y11_home x12_thrown x12_flowLong y13_flow y14_s y15_sums y16_p ++ pl)) (hS : va_S A s.heap H locs) (hl : lv_has ls 9 [(0, .ref sb), (1, .ref a0), (2, .ref a12), (3, .ref a16), (4, .int i)]) (kk : ∀ (H : Heap) (locs : List Loc) (ls : Array Slot), va_P g.1 vwCl (w_case_28 g a0 a1 a2 a3 a4 a5 a6 a7 a8 a9 a10 a11 a12 a13 a14 a15 a16 u0_1 u0_3 u0_4 u0_5 u0_6 u0_7 u0_8 u0_9 u1_2 u1_4 u3_2 u3_5 u4_1 u4_3 u4_4 u4_5 u12_1 u12_2 u12_3 u12_4 u12_5 u12_6 u12_11 u12_12 u12_13 u12_14 u12_15 u12_16 u12_17 u12_18 u12_19 u12_20 u12_21 u12_22 u12_23 u12_24 u12_25 u12_26 u12_27 u12_28 u12_29 u12_30 o_x2_length x3_rows x3_columns x4_count y5_namesOn o_y6_costs o_y7_sums o_y8_way y9_land y10_riverOf y11_home o_x12_thrown o_x12_flowLong o_y13_flow y14_s o_y15_sums o_y16_p ++ pl) H → va_D A (w_case_28 g a0 a1 a2 a3 a4 a5 a6 a7 a8 a9 a10 a11 a12 a13 a14 a15 a16 u0_1 u0_3 u0_4 u0_5 u0_6 u0_7 u0_8 u0_9 u1_2 u1_4 u3_2 u3_5 u4_1 u4_3 u4_4 u4_5 u12_1 u12_2 u12_3 u12_4 u12_5 u12_6 u12_11 u12_12 u12_13 u12_14 u12_15 u12_16 u12_17 u12_18 u12_19 u12_20 u12_21 u12_22 u12_23 u12_24 u12_25 u12_26 u12_27 u12_28 u12_29 u12_30 o_x2_length x3_rows x3_columns x4_count y5_namesOn o_y6_costs o_y7_sums o_y8_way y9_land y10_riverOf y11_home o_x12_thrown o_x12_flowLong o_y13_flow y14_s o_y15_sums o_y16_p ++ pl) → va_S A s.heap H locs → lv_has ls 9 [(0, .ref sb), (1, .ref a0), (2, .ref a12), (3, .ref a16), (4, .int i)] → W p l e R s m args below meth c H locs (c1 + 14) (s1 + 846) Q (F0 m 2565 ls [])) : W p l e R s m args below meth c H locs c1 s1 Q (F0 m 1449 ls []) := by
  unfold f_case_28 at hf
  refine lv_aload_n (pc := 1449) hexec hb dL_law_1449 rfl (lv_at hl 1 rfl) ?_
  refine lv_aload_n (pc := 1450) hexec hb dL_law_1450 rfl (lv_at hl 0 rfl) ?_
  refine lv_iload (pc := 1451) hexec hb dL_law_1451 (lv_at hl 4 rfl) ?_
  refine lv_iconst (pc := 1453) hexec hb dL_law_1453 ki_1 ?_
  refine lv_iadd (pc := 1454) hexec hb dL_law_1454 ?_
  refine k_scr (pc := 1455) hexec hb hX hbl hbA hS hf dL_law_1455 (fun hf => ?_)
  refine lv_aload_n (pc := 1456) hexec hb dL_law_1456 rfl (lv_at hl 0 rfl) ?_
  refine lv_iload (pc := 1457) hexec hb dL_law_1457 (lv_at hl 4 rfl) ?_
  refine lv_iconst (pc := 1459) hexec hb dL_law_1459 ki_2 ?_
  refine lv_iadd (pc := 1460) hexec hb dL_law_1460 ?_
  refine k_scr (pc := 1461) hexec hb hX hbl hbA hS hf dL_law_1461 (fun hf => ?_)
  refine lv_aload_n (pc := 1462) hexec hb dL_law_1462 rfl (lv_at hl 3 rfl) ?_
  obtain ⟨jh1463, ejh1463, hf⟩ := bvf6 hf
  have hjh1463 : ∀ (k1463 : Int32) (y16_p_1 : Nat → Int64) (x2_length_2 : Int32) (y6_costs_2 : Nat → Int32) (y7_sums_2 : Nat → Int32) (y8_way_2 : Nat → Int32) (H : Heap) (locs : List Loc) (ls : Array Slot), jh1463 k1463 y16_p_1 x2_length_2 y6_costs_2 y7_sums_2 y8_way_2 = some (o_x2_length, o_y6_costs, o_y7_sums, o_y8_way, o_x12_thrown, o_x12_flowLong, o_y13_flow, o_y15_sums, o_y16_p) → va_P g.1 vwCl (w_case_28 g a0 a1 a2 a3 a4 a5 a6 a7 a8 a9 a10 a11 a12 a13 a14 a15 a16 u0_1 u0_3 u0_4 u0_5 u0_6 u0_7 u0_8 u0_9 u1_2 u1_4 u3_2 u3_5 u4_1 u4_3 u4_4 u4_5 u12_1 u12_2 u12_3 u12_4 u12_5 u12_6 u12_11 u12_12 u12_13 u12_14 u12_15 u12_16 u12_17 u12_18 u12_19 u12_20 u12_21 u12_22 u12_23 u12_24 u12_25 u12_26 u12_27 u12_28 u12_29 u12_30 x2_length_2 x3_rows x3_columns x4_count y5_namesOn y6_costs_2 y7_sums_2 y8_way_2 y9_land y10_riverOf y11_home x12_thrown x12_flowLong y13_flow y14_s y15_sums y16_p_1 ++ pl) H → va_D A (w_case_28 g a0 a1 a2 a3 a4 a5 a6 a7 a8 a9 a10 a11 a12 a13 a14 a15 a16 u0_1 u0_3 u0_4 u0_5 u0_6 u0_7 u0_8 u0_9 u1_2 u1_4 u3_2 u3_5 u4_1 u4_3 u4_4 u4_5 u12_1 u12_2 u12_3 u12_4 u12_5 u12_6 u12_11 u12_12 u12_13 u12_14 u12_15 u12_16 u12_17 u12_18 u12_19 u12_20 u12_21 u12_22 u12_23 u12_24 u12_25 u12_26 u12_27 u12_28 u12_29 u12_30 x2_length_2 x3_rows x3_columns x4_count y5_namesOn y6_costs_2 y7_sums_2 y8_way_2 y9_land y10_riverOf y11_home x12_thrown x12_flowLong y13_flow y14_s y15_sums y16_p_1 ++ pl) → va_S A s.heap H locs → lv_has ls 9 [(0, .ref sb), (1, .ref a0), (2, .ref a12), (3, .ref a16), (4, .int i)] → W p l e R s m args below meth c H locs (c1 + 14) (s1 + 846) Q (F0 m 1466 ls [.int k1463]) := by
    intro k1463 y16_p_1 x2_length_2 y6_costs_2 y7_sums_2 y8_way_2 H locs ls hf hP hD hS hl
    have hf := (ejh1463 k1463 y16_p_1 x2_length_2 y6_costs_2 y7_sums_2 y8_way_2).symm.trans hf
    refine lv_istore (pc := 1466) hexec hb dL_law_1466 hl (nle rfl) rfl (fun ls (hl : lv_has ls 9 [(5, .int k1463), (0, .ref sb), (1, .ref a0), (2, .ref a12), (3, .ref a16), (4, .int i)]) => ?_)
    refine lv_aload_n (pc := 1468) hexec hb dL_law_1468 rfl (lv_at hl 3 rfl) ?_
    refine lv_aload_n (pc := 1469) hexec hb dL_law_1469 rfl (lv_at hl 1 rfl) ?_
    refine lv_iload (pc := 1470) hexec hb dL_law_1470 (lv_at hl 5 rfl) ?_
    refine lv_iconst (pc := 1472) hexec hb dL_law_1472 ki_1 ?_
    refine lv_iadd (pc := 1473) hexec hb dL_law_1473 ?_
    refine k_scr (pc := 1474) hexec hb hX hbl hbA hS hf dL_law_1474 (fun hf => ?_)
    refine lv_aload_n (pc := 1475) hexec hb dL_law_1475 rfl (lv_at hl 1 rfl) ?_
    refine lv_iload (pc := 1476) hexec hb dL_law_1476 (lv_at hl 5 rfl) ?_
    refine lv_iconst (pc := 1478) hexec hb dL_law_1478 ki_2 ?_
    refine lv_iadd (pc := 1479) hexec hb dL_law_1479 ?_
    refine k_scr (pc := 1480) hexec hb hX hbl hbA hS hf dL_law_1480 (fun hf => ?_)
    obtain ⟨r1481, x12_thrown_1, x12_flowLong_1, y13_flow_1, y15_sums_1, hc, hf⟩ := bd5_e hf
    refine kVLt (pc := 1481) (S := ⟨hexec, hb, hml, hown, hts⟩) hP hD hG hA hS [12, 13, 14, 15] [0, 1, 2, 3, 4, 5, 6, 7, 8, 9, 10, 11, 16] rfl rfl rfl (me_of_mi (c_X9_wayCell l g a12 a13 a14 a15 _ u12_1 u12_2 u12_3 u12_4 u12_5 u12_6 u12_11 u12_12 u12_13 u12_14 u12_15 u12_16 u12_17 u12_18 u12_19 u12_20 u12_21 u12_22 u12_23 u12_24 u12_25 u12_26 u12_27 u12_28 u12_29 u12_30 x12_thrown x12_flowLong y13_flow y14_s y15_sums (xs (i + 1).toNatClampNeg) (xs (i + 2).toNatClampNeg) r1481 x12_thrown_1 x12_flowLong_1 y13_flow_1 y15_sums_1 hc)) gL_law_X9_wayCell rfl hq_X9_wayCell ⟨by omega, by omega⟩ 9 0 rfl rfl rfl (rest := []) rfl rfl hl.1 (nle rfl) dL_law_1481 ⟨by omega, by omega⟩ (fun w1 H locs hF1 hP hD hS => ?_)
    subst hF1
    have hP := lbk hP [0, 1, 2, 3, 4, 5, 6, 7, 8, 9, 10, 11, 13, 14, 15, 16, 12] (X := (w_case_28 g a0 a1 a2 a3 a4 a5 a6 a7 a8 a9 a10 a11 a12 a13 a14 a15 a16 u0_1 u0_3 u0_4 u0_5 u0_6 u0_7 u0_8 u0_9 u1_2 u1_4 u3_2 u3_5 u4_1 u4_3 u4_4 u4_5 u12_1 u12_2 u12_3 u12_4 u12_5 u12_6 u12_11 u12_12 u12_13 u12_14 u12_15 u12_16 u12_17 u12_18 u12_19 u12_20 u12_21 u12_22 u12_23 u12_24 u12_25 u12_26 u12_27 u12_28 u12_29 u12_30 x2_length_2 x3_rows x3_columns x4_count y5_namesOn y6_costs_2 y7_sums_2 y8_way_2 y9_land y10_riverOf y11_home x12_thrown_1 x12_flowLong_1 y13_flow_1 y14_s y15_sums_1 y16_p_1)) rfl
    have hD := lbkD hD [0, 1, 2, 3, 4, 5, 6, 7, 8, 9, 10, 11, 13, 14, 15, 16, 12] (X := (w_case_28 g a0 a1 a2 a3 a4 a5 a6 a7 a8 a9 a10 a11 a12 a13 a14 a15 a16 u0_1 u0_3 u0_4 u0_5 u0_6 u0_7 u0_8 u0_9 u1_2 u1_4 u3_2 u3_5 u4_1 u4_3 u4_4 u4_5 u12_1 u12_2 u12_3 u12_4 u12_5 u12_6 u12_11 u12_12 u12_13 u12_14 u12_15 u12_16 u12_17 u12_18 u12_19 u12_20 u12_21 u12_22 u12_23 u12_24 u12_25 u12_26 u12_27 u12_28 u12_29 u12_30 x2_length_2 x3_rows x3_columns x4_count y5_namesOn y6_costs_2 y7_sums_2 y8_way_2 y9_land y10_riverOf y11_home x12_thrown_1 x12_flowLong_1 y13_flow_1 y14_s y15_sums_1 y16_p_1)) rfl rfl
    refine W.widen (k := c1 + 14) (n := s1 + 846) (by omega) (by omega) ?_
    refine lv_istore (pc := 1484) hexec hb dL_law_1484 hl (nle rfl) rfl (fun ls (hl : lv_has ls 9 [(6, .int r1481), (5, .int k1463), (0, .ref sb), (1, .ref a0), (2, .ref a12), (3, .ref a16), (4, .int i)]) => ?_)
    refine lv_aload_n (pc := 1486) hexec hb dL_law_1486 rfl (lv_at hl 4 rfl) ?_
    obtain ⟨r1487, hc, hf⟩ := bd1_e hf
    refine kVLt (pc := 1487) (S := ⟨hexec, hb, hml, hown, hts⟩) hP hD hG hA hS [12] [0, 1, 2, 3, 4, 5, 6, 7, 8, 9, 10, 11, 13, 14, 15, 16] rfl rfl rfl (me_of_mi (c_X9_thrown l g a12 _ (.ref a14) u12_1 u12_2 u12_3 u12_4 u12_5 u12_6 (.ref a15) (.ref a13) (.int x12_flowLong_1) u12_11 u12_12 u12_13 u12_14 u12_15 u12_16 u12_17 u12_18 u12_19 u12_20 u12_21 u12_22 u12_23 u12_24 u12_25 u12_26 u12_27 u12_28 u12_29 u12_30 x12_thrown_1 r1487 hc)) gL_law_X9_thrown rfl hq_X9_thrown ⟨by omega, by omega⟩ 9 0 rfl rfl rfl (rest := []) rfl rfl hl.1 (nle rfl) dL_law_1487 ⟨by omega, by omega⟩ (fun w1 H locs hF1 hP hD hS => ?_)
    subst hF1
    have hP := lbk hP [0, 1, 2, 3, 4, 5, 6, 7, 8, 9, 10, 11, 16, 12, 13, 14, 15] (X := (w_case_28 g a0 a1 a2 a3 a4 a5 a6 a7 a8 a9 a10 a11 a12 a13 a14 a15 a16 u0_1 u0_3 u0_4 u0_5 u0_6 u0_7 u0_8 u0_9 u1_2 u1_4 u3_2 u3_5 u4_1 u4_3 u4_4 u4_5 u12_1 u12_2 u12_3 u12_4 u12_5 u12_6 u12_11 u12_12 u12_13 u12_14 u12_15 u12_16 u12_17 u12_18 u12_19 u12_20 u12_21 u12_22 u12_23 u12_24 u12_25 u12_26 u12_27 u12_28 u12_29 u12_30 x2_length_2 x3_rows x3_columns x4_count y5_namesOn y6_costs_2 y7_sums_2 y8_way_2 y9_land y10_riverOf y11_home x12_thrown_1 x12_flowLong_1 y13_flow_1 y14_s y15_sums_1 y16_p_1)) rfl
    have hD := lbkD hD [0, 1, 2, 3, 4, 5, 6, 7, 8, 9, 10, 11, 16, 12, 13, 14, 15] (X := (w_case_28 g a0 a1 a2 a3 a4 a5 a6 a7 a8 a9 a10 a11 a12 a13 a14 a15 a16 u0_1 u0_3 u0_4 u0_5 u0_6 u0_7 u0_8 u0_9 u1_2 u1_4 u3_2 u3_5 u4_1 u4_3 u4_4 u4_5 u12_1 u12_2 u12_3 u12_4 u12_5 u12_6 u12_11 u12_12 u12_13 u12_14 u12_15 u12_16 u12_17 u12_18 u12_19 u12_20 u12_21 u12_22 u12_23 u12_24 u12_25 u12_26 u12_27 u12_28 u12_29 u12_30 x2_length_2 x3_rows x3_columns x4_count y5_namesOn y6_costs_2 y7_sums_2 y8_way_2 y9_land y10_riverOf y11_home x12_thrown_1 x12_flowLong_1 y13_flow_1 y14_s y15_sums_1 y16_p_1)) rfl rfl
    refine W.widen (k := c1 + 14) (n := s1 + 846) (by omega) (by omega) ?_
    refine lv_iload (pc := 1490) hexec hb dL_law_1490 (lv_at hl 1 rfl) ?_
    refine ki_eq (pc := 1492) hexec hb dL_law_1492 (tgt := 1497) rfl hf (fun hc hf => ?_) (fun hc hf => ?_)
    · refine lv_iload (pc := 1497) hexec hb dL_law_1497 (lv_at hl 1 rfl) ?_
      obtain ⟨j1514, ej1514, hf⟩ := bvf1 hf
      have hj1514 : ∀ (u : Unit) (H : Heap) (locs : List Loc) (ls : Array Slot), j1514 u = some (o_x2_length, o_y6_costs, o_y7_sums, o_y8_way, o_x12_thrown, o_x12_flowLong, o_y13_flow, o_y15_sums, o_y16_p) → va_P g.1 vwCl (w_case_28 g a0 a1 a2 a3 a4 a5 a6 a7 a8 a9 a10 a11 a12 a13 a14 a15 a16 u0_1 u0_3 u0_4 u0_5 u0_6 u0_7 u0_8 u0_9 u1_2 u1_4 u3_2 u3_5 u4_1 u4_3 u4_4 u4_5 u12_1 u12_2 u12_3 u12_4 u12_5 u12_6 u12_11 u12_12 u12_13 u12_14 u12_15 u12_16 u12_17 u12_18 u12_19 u12_20 u12_21 u12_22 u12_23 u12_24 u12_25 u12_26 u12_27 u12_28 u12_29 u12_30 x2_length_2 x3_rows x3_columns x4_count y5_namesOn y6_costs_2 y7_sums_2 y8_way_2 y9_land y10_riverOf y11_home x12_thrown_1 x12_flowLong_1 y13_flow_1 y14_s y15_sums_1 y16_p_1 ++ pl) H → va_D A (w_case_28 g a0 a1 a2 a3 a4 a5 a6 a7 a8 a9 a10 a11 a12 a13 a14 a15 a16 u0_1 u0_3 u0_4 u0_5 u0_6 u0_7 u0_8 u0_9 u1_2 u1_4 u3_2 u3_5 u4_1 u4_3 u4_4 u4_5 u12_1 u12_2 u12_3 u12_4 u12_5 u12_6 u12_11 u12_12 u12_13 u12_14 u12_15 u12_16 u12_17 u12_18 u12_19 u12_20 u12_21 u12_22 u12_23 u12_24 u12_25 u12_26 u12_27 u12_28 u12_29 u12_30 x2_length_2 x3_rows x3_columns x4_count y5_namesOn y6_costs_2 y7_sums_2 y8_way_2 y9_land y10_riverOf y11_home x12_thrown_1 x12_flowLong_1 y13_flow_1 y14_s y15_sums_1 y16_p_1 ++ pl) → va_S A s.heap H locs → lv_has ls 9 [(0, .ref sb), (1, .ref a0), (2, .ref a12), (3, .ref a16), (4, .int i)] → W p l e R s m args below meth c H locs (c1 + 14) (s1 + 846) Q (F0 m 1514 ls []) := by
        intro u H locs ls hf hP hD hS hl
        have hf := (ej1514 u).symm.trans hf
        refine lv_goto (pc := 1514) hexec hb dL_law_1514 (tgt := 2565) rfl ?_
        cases hf
        exact W.widen (by omega) (by omega) (kk _ _ _ hP hD hS (lv_sub hl [0, 1, 2, 3, 4] rfl))
      refine kb_ne (pc := 1499) hexec hb dL_law_1499 (tgt := 1514) rfl hf (fun hc hf => ?_) (fun hc hf => ?_)
      · exact hj1514 _ _ _ _ hf hP hD hS (lv_sub hl [2, 3, 4, 5, 6] rfl)
      · refine lv_aload_n (pc := 1502) hexec hb dL_law_1502 rfl (lv_at hl 5 rfl) ?_
        refine lv_iconst (pc := 1503) hexec hb dL_law_1503 ki_0 ?_
        refine kr_lald (pc := 1504) hexec hb hG hP 16 rfl hf dL_law_1504 (fun hf => ?_)
        refine lv_iload (pc := 1505) hexec hb dL_law_1505 (lv_at hl 0 rfl) ?_
        refine lv_i2l (pc := 1507) hexec hb dL_law_1507 rfl ?_
        refine kc_lcmp (pc := 1508) hexec hb dL_law_1508 ?_
        refine kb_eq (pc := 1509) hexec hb dL_law_1509 (tgt := 1514) rfl hf (fun hc hf => ?_) (fun hc hf => ?_)
        · exact hj1514 _ _ _ _ hf hP hD hS (lv_sub hl [2, 3, 4, 5, 6] rfl)
        · cases hf
    · cases hf
  cases hT : t_X8_wayCell x2_length x3_rows x3_columns x4_count y5_namesOn y6_costs y7_sums y8_way y9_land y10_riverOf y11_home (xs (i + 1).toNatClampNeg) (xs (i + 2).toNatClampNeg) with
  | some cls =>
    rw [hT] at hf
    rcases ite_or hf with ⟨hcl, hf⟩ | ⟨hcl, hf⟩
    · subst hcl
      refine kSLt (pc := 1463) (S := ⟨hexec, hb, hml, hown, hts⟩) hP hD hG hA hS [0, 1, 2, 3, 4, 5, 6, 7, 8, 9, 10, 11] [12, 13, 14, 15, 16] rfl rfl rfl (me_of_mh (hx_L_wayCell_o l hlt g a0 a1 a2 a3 a4 a5 a6 a7 a8 a9 a10 a11 a16 _ u0_1 u0_3 u0_4 u0_5 u0_6 u0_7 u0_8 u0_9 u1_2 u1_4 u3_2 u3_5 u4_1 u4_3 u4_4 u4_5 x2_length x3_rows x3_columns x4_count y5_namesOn y6_costs y7_sums y8_way y9_land y10_riverOf y11_home (xs (i + 1).toNatClampNeg) (xs (i + 2).toNatClampNeg) hT)) gL_law_L_wayCell rfl hq_L_wayCell ⟨by omega, by omega⟩ (rest := []) rfl rfl hl.1 (nle rfl) dL_law_1463 ⟨by omega, by omega⟩ (fun w1 H locs hF1 hP hD hS => ?_)
      subst hF1
      have hP := lbk hP [5, 6, 7, 8, 9, 10, 11, 12, 13, 14, 15, 16, 0, 1, 2, 3, 4] (X := (w_case_28 g a0 a1 a2 a3 a4 a5 a6 a7 a8 a9 a10 a11 a12 a13 a14 a15 a16 u0_1 u0_3 u0_4 u0_5 u0_6 u0_7 u0_8 u0_9 u1_2 u1_4 u3_2 u3_5 u4_1 u4_3 u4_4 u4_5 u12_1 u12_2 u12_3 u12_4 u12_5 u12_6 u12_11 u12_12 u12_13 u12_14 u12_15 u12_16 u12_17 u12_18 u12_19 u12_20 u12_21 u12_22 u12_23 u12_24 u12_25 u12_26 u12_27 u12_28 u12_29 u12_30 x2_length x3_rows x3_columns x4_count y5_namesOn y6_costs y7_sums y8_way y9_land y10_riverOf y11_home x12_thrown x12_flowLong y13_flow y14_s y15_sums y16_p)) rfl
      have hD := lbkD hD [5, 6, 7, 8, 9, 10, 11, 12, 13, 14, 15, 16, 0, 1, 2, 3, 4] (X := (w_case_28 g a0 a1 a2 a3 a4 a5 a6 a7 a8 a9 a10 a11 a12 a13 a14 a15 a16 u0_1 u0_3 u0_4 u0_5 u0_6 u0_7 u0_8 u0_9 u1_2 u1_4 u3_2 u3_5 u4_1 u4_3 u4_4 u4_5 u12_1 u12_2 u12_3 u12_4 u12_5 u12_6 u12_11 u12_12 u12_13 u12_14 u12_15 u12_16 u12_17 u12_18 u12_19 u12_20 u12_21 u12_22 u12_23 u12_24 u12_25 u12_26 u12_27 u12_28 u12_29 u12_30 x2_length x3_rows x3_columns x4_count y5_namesOn y6_costs y7_sums y8_way y9_land y10_riverOf y11_home x12_thrown x12_flowLong y13_flow y14_s y15_sums y16_p)) rfl rfl
      exact W.widen (by omega) (by omega) (hjh1463 _ _ _ _ _ _ _ _ _ hf hP hD hS (lv_sub hl [0, 1, 2, 3, 4] rfl))
    cases hf
  | none =>
    rw [hT] at hf
    obtain ⟨r1463, x2_length_1, y6_costs_1, y7_sums_1, y8_way_1, hc, hf⟩ := bd5_e hf
    refine kSLt (pc := 1463) (S := ⟨hexec, hb, hml, hown, hts⟩) hP hD hG hA hS [0, 1, 2, 3, 4, 5, 6, 7, 8, 9, 10, 11, 16] [12, 13, 14, 15] rfl rfl rfl (me_of_mh (h_L_wayCell l g a0 a1 a2 a3 a4 a5 a6 a7 a8 a9 a10 a11 a16 _ u0_1 u0_3 u0_4 u0_5 u0_6 u0_7 u0_8 u0_9 u1_2 u1_4 u3_2 u3_5 u4_1 u4_3 u4_4 u4_5 x2_length x3_rows x3_columns x4_count y5_namesOn y6_costs y7_sums y8_way y9_land y10_riverOf y11_home y16_p (xs (i + 1).toNatClampNeg) (xs (i + 2).toNatClampNeg) r1463 x2_length_1 y6_costs_1 y7_sums_1 y8_way_1 hc)) gL_law_L_wayCell rfl hq_L_wayCell ⟨by omega, by omega⟩ (rest := []) rfl rfl hl.1 (nle rfl) dL_law_1463 ⟨by omega, by omega⟩ (fun w1 H locs hF1 hP hD hS => ?_)
    subst hF1
    have hP := lbk hP [4, 5, 6, 7, 8, 9, 10, 11, 12, 13, 14, 15, 0, 1, 2, 3, 16] (X := (w_case_28 g a0 a1 a2 a3 a4 a5 a6 a7 a8 a9 a10 a11 a12 a13 a14 a15 a16 u0_1 u0_3 u0_4 u0_5 u0_6 u0_7 u0_8 u0_9 u1_2 u1_4 u3_2 u3_5 u4_1 u4_3 u4_4 u4_5 u12_1 u12_2 u12_3 u12_4 u12_5 u12_6 u12_11 u12_12 u12_13 u12_14 u12_15 u12_16 u12_17 u12_18 u12_19 u12_20 u12_21 u12_22 u12_23 u12_24 u12_25 u12_26 u12_27 u12_28 u12_29 u12_30 x2_length_1 x3_rows x3_columns x4_count y5_namesOn y6_costs_1 y7_sums_1 y8_way_1 y9_land y10_riverOf y11_home x12_thrown x12_flowLong y13_flow y14_s y15_sums (vp_updL y16_p (0 : Int32).toNatClampNeg r1463.toInt64))) rfl
    have hD := lbkD hD [4, 5, 6, 7, 8, 9, 10, 11, 12, 13, 14, 15, 0, 1, 2, 3, 16] (X := (w_case_28 g a0 a1 a2 a3 a4 a5 a6 a7 a8 a9 a10 a11 a12 a13 a14 a15 a16 u0_1 u0_3 u0_4 u0_5 u0_6 u0_7 u0_8 u0_9 u1_2 u1_4 u3_2 u3_5 u4_1 u4_3 u4_4 u4_5 u12_1 u12_2 u12_3 u12_4 u12_5 u12_6 u12_11 u12_12 u12_13 u12_14 u12_15 u12_16 u12_17 u12_18 u12_19 u12_20 u12_21 u12_22 u12_23 u12_24 u12_25 u12_26 u12_27 u12_28 u12_29 u12_30 x2_length_1 x3_rows x3_columns x4_count y5_namesOn y6_costs_1 y7_sums_1 y8_way_1 y9_land y10_riverOf y11_home x12_thrown x12_flowLong y13_flow y14_s y15_sums (vp_updL y16_p (0 : Int32).toNatClampNeg r1463.toInt64))) rfl rfl
    exact W.widen (by omega) (by omega) (hjh1463 _ _ _ _ _ _ _ _ _ hf hP hD hS (lv_sub hl [0, 1, 2, 3, 4] rfl))
end LAWC
