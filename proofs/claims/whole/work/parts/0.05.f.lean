noncomputable def f_case_25 (L : Nat) (xs : Nat → Int32) (i : Int32) (x1_reds : Int32) (x1_bestReds : Int32) (x1_bestCount : Int32) (x1_bestTurning : Int32) (y3_allowed : Nat → Int32) (y4_best : Nat → Int32) (y5_foes : Nat → Int32) (y6_namesLeft : Nat → Int32) (y7_redsLeft : Nat → Int32) (y8_trial : Nat → Int32) (x9_rows : Int32) (x9_columns : Int32) (x10_count : Int32) (x10_reds : Int32) (x11_count : Int32) (x11_turn : Int32) (y12_land : Nat → Int32) (y13_riverOf : Nat → Int32) (y14_home : Nat → Int32) (y15_length : Nat → Int32) (y16_letters : Nat → Int32) (y17_stops : Nat → Int32) (x18_thrown : Int32) (x18_bestReds : Int32) (x18_bestPlaced : Int32) (x18_bestTurning : Int32) (y19_against : Nat → Int32) (y20_best : Nat → Int32) (y21_may : Nat → Int32) (y22_redThen : Nat → Int32) (y23_s : Nat → Int32) (y24_ways : Nat → Int32) (y25_p : Nat → Int64) : Option (Int32 × Int32 × Int32 × Int32 × (Nat → Int32) × (Nat → Int32) × (Nat → Int32) × (Nat → Int32) × (Nat → Int32) × (Nat → Int32) × Int32 × Int32 × Int32 × Int32 × (Nat → Int32) × (Nat → Int32) × (Nat → Int32) × (Nat → Int32) × (Nat → Int32) × (Nat → Int64)) :=
  ar (i + 1) L <|
  ar (i + 2) L <|
  bv (fun (t1317 : Int32) => ((
    bv (fun (k1318 : Int32) (y25_p_1 : Nat → Int64) (x1_reds_2 : Int32) (x1_bestReds_2 : Int32) (x1_bestCount_2 : Int32) (x1_bestTurning_2 : Int32) (y3_allowed_2 : Nat → Int32) (y4_best_2 : Nat → Int32) (y5_foes_2 : Nat → Int32) (y6_namesLeft_2 : Nat → Int32) (y7_redsLeft_2 : Nat → Int32) (y8_trial_2 : Nat → Int32) => ((
      ar (i + 1) L <|
      ar (i + 2) L <|
      bv (fun (t1344 : Int32) => ((
        bd10 (f_X9_placedIf x18_thrown x18_bestReds x18_bestPlaced x18_bestTurning y19_against y20_best y21_may y22_redThen y23_s y24_ways (xs (i + 1).toNatClampNeg) t1344) fun (r1344 : Int32) (x18_thrown_1 : Int32) (x18_bestReds_1 : Int32) (x18_bestPlaced_1 : Int32) (x18_bestTurning_1 : Int32) (y19_against_1 : Nat → Int32) (y20_best_1 : Nat → Int32) (y21_may_1 : Nat → Int32) (y22_redThen_1 : Nat → Int32) (y24_ways_1 : Nat → Int32) =>
        bd1 (f_X9_thrown x18_thrown_1) fun (r1350 : Int32) =>
        (if r1350 = k1318 then (
          bv (fun (_ : Unit) => ((
            some (x1_reds_2, x1_bestReds_2, x1_bestCount_2, x1_bestTurning_2, y3_allowed_2, y4_best_2, y5_foes_2, y6_namesLeft_2, y7_redsLeft_2, y8_trial_2, x18_thrown_1, x18_bestReds_1, x18_bestPlaced_1, x18_bestTurning_1, y19_against_1, y20_best_1, y21_may_1, y22_redThen_1, y24_ways_1, y25_p_1)
            ) : Option (Int32 × Int32 × Int32 × Int32 × (Nat → Int32) × (Nat → Int32) × (Nat → Int32) × (Nat → Int32) × (Nat → Int32) × (Nat → Int32) × Int32 × Int32 × Int32 × Int32 × (Nat → Int32) × (Nat → Int32) × (Nat → Int32) × (Nat → Int32) × (Nat → Int32) × (Nat → Int64)))) fun j1377 =>
          (if k1318 = 0 then (
            ar 0 1 <|
            (if (lg_cmp (y25_p_1 (0 : Int32).toNatClampNeg) (r1344.toInt64)) = 0 then (
              j1377 ()
            ) else (
              none
            ))
          ) else (
            j1377 ()
          ))
        ) else (
          none
        ))
        ) : Option (Int32 × Int32 × Int32 × Int32 × (Nat → Int32) × (Nat → Int32) × (Nat → Int32) × (Nat → Int32) × (Nat → Int32) × (Nat → Int32) × Int32 × Int32 × Int32 × Int32 × (Nat → Int32) × (Nat → Int32) × (Nat → Int32) × (Nat → Int32) × (Nat → Int32) × (Nat → Int64)))) fun j1344 =>
      (if (xs (i + 2).toNatClampNeg) = 0 then (
        j1344 0
      ) else (
        j1344 1
      ))
      ) : Option (Int32 × Int32 × Int32 × Int32 × (Nat → Int32) × (Nat → Int32) × (Nat → Int32) × (Nat → Int32) × (Nat → Int32) × (Nat → Int32) × Int32 × Int32 × Int32 × Int32 × (Nat → Int32) × (Nat → Int32) × (Nat → Int32) × (Nat → Int32) × (Nat → Int32) × (Nat → Int64)))) fun jh1318 =>
    match t_X8_placedIf x1_reds x1_bestReds x1_bestCount x1_bestTurning y3_allowed y4_best y5_foes y6_namesLeft y7_redsLeft y8_trial x9_rows x9_columns x10_count x10_reds x11_count x11_turn y12_land y13_riverOf y14_home y15_length y16_letters y17_stops (xs (i + 1).toNatClampNeg) t1317 with
    | some cls =>
      (if cls = "java/lang/IndexOutOfBoundsException" then jh1318 1 y25_p x1_reds x1_bestReds x1_bestCount x1_bestTurning y3_allowed y4_best y5_foes y6_namesLeft y7_redsLeft y8_trial else
      none)
    | none =>
      bd11 (f_X8_placedIf x1_reds x1_bestReds x1_bestCount x1_bestTurning y3_allowed y4_best y5_foes y6_namesLeft y7_redsLeft y8_trial x9_rows x9_columns x10_count x10_reds x11_count x11_turn y12_land y13_riverOf y14_home y15_length y16_letters y17_stops (xs (i + 1).toNatClampNeg) t1317) fun (r1318 : Int32) (x1_reds_1 : Int32) (x1_bestReds_1 : Int32) (x1_bestCount_1 : Int32) (x1_bestTurning_1 : Int32) (y3_allowed_1 : Nat → Int32) (y4_best_1 : Nat → Int32) (y5_foes_1 : Nat → Int32) (y6_namesLeft_1 : Nat → Int32) (y7_redsLeft_1 : Nat → Int32) (y8_trial_1 : Nat → Int32) =>
      jh1318 0 (vp_updL y25_p (0 : Int32).toNatClampNeg r1318.toInt64) x1_reds_1 x1_bestReds_1 x1_bestCount_1 x1_bestTurning_1 y3_allowed_1 y4_best_1 y5_foes_1 y6_namesLeft_1 y7_redsLeft_1 y8_trial_1
    ) : Option (Int32 × Int32 × Int32 × Int32 × (Nat → Int32) × (Nat → Int32) × (Nat → Int32) × (Nat → Int32) × (Nat → Int32) × (Nat → Int32) × Int32 × Int32 × Int32 × Int32 × (Nat → Int32) × (Nat → Int32) × (Nat → Int32) × (Nat → Int32) × (Nat → Int32) × (Nat → Int64)))) fun j1317 =>
  (if (xs (i + 2).toNatClampNeg) = 0 then (
    j1317 0
  ) else (
    j1317 1
  ))
noncomputable def f_case_26 (L : Nat) (xs : Nat → Int32) (i : Int32) (x1_reds : Int32) (x1_bestReds : Int32) (x1_bestCount : Int32) (x1_bestTurning : Int32) (y3_allowed : Nat → Int32) (y4_best : Nat → Int32) (y5_foes : Nat → Int32) (y6_namesLeft : Nat → Int32) (y7_redsLeft : Nat → Int32) (y8_trial : Nat → Int32) (x9_rows : Int32) (x9_columns : Int32) (x10_count : Int32) (x10_reds : Int32) (x11_count : Int32) (x11_turn : Int32) (y12_land : Nat → Int32) (y13_riverOf : Nat → Int32) (y14_home : Nat → Int32) (y15_length : Nat → Int32) (y16_letters : Nat → Int32) (y17_stops : Nat → Int32) (x18_thrown : Int32) (x18_bestReds : Int32) (x18_bestPlaced : Int32) (x18_bestTurning : Int32) (y19_against : Nat → Int32) (y20_best : Nat → Int32) (y21_may : Nat → Int32) (y22_redThen : Nat → Int32) (y23_s : Nat → Int32) (y24_ways : Nat → Int32) : Option (Int32 × Int32 × Int32 × Int32 × (Nat → Int32) × (Nat → Int32) × (Nat → Int32) × (Nat → Int32) × (Nat → Int32) × (Nat → Int32) × Int32 × Int32 × Int32 × Int32 × (Nat → Int32) × (Nat → Int32) × (Nat → Int32) × (Nat → Int32) × (Nat → Int32)) :=
  bd11 (f_X8_shy x1_reds x1_bestReds x1_bestCount x1_bestTurning y3_allowed y4_best y5_foes y6_namesLeft y7_redsLeft y8_trial x9_rows x9_columns x10_count x10_reds x11_count x11_turn y12_land y13_riverOf y14_home y15_length y16_letters y17_stops) fun (r1381 : Int32) (x1_reds_1 : Int32) (x1_bestReds_1 : Int32) (x1_bestCount_1 : Int32) (x1_bestTurning_1 : Int32) (y3_allowed_1 : Nat → Int32) (y4_best_1 : Nat → Int32) (y5_foes_1 : Nat → Int32) (y6_namesLeft_1 : Nat → Int32) (y7_redsLeft_1 : Nat → Int32) (y8_trial_1 : Nat → Int32) =>
  bd10 (f_X9_shy x18_thrown x18_bestReds x18_bestPlaced x18_bestTurning y19_against y20_best y21_may y22_redThen y23_s y24_ways) fun (r1385 : Int32) (x18_thrown_1 : Int32) (x18_bestReds_1 : Int32) (x18_bestPlaced_1 : Int32) (x18_bestTurning_1 : Int32) (y19_against_1 : Nat → Int32) (y20_best_1 : Nat → Int32) (y21_may_1 : Nat → Int32) (y22_redThen_1 : Nat → Int32) (y24_ways_1 : Nat → Int32) =>
  (if r1381 = r1385 then (
    some (x1_reds_1, x1_bestReds_1, x1_bestCount_1, x1_bestTurning_1, y3_allowed_1, y4_best_1, y5_foes_1, y6_namesLeft_1, y7_redsLeft_1, y8_trial_1, x18_thrown_1, x18_bestReds_1, x18_bestPlaced_1, x18_bestTurning_1, y19_against_1, y20_best_1, y21_may_1, y22_redThen_1, y24_ways_1)
  ) else (
    none
  ))
noncomputable def f_case_27 (L : Nat) (xs : Nat → Int32) (i : Int32) (x2_length : Int32) (x3_rows : Int32) (x3_columns : Int32) (x4_count : Int32) (y5_namesOn : Nat → Int32) (y6_costs : Nat → Int32) (y7_sums : Nat → Int32) (y8_way : Nat → Int32) (y9_land : Nat → Int32) (y10_riverOf : Nat → Int32) (y11_home : Nat → Int32) (x12_thrown : Int32) (x12_flowLong : Int32) (y13_flow : Nat → Int32) (y14_s : Nat → Int32) (y15_sums : Nat → Int32) (y16_p : Nat → Int64) : Option (Int32 × (Nat → Int32) × (Nat → Int32) × (Nat → Int32) × Int32 × Int32 × (Nat → Int32) × (Nat → Int32) × (Nat → Int64)) :=
  ar (i + 1) L <|
  bv (fun (k1401 : Int32) (y16_p_1 : Nat → Int64) (x2_length_2 : Int32) (y6_costs_2 : Nat → Int32) (y7_sums_2 : Nat → Int32) (y8_way_2 : Nat → Int32) => ((
    ar (i + 1) L <|
    bd5 (f_X9_wayLength x12_thrown x12_flowLong y13_flow y14_s y15_sums (xs (i + 1).toNatClampNeg)) fun (r1413 : Int32) (x12_thrown_1 : Int32) (x12_flowLong_1 : Int32) (y13_flow_1 : Nat → Int32) (y15_sums_1 : Nat → Int32) =>
    bd1 (f_X9_thrown x12_thrown_1) fun (r1419 : Int32) =>
    (if r1419 = k1401 then (
      bv (fun (_ : Unit) => ((
        some (x2_length_2, y6_costs_2, y7_sums_2, y8_way_2, x12_thrown_1, x12_flowLong_1, y13_flow_1, y15_sums_1, y16_p_1)
        ) : Option (Int32 × (Nat → Int32) × (Nat → Int32) × (Nat → Int32) × Int32 × Int32 × (Nat → Int32) × (Nat → Int32) × (Nat → Int64)))) fun j1446 =>
      (if k1401 = 0 then (
        ar 0 1 <|
        (if (lg_cmp (y16_p_1 (0 : Int32).toNatClampNeg) (r1413.toInt64)) = 0 then (
          j1446 ()
        ) else (
          none
        ))
      ) else (
        j1446 ()
      ))
    ) else (
      none
    ))
    ) : Option (Int32 × (Nat → Int32) × (Nat → Int32) × (Nat → Int32) × Int32 × Int32 × (Nat → Int32) × (Nat → Int32) × (Nat → Int64)))) fun jh1401 =>
  match t_X8_wayLength x2_length x3_rows x3_columns x4_count y5_namesOn y6_costs y7_sums y8_way y9_land y10_riverOf y11_home (xs (i + 1).toNatClampNeg) with
  | some cls =>
    (if cls = "java/lang/IndexOutOfBoundsException" then jh1401 1 y16_p x2_length y6_costs y7_sums y8_way else
    none)
  | none =>
    bd5 (f_X8_wayLength x2_length x3_rows x3_columns x4_count y5_namesOn y6_costs y7_sums y8_way y9_land y10_riverOf y11_home (xs (i + 1).toNatClampNeg)) fun (r1401 : Int32) (x2_length_1 : Int32) (y6_costs_1 : Nat → Int32) (y7_sums_1 : Nat → Int32) (y8_way_1 : Nat → Int32) =>
    jh1401 0 (vp_updL y16_p (0 : Int32).toNatClampNeg r1401.toInt64) x2_length_1 y6_costs_1 y7_sums_1 y8_way_1
noncomputable def f_case_28 (L : Nat) (xs : Nat → Int32) (i : Int32) (x2_length : Int32) (x3_rows : Int32) (x3_columns : Int32) (x4_count : Int32) (y5_namesOn : Nat → Int32) (y6_costs : Nat → Int32) (y7_sums : Nat → Int32) (y8_way : Nat → Int32) (y9_land : Nat → Int32) (y10_riverOf : Nat → Int32) (y11_home : Nat → Int32) (x12_thrown : Int32) (x12_flowLong : Int32) (y13_flow : Nat → Int32) (y14_s : Nat → Int32) (y15_sums : Nat → Int32) (y16_p : Nat → Int64) : Option (Int32 × (Nat → Int32) × (Nat → Int32) × (Nat → Int32) × Int32 × Int32 × (Nat → Int32) × (Nat → Int32) × (Nat → Int64)) :=
  ar (i + 1) L <|
  ar (i + 2) L <|
  bv (fun (k1463 : Int32) (y16_p_1 : Nat → Int64) (x2_length_2 : Int32) (y6_costs_2 : Nat → Int32) (y7_sums_2 : Nat → Int32) (y8_way_2 : Nat → Int32) => ((
    ar (i + 1) L <|
    ar (i + 2) L <|
    bd5 (f_X9_wayCell x12_thrown x12_flowLong y13_flow y14_s y15_sums (xs (i + 1).toNatClampNeg) (xs (i + 2).toNatClampNeg)) fun (r1481 : Int32) (x12_thrown_1 : Int32) (x12_flowLong_1 : Int32) (y13_flow_1 : Nat → Int32) (y15_sums_1 : Nat → Int32) =>
    bd1 (f_X9_thrown x12_thrown_1) fun (r1487 : Int32) =>
    (if r1487 = k1463 then (
      bv (fun (_ : Unit) => ((
        some (x2_length_2, y6_costs_2, y7_sums_2, y8_way_2, x12_thrown_1, x12_flowLong_1, y13_flow_1, y15_sums_1, y16_p_1)
        ) : Option (Int32 × (Nat → Int32) × (Nat → Int32) × (Nat → Int32) × Int32 × Int32 × (Nat → Int32) × (Nat → Int32) × (Nat → Int64)))) fun j1514 =>
      (if k1463 = 0 then (
        ar 0 1 <|
        (if (lg_cmp (y16_p_1 (0 : Int32).toNatClampNeg) (r1481.toInt64)) = 0 then (
          j1514 ()
        ) else (
          none
        ))
      ) else (
        j1514 ()
      ))
    ) else (
      none
    ))
    ) : Option (Int32 × (Nat → Int32) × (Nat → Int32) × (Nat → Int32) × Int32 × Int32 × (Nat → Int32) × (Nat → Int32) × (Nat → Int64)))) fun jh1463 =>
  match t_X8_wayCell x2_length x3_rows x3_columns x4_count y5_namesOn y6_costs y7_sums y8_way y9_land y10_riverOf y11_home (xs (i + 1).toNatClampNeg) (xs (i + 2).toNatClampNeg) with
  | some cls =>
    (if cls = "java/lang/IndexOutOfBoundsException" then jh1463 1 y16_p x2_length y6_costs y7_sums y8_way else
    none)
  | none =>
    bd5 (f_X8_wayCell x2_length x3_rows x3_columns x4_count y5_namesOn y6_costs y7_sums y8_way y9_land y10_riverOf y11_home (xs (i + 1).toNatClampNeg) (xs (i + 2).toNatClampNeg)) fun (r1463 : Int32) (x2_length_1 : Int32) (y6_costs_1 : Nat → Int32) (y7_sums_1 : Nat → Int32) (y8_way_1 : Nat → Int32) =>
    jh1463 0 (vp_updL y16_p (0 : Int32).toNatClampNeg r1463.toInt64) x2_length_1 y6_costs_1 y7_sums_1 y8_way_1
noncomputable def f_case_29 (L : Nat) (xs : Nat → Int32) (i : Int32) (x2_length : Int32) (x3_rows : Int32) (x3_columns : Int32) (x4_count : Int32) (y5_namesOn : Nat → Int32) (y6_costs : Nat → Int32) (y7_sums : Nat → Int32) (y8_way : Nat → Int32) (y9_land : Nat → Int32) (y10_riverOf : Nat → Int32) (y11_home : Nat → Int32) (x12_thrown : Int32) (x12_flowLong : Int32) (y13_flow : Nat → Int32) (y14_s : Nat → Int32) (y15_sums : Nat → Int32) (y16_p : Nat → Int64) : Option (Int32 × (Nat → Int32) × (Nat → Int32) × (Nat → Int32) × Int32 × Int32 × (Nat → Int32) × (Nat → Int32) × (Nat → Int64)) :=
  ar (i + 1) L <|
  bv (fun (k1525 : Int32) (y16_p_1 : Nat → Int64) (x2_length_2 : Int32) (y6_costs_2 : Nat → Int32) (y7_sums_2 : Nat → Int32) (y8_way_2 : Nat → Int32) => ((
    ar (i + 1) L <|
    bd5 (f_X9_washes x12_thrown x12_flowLong y13_flow y14_s y15_sums (xs (i + 1).toNatClampNeg)) fun (r1537 : Int32) (x12_thrown_1 : Int32) (x12_flowLong_1 : Int32) (y13_flow_1 : Nat → Int32) (y15_sums_1 : Nat → Int32) =>
    bd1 (f_X9_thrown x12_thrown_1) fun (r1543 : Int32) =>
    (if r1543 = k1525 then (
      bv (fun (_ : Unit) => ((
        some (x2_length_2, y6_costs_2, y7_sums_2, y8_way_2, x12_thrown_1, x12_flowLong_1, y13_flow_1, y15_sums_1, y16_p_1)
        ) : Option (Int32 × (Nat → Int32) × (Nat → Int32) × (Nat → Int32) × Int32 × Int32 × (Nat → Int32) × (Nat → Int32) × (Nat → Int64)))) fun j1570 =>
      (if k1525 = 0 then (
        ar 0 1 <|
        (if (lg_cmp (y16_p_1 (0 : Int32).toNatClampNeg) (r1537.toInt64)) = 0 then (
          j1570 ()
        ) else (
          none
        ))
      ) else (
        j1570 ()
      ))
    ) else (
      none
    ))
    ) : Option (Int32 × (Nat → Int32) × (Nat → Int32) × (Nat → Int32) × Int32 × Int32 × (Nat → Int32) × (Nat → Int32) × (Nat → Int64)))) fun jh1525 =>
  match t_X8_washes x2_length x3_rows x3_columns x4_count y5_namesOn y6_costs y7_sums y8_way y9_land y10_riverOf y11_home (xs (i + 1).toNatClampNeg) with
  | some cls =>
    (if cls = "java/lang/IndexOutOfBoundsException" then jh1525 1 y16_p x2_length y6_costs y7_sums y8_way else
    none)
  | none =>
    bd5 (f_X8_washes x2_length x3_rows x3_columns x4_count y5_namesOn y6_costs y7_sums y8_way y9_land y10_riverOf y11_home (xs (i + 1).toNatClampNeg)) fun (r1525 : Int32) (x2_length_1 : Int32) (y6_costs_1 : Nat → Int32) (y7_sums_1 : Nat → Int32) (y8_way_1 : Nat → Int32) =>
    jh1525 0 (vp_updL y16_p (0 : Int32).toNatClampNeg r1525.toInt64) x2_length_1 y6_costs_1 y7_sums_1 y8_way_1
noncomputable def f_case_30 (L : Nat) (xs : Nat → Int32) (i : Int32) (x2_length : Int32) (x3_rows : Int32) (x3_columns : Int32) (x4_count : Int32) (y5_namesOn : Nat → Int32) (y6_costs : Nat → Int32) (y7_sums : Nat → Int32) (y8_way : Nat → Int32) (y9_land : Nat → Int32) (y10_riverOf : Nat → Int32) (y11_home : Nat → Int32) (x12_thrown : Int32) (x12_flowLong : Int32) (y13_flow : Nat → Int32) (y14_s : Nat → Int32) (y15_sums : Nat → Int32) : Option (Int32 × (Nat → Int32) × (Nat → Int32) × (Nat → Int32) × Int32 × Int32 × (Nat → Int32) × (Nat → Int32)) :=
  bd5 (f_X8_mildest x2_length x3_rows x3_columns x4_count y5_namesOn y6_costs y7_sums y8_way y9_land y10_riverOf y11_home) fun (r1574 : Int32) (x2_length_1 : Int32) (y6_costs_1 : Nat → Int32) (y7_sums_1 : Nat → Int32) (y8_way_1 : Nat → Int32) =>
  bd5 (f_X9_mildest x12_thrown x12_flowLong y13_flow y14_s y15_sums) fun (r1578 : Int32) (x12_thrown_1 : Int32) (x12_flowLong_1 : Int32) (y13_flow_1 : Nat → Int32) (y15_sums_1 : Nat → Int32) =>
  (if r1574 = r1578 then (
    some (x2_length_1, y6_costs_1, y7_sums_1, y8_way_1, x12_thrown_1, x12_flowLong_1, y13_flow_1, y15_sums_1)
  ) else (
    none
  ))
noncomputable def f_case_31 (L : Nat) (xs : Nat → Int32) (i : Int32) (x2_rows : Int32) (x2_columns : Int32) (y3_namesOn : Nat → Int32) (x4_thrown : Int32) (y5_s : Nat → Int32) (y6_p : Nat → Int64) : Option (Int32 × (Nat → Int64)) :=
  ar (i + 1) L <|
  bv (fun (k1594 : Int32) (y6_p_1 : Nat → Int64) => ((
    ar (i + 1) L <|
    bd2 (f_X9_drowns x4_thrown y5_s (xs (i + 1).toNatClampNeg)) fun (r1606 : Int32) (x4_thrown_1 : Int32) =>
    bd1 (f_X9_thrown x4_thrown_1) fun (r1612 : Int32) =>
    (if r1612 = k1594 then (
      bv (fun (_ : Unit) => ((
        some (x4_thrown_1, y6_p_1)
        ) : Option (Int32 × (Nat → Int64)))) fun j1639 =>
      (if k1594 = 0 then (
        ar 0 1 <|
        (if (lg_cmp (y6_p_1 (0 : Int32).toNatClampNeg) (r1606.toInt64)) = 0 then (
          j1639 ()
        ) else (
          none
        ))
      ) else (
        j1639 ()
      ))
    ) else (
      none
    ))
    ) : Option (Int32 × (Nat → Int64)))) fun jh1594 =>
  match t_X8_drowns x2_rows x2_columns y3_namesOn (xs (i + 1).toNatClampNeg) with
  | some cls =>
    (if cls = "java/lang/IndexOutOfBoundsException" then jh1594 1 y6_p  else
    none)
  | none =>
    bd1 (f_X8_drowns x2_rows x2_columns y3_namesOn (xs (i + 1).toNatClampNeg)) fun (r1594 : Int32) =>
    jh1594 0 (vp_updL y6_p (0 : Int32).toNatClampNeg r1594.toInt64)
noncomputable def f_case_32 (L : Nat) (xs : Nat → Int32) (i : Int32) (x1_latest : Int32) (x1_count : Int32) (y3_past : Nat → Option ShT) (x4_rows : Int32) (x4_columns : Int32) (x4_rivers : Int32) (x5_count : Int32) (x5_reds : Int32) (x6_count : Int32) (x6_next : Int32) (x6_turn : Int32) (x6_quarters : Int32) (y7_letterOn : Nat → Int32) (y8_namesOn : Nat → Int32) (y9_land : Nat → Int32) (y10_riverOf : Nat → Int32) (y11_riverPlace : Nat → Int32) (y12_direction : Nat → Int32) (y13_home : Nat → Int32) (y14_length : Nat → Int32) (y15_letters : Nat → Int32) (y16_stops : Nat → Int32) (x17_acts : Int32) (x17_thrown : Int32) (y18_past : Nat → Int32) (y19_s : Nat → Int32) (y20_p : Nat → Int64) : Option (Int32 × Int32 × (Nat → Option ShT) × (Nat → Int32) × (Nat → Int32) × (Nat → Int32) × Int32 × Int32 × (Nat → Int32) × (Nat → Int32) × (Nat → Int64)) :=
  ar (i + 1) L <|
  ar (i + 2) L <|
  bv (fun (k1656 : Int32) (y20_p_1 : Nat → Int64) (x1_latest_2 : Int32) (x1_count_2 : Int32) (y3_past_2 : Nat → Option ShT) (y7_letterOn_2 : Nat → Int32) (y8_namesOn_2 : Nat → Int32) (y12_direction_2 : Nat → Int32) => ((
    ar (i + 1) L <|
    ar (i + 2) L <|
    bd5 (f_X9_place x17_acts x17_thrown y18_past y19_s (xs (i + 1).toNatClampNeg) (xs (i + 2).toNatClampNeg)) fun (r1674 : Int32) (x17_acts_1 : Int32) (x17_thrown_1 : Int32) (y18_past_1 : Nat → Int32) (y19_s_1 : Nat → Int32) =>
    bd1 (f_X9_thrown x17_thrown_1) fun (r1680 : Int32) =>
    (if r1680 = k1656 then (
      bv (fun (_ : Unit) => ((
        some (x1_latest_2, x1_count_2, y3_past_2, y7_letterOn_2, y8_namesOn_2, y12_direction_2, x17_acts_1, x17_thrown_1, y18_past_1, y19_s_1, y20_p_1)
        ) : Option (Int32 × Int32 × (Nat → Option ShT) × (Nat → Int32) × (Nat → Int32) × (Nat → Int32) × Int32 × Int32 × (Nat → Int32) × (Nat → Int32) × (Nat → Int64)))) fun j1707 =>
      (if k1656 = 0 then (
        ar 0 1 <|
        (if (lg_cmp (y20_p_1 (0 : Int32).toNatClampNeg) (r1674.toInt64)) = 0 then (
          j1707 ()
        ) else (
          none
        ))
      ) else (
        j1707 ()
      ))
    ) else (
      none
    ))
    ) : Option (Int32 × Int32 × (Nat → Option ShT) × (Nat → Int32) × (Nat → Int32) × (Nat → Int32) × Int32 × Int32 × (Nat → Int32) × (Nat → Int32) × (Nat → Int64)))) fun jh1656 =>
  match t_X8_place x4_rows x4_columns x5_count x5_reds y7_letterOn y8_namesOn y9_land y10_riverOf y13_home y14_length y15_letters (xs (i + 1).toNatClampNeg) (xs (i + 2).toNatClampNeg) with
  | some cls =>
    (if cls = "java/lang/IndexOutOfBoundsException" then jh1656 1 y20_p x1_latest x1_count y3_past y7_letterOn y8_namesOn y12_direction else
    (if cls = "java/lang/IllegalArgumentException" then jh1656 2 y20_p x1_latest x1_count y3_past y7_letterOn y8_namesOn y12_direction else
    none))
  | none =>
    bd7 (f_X8_place x1_latest x1_count y3_past x4_rows x4_columns x4_rivers x5_count x5_reds x6_count x6_next x6_turn x6_quarters y7_letterOn y8_namesOn y9_land y10_riverOf y11_riverPlace y12_direction y13_home y14_length y15_letters y16_stops (xs (i + 1).toNatClampNeg) (xs (i + 2).toNatClampNeg)) fun (r1656 : Int32) (x1_latest_1 : Int32) (x1_count_1 : Int32) (y3_past_1 : Nat → Option ShT) (y7_letterOn_1 : Nat → Int32) (y8_namesOn_1 : Nat → Int32) (y12_direction_1 : Nat → Int32) =>
    jh1656 0 (vp_updL y20_p (0 : Int32).toNatClampNeg r1656.toInt64) x1_latest_1 x1_count_1 y3_past_1 y7_letterOn_1 y8_namesOn_1 y12_direction_1
noncomputable def f_case_33 (L : Nat) (xs : Nat → Int32) (i : Int32) (x1_latest : Int32) (x1_count : Int32) (y3_past : Nat → Option ShT) (x4_rows : Int32) (x4_columns : Int32) (x4_rivers : Int32) (x5_count : Int32) (x5_reds : Int32) (x6_count : Int32) (x6_next : Int32) (x6_turn : Int32) (x6_quarters : Int32) (y7_letterOn : Nat → Int32) (y8_namesOn : Nat → Int32) (y9_land : Nat → Int32) (y10_riverOf : Nat → Int32) (y11_riverPlace : Nat → Int32) (y12_direction : Nat → Int32) (y13_home : Nat → Int32) (y14_length : Nat → Int32) (y15_letters : Nat → Int32) (y16_stops : Nat → Int32) (x17_acts : Int32) (x17_thrown : Int32) (y18_past : Nat → Int32) (y19_s : Nat → Int32) (y20_p : Nat → Int64) : Option (Int32 × Int32 × (Nat → Option ShT) × (Nat → Int32) × (Nat → Int32) × Int32 × Int32 × (Nat → Int32) × (Nat → Int32) × (Nat → Int64)) :=
  ar (i + 1) L <|
  bv (fun (k1718 : Int32) (y20_p_1 : Nat → Int64) (x1_latest_2 : Int32) (x1_count_2 : Int32) (y3_past_2 : Nat → Option ShT) (y8_namesOn_2 : Nat → Int32) (y12_direction_2 : Nat → Int32) => ((
    ar (i + 1) L <|
    bd5 (f_X9_lift x17_acts x17_thrown y18_past y19_s (xs (i + 1).toNatClampNeg)) fun (r1730 : Int32) (x17_acts_1 : Int32) (x17_thrown_1 : Int32) (y18_past_1 : Nat → Int32) (y19_s_1 : Nat → Int32) =>
    bd1 (f_X9_thrown x17_thrown_1) fun (r1736 : Int32) =>
    (if r1736 = k1718 then (
      bv (fun (_ : Unit) => ((
        some (x1_latest_2, x1_count_2, y3_past_2, y8_namesOn_2, y12_direction_2, x17_acts_1, x17_thrown_1, y18_past_1, y19_s_1, y20_p_1)
        ) : Option (Int32 × Int32 × (Nat → Option ShT) × (Nat → Int32) × (Nat → Int32) × Int32 × Int32 × (Nat → Int32) × (Nat → Int32) × (Nat → Int64)))) fun j1763 =>
      (if k1718 = 0 then (
        ar 0 1 <|
        (if (lg_cmp (y20_p_1 (0 : Int32).toNatClampNeg) (r1730.toInt64)) = 0 then (
          j1763 ()
        ) else (
          none
        ))
      ) else (
        j1763 ()
      ))
    ) else (
      none
    ))
    ) : Option (Int32 × Int32 × (Nat → Option ShT) × (Nat → Int32) × (Nat → Int32) × Int32 × Int32 × (Nat → Int32) × (Nat → Int32) × (Nat → Int64)))) fun jh1718 =>
  match t_X8_lift x5_count y12_direction (xs (i + 1).toNatClampNeg) with
  | some cls =>
    (if cls = "java/lang/IndexOutOfBoundsException" then jh1718 1 y20_p x1_latest x1_count y3_past y8_namesOn y12_direction else
    none)
  | none =>
    bd6 (f_X8_lift x1_latest x1_count y3_past x4_rows x4_columns x4_rivers x5_count x5_reds x6_count x6_next x6_turn x6_quarters y7_letterOn y8_namesOn y9_land y10_riverOf y11_riverPlace y12_direction y13_home y14_length y15_letters y16_stops (xs (i + 1).toNatClampNeg)) fun (r1718 : Int32) (x1_latest_1 : Int32) (x1_count_1 : Int32) (y3_past_1 : Nat → Option ShT) (y8_namesOn_1 : Nat → Int32) (y12_direction_1 : Nat → Int32) =>
    jh1718 0 (vp_updL y20_p (0 : Int32).toNatClampNeg r1718.toInt64) x1_latest_1 x1_count_1 y3_past_1 y8_namesOn_1 y12_direction_1
noncomputable def f_case_34 (L : Nat) (xs : Nat → Int32) (i : Int32) (x1_reds : Int32) (x1_bestReds : Int32) (x1_bestCount : Int32) (x1_bestTurning : Int32) (x2_latest : Int32) (x2_count : Int32) (y4_allowed : Nat → Int32) (y5_best : Nat → Int32) (y6_foes : Nat → Int32) (y7_namesLeft : Nat → Int32) (y8_redsLeft : Nat → Int32) (y9_trial : Nat → Int32) (y10_past : Nat → Option ShT) (x11_rows : Int32) (x11_columns : Int32) (x11_rivers : Int32) (x12_count : Int32) (x12_reds : Int32) (x13_count : Int32) (x13_next : Int32) (x13_turn : Int32) (x13_quarters : Int32) (y14_letterOn : Nat → Int32) (y15_namesOn : Nat → Int32) (y16_land : Nat → Int32) (y17_riverOf : Nat → Int32) (y18_riverPlace : Nat → Int32) (y19_direction : Nat → Int32) (y20_home : Nat → Int32) (y21_length : Nat → Int32) (y22_letters : Nat → Int32) (y23_stops : Nat → Int32) (x24_acts : Int32) (x24_thrown : Int32) (x24_bestReds : Int32) (x24_bestPlaced : Int32) (x24_bestTurning : Int32) (y25_against : Nat → Int32) (y26_best : Nat → Int32) (y27_may : Nat → Int32) (y28_past : Nat → Int32) (y29_redThen : Nat → Int32) (y30_s : Nat → Int32) (y31_ways : Nat → Int32) : Option (Int32 × Int32 × Int32 × Int32 × Int32 × Int32 × (Nat → Int32) × (Nat → Int32) × (Nat → Int32) × (Nat → Int32) × (Nat → Int32) × (Nat → Int32) × (Nat → Option ShT) × (Nat → Int32) × (Nat → Int32) × (Nat → Int32) × Int32 × Int32 × Int32 × Int32 × Int32 × (Nat → Int32) × (Nat → Int32) × (Nat → Int32) × (Nat → Int32) × (Nat → Int32) × (Nat → Int32) × (Nat → Int32)) :=
  bd17 (f_X8_arrange x1_reds x1_bestReds x1_bestCount x1_bestTurning x2_latest x2_count y4_allowed y5_best y6_foes y7_namesLeft y8_redsLeft y9_trial y10_past x11_rows x11_columns x11_rivers x12_count x12_reds x13_count x13_next x13_turn x13_quarters y14_letterOn y15_namesOn y16_land y17_riverOf y18_riverPlace y19_direction y20_home y21_length y22_letters y23_stops) fun (r1767 : Int32) (x1_reds_1 : Int32) (x1_bestReds_1 : Int32) (x1_bestCount_1 : Int32) (x1_bestTurning_1 : Int32) (x2_latest_1 : Int32) (x2_count_1 : Int32) (y4_allowed_1 : Nat → Int32) (y5_best_1 : Nat → Int32) (y6_foes_1 : Nat → Int32) (y7_namesLeft_1 : Nat → Int32) (y8_redsLeft_1 : Nat → Int32) (y9_trial_1 : Nat → Int32) (y10_past_1 : Nat → Option ShT) (y14_letterOn_1 : Nat → Int32) (y15_namesOn_1 : Nat → Int32) (y19_direction_1 : Nat → Int32) =>
  bd13 (f_X9_arrange x24_acts x24_thrown x24_bestReds x24_bestPlaced x24_bestTurning y25_against y26_best y27_may y28_past y29_redThen y30_s y31_ways) fun (r1771 : Int32) (x24_acts_1 : Int32) (x24_thrown_1 : Int32) (x24_bestReds_1 : Int32) (x24_bestPlaced_1 : Int32) (x24_bestTurning_1 : Int32) (y25_against_1 : Nat → Int32) (y26_best_1 : Nat → Int32) (y27_may_1 : Nat → Int32) (y28_past_1 : Nat → Int32) (y29_redThen_1 : Nat → Int32) (y30_s_1 : Nat → Int32) (y31_ways_1 : Nat → Int32) =>
  (if r1767 = r1771 then (
    some (x1_reds_1, x1_bestReds_1, x1_bestCount_1, x1_bestTurning_1, x2_latest_1, x2_count_1, y4_allowed_1, y5_best_1, y6_foes_1, y7_namesLeft_1, y8_redsLeft_1, y9_trial_1, y10_past_1, y14_letterOn_1, y15_namesOn_1, y19_direction_1, x24_acts_1, x24_thrown_1, x24_bestReds_1, x24_bestPlaced_1, x24_bestTurning_1, y25_against_1, y26_best_1, y27_may_1, y28_past_1, y29_redThen_1, y30_s_1, y31_ways_1)
  ) else (
    none
  ))
noncomputable def f_case_35 (L : Nat) (xs : Nat → Int32) (i : Int32) (x1_latest : Int32) (x1_count : Int32) (y3_past : Nat → Option ShT) (x4_rows : Int32) (x4_columns : Int32) (x4_rivers : Int32) (x5_count : Int32) (x5_reds : Int32) (x6_count : Int32) (x6_next : Int32) (x6_turn : Int32) (x6_quarters : Int32) (y7_letterOn : Nat → Int32) (y8_namesOn : Nat → Int32) (y9_land : Nat → Int32) (y10_riverOf : Nat → Int32) (y11_riverPlace : Nat → Int32) (y12_direction : Nat → Int32) (y13_home : Nat → Int32) (y14_length : Nat → Int32) (y15_letters : Nat → Int32) (y16_stops : Nat → Int32) (x17_acts : Int32) (x17_thrown : Int32) (y18_past : Nat → Int32) (y19_s : Nat → Int32) (y20_p : Nat → Int64) : Option (Int32 × Int32 × (Nat → Option ShT) × Int32 × (Nat → Int32) × (Nat → Int32) × Int32 × Int32 × (Nat → Int32) × (Nat → Int32) × (Nat → Int64)) :=
  ar (i + 1) L <|
  ar (i + 2) L <|
  bv (fun (t1800 : Int32) => ((
    bv (fun (k1801 : Int32) (y20_p_1 : Nat → Int64) (x1_latest_2 : Int32) (x1_count_2 : Int32) (y3_past_2 : Nat → Option ShT) (x5_reds_2 : Int32) (y8_namesOn_2 : Nat → Int32) (y12_direction_2 : Nat → Int32) => ((
      ar (i + 1) L <|
      ar (i + 2) L <|
      bv (fun (t1827 : Int32) => ((
        bd5 (f_X9_setRed x17_acts x17_thrown y18_past y19_s (xs (i + 1).toNatClampNeg) t1827) fun (r1827 : Int32) (x17_acts_1 : Int32) (x17_thrown_1 : Int32) (y18_past_1 : Nat → Int32) (y19_s_1 : Nat → Int32) =>
        bd1 (f_X9_thrown x17_thrown_1) fun (r1833 : Int32) =>
        (if r1833 = k1801 then (
          bv (fun (_ : Unit) => ((
            some (x1_latest_2, x1_count_2, y3_past_2, x5_reds_2, y8_namesOn_2, y12_direction_2, x17_acts_1, x17_thrown_1, y18_past_1, y19_s_1, y20_p_1)
            ) : Option (Int32 × Int32 × (Nat → Option ShT) × Int32 × (Nat → Int32) × (Nat → Int32) × Int32 × Int32 × (Nat → Int32) × (Nat → Int32) × (Nat → Int64)))) fun j1867 =>
          (if k1801 = 0 then (
            ar 0 1 <|
            bv (fun (t1861 : Int64) => ((
              (if (lg_cmp (y20_p_1 (0 : Int32).toNatClampNeg) t1861) = 0 then (
                j1867 ()
              ) else (
                none
              ))
              ) : Option (Int32 × Int32 × (Nat → Option ShT) × Int32 × (Nat → Int32) × (Nat → Int32) × Int32 × Int32 × (Nat → Int32) × (Nat → Int32) × (Nat → Int64)))) fun j1861 =>
            (if r1827 = 0 then (
              j1861 0
            ) else (
              j1861 1
            ))
          ) else (
            j1867 ()
          ))
        ) else (
          none
        ))
        ) : Option (Int32 × Int32 × (Nat → Option ShT) × Int32 × (Nat → Int32) × (Nat → Int32) × Int32 × Int32 × (Nat → Int32) × (Nat → Int32) × (Nat → Int64)))) fun j1827 =>
      (if (xs (i + 2).toNatClampNeg) = 0 then (
        j1827 0
      ) else (
        j1827 1
      ))
      ) : Option (Int32 × Int32 × (Nat → Option ShT) × Int32 × (Nat → Int32) × (Nat → Int32) × Int32 × Int32 × (Nat → Int32) × (Nat → Int32) × (Nat → Int64)))) fun jh1801 =>
    match t_X8_setRed x5_count (xs (i + 1).toNatClampNeg) t1800 with
    | some cls =>
      (if cls = "java/lang/IndexOutOfBoundsException" then jh1801 1 y20_p x1_latest x1_count y3_past x5_reds y8_namesOn y12_direction else
      none)
    | none =>
      bd7 (f_X8_setRed x1_latest x1_count y3_past x4_rows x4_columns x4_rivers x5_count x5_reds x6_count x6_next x6_turn x6_quarters y7_letterOn y8_namesOn y9_land y10_riverOf y11_riverPlace y12_direction y13_home y14_length y15_letters y16_stops (xs (i + 1).toNatClampNeg) t1800) fun (r1801 : Int32) (x1_latest_1 : Int32) (x1_count_1 : Int32) (y3_past_1 : Nat → Option ShT) (x5_reds_1 : Int32) (y8_namesOn_1 : Nat → Int32) (y12_direction_1 : Nat → Int32) =>
      jh1801 0 (vp_updL y20_p (0 : Int32).toNatClampNeg (if r1801 = 0 then 0 else 1)) x1_latest_1 x1_count_1 y3_past_1 x5_reds_1 y8_namesOn_1 y12_direction_1
    ) : Option (Int32 × Int32 × (Nat → Option ShT) × Int32 × (Nat → Int32) × (Nat → Int32) × Int32 × Int32 × (Nat → Int32) × (Nat → Int32) × (Nat → Int64)))) fun j1800 =>
  (if (xs (i + 2).toNatClampNeg) = 0 then (
    j1800 0
  ) else (
    j1800 1
  ))
noncomputable def f_case_36 (L : Nat) (xs : Nat → Int32) (i : Int32) (x1_latest : Int32) (x1_count : Int32) (x3_length : Int32) (y4_past : Nat → Option ShT) (x5_rows : Int32) (x5_columns : Int32) (x5_rivers : Int32) (x6_count : Int32) (x6_reds : Int32) (x7_count : Int32) (x7_next : Int32) (x7_turn : Int32) (x7_quarters : Int32) (y8_letterOn : Nat → Int32) (y9_namesOn : Nat → Int32) (y10_costs : Nat → Int32) (y11_sums : Nat → Int32) (y12_way : Nat → Int32) (y13_land : Nat → Int32) (y14_riverOf : Nat → Int32) (y15_riverPlace : Nat → Int32) (y16_direction : Nat → Int32) (y17_home : Nat → Int32) (y18_length : Nat → Int32) (y19_letters : Nat → Int32) (y20_stops : Nat → Int32) (x21_acts : Int32) (x21_thrown : Int32) (x21_flowLong : Int32) (y22_flow : Nat → Int32) (y23_past : Nat → Int32) (y24_s : Nat → Int32) (y25_sums : Nat → Int32) (y26_p : Nat → Int64) : Option (Int32 × Int32 × Int32 × (Nat → Option ShT) × Int32 × (Nat → Int32) × (Nat → Int32) × (Nat → Int32) × (Nat → Int32) × (Nat → Int32) × (Nat → Int32) × (Nat → Int32) × Int32 × Int32 × Int32 × (Nat → Int32) × (Nat → Int32) × (Nat → Int32) × (Nat → Int32) × (Nat → Int64)) :=
  ar (i + 1) L <|
  bv (fun (k1878 : Int32) (y26_p_1 : Nat → Int64) (x1_latest_2 : Int32) (x1_count_2 : Int32) (x3_length_2 : Int32) (y4_past_2 : Nat → Option ShT) (x5_rivers_2 : Int32) (y9_namesOn_2 : Nat → Int32) (y10_costs_2 : Nat → Int32) (y11_sums_2 : Nat → Int32) (y12_way_2 : Nat → Int32) (y14_riverOf_2 : Nat → Int32) (y15_riverPlace_2 : Nat → Int32) (y16_direction_2 : Nat → Int32) => ((
    ar (i + 1) L <|
    bd8 (f_X9_addRiver x21_acts x21_thrown x21_flowLong y22_flow y23_past y24_s y25_sums (xs (i + 1).toNatClampNeg)) fun (r1890 : Int32) (x21_acts_1 : Int32) (x21_thrown_1 : Int32) (x21_flowLong_1 : Int32) (y22_flow_1 : Nat → Int32) (y23_past_1 : Nat → Int32) (y24_s_1 : Nat → Int32) (y25_sums_1 : Nat → Int32) =>
    bd1 (f_X9_thrown x21_thrown_1) fun (r1896 : Int32) =>
    (if r1896 = k1878 then (
      bv (fun (_ : Unit) => ((
        some (x1_latest_2, x1_count_2, x3_length_2, y4_past_2, x5_rivers_2, y9_namesOn_2, y10_costs_2, y11_sums_2, y12_way_2, y14_riverOf_2, y15_riverPlace_2, y16_direction_2, x21_acts_1, x21_thrown_1, x21_flowLong_1, y22_flow_1, y23_past_1, y24_s_1, y25_sums_1, y26_p_1)
        ) : Option (Int32 × Int32 × Int32 × (Nat → Option ShT) × Int32 × (Nat → Int32) × (Nat → Int32) × (Nat → Int32) × (Nat → Int32) × (Nat → Int32) × (Nat → Int32) × (Nat → Int32) × Int32 × Int32 × Int32 × (Nat → Int32) × (Nat → Int32) × (Nat → Int32) × (Nat → Int32) × (Nat → Int64)))) fun j1923 =>
      (if k1878 = 0 then (
        ar 0 1 <|
        (if (lg_cmp (y26_p_1 (0 : Int32).toNatClampNeg) (r1890.toInt64)) = 0 then (
          j1923 ()
        ) else (
          none
        ))
      ) else (
        j1923 ()
      ))
    ) else (
      none
    ))
    ) : Option (Int32 × Int32 × Int32 × (Nat → Option ShT) × Int32 × (Nat → Int32) × (Nat → Int32) × (Nat → Int32) × (Nat → Int32) × (Nat → Int32) × (Nat → Int32) × (Nat → Int32) × Int32 × Int32 × Int32 × (Nat → Int32) × (Nat → Int32) × (Nat → Int32) × (Nat → Int32) × (Nat → Int64)))) fun jh1878 =>
  match t_X8_addRiver x3_length x5_rows x5_columns x5_rivers x6_count y9_namesOn y10_costs y11_sums y12_way y13_land y14_riverOf y17_home (xs (i + 1).toNatClampNeg) with
  | some cls =>
    (if cls = "java/lang/IndexOutOfBoundsException" then jh1878 1 y26_p x1_latest x1_count x3_length y4_past x5_rivers y9_namesOn y10_costs y11_sums y12_way y14_riverOf y15_riverPlace y16_direction else
    none)
  | none =>
    bd13 (f_X8_addRiver x1_latest x1_count x3_length y4_past x5_rows x5_columns x5_rivers x6_count x6_reds x7_count x7_next x7_turn x7_quarters y8_letterOn y9_namesOn y10_costs y11_sums y12_way y13_land y14_riverOf y15_riverPlace y16_direction y17_home y18_length y19_letters y20_stops (xs (i + 1).toNatClampNeg)) fun (r1878 : Int32) (x1_latest_1 : Int32) (x1_count_1 : Int32) (x3_length_1 : Int32) (y4_past_1 : Nat → Option ShT) (x5_rivers_1 : Int32) (y9_namesOn_1 : Nat → Int32) (y10_costs_1 : Nat → Int32) (y11_sums_1 : Nat → Int32) (y12_way_1 : Nat → Int32) (y14_riverOf_1 : Nat → Int32) (y15_riverPlace_1 : Nat → Int32) (y16_direction_1 : Nat → Int32) =>
    jh1878 0 (vp_updL y26_p (0 : Int32).toNatClampNeg r1878.toInt64) x1_latest_1 x1_count_1 x3_length_1 y4_past_1 x5_rivers_1 y9_namesOn_1 y10_costs_1 y11_sums_1 y12_way_1 y14_riverOf_1 y15_riverPlace_1 y16_direction_1
noncomputable def f_case_37 (L : Nat) (xs : Nat → Int32) (i : Int32) (x1_latest : Int32) (x1_count : Int32) (y3_past : Nat → Option ShT) (x4_rows : Int32) (x4_columns : Int32) (x4_rivers : Int32) (x5_count : Int32) (x5_reds : Int32) (x6_count : Int32) (x6_next : Int32) (x6_turn : Int32) (x6_quarters : Int32) (y7_letterOn : Nat → Int32) (y8_namesOn : Nat → Int32) (y9_land : Nat → Int32) (y10_riverOf : Nat → Int32) (y11_riverPlace : Nat → Int32) (y12_direction : Nat → Int32) (y13_home : Nat → Int32) (y14_length : Nat → Int32) (y15_letters : Nat → Int32) (y16_stops : Nat → Int32) (x17_acts : Int32) (x17_thrown : Int32) (y18_past : Nat → Int32) (y19_s : Nat → Int32) (y20_p : Nat → Int64) : Option (Int32 × Int32 × (Nat → Option ShT) × Int32 × (Nat → Int32) × (Nat → Int32) × Int32 × Int32 × (Nat → Int32) × (Nat → Int32) × (Nat → Int64)) :=
  ar (i + 1) L <|
  bv (fun (k1934 : Int32) (y20_p_1 : Nat → Int64) (x1_latest_2 : Int32) (x1_count_2 : Int32) (y3_past_2 : Nat → Option ShT) (x4_rivers_2 : Int32) (y10_riverOf_2 : Nat → Int32) (y11_riverPlace_2 : Nat → Int32) => ((
    ar (i + 1) L <|
    bd5 (f_X9_dropRiver x17_acts x17_thrown y18_past y19_s (xs (i + 1).toNatClampNeg)) fun (r1946 : Int32) (x17_acts_1 : Int32) (x17_thrown_1 : Int32) (y18_past_1 : Nat → Int32) (y19_s_1 : Nat → Int32) =>
    bd1 (f_X9_thrown x17_thrown_1) fun (r1952 : Int32) =>
    (if r1952 = k1934 then (
      bv (fun (_ : Unit) => ((
        some (x1_latest_2, x1_count_2, y3_past_2, x4_rivers_2, y10_riverOf_2, y11_riverPlace_2, x17_acts_1, x17_thrown_1, y18_past_1, y19_s_1, y20_p_1)
        ) : Option (Int32 × Int32 × (Nat → Option ShT) × Int32 × (Nat → Int32) × (Nat → Int32) × Int32 × Int32 × (Nat → Int32) × (Nat → Int32) × (Nat → Int64)))) fun j1979 =>
      (if k1934 = 0 then (
        ar 0 1 <|
        (if (lg_cmp (y20_p_1 (0 : Int32).toNatClampNeg) (r1946.toInt64)) = 0 then (
          j1979 ()
        ) else (
          none
        ))
      ) else (
        j1979 ()
      ))
    ) else (
      none
    ))
    ) : Option (Int32 × Int32 × (Nat → Option ShT) × Int32 × (Nat → Int32) × (Nat → Int32) × Int32 × Int32 × (Nat → Int32) × (Nat → Int32) × (Nat → Int64)))) fun jh1934 =>
  match t_X8_dropRiver x4_rivers (xs (i + 1).toNatClampNeg) with
  | some cls =>
    (if cls = "java/lang/IndexOutOfBoundsException" then jh1934 1 y20_p x1_latest x1_count y3_past x4_rivers y10_riverOf y11_riverPlace else
    none)
  | none =>
    bd7 (f_X8_dropRiver x1_latest x1_count y3_past x4_rows x4_columns x4_rivers x5_count x5_reds x6_count x6_next x6_turn x6_quarters y7_letterOn y8_namesOn y9_land y10_riverOf y11_riverPlace y12_direction y13_home y14_length y15_letters y16_stops (xs (i + 1).toNatClampNeg)) fun (r1934 : Int32) (x1_latest_1 : Int32) (x1_count_1 : Int32) (y3_past_1 : Nat → Option ShT) (x4_rivers_1 : Int32) (y10_riverOf_1 : Nat → Int32) (y11_riverPlace_1 : Nat → Int32) =>
    jh1934 0 (vp_updL y20_p (0 : Int32).toNatClampNeg r1934.toInt64) x1_latest_1 x1_count_1 y3_past_1 x4_rivers_1 y10_riverOf_1 y11_riverPlace_1
noncomputable def f_case_38 (L : Nat) (xs : Nat → Int32) (i : Int32) (x1_latest : Int32) (x1_count : Int32) (y3_past : Nat → Option ShT) (x4_rows : Int32) (x4_columns : Int32) (x4_rivers : Int32) (x5_count : Int32) (x5_reds : Int32) (x6_count : Int32) (x6_next : Int32) (x6_turn : Int32) (x6_quarters : Int32) (y7_letterOn : Nat → Int32) (y8_namesOn : Nat → Int32) (y9_land : Nat → Int32) (y10_riverOf : Nat → Int32) (y11_riverPlace : Nat → Int32) (y12_direction : Nat → Int32) (y13_home : Nat → Int32) (y14_length : Nat → Int32) (y15_letters : Nat → Int32) (y16_stops : Nat → Int32) (x17_acts : Int32) (x17_thrown : Int32) (y18_past : Nat → Int32) (y19_s : Nat → Int32) (y20_p : Nat → Int64) : Option (Int32 × Int32 × (Nat → Option ShT) × (Nat → Int32) × (Nat → Int32) × (Nat → Int32) × Int32 × Int32 × (Nat → Int32) × (Nat → Int32) × (Nat → Int64)) :=
  ar (i + 1) L <|
  bv (fun (k1990 : Int32) (y20_p_1 : Nat → Int64) (x1_latest_2 : Int32) (x1_count_2 : Int32) (y3_past_2 : Nat → Option ShT) (y8_namesOn_2 : Nat → Int32) (y9_land_2 : Nat → Int32) (y12_direction_2 : Nat → Int32) => ((
    ar (i + 1) L <|
    bd5 (f_X9_erode x17_acts x17_thrown y18_past y19_s (xs (i + 1).toNatClampNeg)) fun (r2002 : Int32) (x17_acts_1 : Int32) (x17_thrown_1 : Int32) (y18_past_1 : Nat → Int32) (y19_s_1 : Nat → Int32) =>
    bd1 (f_X9_thrown x17_thrown_1) fun (r2008 : Int32) =>
    (if r2008 = k1990 then (
      bv (fun (_ : Unit) => ((
        some (x1_latest_2, x1_count_2, y3_past_2, y8_namesOn_2, y9_land_2, y12_direction_2, x17_acts_1, x17_thrown_1, y18_past_1, y19_s_1, y20_p_1)
        ) : Option (Int32 × Int32 × (Nat → Option ShT) × (Nat → Int32) × (Nat → Int32) × (Nat → Int32) × Int32 × Int32 × (Nat → Int32) × (Nat → Int32) × (Nat → Int64)))) fun j2035 =>
      (if k1990 = 0 then (
        ar 0 1 <|
        (if (lg_cmp (y20_p_1 (0 : Int32).toNatClampNeg) (r2002.toInt64)) = 0 then (
          j2035 ()
        ) else (
          none
        ))
      ) else (
        j2035 ()
      ))
    ) else (
      none
    ))
    ) : Option (Int32 × Int32 × (Nat → Option ShT) × (Nat → Int32) × (Nat → Int32) × (Nat → Int32) × Int32 × Int32 × (Nat → Int32) × (Nat → Int32) × (Nat → Int64)))) fun jh1990 =>
  match t_X8_erode x4_rows x4_columns x5_count y9_land y10_riverOf y13_home (xs (i + 1).toNatClampNeg) with
  | some cls =>
    (if cls = "java/lang/IndexOutOfBoundsException" then jh1990 1 y20_p x1_latest x1_count y3_past y8_namesOn y9_land y12_direction else
    none)
  | none =>
    bd7 (f_X8_erode x1_latest x1_count y3_past x4_rows x4_columns x4_rivers x5_count x5_reds x6_count x6_next x6_turn x6_quarters y7_letterOn y8_namesOn y9_land y10_riverOf y11_riverPlace y12_direction y13_home y14_length y15_letters y16_stops (xs (i + 1).toNatClampNeg)) fun (r1990 : Int32) (x1_latest_1 : Int32) (x1_count_1 : Int32) (y3_past_1 : Nat → Option ShT) (y8_namesOn_1 : Nat → Int32) (y9_land_1 : Nat → Int32) (y12_direction_1 : Nat → Int32) =>
    jh1990 0 (vp_updL y20_p (0 : Int32).toNatClampNeg r1990.toInt64) x1_latest_1 x1_count_1 y3_past_1 y8_namesOn_1 y9_land_1 y12_direction_1
noncomputable def f_case_39 (L : Nat) (xs : Nat → Int32) (i : Int32) (x1_latest : Int32) (x1_count : Int32) (y3_past : Nat → Option ShT) (x4_rows : Int32) (x4_columns : Int32) (x4_rivers : Int32) (x5_count : Int32) (x5_reds : Int32) (x6_count : Int32) (x6_next : Int32) (x6_turn : Int32) (x6_quarters : Int32) (y7_letterOn : Nat → Int32) (y8_namesOn : Nat → Int32) (y9_land : Nat → Int32) (y10_riverOf : Nat → Int32) (y11_riverPlace : Nat → Int32) (y12_direction : Nat → Int32) (y13_home : Nat → Int32) (y14_length : Nat → Int32) (y15_letters : Nat → Int32) (y16_stops : Nat → Int32) (x17_acts : Int32) (x17_thrown : Int32) (y18_past : Nat → Int32) (y19_s : Nat → Int32) (y20_p : Nat → Int64) : Option (Int32 × Int32 × (Nat → Option ShT) × (Nat → Int32) × (Nat → Int32) × (Nat → Int32) × Int32 × Int32 × (Nat → Int32) × (Nat → Int32) × (Nat → Int64)) :=
  ar (i + 1) L <|
  bv (fun (k2046 : Int32) (y20_p_1 : Nat → Int64) (x1_latest_2 : Int32) (x1_count_2 : Int32) (y3_past_2 : Nat → Option ShT) (y8_namesOn_2 : Nat → Int32) (y9_land_2 : Nat → Int32) (y12_direction_2 : Nat → Int32) => ((
    ar (i + 1) L <|
    bd5 (f_X9_raise x17_acts x17_thrown y18_past y19_s (xs (i + 1).toNatClampNeg)) fun (r2058 : Int32) (x17_acts_1 : Int32) (x17_thrown_1 : Int32) (y18_past_1 : Nat → Int32) (y19_s_1 : Nat → Int32) =>
    bd1 (f_X9_thrown x17_thrown_1) fun (r2064 : Int32) =>
    (if r2064 = k2046 then (
      bv (fun (_ : Unit) => ((
        some (x1_latest_2, x1_count_2, y3_past_2, y8_namesOn_2, y9_land_2, y12_direction_2, x17_acts_1, x17_thrown_1, y18_past_1, y19_s_1, y20_p_1)
        ) : Option (Int32 × Int32 × (Nat → Option ShT) × (Nat → Int32) × (Nat → Int32) × (Nat → Int32) × Int32 × Int32 × (Nat → Int32) × (Nat → Int32) × (Nat → Int64)))) fun j2091 =>
      (if k2046 = 0 then (
        ar 0 1 <|
        (if (lg_cmp (y20_p_1 (0 : Int32).toNatClampNeg) (r2058.toInt64)) = 0 then (
          j2091 ()
        ) else (
          none
        ))
      ) else (
        j2091 ()
      ))
    ) else (
      none
    ))
    ) : Option (Int32 × Int32 × (Nat → Option ShT) × (Nat → Int32) × (Nat → Int32) × (Nat → Int32) × Int32 × Int32 × (Nat → Int32) × (Nat → Int32) × (Nat → Int64)))) fun jh2046 =>
  match t_X8_raise x4_rows x4_columns x5_count y9_land y13_home (xs (i + 1).toNatClampNeg) with
  | some cls =>
    (if cls = "java/lang/IndexOutOfBoundsException" then jh2046 1 y20_p x1_latest x1_count y3_past y8_namesOn y9_land y12_direction else
    none)
  | none =>
    bd7 (f_X8_raise x1_latest x1_count y3_past x4_rows x4_columns x4_rivers x5_count x5_reds x6_count x6_next x6_turn x6_quarters y7_letterOn y8_namesOn y9_land y10_riverOf y11_riverPlace y12_direction y13_home y14_length y15_letters y16_stops (xs (i + 1).toNatClampNeg)) fun (r2046 : Int32) (x1_latest_1 : Int32) (x1_count_1 : Int32) (y3_past_1 : Nat → Option ShT) (y8_namesOn_1 : Nat → Int32) (y9_land_1 : Nat → Int32) (y12_direction_1 : Nat → Int32) =>
    jh2046 0 (vp_updL y20_p (0 : Int32).toNatClampNeg r2046.toInt64) x1_latest_1 x1_count_1 y3_past_1 y8_namesOn_1 y9_land_1 y12_direction_1
noncomputable def f_case_40 (L : Nat) (xs : Nat → Int32) (i : Int32) (x1_latest : Int32) (x1_count : Int32) (y3_past : Nat → Option ShT) (x4_rows : Int32) (x4_columns : Int32) (x4_rivers : Int32) (x5_count : Int32) (x5_reds : Int32) (x6_count : Int32) (x6_next : Int32) (x6_turn : Int32) (x6_quarters : Int32) (y7_letterOn : Nat → Int32) (y8_namesOn : Nat → Int32) (y9_land : Nat → Int32) (y10_riverOf : Nat → Int32) (y11_riverPlace : Nat → Int32) (y12_direction : Nat → Int32) (y13_home : Nat → Int32) (y14_length : Nat → Int32) (y15_letters : Nat → Int32) (y16_stops : Nat → Int32) (x17_acts : Int32) (x17_thrown : Int32) (y18_past : Nat → Int32) (y19_s : Nat → Int32) (y20_p : Nat → Int64) : Option (Int32 × Int32 × (Nat → Option ShT) × Int32 × (Nat → Int32) × Int32 × Int32 × (Nat → Int32) × (Nat → Int32) × (Nat → Int64)) :=
  ar (i + 1) L <|
  bv (fun (k2102 : Int32) (y20_p_1 : Nat → Int64) (x1_latest_2 : Int32) (x1_count_2 : Int32) (y3_past_2 : Nat → Option ShT) (x6_count_2 : Int32) (y16_stops_2 : Nat → Int32) => ((
    ar (i + 1) L <|
    bd5 (f_X9_sail x17_acts x17_thrown y18_past y19_s (xs (i + 1).toNatClampNeg)) fun (r2114 : Int32) (x17_acts_1 : Int32) (x17_thrown_1 : Int32) (y18_past_1 : Nat → Int32) (y19_s_1 : Nat → Int32) =>
    bd1 (f_X9_thrown x17_thrown_1) fun (r2120 : Int32) =>
    (if r2120 = k2102 then (
      bv (fun (_ : Unit) => ((
        some (x1_latest_2, x1_count_2, y3_past_2, x6_count_2, y16_stops_2, x17_acts_1, x17_thrown_1, y18_past_1, y19_s_1, y20_p_1)
        ) : Option (Int32 × Int32 × (Nat → Option ShT) × Int32 × (Nat → Int32) × Int32 × Int32 × (Nat → Int32) × (Nat → Int32) × (Nat → Int64)))) fun j2147 =>
      (if k2102 = 0 then (
        ar 0 1 <|
        (if (lg_cmp (y20_p_1 (0 : Int32).toNatClampNeg) (r2114.toInt64)) = 0 then (
          j2147 ()
        ) else (
          none
        ))
      ) else (
        j2147 ()
      ))
    ) else (
      none
    ))
    ) : Option (Int32 × Int32 × (Nat → Option ShT) × Int32 × (Nat → Int32) × Int32 × Int32 × (Nat → Int32) × (Nat → Int32) × (Nat → Int64)))) fun jh2102 =>
  match t_X8_sail x5_count x6_count (xs (i + 1).toNatClampNeg) with
  | some cls =>
    (if cls = "java/lang/IndexOutOfBoundsException" then jh2102 1 y20_p x1_latest x1_count y3_past x6_count y16_stops else
    none)
  | none =>
    bd6 (f_X8_sail x1_latest x1_count y3_past x4_rows x4_columns x4_rivers x5_count x5_reds x6_count x6_next x6_turn x6_quarters y7_letterOn y8_namesOn y9_land y10_riverOf y11_riverPlace y12_direction y13_home y14_length y15_letters y16_stops (xs (i + 1).toNatClampNeg)) fun (r2102 : Int32) (x1_latest_1 : Int32) (x1_count_1 : Int32) (y3_past_1 : Nat → Option ShT) (x6_count_1 : Int32) (y16_stops_1 : Nat → Int32) =>
    jh2102 0 (vp_updL y20_p (0 : Int32).toNatClampNeg r2102.toInt64) x1_latest_1 x1_count_1 y3_past_1 x6_count_1 y16_stops_1
noncomputable def f_case_41 (L : Nat) (xs : Nat → Int32) (i : Int32) (x1_latest : Int32) (x1_count : Int32) (y3_past : Nat → Option ShT) (x4_rows : Int32) (x4_columns : Int32) (x4_rivers : Int32) (x5_count : Int32) (x5_reds : Int32) (x6_count : Int32) (x6_next : Int32) (x6_turn : Int32) (x6_quarters : Int32) (y7_letterOn : Nat → Int32) (y8_namesOn : Nat → Int32) (y9_land : Nat → Int32) (y10_riverOf : Nat → Int32) (y11_riverPlace : Nat → Int32) (y12_direction : Nat → Int32) (y13_home : Nat → Int32) (y14_length : Nat → Int32) (y15_letters : Nat → Int32) (y16_stops : Nat → Int32) (x17_acts : Int32) (x17_thrown : Int32) (y18_past : Nat → Int32) (y19_s : Nat → Int32) (y20_p : Nat → Int64) : Option (Int32 × Int32 × (Nat → Option ShT) × Int32 × Int32 × (Nat → Int32) × Int32 × Int32 × (Nat → Int32) × (Nat → Int32) × (Nat → Int64)) :=
  ar (i + 1) L <|
  bv (fun (k2158 : Int32) (y20_p_1 : Nat → Int64) (x1_latest_2 : Int32) (x1_count_2 : Int32) (y3_past_2 : Nat → Option ShT) (x6_count_2 : Int32) (x6_next_2 : Int32) (y16_stops_2 : Nat → Int32) => ((
    ar (i + 1) L <|
    bd5 (f_X9_cut x17_acts x17_thrown y18_past y19_s (xs (i + 1).toNatClampNeg)) fun (r2170 : Int32) (x17_acts_1 : Int32) (x17_thrown_1 : Int32) (y18_past_1 : Nat → Int32) (y19_s_1 : Nat → Int32) =>
    bd1 (f_X9_thrown x17_thrown_1) fun (r2176 : Int32) =>
    (if r2176 = k2158 then (
      bv (fun (_ : Unit) => ((
        some (x1_latest_2, x1_count_2, y3_past_2, x6_count_2, x6_next_2, y16_stops_2, x17_acts_1, x17_thrown_1, y18_past_1, y19_s_1, y20_p_1)
        ) : Option (Int32 × Int32 × (Nat → Option ShT) × Int32 × Int32 × (Nat → Int32) × Int32 × Int32 × (Nat → Int32) × (Nat → Int32) × (Nat → Int64)))) fun j2203 =>
      (if k2158 = 0 then (
        ar 0 1 <|
        (if (lg_cmp (y20_p_1 (0 : Int32).toNatClampNeg) (r2170.toInt64)) = 0 then (
          j2203 ()
        ) else (
          none
        ))
      ) else (
        j2203 ()
      ))
    ) else (
      none
    ))
    ) : Option (Int32 × Int32 × (Nat → Option ShT) × Int32 × Int32 × (Nat → Int32) × Int32 × Int32 × (Nat → Int32) × (Nat → Int32) × (Nat → Int64)))) fun jh2158 =>
  match t_X8_cut x6_count (xs (i + 1).toNatClampNeg) with
  | some cls =>
    (if cls = "java/lang/IndexOutOfBoundsException" then jh2158 1 y20_p x1_latest x1_count y3_past x6_count x6_next y16_stops else
    none)
  | none =>
    bd7 (f_X8_cut x1_latest x1_count y3_past x4_rows x4_columns x4_rivers x5_count x5_reds x6_count x6_next x6_turn x6_quarters y7_letterOn y8_namesOn y9_land y10_riverOf y11_riverPlace y12_direction y13_home y14_length y15_letters y16_stops (xs (i + 1).toNatClampNeg)) fun (r2158 : Int32) (x1_latest_1 : Int32) (x1_count_1 : Int32) (y3_past_1 : Nat → Option ShT) (x6_count_1 : Int32) (x6_next_1 : Int32) (y16_stops_1 : Nat → Int32) =>
    jh2158 0 (vp_updL y20_p (0 : Int32).toNatClampNeg r2158.toInt64) x1_latest_1 x1_count_1 y3_past_1 x6_count_1 x6_next_1 y16_stops_1
noncomputable def f_case_42 (L : Nat) (xs : Nat → Int32) (i : Int32) (x1_latest : Int32) (x1_count : Int32) (y3_past : Nat → Option ShT) (x4_rows : Int32) (x4_columns : Int32) (x4_rivers : Int32) (x5_count : Int32) (x5_reds : Int32) (x6_count : Int32) (x6_next : Int32) (x6_turn : Int32) (x6_quarters : Int32) (y7_letterOn : Nat → Int32) (y8_namesOn : Nat → Int32) (y9_land : Nat → Int32) (y10_riverOf : Nat → Int32) (y11_riverPlace : Nat → Int32) (y12_direction : Nat → Int32) (y13_home : Nat → Int32) (y14_length : Nat → Int32) (y15_letters : Nat → Int32) (y16_stops : Nat → Int32) (x17_acts : Int32) (x17_thrown : Int32) (y18_past : Nat → Int32) (y19_s : Nat → Int32) (y20_p : Nat → Int64) : Option (Int32 × Int32 × (Nat → Option ShT) × Int32 × Int32 × Int32 × Int32 × (Nat → Int32) × (Nat → Int32) × (Nat → Int64)) :=
  ar (i + 1) L <|
  bv (fun (k2214 : Int32) (y20_p_1 : Nat → Int64) (x1_latest_2 : Int32) (x1_count_2 : Int32) (y3_past_2 : Nat → Option ShT) (x6_turn_2 : Int32) (x6_quarters_2 : Int32) => ((
    ar (i + 1) L <|
    bd5 (f_X9_turnPage x17_acts x17_thrown y18_past y19_s (xs (i + 1).toNatClampNeg)) fun (r2226 : Int32) (x17_acts_1 : Int32) (x17_thrown_1 : Int32) (y18_past_1 : Nat → Int32) (y19_s_1 : Nat → Int32) =>
    bd1 (f_X9_thrown x17_thrown_1) fun (r2232 : Int32) =>
    (if r2232 = k2214 then (
      bv (fun (_ : Unit) => ((
        some (x1_latest_2, x1_count_2, y3_past_2, x6_turn_2, x6_quarters_2, x17_acts_1, x17_thrown_1, y18_past_1, y19_s_1, y20_p_1)
        ) : Option (Int32 × Int32 × (Nat → Option ShT) × Int32 × Int32 × Int32 × Int32 × (Nat → Int32) × (Nat → Int32) × (Nat → Int64)))) fun j2259 =>
      (if k2214 = 0 then (
        ar 0 1 <|
        (if (lg_cmp (y20_p_1 (0 : Int32).toNatClampNeg) (r2226.toInt64)) = 0 then (
          j2259 ()
        ) else (
          none
        ))
      ) else (
        j2259 ()
      ))
    ) else (
      none
    ))
    ) : Option (Int32 × Int32 × (Nat → Option ShT) × Int32 × Int32 × Int32 × Int32 × (Nat → Int32) × (Nat → Int32) × (Nat → Int64)))) fun jh2214 =>
  match t_X8_turnPage (xs (i + 1).toNatClampNeg) with
  | some cls =>
    (if cls = "java/lang/IllegalArgumentException" then jh2214 1 y20_p x1_latest x1_count y3_past x6_turn x6_quarters else
    none)
  | none =>
    bd6 (f_X8_turnPage x1_latest x1_count y3_past x4_rows x4_columns x4_rivers x5_count x5_reds x6_count x6_next x6_turn x6_quarters y7_letterOn y8_namesOn y9_land y10_riverOf y11_riverPlace y12_direction y13_home y14_length y15_letters y16_stops (xs (i + 1).toNatClampNeg)) fun (r2214 : Int32) (x1_latest_1 : Int32) (x1_count_1 : Int32) (y3_past_1 : Nat → Option ShT) (x6_turn_1 : Int32) (x6_quarters_1 : Int32) =>
    jh2214 0 (vp_updL y20_p (0 : Int32).toNatClampNeg r2214.toInt64) x1_latest_1 x1_count_1 y3_past_1 x6_turn_1 x6_quarters_1
noncomputable def f_case_43 (L : Nat) (xs : Nat → Int32) (i : Int32) (x1_latest : Int32) (x1_count : Int32) (y3_past : Nat → Option ShT) (x4_rows : Int32) (x4_columns : Int32) (x4_rivers : Int32) (x5_count : Int32) (x5_reds : Int32) (x6_count : Int32) (x6_next : Int32) (x6_turn : Int32) (x6_quarters : Int32) (y7_letterOn : Nat → Int32) (y8_namesOn : Nat → Int32) (y9_land : Nat → Int32) (y10_riverOf : Nat → Int32) (y11_riverPlace : Nat → Int32) (y12_direction : Nat → Int32) (y13_home : Nat → Int32) (y14_length : Nat → Int32) (y15_letters : Nat → Int32) (y16_stops : Nat → Int32) (x17_acts : Int32) (x17_thrown : Int32) (y18_past : Nat → Int32) (y19_s : Nat → Int32) : Option (Int32 × Int32 × (Nat → Option ShT) × Int32 × Int32 × Int32 × Int32 × Int32 × (Nat → Int32) × (Nat → Int32)) :=
  bd7 (f_X8_read x1_latest x1_count y3_past x4_rows x4_columns x4_rivers x5_count x5_reds x6_count x6_next x6_turn x6_quarters y7_letterOn y8_namesOn y9_land y10_riverOf y11_riverPlace y12_direction y13_home y14_length y15_letters y16_stops) fun (r2263 : Int32) (x1_latest_1 : Int32) (x1_count_1 : Int32) (y3_past_1 : Nat → Option ShT) (x6_next_1 : Int32) (x6_turn_1 : Int32) (x6_quarters_1 : Int32) =>
  bd5 (f_X9_read x17_acts x17_thrown y18_past y19_s) fun (r2267 : Int32) (x17_acts_1 : Int32) (x17_thrown_1 : Int32) (y18_past_1 : Nat → Int32) (y19_s_1 : Nat → Int32) =>
  (if r2263 = r2267 then (
    some (x1_latest_1, x1_count_1, y3_past_1, x6_next_1, x6_turn_1, x6_quarters_1, x17_acts_1, x17_thrown_1, y18_past_1, y19_s_1)
  ) else (
    none
  ))
noncomputable def f_case_44 (L : Nat) (xs : Nat → Int32) (i : Int32) (x2_count : Int32) (x3_count : Int32) (x3_turn : Int32) (y4_direction : Nat → Int32) (y5_stops : Nat → Int32) (x6_thrown : Int32) (y7_s : Nat → Int32) (y8_ways : Nat → Int32) : Option (Int32 × (Nat → Int32)) :=
  bd1 (f_X8_meanTurn x2_count x3_count x3_turn y4_direction y5_stops) fun (r2276 : UInt64) =>
  bd3 (f_X9_meanTurn x6_thrown y7_s y8_ways) fun (r2282 : UInt64) (x6_thrown_1 : Int32) (y8_ways_1 : Nat → Int32) =>
  bv (fun (_ : Unit) => ((
    some (x6_thrown_1, y8_ways_1)
    ) : Option (Int32 × (Nat → Int32)))) fun j2313 =>
  (if (Op.cmpValue (FP.dcmp r2276 r2282) .l) = 0 then (
    j2313 ()
  ) else (
    (if (Op.cmpValue (FP.dcmp r2276 r2276) .l) = 0 then (
      none
    ) else (
      (if (Op.cmpValue (FP.dcmp r2282 r2282) .l) = 0 then (
        none
      ) else (
        j2313 ()
      ))
    ))
  ))
noncomputable def f_case_45 (L : Nat) (xs : Nat → Int32) (i : Int32) (x2_rows : Int32) (x2_columns : Int32) (y3_namesOn : Nat → Int32) (y4_land : Nat → Int32) (x5_thrown : Int32) (y6_s : Nat → Int32) : Option (Int32) :=
  bd1 (f_X8_cover x2_rows x2_columns y3_namesOn y4_land) fun (r2317 : UInt32) =>
  nn64 (FP.f2d r2317) <|
  bv (FP.f2d r2317) fun v5 =>
  bd2 (f_X9_cover x5_thrown y6_s) fun (r2324 : UInt32) (x5_thrown_1 : Int32) =>
  nn64 (FP.f2d r2324) <|
  bv (FP.f2d r2324) fun v7 =>
  bv (fun (_ : Unit) => ((
    some x5_thrown_1
    ) : Option (Int32))) fun j2356 =>
  (if (Op.cmpValue (FP.dcmp v5 v7) .l) = 0 then (
    j2356 ()
  ) else (
    (if (Op.cmpValue (FP.dcmp v5 v5) .l) = 0 then (
      none
    ) else (
      (if (Op.cmpValue (FP.dcmp v7 v7) .l) = 0 then (
        none
      ) else (
        j2356 ()
      ))
    ))
  ))
noncomputable def f_case_46 (L : Nat) (xs : Nat → Int32) (i : Int32) (x0_outputLength : Int32) (y1_output : Nat → Int32) (x3_rows : Int32) (x3_columns : Int32) (x4_count : Int32) (x4_reds : Int32) (y5_letterOn : Nat → Int32) (y6_namesOn : Nat → Int32) (y7_land : Nat → Int32) (y8_riverOf : Nat → Int32) (y9_home : Nat → Int32) (x10_thrown : Int32) (x10_written : Int32) (y11_output : Nat → Int32) (y12_s : Nat → Int32) (y13_p : Nat → Int64) : Option (Int32 × (Nat → Int32) × Int32 × Int32 × (Nat → Int32) × (Nat → Int64)) :=
  ar (i + 1) L <|
  bv (fun (k2367 : Int32) (y13_p_1 : Nat → Int64) (x0_outputLength_2 : Int32) (y1_output_2 : Nat → Int32) => ((
    ar (i + 1) L <|
    bd4 (f_X9_writeRow x10_thrown x10_written y11_output y12_s (xs (i + 1).toNatClampNeg)) fun (r2379 : Int32) (x10_thrown_1 : Int32) (x10_written_1 : Int32) (y11_output_1 : Nat → Int32) =>
    bd1 (f_X9_thrown x10_thrown_1) fun (r2385 : Int32) =>
    (if r2385 = k2367 then (
      bv (fun (_ : Unit) => ((
        some (x0_outputLength_2, y1_output_2, x10_thrown_1, x10_written_1, y11_output_1, y13_p_1)
        ) : Option (Int32 × (Nat → Int32) × Int32 × Int32 × (Nat → Int32) × (Nat → Int64)))) fun j2412 =>
      (if k2367 = 0 then (
        ar 0 1 <|
        (if (lg_cmp (y13_p_1 (0 : Int32).toNatClampNeg) (r2379.toInt64)) = 0 then (
          j2412 ()
        ) else (
          none
        ))
      ) else (
        j2412 ()
      ))
    ) else (
      none
    ))
    ) : Option (Int32 × (Nat → Int32) × Int32 × Int32 × (Nat → Int32) × (Nat → Int64)))) fun jh2367 =>
  match t_X8_writeRow x0_outputLength y1_output x3_rows x3_columns x4_count x4_reds y5_letterOn y6_namesOn y7_land y8_riverOf y9_home (xs (i + 1).toNatClampNeg) with
  | some cls =>
    (if cls = "java/lang/IndexOutOfBoundsException" then jh2367 1 y13_p x0_outputLength y1_output else
    none)
  | none =>
    bd3 (f_X8_writeRow x0_outputLength y1_output x3_rows x3_columns x4_count x4_reds y5_letterOn y6_namesOn y7_land y8_riverOf y9_home (xs (i + 1).toNatClampNeg)) fun (r2367 : Int32) (x0_outputLength_1 : Int32) (y1_output_1 : Nat → Int32) =>
    jh2367 0 (vp_updL y13_p (0 : Int32).toNatClampNeg r2367.toInt64) x0_outputLength_1 y1_output_1
noncomputable def f_case_47 (L : Nat) (xs : Nat → Int32) (i : Int32) (x0_outputLength : Int32) (y1_output : Nat → Int32) (x2_thrown : Int32) (x2_written : Int32) (y3_output : Nat → Int32) : Option (Int32) :=
  ar (i + 1) L <|
  bd1 (f_X8_outputByte x0_outputLength y1_output (xs (i + 1).toNatClampNeg)) fun (r2422 : Int32) =>
  ar (i + 1) L <|
  bd2 (f_X9_outputByte x2_thrown x2_written y3_output (xs (i + 1).toNatClampNeg)) fun (r2432 : Int32) (x2_thrown_1 : Int32) =>
  (if r2422 = r2432 then (
    some x2_thrown_1
  ) else (
    none
  ))
noncomputable def f_case_48 (L : Nat) (xs : Nat → Int32) (i : Int32) (x1_latest : Int32) (x1_count : Int32) (y3_past : Nat → Option ShT) (x4_rows : Int32) (x4_columns : Int32) (x4_rivers : Int32) (x5_count : Int32) (x5_reds : Int32) (x6_count : Int32) (x6_next : Int32) (x6_turn : Int32) (x6_quarters : Int32) (y7_letterOn : Nat → Int32) (y8_namesOn : Nat → Int32) (y9_land : Nat → Int32) (y10_riverOf : Nat → Int32) (y11_riverPlace : Nat → Int32) (y12_direction : Nat → Int32) (y13_home : Nat → Int32) (y14_length : Nat → Int32) (y15_letters : Nat → Int32) (y16_stops : Nat → Int32) (x17_acts : Int32) (x17_thrown : Int32) (y18_past : Nat → Int32) (y19_s : Nat → Int32) : Option (Int32 × Int32 × Int32 × Int32 × Int32 × Int32 × Int32 × Int32 × Int32 × Int32 × Int32 × (Nat → Int32) × (Nat → Int32) × (Nat → Int32) × (Nat → Int32) × (Nat → Int32) × (Nat → Int32) × (Nat → Int32) × (Nat → Int32) × (Nat → Int32) × (Nat → Int32) × Int32 × Int32 × (Nat → Int32)) :=
  bd22 (f_X8_undo x1_latest x1_count y3_past x4_rows x4_columns x4_rivers x5_count x5_reds x6_count x6_next x6_turn x6_quarters y7_letterOn y8_namesOn y9_land y10_riverOf y11_riverPlace y12_direction y13_home y14_length y15_letters y16_stops) fun (r2441 : Int32) (x1_latest_1 : Int32) (x1_count_1 : Int32) (x4_rows_1 : Int32) (x4_columns_1 : Int32) (x4_rivers_1 : Int32) (x5_count_1 : Int32) (x5_reds_1 : Int32) (x6_count_1 : Int32) (x6_next_1 : Int32) (x6_turn_1 : Int32) (x6_quarters_1 : Int32) (y7_letterOn_1 : Nat → Int32) (y8_namesOn_1 : Nat → Int32) (y9_land_1 : Nat → Int32) (y10_riverOf_1 : Nat → Int32) (y11_riverPlace_1 : Nat → Int32) (y12_direction_1 : Nat → Int32) (y13_home_1 : Nat → Int32) (y14_length_1 : Nat → Int32) (y15_letters_1 : Nat → Int32) (y16_stops_1 : Nat → Int32) =>
  bd4 (f_X9_undo x17_acts x17_thrown y18_past y19_s) fun (r2445 : Int32) (x17_acts_1 : Int32) (x17_thrown_1 : Int32) (y19_s_1 : Nat → Int32) =>
  (if r2441 = r2445 then (
    some (x1_latest_1, x1_count_1, x4_rows_1, x4_columns_1, x4_rivers_1, x5_count_1, x5_reds_1, x6_count_1, x6_next_1, x6_turn_1, x6_quarters_1, y7_letterOn_1, y8_namesOn_1, y9_land_1, y10_riverOf_1, y11_riverPlace_1, y12_direction_1, y13_home_1, y14_length_1, y15_letters_1, y16_stops_1, x17_acts_1, x17_thrown_1, y19_s_1)
  ) else (
    none
  ))
noncomputable def f_case_49 (L : Nat) (xs : Nat → Int32) (i : Int32) (y2_snapshots : Nat → Option ShT) (x3_rows : Int32) (x3_columns : Int32) (x3_rivers : Int32) (x4_count : Int32) (x4_reds : Int32) (x5_count : Int32) (x5_next : Int32) (x5_turn : Int32) (x5_quarters : Int32) (y6_letterOn : Nat → Int32) (y7_namesOn : Nat → Int32) (y8_land : Nat → Int32) (y9_riverOf : Nat → Int32) (y10_riverPlace : Nat → Int32) (y11_direction : Nat → Int32) (y12_home : Nat → Int32) (y13_length : Nat → Int32) (y14_letters : Nat → Int32) (y15_stops : Nat → Int32) (x16_thrown : Int32) (y17_isKept : Nat → Int32) (y18_kept : Nat → Int32) (y19_s : Nat → Int32) (y20_p : Nat → Int64) : Option ((Nat → Option ShT) × Int32 × (Nat → Int32) × (Nat → Int32) × (Nat → Int64)) :=
  ar (i + 1) L <|
  bv (fun (k2461 : Int32) (y20_p_1 : Nat → Int64) (y2_snapshots_2 : Nat → Option ShT) => ((
    ar (i + 1) L <|
    bd4 (f_X9_saveSnapshot x16_thrown y17_isKept y18_kept y19_s (xs (i + 1).toNatClampNeg)) fun (r2473 : Int32) (x16_thrown_1 : Int32) (y17_isKept_1 : Nat → Int32) (y18_kept_1 : Nat → Int32) =>
    bd1 (f_X9_thrown x16_thrown_1) fun (r2479 : Int32) =>
    (if r2479 = k2461 then (
      bv (fun (_ : Unit) => ((
        some (y2_snapshots_2, x16_thrown_1, y17_isKept_1, y18_kept_1, y20_p_1)
        ) : Option ((Nat → Option ShT) × Int32 × (Nat → Int32) × (Nat → Int32) × (Nat → Int64)))) fun j2506 =>
      (if k2461 = 0 then (
        ar 0 1 <|
        (if (lg_cmp (y20_p_1 (0 : Int32).toNatClampNeg) (r2473.toInt64)) = 0 then (
          j2506 ()
        ) else (
          none
        ))
      ) else (
        j2506 ()
      ))
    ) else (
      none
    ))
    ) : Option ((Nat → Option ShT) × Int32 × (Nat → Int32) × (Nat → Int32) × (Nat → Int64)))) fun jh2461 =>
  match t_X8_saveSnapshot (xs (i + 1).toNatClampNeg) with
  | some cls =>
    (if cls = "java/lang/IllegalArgumentException" then jh2461 1 y20_p y2_snapshots else
    none)
  | none =>
    bd2 (f_X8_saveSnapshot y2_snapshots x3_rows x3_columns x3_rivers x4_count x4_reds x5_count x5_next x5_turn x5_quarters y6_letterOn y7_namesOn y8_land y9_riverOf y10_riverPlace y11_direction y12_home y13_length y14_letters y15_stops (xs (i + 1).toNatClampNeg)) fun (r2461 : Int32) (y2_snapshots_1 : Nat → Option ShT) =>
    jh2461 0 (vp_updL y20_p (0 : Int32).toNatClampNeg r2461.toInt64) y2_snapshots_1
noncomputable def f_case_50 (L : Nat) (xs : Nat → Int32) (i : Int32) (x1_count : Int32) (y3_snapshots : Nat → Option ShT) (x4_rows : Int32) (x4_columns : Int32) (x4_rivers : Int32) (x5_count : Int32) (x5_reds : Int32) (x6_count : Int32) (x6_next : Int32) (x6_turn : Int32) (x6_quarters : Int32) (y7_letterOn : Nat → Int32) (y8_namesOn : Nat → Int32) (y9_land : Nat → Int32) (y10_riverOf : Nat → Int32) (y11_riverPlace : Nat → Int32) (y12_direction : Nat → Int32) (y13_home : Nat → Int32) (y14_length : Nat → Int32) (y15_letters : Nat → Int32) (y16_stops : Nat → Int32) (x17_acts : Int32) (x17_thrown : Int32) (y18_isKept : Nat → Int32) (y19_kept : Nat → Int32) (y20_s : Nat → Int32) (y21_p : Nat → Int64) : Option (Int32 × Int32 × Int32 × Int32 × Int32 × Int32 × Int32 × Int32 × Int32 × Int32 × (Nat → Int32) × (Nat → Int32) × (Nat → Int32) × (Nat → Int32) × (Nat → Int32) × (Nat → Int32) × (Nat → Int32) × (Nat → Int32) × (Nat → Int32) × (Nat → Int32) × Int32 × Int32 × (Nat → Int32) × (Nat → Int64)) :=
  ar (i + 1) L <|
  bv (fun (k2517 : Int32) (y21_p_1 : Nat → Int64) (x1_count_2 : Int32) (x4_rows_2 : Int32) (x4_columns_2 : Int32) (x4_rivers_2 : Int32) (x5_count_2 : Int32) (x5_reds_2 : Int32) (x6_count_2 : Int32) (x6_next_2 : Int32) (x6_turn_2 : Int32) (x6_quarters_2 : Int32) (y7_letterOn_2 : Nat → Int32) (y8_namesOn_2 : Nat → Int32) (y9_land_2 : Nat → Int32) (y10_riverOf_2 : Nat → Int32) (y11_riverPlace_2 : Nat → Int32) (y12_direction_2 : Nat → Int32) (y13_home_2 : Nat → Int32) (y14_length_2 : Nat → Int32) (y15_letters_2 : Nat → Int32) (y16_stops_2 : Nat → Int32) => ((
    ar (i + 1) L <|
    bd4 (f_X9_restoreSnapshot x17_acts x17_thrown y18_isKept y19_kept y20_s (xs (i + 1).toNatClampNeg)) fun (r2529 : Int32) (x17_acts_1 : Int32) (x17_thrown_1 : Int32) (y20_s_1 : Nat → Int32) =>
    bd1 (f_X9_thrown x17_thrown_1) fun (r2535 : Int32) =>
    (if r2535 = k2517 then (
      bv (fun (_ : Unit) => ((
        some (x1_count_2, x4_rows_2, x4_columns_2, x4_rivers_2, x5_count_2, x5_reds_2, x6_count_2, x6_next_2, x6_turn_2, x6_quarters_2, y7_letterOn_2, y8_namesOn_2, y9_land_2, y10_riverOf_2, y11_riverPlace_2, y12_direction_2, y13_home_2, y14_length_2, y15_letters_2, y16_stops_2, x17_acts_1, x17_thrown_1, y20_s_1, y21_p_1)
        ) : Option (Int32 × Int32 × Int32 × Int32 × Int32 × Int32 × Int32 × Int32 × Int32 × Int32 × (Nat → Int32) × (Nat → Int32) × (Nat → Int32) × (Nat → Int32) × (Nat → Int32) × (Nat → Int32) × (Nat → Int32) × (Nat → Int32) × (Nat → Int32) × (Nat → Int32) × Int32 × Int32 × (Nat → Int32) × (Nat → Int64)))) fun j2562 =>
      (if k2517 = 0 then (
        ar 0 1 <|
        (if (lg_cmp (y21_p_1 (0 : Int32).toNatClampNeg) (r2529.toInt64)) = 0 then (
          j2562 ()
        ) else (
          none
        ))
      ) else (
        j2562 ()
      ))
    ) else (
      none
    ))
    ) : Option (Int32 × Int32 × Int32 × Int32 × Int32 × Int32 × Int32 × Int32 × Int32 × Int32 × (Nat → Int32) × (Nat → Int32) × (Nat → Int32) × (Nat → Int32) × (Nat → Int32) × (Nat → Int32) × (Nat → Int32) × (Nat → Int32) × (Nat → Int32) × (Nat → Int32) × Int32 × Int32 × (Nat → Int32) × (Nat → Int64)))) fun jh2517 =>
  match t_X8_restoreSnapshot (xs (i + 1).toNatClampNeg) with
  | some cls =>
    (if cls = "java/lang/IllegalArgumentException" then jh2517 1 y21_p x1_count x4_rows x4_columns x4_rivers x5_count x5_reds x6_count x6_next x6_turn x6_quarters y7_letterOn y8_namesOn y9_land y10_riverOf y11_riverPlace y12_direction y13_home y14_length y15_letters y16_stops else
    none)
  | none =>
    bd21 (f_X8_restoreSnapshot x1_count y3_snapshots x4_rows x4_columns x4_rivers x5_count x5_reds x6_count x6_next x6_turn x6_quarters y7_letterOn y8_namesOn y9_land y10_riverOf y11_riverPlace y12_direction y13_home y14_length y15_letters y16_stops (xs (i + 1).toNatClampNeg)) fun (r2517 : Int32) (x1_count_1 : Int32) (x4_rows_1 : Int32) (x4_columns_1 : Int32) (x4_rivers_1 : Int32) (x5_count_1 : Int32) (x5_reds_1 : Int32) (x6_count_1 : Int32) (x6_next_1 : Int32) (x6_turn_1 : Int32) (x6_quarters_1 : Int32) (y7_letterOn_1 : Nat → Int32) (y8_namesOn_1 : Nat → Int32) (y9_land_1 : Nat → Int32) (y10_riverOf_1 : Nat → Int32) (y11_riverPlace_1 : Nat → Int32) (y12_direction_1 : Nat → Int32) (y13_home_1 : Nat → Int32) (y14_length_1 : Nat → Int32) (y15_letters_1 : Nat → Int32) (y16_stops_1 : Nat → Int32) =>
    jh2517 0 (vp_updL y21_p (0 : Int32).toNatClampNeg r2517.toInt64) x1_count_1 x4_rows_1 x4_columns_1 x4_rivers_1 x5_count_1 x5_reds_1 x6_count_1 x6_next_1 x6_turn_1 x6_quarters_1 y7_letterOn_1 y8_namesOn_1 y9_land_1 y10_riverOf_1 y11_riverPlace_1 y12_direction_1 y13_home_1 y14_length_1 y15_letters_1 y16_stops_1
