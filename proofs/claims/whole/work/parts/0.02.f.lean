noncomputable def f_X5_readText (x0_length : Int32) (x0_at : Int32) (x0_voyageTold : Int32) (x0_wordStart : Int32) (x0_wordLength : Int32) (x0_numberStart : Int32) (x0_number : Int32) (x0_cell : Int32) (x0_statement : Int32) (x0_error : Int32) (x0_errorAt : Int32) (x2_length : Int32) (y3_text : Nat → Int32) (x4_rows : Int32) (x4_columns : Int32) (x4_rivers : Int32) (x5_count : Int32) (x5_reds : Int32) (x6_count : Int32) (x6_next : Int32) (x6_turn : Int32) (x6_quarters : Int32) (y7_letterOn : Nat → Int32) (y8_namesOn : Nat → Int32) (y9_costs : Nat → Int32) (y10_sums : Nat → Int32) (y11_way : Nat → Int32) (y12_land : Nat → Int32) (y13_riverOf : Nat → Int32) (y14_riverPlace : Nat → Int32) (y15_direction : Nat → Int32) (y16_home : Nat → Int32) (y17_length : Nat → Int32) (y18_letters : Nat → Int32) (y19_stops : Nat → Int32)  : Option (Int32 × Int32 × Int32 × Int32 × Int32 × Int32 × Int32 × Int32 × Int32 × Int32 × Int32 × Int32 × Int32 × Int32 × Int32 × Int32 × Int32 × Int32 × Int32 × Int32 × Int32 × (Nat → Int32) × (Nat → Int32) × (Nat → Int32) × (Nat → Int32) × (Nat → Int32) × (Nat → Int32) × (Nat → Int32) × (Nat → Int32) × (Nat → Int32) × (Nat → Int32) × (Nat → Int32) × (Nat → Int32) × (Nat → Int32)) :=
  bd22 (f_X5_readChart x0_length 0 x0_wordStart x0_wordLength x0_numberStart x0_number 0 0 y3_text x4_rows x4_columns x4_rivers x5_count x5_reds x6_count x6_next x6_turn x6_quarters y7_letterOn y8_namesOn y12_land y13_riverOf y14_riverPlace) fun (r26 : Int32) (x0_at_1 : Int32) (x0_wordStart_1 : Int32) (x0_wordLength_1 : Int32) (x0_numberStart_1 : Int32) (x0_number_1 : Int32) (x0_error_1 : Int32) (x0_errorAt_1 : Int32) (x4_rows_1 : Int32) (x4_columns_1 : Int32) (x4_rivers_1 : Int32) (x5_count_1 : Int32) (x5_reds_1 : Int32) (x6_count_1 : Int32) (x6_next_1 : Int32) (x6_turn_1 : Int32) (x6_quarters_1 : Int32) (y7_letterOn_1 : Nat → Int32) (y8_namesOn_1 : Nat → Int32) (y12_land_1 : Nat → Int32) (y13_riverOf_1 : Nat → Int32) (y14_riverPlace_1 : Nat → Int32) =>
  bv (fun (v1 : Int32) (v2 : Int32) (x0_at_2 : Int32) (x0_voyageTold_1 : Int32) (x0_wordStart_2 : Int32) (x0_wordLength_2 : Int32) (x0_numberStart_2 : Int32) (x0_number_2 : Int32) (x0_cell_1 : Int32) (x0_statement_1 : Int32) (x0_error_2 : Int32) (x0_errorAt_2 : Int32) (x2_length_1 : Int32) (x4_rivers_2 : Int32) (x5_count_2 : Int32) (x5_reds_2 : Int32) (x6_count_2 : Int32) (x6_turn_2 : Int32) (y7_letterOn_2 : Nat → Int32) (y8_namesOn_2 : Nat → Int32) (y9_costs_1 : Nat → Int32) (y10_sums_1 : Nat → Int32) (y11_way_1 : Nat → Int32) (y12_land_2 : Nat → Int32) (y13_riverOf_2 : Nat → Int32) (y14_riverPlace_2 : Nat → Int32) (y15_direction_1 : Nat → Int32) (y16_home_1 : Nat → Int32) (y17_length_1 : Nat → Int32) (y18_letters_1 : Nat → Int32) (y19_stops_1 : Nat → Int32) => ((
    (if x0_length < v2 then (
      some (.inr (v1, x0_at_2, x0_voyageTold_1, x0_wordStart_2, x0_wordLength_2, x0_numberStart_2, x0_number_2, x0_cell_1, x0_statement_1, x0_error_2, x0_errorAt_2, x2_length_1, x4_rivers_2, x5_count_2, x5_reds_2, x6_count_2, x6_turn_2, y7_letterOn_2, y8_namesOn_2, y9_costs_1, y10_sums_1, y11_way_1, y12_land_2, y13_riverOf_2, y14_riverPlace_2, y15_direction_1, y16_home_1, y17_length_1, y18_letters_1, y19_stops_1))
    ) else (
      (if v1 = 0 then (
        some (.inr (v1, x0_at_2, x0_voyageTold_1, x0_wordStart_2, x0_wordLength_2, x0_numberStart_2, x0_number_2, x0_cell_1, x0_statement_1, x0_error_2, x0_errorAt_2, x2_length_1, x4_rivers_2, x5_count_2, x5_reds_2, x6_count_2, x6_turn_2, y7_letterOn_2, y8_namesOn_2, y9_costs_1, y10_sums_1, y11_way_1, y12_land_2, y13_riverOf_2, y14_riverPlace_2, y15_direction_1, y16_home_1, y17_length_1, y18_letters_1, y19_stops_1))
      ) else (
        bd2 (f_X5_nextSign x0_length x0_at_2 y3_text) fun (r45 : Int32) (x0_at_4 : Int32) =>
        (if r45 = (-1) then (
          some (.inr (v1, x0_at_4, x0_voyageTold_1, x0_wordStart_2, x0_wordLength_2, x0_numberStart_2, x0_number_2, x0_cell_1, x0_statement_1, x0_error_2, x0_errorAt_2, x2_length_1, x4_rivers_2, x5_count_2, x5_reds_2, x6_count_2, x6_turn_2, y7_letterOn_2, y8_namesOn_2, y9_costs_1, y10_sums_1, y11_way_1, y12_land_2, y13_riverOf_2, y14_riverPlace_2, y15_direction_1, y16_home_1, y17_length_1, y18_letters_1, y19_stops_1))
        ) else (
          bd5 (f_X5_takeSemicolon x0_length x0_at_4 x0_statement_1 x0_error_2 x0_errorAt_2 y3_text) fun (r53 : Int32) (x0_at_5 : Int32) (x0_statement_3 : Int32) (x0_error_4 : Int32) (x0_errorAt_4 : Int32) =>
          bv (fun (x0_at_6 : Int32) (x0_wordStart_4 : Int32) (x0_wordLength_4 : Int32) (x0_error_5 : Int32) (x0_errorAt_5 : Int32) (t69 : Int32) => ((
            bv (fun (v1_2 : Int32) (x0_at_7 : Int32) (x0_voyageTold_3 : Int32) (x0_wordStart_5 : Int32) (x0_wordLength_5 : Int32) (x0_numberStart_4 : Int32) (x0_number_4 : Int32) (x0_cell_3 : Int32) (x0_error_6 : Int32) (x0_errorAt_6 : Int32) (x2_length_3 : Int32) (x4_rivers_4 : Int32) (x5_count_4 : Int32) (x5_reds_4 : Int32) (x6_count_4 : Int32) (x6_turn_4 : Int32) (y7_letterOn_4 : Nat → Int32) (y8_namesOn_4 : Nat → Int32) (y9_costs_3 : Nat → Int32) (y10_sums_3 : Nat → Int32) (y11_way_3 : Nat → Int32) (y12_land_4 : Nat → Int32) (y13_riverOf_4 : Nat → Int32) (y14_riverPlace_4 : Nat → Int32) (y15_direction_3 : Nat → Int32) (y16_home_3 : Nat → Int32) (y17_length_3 : Nat → Int32) (y18_letters_3 : Nat → Int32) (y19_stops_3 : Nat → Int32) => ((
              bv (v2 + 1) fun v2_1 =>
              some (.inl (v1_2, v2_1, x0_at_7, x0_voyageTold_3, x0_wordStart_5, x0_wordLength_5, x0_numberStart_4, x0_number_4, x0_cell_3, x0_statement_3, x0_error_6, x0_errorAt_6, x2_length_3, x4_rivers_4, x5_count_4, x5_reds_4, x6_count_4, x6_turn_4, y7_letterOn_4, y8_namesOn_4, y9_costs_3, y10_sums_3, y11_way_3, y12_land_4, y13_riverOf_4, y14_riverPlace_4, y15_direction_3, y16_home_3, y17_length_3, y18_letters_3, y19_stops_3))
              ) : Option ((Int32 × Int32 × Int32 × Int32 × Int32 × Int32 × Int32 × Int32 × Int32 × Int32 × Int32 × Int32 × Int32 × Int32 × Int32 × Int32 × Int32 × Int32 × (Nat → Int32) × (Nat → Int32) × (Nat → Int32) × (Nat → Int32) × (Nat → Int32) × (Nat → Int32) × (Nat → Int32) × (Nat → Int32) × (Nat → Int32) × (Nat → Int32) × (Nat → Int32) × (Nat → Int32) × (Nat → Int32)) ⊕ (Int32 × Int32 × Int32 × Int32 × Int32 × Int32 × Int32 × Int32 × Int32 × Int32 × Int32 × Int32 × Int32 × Int32 × Int32 × Int32 × Int32 × (Nat → Int32) × (Nat → Int32) × (Nat → Int32) × (Nat → Int32) × (Nat → Int32) × (Nat → Int32) × (Nat → Int32) × (Nat → Int32) × (Nat → Int32) × (Nat → Int32) × (Nat → Int32) × (Nat → Int32) × (Nat → Int32))))) fun j158 =>
            (if t69 = 1 then (
              bd8 (f_X5_readLand x0_length x0_at_6 x0_wordStart_4 x0_numberStart_2 x0_number_2 x0_cell_1 x0_error_5 x0_errorAt_5 y3_text x4_rows_1 x4_columns_1 x4_rivers_2 x5_count_2 y12_land_2) fun (r109 : Int32) (x0_at_8 : Int32) (x0_numberStart_5 : Int32) (x0_number_5 : Int32) (x0_cell_4 : Int32) (x0_error_7 : Int32) (x0_errorAt_7 : Int32) (y12_land_5 : Nat → Int32) =>
              j158 r109 x0_at_8 x0_voyageTold_1 x0_wordStart_4 x0_wordLength_4 x0_numberStart_5 x0_number_5 x0_cell_4 x0_error_7 x0_errorAt_7 x2_length_1 x4_rivers_2 x5_count_2 x5_reds_2 x6_count_2 x6_turn_2 y7_letterOn_2 y8_namesOn_2 y9_costs_1 y10_sums_1 y11_way_1 y12_land_5 y13_riverOf_2 y14_riverPlace_2 y15_direction_1 y16_home_1 y17_length_1 y18_letters_1 y19_stops_1
            ) else (
            (if t69 = 2 then (
              bd15 (f_X5_readHarbour x0_length x0_at_6 x0_wordStart_4 x0_wordLength_4 x0_numberStart_2 x0_number_2 x0_cell_1 x0_error_5 x0_errorAt_5 y3_text x4_rows_1 x4_columns_1 x5_count_2 x5_reds_2 y8_namesOn_2 y12_land_2 y13_riverOf_2 y15_direction_1 y16_home_1 y17_length_1 y18_letters_1) fun (r117 : Int32) (x0_at_9 : Int32) (x0_wordStart_6 : Int32) (x0_wordLength_6 : Int32) (x0_numberStart_6 : Int32) (x0_number_6 : Int32) (x0_cell_5 : Int32) (x0_error_8 : Int32) (x0_errorAt_8 : Int32) (x5_count_5 : Int32) (x5_reds_5 : Int32) (y15_direction_4 : Nat → Int32) (y16_home_4 : Nat → Int32) (y17_length_4 : Nat → Int32) (y18_letters_4 : Nat → Int32) =>
              j158 r117 x0_at_9 x0_voyageTold_1 x0_wordStart_6 x0_wordLength_6 x0_numberStart_6 x0_number_6 x0_cell_5 x0_error_8 x0_errorAt_8 x2_length_1 x4_rivers_2 x5_count_5 x5_reds_5 x6_count_2 x6_turn_2 y7_letterOn_2 y8_namesOn_2 y9_costs_1 y10_sums_1 y11_way_1 y12_land_2 y13_riverOf_2 y14_riverPlace_2 y15_direction_4 y16_home_4 y17_length_4 y18_letters_4 y19_stops_1
            ) else (
            (if t69 = 3 then (
              bd16 (f_X5_readRiver x0_length x0_at_6 x0_wordStart_4 x0_numberStart_2 x0_number_2 x0_cell_1 x0_error_5 x0_errorAt_5 x2_length_1 y3_text x4_rows_1 x4_columns_1 x4_rivers_2 x5_count_2 y8_namesOn_2 y9_costs_1 y10_sums_1 y11_way_1 y12_land_2 y13_riverOf_2 y14_riverPlace_2 y15_direction_1 y16_home_1 y17_length_1) fun (r125 : Int32) (x0_at_10 : Int32) (x0_numberStart_7 : Int32) (x0_number_7 : Int32) (x0_cell_6 : Int32) (x0_error_9 : Int32) (x0_errorAt_9 : Int32) (x2_length_4 : Int32) (x4_rivers_5 : Int32) (y8_namesOn_5 : Nat → Int32) (y9_costs_4 : Nat → Int32) (y10_sums_4 : Nat → Int32) (y11_way_4 : Nat → Int32) (y13_riverOf_5 : Nat → Int32) (y14_riverPlace_5 : Nat → Int32) (y15_direction_5 : Nat → Int32) =>
              j158 r125 x0_at_10 x0_voyageTold_1 x0_wordStart_4 x0_wordLength_4 x0_numberStart_7 x0_number_7 x0_cell_6 x0_error_9 x0_errorAt_9 x2_length_4 x4_rivers_5 x5_count_2 x5_reds_2 x6_count_2 x6_turn_2 y7_letterOn_2 y8_namesOn_5 y9_costs_4 y10_sums_4 y11_way_4 y12_land_2 y13_riverOf_5 y14_riverPlace_5 y15_direction_5 y16_home_1 y17_length_1 y18_letters_1 y19_stops_1
            ) else (
            (if t69 = 4 then (
              bd9 (f_X5_readPlace x0_length x0_at_6 x0_wordStart_4 x0_wordLength_4 x0_error_5 x0_errorAt_5 y3_text x4_rows_1 x4_columns_1 x5_count_2 x5_reds_2 y7_letterOn_2 y8_namesOn_2 y12_land_2 y13_riverOf_2 y15_direction_1 y16_home_1 y17_length_1 y18_letters_1) fun (r133 : Int32) (x0_at_11 : Int32) (x0_wordStart_7 : Int32) (x0_wordLength_7 : Int32) (x0_error_10 : Int32) (x0_errorAt_10 : Int32) (y7_letterOn_5 : Nat → Int32) (y8_namesOn_6 : Nat → Int32) (y15_direction_6 : Nat → Int32) =>
              j158 r133 x0_at_11 x0_voyageTold_1 x0_wordStart_7 x0_wordLength_7 x0_numberStart_2 x0_number_2 x0_cell_1 x0_error_10 x0_errorAt_10 x2_length_1 x4_rivers_2 x5_count_2 x5_reds_2 x6_count_2 x6_turn_2 y7_letterOn_5 y8_namesOn_6 y9_costs_1 y10_sums_1 y11_way_1 y12_land_2 y13_riverOf_2 y14_riverPlace_2 y15_direction_6 y16_home_1 y17_length_1 y18_letters_1 y19_stops_1
            ) else (
            (if t69 = 5 then (
              bd9 (f_X5_readVoyage x0_length x0_at_6 x0_voyageTold_1 x0_wordStart_4 x0_wordLength_4 x0_error_5 x0_errorAt_5 y3_text x5_count_2 x6_count_2 y17_length_1 y18_letters_1 y19_stops_1) fun (r141 : Int32) (x0_at_12 : Int32) (x0_voyageTold_4 : Int32) (x0_wordStart_8 : Int32) (x0_wordLength_8 : Int32) (x0_error_11 : Int32) (x0_errorAt_11 : Int32) (x6_count_5 : Int32) (y19_stops_4 : Nat → Int32) =>
              j158 r141 x0_at_12 x0_voyageTold_4 x0_wordStart_8 x0_wordLength_8 x0_numberStart_2 x0_number_2 x0_cell_1 x0_error_11 x0_errorAt_11 x2_length_1 x4_rivers_2 x5_count_2 x5_reds_2 x6_count_5 x6_turn_2 y7_letterOn_2 y8_namesOn_2 y9_costs_1 y10_sums_1 y11_way_1 y12_land_2 y13_riverOf_2 y14_riverPlace_2 y15_direction_1 y16_home_1 y17_length_1 y18_letters_1 y19_stops_4
            ) else (
            (if t69 = 6 then (
              bd7 (f_X5_readTurn x0_length x0_at_6 x0_numberStart_2 x0_number_2 x0_error_5 x0_errorAt_5 y3_text x6_turn_2) fun (r149 : Int32) (x0_at_13 : Int32) (x0_numberStart_8 : Int32) (x0_number_8 : Int32) (x0_error_12 : Int32) (x0_errorAt_12 : Int32) (x6_turn_5 : Int32) =>
              j158 r149 x0_at_13 x0_voyageTold_1 x0_wordStart_4 x0_wordLength_4 x0_numberStart_8 x0_number_8 x0_cell_1 x0_error_12 x0_errorAt_12 x2_length_1 x4_rivers_2 x5_count_2 x5_reds_2 x6_count_2 x6_turn_5 y7_letterOn_2 y8_namesOn_2 y9_costs_1 y10_sums_1 y11_way_1 y12_land_2 y13_riverOf_2 y14_riverPlace_2 y15_direction_1 y16_home_1 y17_length_1 y18_letters_1 y19_stops_1
            ) else (
            j158 0 x0_at_6 x0_voyageTold_1 x0_wordStart_4 x0_wordLength_4 x0_numberStart_2 x0_number_2 x0_cell_1 x0_error_5 x0_errorAt_5 x2_length_1 x4_rivers_2 x5_count_2 x5_reds_2 x6_count_2 x6_turn_2 y7_letterOn_2 y8_namesOn_2 y9_costs_1 y10_sums_1 y11_way_1 y12_land_2 y13_riverOf_2 y14_riverPlace_2 y15_direction_1 y16_home_1 y17_length_1 y18_letters_1 y19_stops_1
            ))
            ))
            ))
            ))
            ))
            ))
            ) : Option ((Int32 × Int32 × Int32 × Int32 × Int32 × Int32 × Int32 × Int32 × Int32 × Int32 × Int32 × Int32 × Int32 × Int32 × Int32 × Int32 × Int32 × Int32 × (Nat → Int32) × (Nat → Int32) × (Nat → Int32) × (Nat → Int32) × (Nat → Int32) × (Nat → Int32) × (Nat → Int32) × (Nat → Int32) × (Nat → Int32) × (Nat → Int32) × (Nat → Int32) × (Nat → Int32) × (Nat → Int32)) ⊕ (Int32 × Int32 × Int32 × Int32 × Int32 × Int32 × Int32 × Int32 × Int32 × Int32 × Int32 × Int32 × Int32 × Int32 × Int32 × Int32 × Int32 × (Nat → Int32) × (Nat → Int32) × (Nat → Int32) × (Nat → Int32) × (Nat → Int32) × (Nat → Int32) × (Nat → Int32) × (Nat → Int32) × (Nat → Int32) × (Nat → Int32) × (Nat → Int32) × (Nat → Int32) × (Nat → Int32))))) fun j69 =>
          (if r53 = 0 then (
            j69 x0_at_5 x0_wordStart_2 x0_wordLength_2 x0_error_4 x0_errorAt_4 (-1)
          ) else (
            bd6 (f_X5_takeKeyword x0_length x0_at_5 x0_wordStart_2 x0_wordLength_2 x0_error_4 x0_errorAt_4 y3_text) fun (r62 : Int32) (x0_at_14 : Int32) (x0_wordStart_9 : Int32) (x0_wordLength_9 : Int32) (x0_error_13 : Int32) (x0_errorAt_13 : Int32) =>
            j69 x0_at_14 x0_wordStart_9 x0_wordLength_9 x0_error_13 x0_errorAt_13 r62
          ))
        ))
      ))
    ))
    ) : Option ((Int32 × Int32 × Int32 × Int32 × Int32 × Int32 × Int32 × Int32 × Int32 × Int32 × Int32 × Int32 × Int32 × Int32 × Int32 × Int32 × Int32 × Int32 × (Nat → Int32) × (Nat → Int32) × (Nat → Int32) × (Nat → Int32) × (Nat → Int32) × (Nat → Int32) × (Nat → Int32) × (Nat → Int32) × (Nat → Int32) × (Nat → Int32) × (Nat → Int32) × (Nat → Int32) × (Nat → Int32)) ⊕ (Int32 × Int32 × Int32 × Int32 × Int32 × Int32 × Int32 × Int32 × Int32 × Int32 × Int32 × Int32 × Int32 × Int32 × Int32 × Int32 × Int32 × (Nat → Int32) × (Nat → Int32) × (Nat → Int32) × (Nat → Int32) × (Nat → Int32) × (Nat → Int32) × (Nat → Int32) × (Nat → Int32) × (Nat → Int32) × (Nat → Int32) × (Nat → Int32) × (Nat → Int32) × (Nat → Int32))))) fun l32 =>
  bd30 (lq31 l32 r26 0 x0_at_1 0 x0_wordStart_1 x0_wordLength_1 x0_numberStart_1 x0_number_1 x0_cell 0 x0_error_1 x0_errorAt_1 x2_length x4_rivers_1 x5_count_1 x5_reds_1 x6_count_1 x6_turn_1 y7_letterOn_1 y8_namesOn_1 y9_costs y10_sums y11_way y12_land_1 y13_riverOf_1 y14_riverPlace_1 y15_direction y16_home y17_length y18_letters y19_stops) fun (v1_1 : Int32) (x0_at_3 : Int32) (x0_voyageTold_2 : Int32) (x0_wordStart_3 : Int32) (x0_wordLength_3 : Int32) (x0_numberStart_3 : Int32) (x0_number_3 : Int32) (x0_cell_2 : Int32) (x0_statement_2 : Int32) (x0_error_3 : Int32) (x0_errorAt_3 : Int32) (x2_length_2 : Int32) (x4_rivers_3 : Int32) (x5_count_3 : Int32) (x5_reds_3 : Int32) (x6_count_3 : Int32) (x6_turn_3 : Int32) (y7_letterOn_3 : Nat → Int32) (y8_namesOn_3 : Nat → Int32) (y9_costs_2 : Nat → Int32) (y10_sums_2 : Nat → Int32) (y11_way_2 : Nat → Int32) (y12_land_3 : Nat → Int32) (y13_riverOf_3 : Nat → Int32) (y14_riverPlace_3 : Nat → Int32) (y15_direction_2 : Nat → Int32) (y16_home_2 : Nat → Int32) (y17_length_2 : Nat → Int32) (y18_letters_2 : Nat → Int32) (y19_stops_2 : Nat → Int32) =>
  zb v1_1 (some (v1_1, x0_at_3, x0_voyageTold_2, x0_wordStart_3, x0_wordLength_3, x0_numberStart_3, x0_number_3, x0_cell_2, x0_statement_2, x0_error_3, x0_errorAt_3, x2_length_2, x4_rows_1, x4_columns_1, x4_rivers_3, x5_count_3, x5_reds_3, x6_count_3, x6_next_1, x6_turn_3, x6_quarters_1, y7_letterOn_3, y8_namesOn_3, y9_costs_2, y10_sums_2, y11_way_2, y12_land_3, y13_riverOf_3, y14_riverPlace_3, y15_direction_2, y16_home_2, y17_length_2, y18_letters_2, y19_stops_2))
noncomputable def f_X8_append (x1_length : Int32) (y2_text : Nat → Int32) (p1 : Int64) : Option (Int32 × Int32 × (Nat → Int32)) :=
  bv (fun (v3 : Int32) (v4 : Int32) => ((
    (if v4 < 0 then (
      some (.inr v3)
    ) else (
      bd1 (f_X8_byteOf p1 v4) fun (r14 : Int32) =>
      bv (fun (v3_2 : Int32) => ((
        bv (v4 + (-8)) fun v4_1 =>
        some (.inl (v3_2, v4_1))
        ) : Option ((Int32 × Int32) ⊕ (Int32)))) fun j23 =>
      (if r14 = 0 then (
        j23 v3
      ) else (
        bv (v3 + 1) fun v3_3 =>
        j23 v3_3
      ))
    ))
    ) : Option ((Int32 × Int32) ⊕ (Int32)))) fun l6 =>
  bd1 (lq2 l6 0 56) fun (v3_1 : Int32) =>
  (if (x1_length + v3_1) ≤ 500 then (
    bv (fun (v4_2 : Int32) (x1_length_1 : Int32) (y2_text_1 : Nat → Int32) => ((
      (if v4_2 < 0 then (
        some (.inr (x1_length_1, y2_text_1))
      ) else (
        bd1 (f_X8_byteOf p1 v4_2) fun (r59 : Int32) =>
        bv (fun (x1_length_3 : Int32) (y2_text_3 : Nat → Int32) => ((
          bv (v4_2 + (-8)) fun v4_3 =>
          some (.inl (v4_3, x1_length_3, y2_text_3))
          ) : Option ((Int32 × Int32 × (Nat → Int32)) ⊕ (Int32 × (Nat → Int32))))) fun j78 =>
        (if r59 = 0 then (
          j78 x1_length_1 y2_text_1
        ) else (
          bd1 (f_X8_byteOf p1 v4_2) fun (r72 : Int32) =>
          bd2 (f_X5_addByte x1_length_1 y2_text_1 r72) fun (x1_length_4 : Int32) (y2_text_4 : Nat → Int32) =>
          j78 x1_length_4 y2_text_4
        ))
      ))
      ) : Option ((Int32 × Int32 × (Nat → Int32)) ⊕ (Int32 × (Nat → Int32))))) fun l51 =>
    bd2 (lq3 l51 56 x1_length y2_text) fun (x1_length_2 : Int32) (y2_text_2 : Nat → Int32) =>
    some (x1_length_2, x1_length_2, y2_text_2)
  ) else (
    some ((-2), x1_length, y2_text)
  ))
noncomputable def f_X8_load (x0_errorKind : Int32) (x0_errorStatement : Int32) (x1_count : Int32) (x2_length : Int32) (x2_at : Int32) (x2_voyageTold : Int32) (x2_wordStart : Int32) (x2_wordLength : Int32) (x2_numberStart : Int32) (x2_number : Int32) (x2_cell : Int32) (x2_statement : Int32) (x2_error : Int32) (x2_errorAt : Int32) (x5_length : Int32) (y6_text : Nat → Int32) (x7_rows : Int32) (x7_columns : Int32) (x7_rivers : Int32) (x8_count : Int32) (x8_reds : Int32) (x9_count : Int32) (x9_next : Int32) (x9_turn : Int32) (x9_quarters : Int32) (y10_letterOn : Nat → Int32) (y11_namesOn : Nat → Int32) (x12_rows : Int32) (x12_columns : Int32) (x12_rivers : Int32) (x13_count : Int32) (x13_reds : Int32) (x14_count : Int32) (x14_next : Int32) (x14_turn : Int32) (x14_quarters : Int32) (y15_letterOn : Nat → Int32) (y16_namesOn : Nat → Int32) (y17_costs : Nat → Int32) (y18_sums : Nat → Int32) (y19_way : Nat → Int32) (y20_land : Nat → Int32) (y21_riverOf : Nat → Int32) (y22_riverPlace : Nat → Int32) (y23_direction : Nat → Int32) (y24_home : Nat → Int32) (y25_length : Nat → Int32) (y26_letters : Nat → Int32) (y27_stops : Nat → Int32) (y28_land : Nat → Int32) (y29_riverOf : Nat → Int32) (y30_riverPlace : Nat → Int32) (y31_direction : Nat → Int32) (y32_home : Nat → Int32) (y33_length : Nat → Int32) (y34_letters : Nat → Int32) (y35_stops : Nat → Int32)  : Option (Int32 × Int32 × Int32 × Int32 × Int32 × Int32 × Int32 × Int32 × Int32 × Int32 × Int32 × Int32 × Int32 × Int32 × Int32 × Int32 × Int32 × Int32 × Int32 × Int32 × Int32 × Int32 × Int32 × Int32 × Int32 × (Nat → Int32) × (Nat → Int32) × Int32 × Int32 × Int32 × Int32 × Int32 × Int32 × Int32 × Int32 × Int32 × (Nat → Int32) × (Nat → Int32) × (Nat → Int32) × (Nat → Int32) × (Nat → Int32) × (Nat → Int32) × (Nat → Int32) × (Nat → Int32) × (Nat → Int32) × (Nat → Int32) × (Nat → Int32) × (Nat → Int32) × (Nat → Int32) × (Nat → Int32) × (Nat → Int32) × (Nat → Int32) × (Nat → Int32) × (Nat → Int32) × (Nat → Int32) × (Nat → Int32) × (Nat → Int32)) :=
  bd34 (f_X5_readText x2_length x2_at x2_voyageTold x2_wordStart x2_wordLength x2_numberStart x2_number x2_cell x2_statement x2_error x2_errorAt x5_length y6_text x12_rows x12_columns x12_rivers x13_count x13_reds x14_count x14_next x14_turn x14_quarters y15_letterOn y16_namesOn y17_costs y18_sums y19_way y28_land y29_riverOf y30_riverPlace y31_direction y32_home y33_length y34_letters y35_stops) fun (r4 : Int32) (x2_at_1 : Int32) (x2_voyageTold_1 : Int32) (x2_wordStart_1 : Int32) (x2_wordLength_1 : Int32) (x2_numberStart_1 : Int32) (x2_number_1 : Int32) (x2_cell_1 : Int32) (x2_statement_1 : Int32) (x2_error_1 : Int32) (x2_errorAt_1 : Int32) (x5_length_1 : Int32) (x12_rows_1 : Int32) (x12_columns_1 : Int32) (x12_rivers_1 : Int32) (x13_count_1 : Int32) (x13_reds_1 : Int32) (x14_count_1 : Int32) (x14_next_1 : Int32) (x14_turn_1 : Int32) (x14_quarters_1 : Int32) (y15_letterOn_1 : Nat → Int32) (y16_namesOn_1 : Nat → Int32) (y17_costs_1 : Nat → Int32) (y18_sums_1 : Nat → Int32) (y19_way_1 : Nat → Int32) (y28_land_1 : Nat → Int32) (y29_riverOf_1 : Nat → Int32) (y30_riverPlace_1 : Nat → Int32) (y31_direction_1 : Nat → Int32) (y32_home_1 : Nat → Int32) (y33_length_1 : Nat → Int32) (y34_letters_1 : Nat → Int32) (y35_stops_1 : Nat → Int32) =>
  bv (fun (t32 : Int32) => ((
    bv (fun (t51 : Int32) => ((
      (if r4 = 0 then (
        some (((-100) - x2_errorAt_1), t32, t51, x1_count, 0, x2_at_1, x2_voyageTold_1, x2_wordStart_1, x2_wordLength_1, x2_numberStart_1, x2_number_1, x2_cell_1, x2_statement_1, x2_error_1, x2_errorAt_1, x5_length_1, x7_rows, x7_columns, x7_rivers, x8_count, x8_reds, x9_count, x9_next, x9_turn, x9_quarters, y10_letterOn, y11_namesOn, x12_rows_1, x12_columns_1, x12_rivers_1, x13_count_1, x13_reds_1, x14_count_1, x14_next_1, x14_turn_1, x14_quarters_1, y15_letterOn_1, y16_namesOn_1, y17_costs_1, y18_sums_1, y19_way_1, y20_land, y21_riverOf, y22_riverPlace, y23_direction, y24_home, y25_length, y26_letters, y27_stops, y28_land_1, y29_riverOf_1, y30_riverPlace_1, y31_direction_1, y32_home_1, y33_length_1, y34_letters_1, y35_stops_1)
      ) else (
        bd19 (f_X6_copyFrom x7_rows x7_columns x7_rivers x8_count x8_reds x9_count x9_next x9_turn x9_quarters y10_letterOn y11_namesOn y20_land y21_riverOf y22_riverPlace y23_direction y24_home y25_length y26_letters y27_stops x12_rows_1 x12_columns_1 x12_rivers_1 x13_count_1 x13_reds_1 x14_count_1 x14_next_1 x14_turn_1 x14_quarters_1 y15_letterOn_1 y16_namesOn_1 y28_land_1 y29_riverOf_1 y30_riverPlace_1 y31_direction_1 y32_home_1 y33_length_1 y34_letters_1 y35_stops_1) fun (x7_rows_1 : Int32) (x7_columns_1 : Int32) (x7_rivers_1 : Int32) (x8_count_1 : Int32) (x8_reds_1 : Int32) (x9_count_1 : Int32) (x9_next_1 : Int32) (x9_turn_1 : Int32) (x9_quarters_1 : Int32) (y10_letterOn_1 : Nat → Int32) (y11_namesOn_1 : Nat → Int32) (y20_land_1 : Nat → Int32) (y21_riverOf_1 : Nat → Int32) (y22_riverPlace_1 : Nat → Int32) (y23_direction_1 : Nat → Int32) (y24_home_1 : Nat → Int32) (y25_length_1 : Nat → Int32) (y26_letters_1 : Nat → Int32) (y27_stops_1 : Nat → Int32) =>
        bd1 (f_X3_forget x1_count) fun (x1_count_1 : Int32) =>
        some (x8_count_1, t32, t51, x1_count_1, 0, x2_at_1, x2_voyageTold_1, x2_wordStart_1, x2_wordLength_1, x2_numberStart_1, x2_number_1, x2_cell_1, x2_statement_1, x2_error_1, x2_errorAt_1, x5_length_1, x7_rows_1, x7_columns_1, x7_rivers_1, x8_count_1, x8_reds_1, x9_count_1, x9_next_1, x9_turn_1, x9_quarters_1, y10_letterOn_1, y11_namesOn_1, x12_rows_1, x12_columns_1, x12_rivers_1, x13_count_1, x13_reds_1, x14_count_1, x14_next_1, x14_turn_1, x14_quarters_1, y15_letterOn_1, y16_namesOn_1, y17_costs_1, y18_sums_1, y19_way_1, y20_land_1, y21_riverOf_1, y22_riverPlace_1, y23_direction_1, y24_home_1, y25_length_1, y26_letters_1, y27_stops_1, y28_land_1, y29_riverOf_1, y30_riverPlace_1, y31_direction_1, y32_home_1, y33_length_1, y34_letters_1, y35_stops_1)
      ))
      ) : Option (Int32 × Int32 × Int32 × Int32 × Int32 × Int32 × Int32 × Int32 × Int32 × Int32 × Int32 × Int32 × Int32 × Int32 × Int32 × Int32 × Int32 × Int32 × Int32 × Int32 × Int32 × Int32 × Int32 × Int32 × Int32 × (Nat → Int32) × (Nat → Int32) × Int32 × Int32 × Int32 × Int32 × Int32 × Int32 × Int32 × Int32 × Int32 × (Nat → Int32) × (Nat → Int32) × (Nat → Int32) × (Nat → Int32) × (Nat → Int32) × (Nat → Int32) × (Nat → Int32) × (Nat → Int32) × (Nat → Int32) × (Nat → Int32) × (Nat → Int32) × (Nat → Int32) × (Nat → Int32) × (Nat → Int32) × (Nat → Int32) × (Nat → Int32) × (Nat → Int32) × (Nat → Int32) × (Nat → Int32) × (Nat → Int32) × (Nat → Int32)))) fun j51 =>
    (if r4 = 0 then (
      j51 x2_statement_1
    ) else (
      j51 (-1)
    ))
    ) : Option (Int32 × Int32 × Int32 × Int32 × Int32 × Int32 × Int32 × Int32 × Int32 × Int32 × Int32 × Int32 × Int32 × Int32 × Int32 × Int32 × Int32 × Int32 × Int32 × Int32 × Int32 × Int32 × Int32 × Int32 × Int32 × (Nat → Int32) × (Nat → Int32) × Int32 × Int32 × Int32 × Int32 × Int32 × Int32 × Int32 × Int32 × Int32 × (Nat → Int32) × (Nat → Int32) × (Nat → Int32) × (Nat → Int32) × (Nat → Int32) × (Nat → Int32) × (Nat → Int32) × (Nat → Int32) × (Nat → Int32) × (Nat → Int32) × (Nat → Int32) × (Nat → Int32) × (Nat → Int32) × (Nat → Int32) × (Nat → Int32) × (Nat → Int32) × (Nat → Int32) × (Nat → Int32) × (Nat → Int32) × (Nat → Int32) × (Nat → Int32)))) fun j32 =>
  (if r4 = 0 then (
    j32 x2_error_1
  ) else (
    j32 0
  ))
noncomputable def f_X8_loadError (x0_errorKind : Int32)  : Option (Int32) :=
  some x0_errorKind
noncomputable def f_X8_loadStatement (x0_errorStatement : Int32)  : Option (Int32) :=
  some x0_errorStatement
noncomputable def f_X8_size (x1_count : Int32) (x3_rows : Int32) (x3_columns : Int32) (x3_rivers : Int32) (x4_count : Int32) (x4_reds : Int32) (x5_count : Int32) (x5_next : Int32) (x5_turn : Int32) (x5_quarters : Int32) (y6_land : Nat → Int32) (y7_direction : Nat → Int32) (p1 : Int32) : Option (Int32) :=
  (if p1 = 0 then (
    some x3_rows
  ) else (
  (if p1 = 1 then (
    some x3_columns
  ) else (
  (if p1 = 2 then (
    bd1 (f_X1_landCells y6_land) fun (r93 : Int32) =>
    some r93
  ) else (
  (if p1 = 3 then (
    some x4_count
  ) else (
  (if p1 = 4 then (
    some x3_rivers
  ) else (
  (if p1 = 5 then (
    bd1 (f_X2_placedNames x4_count y7_direction) fun (r126 : Int32) =>
    bd1 (f_J6_bitCount_0f7a4 r126) fun (r129 : Int32) =>
    some r129
  ) else (
  (if p1 = 6 then (
    bd1 (f_X2_placedNames x4_count y7_direction) fun (r140 : Int32) =>
    bd1 (f_J6_bitCount_0f7a4 (r140 &&& x4_reds)) fun (r154 : Int32) =>
    some r154
  ) else (
  (if p1 = 7 then (
    some x5_count
  ) else (
  (if p1 = 8 then (
    some x5_turn
  ) else (
  (if p1 = 9 then (
    some x5_next
  ) else (
  (if p1 = 10 then (
    some x5_quarters
  ) else (
  (if p1 = 11 then (
    some x1_count
  ) else (
  none
  ))
  ))
  ))
  ))
  ))
  ))
  ))
  ))
  ))
  ))
  ))
  ))
noncomputable def f_X8_needCell (x2_rows : Int32) (x2_columns : Int32) (p1 : Int32) : Option (Unit) :=
  bv (fun (_ : Unit) => ((
    none
    ) : Option (Unit))) fun j18 =>
  (if p1 < 0 then (
    j18 ()
  ) else (
    bd1 (f_X1_cells x2_rows x2_columns) fun (r12 : Int32) =>
    (if p1 < r12 then (
      some ()
    ) else (
      j18 ()
    ))
  ))
noncomputable def f_X8_cell (x2_rows : Int32) (x2_columns : Int32) (x3_count : Int32) (y4_letterOn : Nat → Int32) (y5_namesOn : Nat → Int32) (y6_land : Nat → Int32) (y7_riverOf : Nat → Int32) (y8_home : Nat → Int32) (p1 : Int32) (p2 : Int32) : Option (Int32) :=
  bd1 (f_X8_needCell x2_rows x2_columns p1) fun (_ : Unit) =>
  (if p2 = 0 then (
    bd1 (f_X1_isRiver y7_riverOf p1) fun (r52 : Int32) =>
    (if r52 = 0 then (
      bd1 (f_X1_isLand y6_land p1) fun (r70 : Int32) =>
      (if r70 = 0 then (
        some 0
      ) else (
        some 1
      ))
    ) else (
      some 2
    ))
  ) else (
  (if p2 = 1 then (
    bd1 (f_X2_inCell x3_count y8_home p1) fun (r90 : Int32) =>
    some r90
  ) else (
  (if p2 = 2 then (
    bd1 (f_X1_riverIn y7_riverOf p1) fun (r102 : Int32) =>
    some r102
  ) else (
  (if p2 = 3 then (
    bd1 (f_X6_letterIn y4_letterOn y5_namesOn p1) fun (r111 : Int32) =>
    some r111
  ) else (
  (if p2 = 4 then (
    bd1 (f_X6_namesIn y5_namesOn p1) fun (r120 : Int32) =>
    some r120
  ) else (
  (if p2 = 5 then (
    bd1 (f_X1_depthOf x2_rows x2_columns y6_land p1) fun (r132 : Int32) =>
    some r132
  ) else (
  none
  ))
  ))
  ))
  ))
  ))
  ))
noncomputable def f_X8_needHarbour (x2_count : Int32) (p1 : Int32) : Option (Unit) :=
  bv (fun (_ : Unit) => ((
    none
    ) : Option (Unit))) fun j18 =>
  (if p1 < 0 then (
    j18 ()
  ) else (
    (if p1 < x2_count then (
      some ()
    ) else (
      j18 ()
    ))
  ))
noncomputable def f_X8_harbour (x2_count : Int32) (x2_reds : Int32) (x3_count : Int32) (y4_direction : Nat → Int32) (y5_home : Nat → Int32) (y6_length : Nat → Int32) (y7_stops : Nat → Int32) (p1 : Int32) (p2 : Int32) : Option (Int32) :=
  bd1 (f_X8_needHarbour x2_count p1) fun (_ : Unit) =>
  (if p2 = 0 then (
    bd1 (f_X2_homeOf x2_count y5_home p1) fun (r48 : Int32) =>
    some r48
  ) else (
  (if p2 = 1 then (
    bd1 (f_X2_isRed x2_reds p1) fun (r60 : Int32) =>
    (if r60 = 0 then (
      some 0
    ) else (
      some 1
    ))
  ) else (
  (if p2 = 2 then (
    bd1 (f_X2_directionOf x2_count y4_direction p1) fun (r80 : Int32) =>
    some r80
  ) else (
  (if p2 = 3 then (
    bd1 (f_X2_lengthOf x2_count y6_length p1) fun (r92 : Int32) =>
    some r92
  ) else (
  (if p2 = 4 then (
    bd1 (f_X4_timesOf x3_count y7_stops p1) fun (r104 : Int32) =>
    some r104
  ) else (
  none
  ))
  ))
  ))
  ))
  ))
noncomputable def f_X8_letter (x2_count : Int32) (y3_length : Nat → Int32) (y4_letters : Nat → Int32) (p1 : Int32) (p2 : Int32) : Option (Int32) :=
  bd1 (f_X8_needHarbour x2_count p1) fun (_ : Unit) =>
  bd1 (f_X2_letterOf x2_count y3_length y4_letters p1 p2) fun (r14 : Int32) =>
  some r14
noncomputable def f_X8_needRiver (x2_rivers : Int32) (p1 : Int32) : Option (Unit) :=
  bv (fun (_ : Unit) => ((
    none
    ) : Option (Unit))) fun j18 =>
  (if p1 < 0 then (
    j18 ()
  ) else (
    (if p1 < x2_rivers then (
      some ()
    ) else (
      j18 ()
    ))
  ))
noncomputable def f_X8_river (x2_rivers : Int32) (y3_riverOf : Nat → Int32) (y4_riverPlace : Nat → Int32) (p1 : Int32) (p2 : Int32) : Option (Int32) :=
  bd1 (f_X8_needRiver x2_rivers p1) fun (_ : Unit) =>
  bd1 (f_X1_riverCell y3_riverOf y4_riverPlace p1 p2) fun (r14 : Int32) =>
  some r14
noncomputable def f_X8_voyage (x2_count : Int32) (y3_stops : Nat → Int32) (p1 : Int32) : Option (Int32) :=
  bd1 (f_X4_stopAt x2_count y3_stops p1) fun (r8 : Int32) =>
  some r8
noncomputable def f_X8_needDirection  (p0 : Int32) : Option (Unit) :=
  bv (fun (_ : Unit) => ((
    none
    ) : Option (Unit))) fun j9 =>
  (if p0 < 0 then (
    j9 ()
  ) else (
    (if p0 < 4 then (
      some ()
    ) else (
      j9 ()
    ))
  ))
noncomputable def f_X8_why (x2_rows : Int32) (x2_columns : Int32) (x3_count : Int32) (x3_reds : Int32) (y4_letterOn : Nat → Int32) (y5_namesOn : Nat → Int32) (y6_land : Nat → Int32) (y7_riverOf : Nat → Int32) (y8_home : Nat → Int32) (y9_length : Nat → Int32) (y10_letters : Nat → Int32) (p1 : Int32) (p2 : Int32) : Option (Int32) :=
  bd1 (f_X8_needHarbour x3_count p1) fun (_ : Unit) =>
  bd1 (f_X8_needDirection p2) fun (_ : Unit) =>
  bd1 (f_X6_reasonAgainst x2_rows x2_columns x3_count x3_reds y4_letterOn y5_namesOn y6_land y7_riverOf y8_home y9_length y10_letters p1 p2) fun (r15 : Int32) =>
  some r15
noncomputable def f_X8_ways (x2_rows : Int32) (x2_columns : Int32) (x3_count : Int32) (x3_reds : Int32) (y4_letterOn : Nat → Int32) (y5_namesOn : Nat → Int32) (y6_land : Nat → Int32) (y7_riverOf : Nat → Int32) (y8_home : Nat → Int32) (y9_length : Nat → Int32) (y10_letters : Nat → Int32) (p1 : Int32) : Option (Int32) :=
  bd1 (f_X8_needHarbour x3_count p1) fun (_ : Unit) =>
  bv (fun (v2 : Int32) (v3 : Int32) => ((
    (if 4 ≤ v3 then (
      some (.inr v2)
    ) else (
      bd1 (f_X6_reasonAgainst x2_rows x2_columns x3_count x3_reds y4_letterOn y5_namesOn y6_land y7_riverOf y8_home y9_length y10_letters p1 v3) fun (r20 : Int32) =>
      bv (fun (v2_2 : Int32) => ((
        bv (v3 + 1) fun v3_1 =>
        some (.inl (v2_2, v3_1))
        ) : Option ((Int32 × Int32) ⊕ (Int32)))) fun j32 =>
      (if r20 = 0 then (
        bv (v2 ||| (1 <<< (v3 &&& 31))) fun v2_3 =>
        j32 v2_3
      ) else (
        j32 v2
      ))
    ))
    ) : Option ((Int32 × Int32) ⊕ (Int32)))) fun l9 =>
  bd1 (lq2 l9 0 0) fun (v2_1 : Int32) =>
  some v2_1
noncomputable def f_X8_room (x2_rows : Int32) (x2_columns : Int32) (x3_count : Int32) (y4_land : Nat → Int32) (y5_riverOf : Nat → Int32) (y6_home : Nat → Int32) (p1 : Int32) (p2 : Int32) : Option (Int32) :=
  bd1 (f_X8_needHarbour x3_count p1) fun (_ : Unit) =>
  bd1 (f_X8_needDirection p2) fun (_ : Unit) =>
  bd1 (f_X2_homeOf x3_count y6_home p1) fun (r17 : Int32) =>
  bv (fun (v4 : Int32) => ((
    (if 12 ≤ v4 then (
      mr (some 11)
    ) else (
      bd1 (f_X1_ahead x2_rows x2_columns r17 p2 v4) fun (r46 : Int32) =>
      bd1 (f_X6_isOpen x3_count y4_land y5_riverOf y6_home r46) fun (r49 : Int32) =>
      (if r49 = 0 then (
        mr (some (v4 - 1))
      ) else (
        bv (v4 + 1) fun v4_1 =>
        some (.inl v4_1)
      ))
    ))
    ) : Option ((Int32) ⊕ (Int32)))) fun l24 =>
  lq1 l24 1
noncomputable def f_X8_crossings (x2_rows : Int32) (x2_columns : Int32) (x3_count : Int32) (y4_namesOn : Nat → Int32) (y5_direction : Nat → Int32) (y6_home : Nat → Int32) (y7_length : Nat → Int32)  : Option (Int32) :=
  bv (fun (v1 : Int32) (v2 : Int32) => ((
    (if x3_count ≤ v2 then (
      some (.inr v1)
    ) else (
      bd1 (f_X6_crossedBy x2_rows x2_columns x3_count y4_namesOn y5_direction y6_home y7_length v2) fun (r24 : Int32) =>
      bd1 (f_J6_bitCount_0f7a4 r24) fun (r27 : Int32) =>
      bv (v1 + r27) fun v1_2 =>
      bv (v2 + 1) fun v2_1 =>
      some (.inl (v1_2, v2_1))
    ))
    ) : Option ((Int32 × Int32) ⊕ (Int32)))) fun l4 =>
  bd1 (lq2 l4 0 0) fun (v1_1 : Int32) =>
  some (v1_1 / 2)
noncomputable def f_X8_crossed (x2_rows : Int32) (x2_columns : Int32) (x3_count : Int32) (y4_namesOn : Nat → Int32) (y5_direction : Nat → Int32) (y6_home : Nat → Int32) (y7_length : Nat → Int32) (p1 : Int32) : Option (Int32) :=
  bd1 (f_X8_needHarbour x3_count p1) fun (_ : Unit) =>
  bd1 (f_X6_crossedBy x2_rows x2_columns x3_count y4_namesOn y5_direction y6_home y7_length p1) fun (r10 : Int32) =>
  some r10
noncomputable def f_X8_free (x2_rows : Int32) (x2_columns : Int32) (x3_count : Int32) (y4_namesOn : Nat → Int32) (y5_land : Nat → Int32) (y6_riverOf : Nat → Int32) (y7_home : Nat → Int32)  : Option (Int32) :=
  bd1 (f_X1_cells x2_rows x2_columns) fun (r7 : Int32) =>
  bv (fun (v2 : Int32) (v3 : Int32) => ((
    (if r7 ≤ v3 then (
      some (.inr v2)
    ) else (
      bd1 (f_X6_isOpen x3_count y5_land y6_riverOf y7_home v3) fun (r25 : Int32) =>
      bv (fun (v2_2 : Int32) => ((
        bv (v3 + 1) fun v3_1 =>
        some (.inl (v2_2, v3_1))
        ) : Option ((Int32 × Int32) ⊕ (Int32)))) fun j45 =>
      (if r25 = 0 then (
        j45 v2
      ) else (
        bd1 (f_X6_namesIn y4_namesOn v3) fun (r36 : Int32) =>
        (if r36 = 0 then (
          bv (v2 + 1) fun v2_3 =>
          j45 v2_3
        ) else (
          j45 v2
        ))
      ))
    ))
    ) : Option ((Int32 × Int32) ⊕ (Int32)))) fun l15 =>
  bd1 (lq2 l15 0 0) fun (v2_1 : Int32) =>
  some v2_1
noncomputable def f_X8_needTurn  (p0 : Int32) : Option (Unit) :=
  bv (fun (_ : Unit) => ((
    none
    ) : Option (Unit))) fun j9 =>
  (if p0 < 0 then (
    j9 ()
  ) else (
    (if p0 < 4 then (
      some ()
    ) else (
      j9 ()
    ))
  ))
noncomputable def f_X8_upright (x2_count : Int32) (y3_direction : Nat → Int32) (p1 : Int32) : Option (Int32) :=
  bd1 (f_X8_needTurn p1) fun (_ : Unit) =>
  bv (fun (v2 : Int32) (v3 : Int32) => ((
    (if x2_count ≤ v3 then (
      some (.inr v2)
    ) else (
      bd1 (f_X2_directionOf x2_count y3_direction v3) fun (r30 : Int32) =>
      bv (fun (v2_2 : Int32) => ((
        bv (v3 + 1) fun v3_1 =>
        some (.inl (v2_2, v3_1))
        ) : Option ((Int32 × Int32) ⊕ (Int32)))) fun j56 =>
      (if r30 = (-1) then (
        j56 v2
      ) else (
        bd1 (f_X8_uprightTurn r30) fun (r43 : Int32) =>
        (if r43 = p1 then (
          bv (v2 ||| (1 <<< (v3 &&& 31))) fun v2_3 =>
          j56 v2_3
        ) else (
          j56 v2
        ))
      ))
    ))
    ) : Option ((Int32 × Int32) ⊕ (Int32)))) fun l8 =>
  bd1 (lq2 l8 0 0) fun (v2_1 : Int32) =>
  some v2_1
noncomputable def f_X8_turning (x3_count : Int32) (x3_turn : Int32) (y4_direction : Nat → Int32) (y5_stops : Nat → Int32)  : Option (Int32) :=
  bd1 (f_X6_turningNow x3_count y4_direction y5_stops x3_turn) fun (r14 : Int32) =>
  some r14
noncomputable def f_X8_turningFrom (x3_count : Int32) (y4_direction : Nat → Int32) (y5_stops : Nat → Int32) (p1 : Int32) : Option (Int32) :=
  bd1 (f_X8_needTurn p1) fun (_ : Unit) =>
  bd1 (f_X6_turningNow x3_count y4_direction y5_stops p1) fun (r9 : Int32) =>
  some r9
noncomputable def f_X8_bestTurn (x3_count : Int32) (y4_direction : Nat → Int32) (y5_stops : Nat → Int32)  : Option (Int32) :=
  bd1 (f_X6_turningNow x3_count y4_direction y5_stops 0) fun (r7 : Int32) =>
  bv (fun (v1 : Int32) (v2 : Int32) (v3 : Int32) => ((
    (if 4 ≤ v3 then (
      some (.inr v1)
    ) else (
      bd1 (f_X6_turningNow x3_count y4_direction y5_stops v3) fun (r23 : Int32) =>
      bv (fun (v1_2 : Int32) (v2_1 : Int32) => ((
        bv (v3 + 1) fun v3_1 =>
        some (.inl (v1_2, v2_1, v3_1))
        ) : Option ((Int32 × Int32 × Int32) ⊕ (Int32)))) fun j39 =>
      (if v2 ≤ r23 then (
        j39 v1 v2
      ) else (
        j39 v3 r23
      ))
    ))
    ) : Option ((Int32 × Int32 × Int32) ⊕ (Int32)))) fun l13 =>
  bd1 (lq3 l13 0 r7 1) fun (v1_1 : Int32) =>
  some v1_1
noncomputable def f_X8_hardest (x2_count : Int32) (x3_count : Int32) (x3_turn : Int32) (y4_direction : Nat → Int32) (y5_stops : Nat → Int32)  : Option (Int32) :=
  bv (fun (v1 : Int32) (v2 : Int32) (v3 : Int32) (v4 : Int32) => ((
    (if x3_count ≤ v4 then (
      some (.inr v1)
    ) else (
      bd1 (f_X4_stopAt x3_count y5_stops v4) fun (r49 : Int32) =>
      bd1 (f_X2_directionOf x2_count y4_direction r49) fun (r52 : Int32) =>
      bv (fun (v1_2 : Int32) (v2_1 : Int32) (v3_1 : Int32) => ((
        bv (v4 + 1) fun v4_1 =>
        some (.inl (v1_2, v2_1, v3_1, v4_1))
        ) : Option ((Int32 × Int32 × Int32 × Int32) ⊕ (Int32)))) fun j92 =>
      (if r52 = (-1) then (
        j92 v1 v2 v3
      ) else (
        bd1 (f_X8_uprightTurn r52) fun (r66 : Int32) =>
        bd1 (f_X8_quartersBetween v3 r66) fun (r69 : Int32) =>
        bd1 (f_X8_uprightTurn r52) fun (r76 : Int32) =>
        (if r69 ≤ v2 then (
          j92 v1 v2 r76
        ) else (
          j92 v4 r69 r76
        ))
      ))
    ))
    ) : Option ((Int32 × Int32 × Int32 × Int32) ⊕ (Int32)))) fun l18 =>
  bd1 (lq4 l18 (-1) 0 x3_turn 0) fun (v1_1 : Int32) =>
  some v1_1
noncomputable def f_X8_least (x1_reds : Int32) (x1_bestReds : Int32) (x1_bestCount : Int32) (x1_bestTurning : Int32) (y3_allowed : Nat → Int32) (y4_best : Nat → Int32) (y5_foes : Nat → Int32) (y6_namesLeft : Nat → Int32) (y7_redsLeft : Nat → Int32) (y8_trial : Nat → Int32) (x9_rows : Int32) (x9_columns : Int32) (x10_count : Int32) (x10_reds : Int32) (x11_count : Int32) (x11_turn : Int32) (y12_land : Nat → Int32) (y13_riverOf : Nat → Int32) (y14_home : Nat → Int32) (y15_length : Nat → Int32) (y16_letters : Nat → Int32) (y17_stops : Nat → Int32)  : Option (Int32 × Int32 × Int32 × Int32 × Int32 × (Nat → Int32) × (Nat → Int32) × (Nat → Int32) × (Nat → Int32) × (Nat → Int32) × (Nat → Int32)) :=
  bd10 (f_X0_findBest x1_reds x1_bestReds x1_bestCount x1_bestTurning y3_allowed y4_best y5_foes y6_namesLeft y7_redsLeft y8_trial x9_rows x9_columns x10_count x11_count x11_turn y12_land y13_riverOf y14_home y15_length y16_letters y17_stops (-1) x10_reds) fun (x1_reds_1 : Int32) (x1_bestReds_1 : Int32) (x1_bestCount_1 : Int32) (x1_bestTurning_1 : Int32) (y3_allowed_1 : Nat → Int32) (y4_best_1 : Nat → Int32) (y5_foes_1 : Nat → Int32) (y6_namesLeft_1 : Nat → Int32) (y7_redsLeft_1 : Nat → Int32) (y8_trial_1 : Nat → Int32) =>
  some (x1_bestTurning_1, x1_reds_1, x1_bestReds_1, x1_bestCount_1, x1_bestTurning_1, y3_allowed_1, y4_best_1, y5_foes_1, y6_namesLeft_1, y7_redsLeft_1, y8_trial_1)
noncomputable def f_X8_placedThen (x1_reds : Int32) (x1_bestReds : Int32) (x1_bestCount : Int32) (x1_bestTurning : Int32) (y3_allowed : Nat → Int32) (y4_best : Nat → Int32) (y5_foes : Nat → Int32) (y6_namesLeft : Nat → Int32) (y7_redsLeft : Nat → Int32) (y8_trial : Nat → Int32) (x9_rows : Int32) (x9_columns : Int32) (x10_count : Int32) (x10_reds : Int32) (x11_count : Int32) (x11_turn : Int32) (y12_land : Nat → Int32) (y13_riverOf : Nat → Int32) (y14_home : Nat → Int32) (y15_length : Nat → Int32) (y16_letters : Nat → Int32) (y17_stops : Nat → Int32)  : Option (Int32 × Int32 × Int32 × Int32 × Int32 × (Nat → Int32) × (Nat → Int32) × (Nat → Int32) × (Nat → Int32) × (Nat → Int32) × (Nat → Int32)) :=
  bd10 (f_X0_findBest x1_reds x1_bestReds x1_bestCount x1_bestTurning y3_allowed y4_best y5_foes y6_namesLeft y7_redsLeft y8_trial x9_rows x9_columns x10_count x11_count x11_turn y12_land y13_riverOf y14_home y15_length y16_letters y17_stops (-1) x10_reds) fun (x1_reds_1 : Int32) (x1_bestReds_1 : Int32) (x1_bestCount_1 : Int32) (x1_bestTurning_1 : Int32) (y3_allowed_1 : Nat → Int32) (y4_best_1 : Nat → Int32) (y5_foes_1 : Nat → Int32) (y6_namesLeft_1 : Nat → Int32) (y7_redsLeft_1 : Nat → Int32) (y8_trial_1 : Nat → Int32) =>
  some (x1_bestCount_1, x1_reds_1, x1_bestReds_1, x1_bestCount_1, x1_bestTurning_1, y3_allowed_1, y4_best_1, y5_foes_1, y6_namesLeft_1, y7_redsLeft_1, y8_trial_1)
noncomputable def f_X8_arranged (x1_reds : Int32) (x1_bestReds : Int32) (x1_bestCount : Int32) (x1_bestTurning : Int32) (y3_allowed : Nat → Int32) (y4_best : Nat → Int32) (y5_foes : Nat → Int32) (y6_namesLeft : Nat → Int32) (y7_redsLeft : Nat → Int32) (y8_trial : Nat → Int32) (x9_rows : Int32) (x9_columns : Int32) (x10_count : Int32) (x10_reds : Int32) (x11_count : Int32) (x11_turn : Int32) (y12_land : Nat → Int32) (y13_riverOf : Nat → Int32) (y14_home : Nat → Int32) (y15_length : Nat → Int32) (y16_letters : Nat → Int32) (y17_stops : Nat → Int32) (p1 : Int32) : Option (Int32 × Int32 × Int32 × Int32 × Int32 × (Nat → Int32) × (Nat → Int32) × (Nat → Int32) × (Nat → Int32) × (Nat → Int32) × (Nat → Int32)) :=
  bd1 (f_X8_needHarbour x10_count p1) fun (_ : Unit) =>
  bd10 (f_X0_findBest x1_reds x1_bestReds x1_bestCount x1_bestTurning y3_allowed y4_best y5_foes y6_namesLeft y7_redsLeft y8_trial x9_rows x9_columns x10_count x11_count x11_turn y12_land y13_riverOf y14_home y15_length y16_letters y17_stops (-1) x10_reds) fun (x1_reds_1 : Int32) (x1_bestReds_1 : Int32) (x1_bestCount_1 : Int32) (x1_bestTurning_1 : Int32) (y3_allowed_1 : Nat → Int32) (y4_best_1 : Nat → Int32) (y5_foes_1 : Nat → Int32) (y6_namesLeft_1 : Nat → Int32) (y7_redsLeft_1 : Nat → Int32) (y8_trial_1 : Nat → Int32) =>
  bd1 (f_X0_bestDirection y4_best_1 p1) fun (r32 : Int32) =>
  some (r32, x1_reds_1, x1_bestReds_1, x1_bestCount_1, x1_bestTurning_1, y3_allowed_1, y4_best_1, y5_foes_1, y6_namesLeft_1, y7_redsLeft_1, y8_trial_1)
noncomputable def f_X8_leastIf (x1_reds : Int32) (x1_bestReds : Int32) (x1_bestCount : Int32) (x1_bestTurning : Int32) (y3_allowed : Nat → Int32) (y4_best : Nat → Int32) (y5_foes : Nat → Int32) (y6_namesLeft : Nat → Int32) (y7_redsLeft : Nat → Int32) (y8_trial : Nat → Int32) (x9_rows : Int32) (x9_columns : Int32) (x10_count : Int32) (x10_reds : Int32) (x11_count : Int32) (x11_turn : Int32) (y12_land : Nat → Int32) (y13_riverOf : Nat → Int32) (y14_home : Nat → Int32) (y15_length : Nat → Int32) (y16_letters : Nat → Int32) (y17_stops : Nat → Int32) (p1 : Int32) (p2 : Int32) : Option (Int32 × Int32 × Int32 × Int32 × Int32 × (Nat → Int32) × (Nat → Int32) × (Nat → Int32) × (Nat → Int32) × (Nat → Int32) × (Nat → Int32)) :=
  bd1 (f_X8_needHarbour x10_count p1) fun (_ : Unit) =>
  bd1 (f_X2_redsIf x10_reds p1 p2) fun (r23 : Int32) =>
  bd10 (f_X0_findBest x1_reds x1_bestReds x1_bestCount x1_bestTurning y3_allowed y4_best y5_foes y6_namesLeft y7_redsLeft y8_trial x9_rows x9_columns x10_count x11_count x11_turn y12_land y13_riverOf y14_home y15_length y16_letters y17_stops (-1) r23) fun (x1_reds_1 : Int32) (x1_bestReds_1 : Int32) (x1_bestCount_1 : Int32) (x1_bestTurning_1 : Int32) (y3_allowed_1 : Nat → Int32) (y4_best_1 : Nat → Int32) (y5_foes_1 : Nat → Int32) (y6_namesLeft_1 : Nat → Int32) (y7_redsLeft_1 : Nat → Int32) (y8_trial_1 : Nat → Int32) =>
  some (x1_bestTurning_1, x1_reds_1, x1_bestReds_1, x1_bestCount_1, x1_bestTurning_1, y3_allowed_1, y4_best_1, y5_foes_1, y6_namesLeft_1, y7_redsLeft_1, y8_trial_1)
noncomputable def f_X8_placedIf (x1_reds : Int32) (x1_bestReds : Int32) (x1_bestCount : Int32) (x1_bestTurning : Int32) (y3_allowed : Nat → Int32) (y4_best : Nat → Int32) (y5_foes : Nat → Int32) (y6_namesLeft : Nat → Int32) (y7_redsLeft : Nat → Int32) (y8_trial : Nat → Int32) (x9_rows : Int32) (x9_columns : Int32) (x10_count : Int32) (x10_reds : Int32) (x11_count : Int32) (x11_turn : Int32) (y12_land : Nat → Int32) (y13_riverOf : Nat → Int32) (y14_home : Nat → Int32) (y15_length : Nat → Int32) (y16_letters : Nat → Int32) (y17_stops : Nat → Int32) (p1 : Int32) (p2 : Int32) : Option (Int32 × Int32 × Int32 × Int32 × Int32 × (Nat → Int32) × (Nat → Int32) × (Nat → Int32) × (Nat → Int32) × (Nat → Int32) × (Nat → Int32)) :=
  bd1 (f_X8_needHarbour x10_count p1) fun (_ : Unit) =>
  bd1 (f_X2_redsIf x10_reds p1 p2) fun (r23 : Int32) =>
  bd10 (f_X0_findBest x1_reds x1_bestReds x1_bestCount x1_bestTurning y3_allowed y4_best y5_foes y6_namesLeft y7_redsLeft y8_trial x9_rows x9_columns x10_count x11_count x11_turn y12_land y13_riverOf y14_home y15_length y16_letters y17_stops (-1) r23) fun (x1_reds_1 : Int32) (x1_bestReds_1 : Int32) (x1_bestCount_1 : Int32) (x1_bestTurning_1 : Int32) (y3_allowed_1 : Nat → Int32) (y4_best_1 : Nat → Int32) (y5_foes_1 : Nat → Int32) (y6_namesLeft_1 : Nat → Int32) (y7_redsLeft_1 : Nat → Int32) (y8_trial_1 : Nat → Int32) =>
  some (x1_bestCount_1, x1_reds_1, x1_bestReds_1, x1_bestCount_1, x1_bestTurning_1, y3_allowed_1, y4_best_1, y5_foes_1, y6_namesLeft_1, y7_redsLeft_1, y8_trial_1)
noncomputable def f_X8_shy (x1_reds : Int32) (x1_bestReds : Int32) (x1_bestCount : Int32) (x1_bestTurning : Int32) (y3_allowed : Nat → Int32) (y4_best : Nat → Int32) (y5_foes : Nat → Int32) (y6_namesLeft : Nat → Int32) (y7_redsLeft : Nat → Int32) (y8_trial : Nat → Int32) (x9_rows : Int32) (x9_columns : Int32) (x10_count : Int32) (x10_reds : Int32) (x11_count : Int32) (x11_turn : Int32) (y12_land : Nat → Int32) (y13_riverOf : Nat → Int32) (y14_home : Nat → Int32) (y15_length : Nat → Int32) (y16_letters : Nat → Int32) (y17_stops : Nat → Int32)  : Option (Int32 × Int32 × Int32 × Int32 × Int32 × (Nat → Int32) × (Nat → Int32) × (Nat → Int32) × (Nat → Int32) × (Nat → Int32) × (Nat → Int32)) :=
  bv (x10_count - 1) fun v1 =>
  bv (fun (v2 : Int32) (v3 : Int32) (x1_reds_1 : Int32) (x1_bestReds_1 : Int32) (x1_bestCount_1 : Int32) (x1_bestTurning_1 : Int32) (y3_allowed_1 : Nat → Int32) (y4_best_1 : Nat → Int32) (y5_foes_1 : Nat → Int32) (y6_namesLeft_1 : Nat → Int32) (y7_redsLeft_1 : Nat → Int32) (y8_trial_1 : Nat → Int32) => ((
    (if x10_count ≤ v3 then (
      some (.inr (v2, x1_reds_1, x1_bestReds_1, x1_bestCount_1, x1_bestTurning_1, y3_allowed_1, y4_best_1, y5_foes_1, y6_namesLeft_1, y7_redsLeft_1, y8_trial_1))
    ) else (
      bd10 (f_X0_findBest x1_reds_1 x1_bestReds_1 x1_bestCount_1 x1_bestTurning_1 y3_allowed_1 y4_best_1 y5_foes_1 y6_namesLeft_1 y7_redsLeft_1 y8_trial_1 x9_rows x9_columns x10_count x11_count x11_turn y12_land y13_riverOf y14_home y15_length y16_letters y17_stops v3 x10_reds) fun (x1_reds_3 : Int32) (x1_bestReds_3 : Int32) (x1_bestCount_3 : Int32) (x1_bestTurning_3 : Int32) (y3_allowed_3 : Nat → Int32) (y4_best_3 : Nat → Int32) (y5_foes_3 : Nat → Int32) (y6_namesLeft_3 : Nat → Int32) (y7_redsLeft_3 : Nat → Int32) (y8_trial_3 : Nat → Int32) =>
      bv (fun (v2_2 : Int32) => ((
        bv (v3 + 1) fun v3_1 =>
        some (.inl (v2_2, v3_1, x1_reds_3, x1_bestReds_3, x1_bestCount_3, x1_bestTurning_3, y3_allowed_3, y4_best_3, y5_foes_3, y6_namesLeft_3, y7_redsLeft_3, y8_trial_3))
        ) : Option ((Int32 × Int32 × Int32 × Int32 × Int32 × Int32 × (Nat → Int32) × (Nat → Int32) × (Nat → Int32) × (Nat → Int32) × (Nat → Int32) × (Nat → Int32)) ⊕ (Int32 × Int32 × Int32 × Int32 × Int32 × (Nat → Int32) × (Nat → Int32) × (Nat → Int32) × (Nat → Int32) × (Nat → Int32) × (Nat → Int32))))) fun j70 =>
      (if x1_bestCount_3 = v1 then (
        bv (v2 ||| (1 <<< (v3 &&& 31))) fun v2_3 =>
        j70 v2_3
      ) else (
        j70 v2
      ))
    ))
    ) : Option ((Int32 × Int32 × Int32 × Int32 × Int32 × Int32 × (Nat → Int32) × (Nat → Int32) × (Nat → Int32) × (Nat → Int32) × (Nat → Int32) × (Nat → Int32)) ⊕ (Int32 × Int32 × Int32 × Int32 × Int32 × (Nat → Int32) × (Nat → Int32) × (Nat → Int32) × (Nat → Int32) × (Nat → Int32) × (Nat → Int32))))) fun l17 =>
  bd11 (lq12 l17 0 0 x1_reds x1_bestReds x1_bestCount x1_bestTurning y3_allowed y4_best y5_foes y6_namesLeft y7_redsLeft y8_trial) fun (v2_1 : Int32) (x1_reds_2 : Int32) (x1_bestReds_2 : Int32) (x1_bestCount_2 : Int32) (x1_bestTurning_2 : Int32) (y3_allowed_2 : Nat → Int32) (y4_best_2 : Nat → Int32) (y5_foes_2 : Nat → Int32) (y6_namesLeft_2 : Nat → Int32) (y7_redsLeft_2 : Nat → Int32) (y8_trial_2 : Nat → Int32) =>
  some (v2_1, x1_reds_2, x1_bestReds_2, x1_bestCount_2, x1_bestTurning_2, y3_allowed_2, y4_best_2, y5_foes_2, y6_namesLeft_2, y7_redsLeft_2, y8_trial_2)
noncomputable def f_X8_wayFrom (x2_length : Int32) (x3_rows : Int32) (x3_columns : Int32) (x4_count : Int32) (y5_namesOn : Nat → Int32) (y6_costs : Nat → Int32) (y7_sums : Nat → Int32) (y8_way : Nat → Int32) (y9_land : Nat → Int32) (y10_riverOf : Nat → Int32) (y11_home : Nat → Int32) (p1 : Int32) : Option (Int32 × Int32 × (Nat → Int32) × (Nat → Int32) × (Nat → Int32)) :=
  bd2 (f_X7_survey y6_costs y7_sums x3_rows x3_columns x4_count y5_namesOn y9_land y10_riverOf y11_home) fun (y6_costs_1 : Nat → Int32) (y7_sums_1 : Nat → Int32) =>
  bd3 (f_X7_trace x2_length y6_costs_1 y7_sums_1 y8_way x3_rows x3_columns p1) fun (r23 : Int32) (x2_length_1 : Int32) (y8_way_1 : Nat → Int32) =>
  some (r23, x2_length_1, y6_costs_1, y7_sums_1, y8_way_1)
noncomputable def f_X8_wayLength (x2_length : Int32) (x3_rows : Int32) (x3_columns : Int32) (x4_count : Int32) (y5_namesOn : Nat → Int32) (y6_costs : Nat → Int32) (y7_sums : Nat → Int32) (y8_way : Nat → Int32) (y9_land : Nat → Int32) (y10_riverOf : Nat → Int32) (y11_home : Nat → Int32) (p1 : Int32) : Option (Int32 × Int32 × (Nat → Int32) × (Nat → Int32) × (Nat → Int32)) :=
  bd1 (f_X8_needCell x3_rows x3_columns p1) fun (_ : Unit) =>
  bd5 (f_X8_wayFrom x2_length x3_rows x3_columns x4_count y5_namesOn y6_costs y7_sums y8_way y9_land y10_riverOf y11_home p1) fun (r7 : Int32) (x2_length_1 : Int32) (y6_costs_1 : Nat → Int32) (y7_sums_1 : Nat → Int32) (y8_way_1 : Nat → Int32) =>
  (if r7 = 0 then (
    some ((-3), x2_length_1, y6_costs_1, y7_sums_1, y8_way_1)
  ) else (
    some (r7, x2_length_1, y6_costs_1, y7_sums_1, y8_way_1)
  ))
noncomputable def f_X8_wayCell (x2_length : Int32) (x3_rows : Int32) (x3_columns : Int32) (x4_count : Int32) (y5_namesOn : Nat → Int32) (y6_costs : Nat → Int32) (y7_sums : Nat → Int32) (y8_way : Nat → Int32) (y9_land : Nat → Int32) (y10_riverOf : Nat → Int32) (y11_home : Nat → Int32) (p1 : Int32) (p2 : Int32) : Option (Int32 × Int32 × (Nat → Int32) × (Nat → Int32) × (Nat → Int32)) :=
  bd1 (f_X8_needCell x3_rows x3_columns p1) fun (_ : Unit) =>
  bd5 (f_X8_wayFrom x2_length x3_rows x3_columns x4_count y5_namesOn y6_costs y7_sums y8_way y9_land y10_riverOf y11_home p1) fun (r7 : Int32) (x2_length_1 : Int32) (y6_costs_1 : Nat → Int32) (y7_sums_1 : Nat → Int32) (y8_way_1 : Nat → Int32) =>
  bd1 (f_X7_wayAt x2_length_1 y8_way_1 p2) fun (r16 : Int32) =>
  some (r16, x2_length_1, y6_costs_1, y7_sums_1, y8_way_1)
noncomputable def f_X8_washes (x2_length : Int32) (x3_rows : Int32) (x3_columns : Int32) (x4_count : Int32) (y5_namesOn : Nat → Int32) (y6_costs : Nat → Int32) (y7_sums : Nat → Int32) (y8_way : Nat → Int32) (y9_land : Nat → Int32) (y10_riverOf : Nat → Int32) (y11_home : Nat → Int32) (p1 : Int32) : Option (Int32 × Int32 × (Nat → Int32) × (Nat → Int32) × (Nat → Int32)) :=
  bd1 (f_X8_needCell x3_rows x3_columns p1) fun (_ : Unit) =>
  bd5 (f_X8_wayFrom x2_length x3_rows x3_columns x4_count y5_namesOn y6_costs y7_sums y8_way y9_land y10_riverOf y11_home p1) fun (r7 : Int32) (x2_length_1 : Int32) (y6_costs_1 : Nat → Int32) (y7_sums_1 : Nat → Int32) (y8_way_1 : Nat → Int32) =>
  bd1 (f_X7_namesOnWay x2_length_1 y8_way_1 y5_namesOn) fun (r19 : Int32) =>
  some (r19, x2_length_1, y6_costs_1, y7_sums_1, y8_way_1)
noncomputable def f_X8_mildest (x2_length : Int32) (x3_rows : Int32) (x3_columns : Int32) (x4_count : Int32) (y5_namesOn : Nat → Int32) (y6_costs : Nat → Int32) (y7_sums : Nat → Int32) (y8_way : Nat → Int32) (y9_land : Nat → Int32) (y10_riverOf : Nat → Int32) (y11_home : Nat → Int32)  : Option (Int32 × Int32 × (Nat → Int32) × (Nat → Int32) × (Nat → Int32)) :=
  bd2 (f_X7_survey y6_costs y7_sums x3_rows x3_columns x4_count y5_namesOn y9_land y10_riverOf y11_home) fun (y6_costs_1 : Nat → Int32) (y7_sums_1 : Nat → Int32) =>
  bd1 (f_X1_cells x3_rows x3_columns) fun (r18 : Int32) =>
  bv (fun (v2 : Int32) (v3 : Int32) (v4 : Int32) (v5 : Int32) (x2_length_1 : Int32) (y8_way_1 : Nat → Int32) => ((
    (if r18 ≤ v5 then (
      some (.inr (v2, x2_length_1, y8_way_1))
    ) else (
      bd3 (f_X7_trace x2_length_1 y6_costs_1 y7_sums_1 y8_way_1 x3_rows x3_columns v5) fun (r51 : Int32) (x2_length_3 : Int32) (y8_way_3 : Nat → Int32) =>
      bv (fun (v2_2 : Int32) (v3_1 : Int32) (v4_1 : Int32) => ((
        bv (v5 + 1) fun v5_1 =>
        some (.inl (v2_2, v3_1, v4_1, v5_1, x2_length_3, y8_way_3))
        ) : Option ((Int32 × Int32 × Int32 × Int32 × Int32 × (Nat → Int32)) ⊕ (Int32 × Int32 × (Nat → Int32))))) fun j114 =>
      (if r51 = 0 then (
        j114 v2 v3 v4
      ) else (
        bd1 (f_X7_namesOnWay x2_length_3 y8_way_3 y5_namesOn) fun (r72 : Int32) =>
        bd1 (f_J6_bitCount_0f7a4 r72) fun (r75 : Int32) =>
        bv (fun (_ : Unit) => ((
          j114 v5 r75 r51
          ) : Option ((Int32 × Int32 × Int32 × Int32 × Int32 × (Nat → Int32)) ⊕ (Int32 × Int32 × (Nat → Int32))))) fun j104 =>
        (if v2 = (-1) then (
          j104 ()
        ) else (
          (if r75 < v3 then (
            j104 ()
          ) else (
            (if r75 = v3 then (
              (if r51 ≤ v4 then (
                j114 v2 v3 v4
              ) else (
                j104 ()
              ))
            ) else (
              j114 v2 v3 v4
            ))
          ))
        ))
      ))
    ))
    ) : Option ((Int32 × Int32 × Int32 × Int32 × Int32 × (Nat → Int32)) ⊕ (Int32 × Int32 × (Nat → Int32))))) fun l32 =>
  bd3 (lq6 l32 (-1) 0 0 0 x2_length y8_way) fun (v2_1 : Int32) (x2_length_2 : Int32) (y8_way_2 : Nat → Int32) =>
  some (v2_1, x2_length_2, y6_costs_1, y7_sums_1, y8_way_2)
noncomputable def f_X8_drowns (x2_rows : Int32) (x2_columns : Int32) (y3_namesOn : Nat → Int32) (p1 : Int32) : Option (Int32) :=
  bd1 (f_X8_needCell x2_rows x2_columns p1) fun (_ : Unit) =>
  bd1 (f_X6_namesIn y3_namesOn p1) fun (r10 : Int32) =>
  some r10
noncomputable def f_X8_meanTurn (x2_count : Int32) (x3_count : Int32) (x3_turn : Int32) (y4_direction : Nat → Int32) (y5_stops : Nat → Int32)  : Option (UInt64) :=
  bv (fun (v1 : Int32) (v2 : Int32) => ((
    (if x3_count ≤ v2 then (
      some (.inr v1)
    ) else (
      bd1 (f_X4_stopAt x3_count y5_stops v2) fun (r33 : Int32) =>
      bd1 (f_X2_directionOf x2_count y4_direction r33) fun (r36 : Int32) =>
      bv (fun (v1_2 : Int32) => ((
        bv (v2 + 1) fun v2_1 =>
        some (.inl (v1_2, v2_1))
        ) : Option ((Int32 × Int32) ⊕ (Int32)))) fun j46 =>
      (if r36 = (-1) then (
        j46 v1
      ) else (
        bv (v1 + 1) fun v1_3 =>
        j46 v1_3
      ))
    ))
    ) : Option ((Int32 × Int32) ⊕ (Int32)))) fun l4 =>
  bd1 (lq2 l4 0 0) fun (v1_1 : Int32) =>
  bv (fun (t68 : UInt64) => ((
    some t68
    ) : Option (UInt64))) fun j68 =>
  (if v1_1 = 0 then (
    j68 FP.dconst0
  ) else (
    bd1 (f_X8_turning x3_count x3_turn y4_direction y5_stops) fun (r61 : Int32) =>
    nn64 (FP.ddiv (FP.i2d r61) (FP.i2d v1_1)) <|
    j68 (FP.ddiv (FP.i2d r61) (FP.i2d v1_1))
  ))
noncomputable def f_X8_cover (x2_rows : Int32) (x2_columns : Int32) (y3_namesOn : Nat → Int32) (y4_land : Nat → Int32)  : Option (UInt32) :=
  bd1 (f_X1_landCells y4_land) fun (r7 : Int32) =>
  bv (fun (v2 : Int32) (v3 : Int32) => ((
    bd1 (f_X1_cells x2_rows x2_columns) fun (r23 : Int32) =>
    (if r23 ≤ v3 then (
      some (.inr v2)
    ) else (
      bd1 (f_X6_namesIn y3_namesOn v3) fun (r34 : Int32) =>
      bv (fun (v2_2 : Int32) => ((
        bv (v3 + 1) fun v3_1 =>
        some (.inl (v2_2, v3_1))
        ) : Option ((Int32 × Int32) ⊕ (Int32)))) fun j43 =>
      (if r34 = 0 then (
        j43 v2
      ) else (
        bv (v2 + 1) fun v2_3 =>
        j43 v2_3
      ))
    ))
    ) : Option ((Int32 × Int32) ⊕ (Int32)))) fun l15 =>
  bd1 (lq2 l15 0 0) fun (v2_1 : Int32) =>
  bv (fun (t62 : UInt32) => ((
    some t62
    ) : Option (UInt32))) fun j62 =>
  (if r7 = 0 then (
    j62 FP.fconst0
  ) else (
    nn32 (FP.fdiv (FP.i2f v2_1) (FP.i2f r7)) <|
    j62 (FP.fdiv (FP.i2f v2_1) (FP.i2f r7))
  ))
noncomputable def f_X8_signOf (x3_count : Int32) (x3_reds : Int32) (y4_letterOn : Nat → Int32) (y5_namesOn : Nat → Int32) (y6_land : Nat → Int32) (y7_riverOf : Nat → Int32) (y8_home : Nat → Int32) (p1 : Int32) : Option (Int32) :=
  bd1 (f_X1_isLand y6_land p1) fun (r8 : Int32) =>
  (if r8 = 0 then (
    some 126
  ) else (
    bd1 (f_X2_inCell x3_count y8_home p1) fun (r25 : Int32) =>
    (if r25 = (-1) then (
      bd1 (f_X6_namesIn y5_namesOn p1) fun (r40 : Int32) =>
      (if r40 = 0 then (
        bd1 (f_X1_isRiver y7_riverOf p1) fun (r104 : Int32) =>
        (if r104 = 0 then (
          some 46
        ) else (
          some 61
        ))
      ) else (
        bv (fun (t68 : Int32) => ((
          (if t68 = 0 then (
            bd1 (f_X6_letterIn y4_letterOn y5_namesOn p1) fun (r92 : Int32) =>
            some r92
          ) else (
            bd1 (f_X6_letterIn y4_letterOn y5_namesOn p1) fun (r78 : Int32) =>
            some (r78 - 32)
          ))
          ) : Option (Int32))) fun j68 =>
        (if (r40 &&& x3_reds) = 0 then (
          j68 0
        ) else (
          j68 1
        ))
      ))
    ) else (
      some 64
    ))
  ))
noncomputable def f_X8_writeRow (x0_outputLength : Int32) (y1_output : Nat → Int32) (x3_rows : Int32) (x3_columns : Int32) (x4_count : Int32) (x4_reds : Int32) (y5_letterOn : Nat → Int32) (y6_namesOn : Nat → Int32) (y7_land : Nat → Int32) (y8_riverOf : Nat → Int32) (y9_home : Nat → Int32) (p1 : Int32) : Option (Int32 × Int32 × (Nat → Int32)) :=
  bv (fun (_ : Unit) => ((
    none
    ) : Option (Int32 × Int32 × (Nat → Int32)))) fun j18 =>
  (if p1 < 0 then (
    j18 ()
  ) else (
    (if p1 < x3_rows then (
      bv (fun (v3 : Int32) (y1_output_1 : Nat → Int32) => ((
        (if x3_columns ≤ v3 then (
          some (.inr y1_output_1)
        ) else (
          (if 12 ≤ v3 then (
            some (.inr y1_output_1)
          ) else (
            bd1 (f_X8_signOf x4_count x4_reds y5_letterOn y6_namesOn y7_land y8_riverOf y9_home ((p1 * x3_columns) + v3)) fun (r64 : Int32) =>
            ar v3 12 <| bv (upd y1_output_1 v3.toNatClampNeg r64) fun y1_output_3 =>
            bv (v3 + 1) fun v3_1 =>
            some (.inl (v3_1, y1_output_3))
          ))
        ))
        ) : Option ((Int32 × (Nat → Int32)) ⊕ ((Nat → Int32))))) fun l42 =>
      bd1 (lq2 l42 0 y1_output) fun (y1_output_2 : Nat → Int32) =>
      some (x3_columns, x3_columns, y1_output_2)
    ) else (
      j18 ()
    ))
  ))
noncomputable def f_X8_outputByte (x0_outputLength : Int32) (y1_output : Nat → Int32) (p1 : Int32) : Option (Int32) :=
  bv (fun (_ : Unit) => ((
    some (-1)
    ) : Option (Int32))) fun j27 =>
  (if p1 < 0 then (
    j27 ()
  ) else (
    (if x0_outputLength ≤ p1 then (
      j27 ()
    ) else (
      (if 12 ≤ p1 then (
        j27 ()
      ) else (
        ar p1 12 <|
        some (y1_output p1.toNatClampNeg)
      ))
    ))
  ))
noncomputable def f_X8_needSlot  (p0 : Int32) : Option (Unit) :=
  bv (fun (_ : Unit) => ((
    none
    ) : Option (Unit))) fun j9 =>
  (if p0 < 0 then (
    j9 ()
  ) else (
    (if p0 < 2 then (
      some ()
    ) else (
      j9 ()
    ))
  ))
noncomputable def f_X9_thrown (x0_thrown : Int32)  : Option (Int32) :=
  some x0_thrown
noncomputable def f_X9_begins (y1_s : Nat → Int32) (p1 : Int32) (p2 : Int32) : Option ((Nat → Int32)) :=
  bv (fun (v3 : Int32) (y1_s_1 : Nat → Int32) => ((
    (if 552 ≤ v3 then (
      some (.inr y1_s_1)
    ) else (
      ar v3 552 <| bv (upd y1_s_1 v3.toNatClampNeg 0) fun y1_s_3 =>
      bv (v3 + 1) fun v3_1 =>
      some (.inl (v3_1, y1_s_3))
    ))
    ) : Option ((Int32 × (Nat → Int32)) ⊕ ((Nat → Int32))))) fun l2 =>
  bd1 (lq2 l2 0 y1_s) fun (y1_s_2 : Nat → Int32) =>
  ar 0 552 <| bv (upd y1_s_2 (0 : Int32).toNatClampNeg p1) fun y1_s_4 =>
  ar 1 552 <| bv (upd y1_s_4 (1 : Int32).toNatClampNeg p2) fun y1_s_5 =>
  some y1_s_5
noncomputable def f_X9_isIn  (p0 : Int64) (p2 : Int64) (p4 : Int64) : Option (Int32) :=
  bv (fun (_ : Unit) => ((
    some 0
    ) : Option (Int32))) fun j17 =>
  (if (lg_cmp p0 p2) < 0 then (
    j17 ()
  ) else (
    (if 0 < (lg_cmp p0 p4) then (
      j17 ()
    ) else (
      some 1
    ))
  ))
noncomputable def f_X9_passes (x0_thrown : Int32) (p1 : Int32) (p2 : Int32) : Option (Int32 × Int32) :=
  bv (fun (t18 : Int32) => ((
    (if t18 = 0 then (
      some (1, t18)
    ) else (
      some (0, t18)
    ))
    ) : Option (Int32 × Int32))) fun j18 =>
  (if p1 = 0 then (
    j18 1
  ) else (
    (if p2 = 0 then (
      j18 2
    ) else (
      j18 0
    ))
  ))
noncomputable def f_X9_copies (n0 : Nat) (n2 : Nat) (y0_p : Nat → Int32) (y1_p : Nat → Int32) (p1 : Int32) (p3 : Int32) : Option ((Nat → Int32)) :=
  bv (fun (v4 : Int32) (y1_p_1 : Nat → Int32) => ((
    (if 552 ≤ v4 then (
      some (.inr y1_p_1)
    ) else (
      ar (p1 + v4) n0 <|
      ar (p3 + v4) n2 <| bv (upd y1_p_1 (p3 + v4).toNatClampNeg (y0_p (p1 + v4).toNatClampNeg)) fun y1_p_3 =>
      bv (v4 + 1) fun v4_1 =>
      some (.inl (v4_1, y1_p_3))
    ))
    ) : Option ((Int32 × (Nat → Int32)) ⊕ ((Nat → Int32))))) fun l3 =>
  bd1 (lq2 l3 0 y1_p) fun (y1_p_2 : Nat → Int32) =>
  some y1_p_2
noncomputable def f_X9_keeps (x0_acts : Int32) (y1_past : Nat → Int32) (y2_s : Nat → Int32)  : Option (Int32 × (Nat → Int32)) :=
  bv (fun (x0_acts_1 : Int32) (y1_past_1 : Nat → Int32) => ((
    bd1 (f_X9_copies 552 4416 y2_s y1_past_1 0 (552 * x0_acts_1)) fun (y1_past_2 : Nat → Int32) =>
    bv (x0_acts_1 + 1) fun x0_acts_2 =>
    some (x0_acts_2, y1_past_2)
    ) : Option (Int32 × (Nat → Int32)))) fun j50 =>
  (if x0_acts = 8 then (
    bv (fun (v1 : Int32) (y1_past_3 : Nat → Int32) => ((
      (if 3864 ≤ v1 then (
        some (.inr y1_past_3)
      ) else (
        ar (v1 + 552) 4416 <|
        ar v1 4416 <| bv (upd y1_past_3 v1.toNatClampNeg (y1_past_3 (v1 + 552).toNatClampNeg)) fun y1_past_5 =>
        bv (v1 + 1) fun v1_1 =>
        some (.inl (v1_1, y1_past_5))
      ))
      ) : Option ((Int32 × (Nat → Int32)) ⊕ ((Nat → Int32))))) fun l11 =>
    bd1 (lq2 l11 0 y1_past) fun (y1_past_4 : Nat → Int32) =>
    bv (x0_acts - 1) fun x0_acts_3 =>
    j50 x0_acts_3 y1_past_4
  ) else (
    j50 x0_acts y1_past
  ))
noncomputable def f_X9_ones  (p0 : Int32) : Option (Int32) :=
  bv (fun (v1 : Int32) (v2 : Int32) => ((
    (if 8 ≤ v2 then (
      some (.inr v1)
    ) else (
      bv (v1 + ((p0 >>> (v2 &&& 31)) &&& 1)) fun v1_2 =>
      bv (v2 + 1) fun v2_1 =>
      some (.inl (v1_2, v2_1))
    ))
    ) : Option ((Int32 × Int32) ⊕ (Int32)))) fun l4 =>
  bd1 (lq2 l4 0 0) fun (v1_1 : Int32) =>
  some v1_1
noncomputable def f_X9_cells (y1_s : Nat → Int32)  : Option (Int32) :=
  ar 0 552 <|
  ar 1 552 <|
  some ((y1_s (0 : Int32).toNatClampNeg) * (y1_s (1 : Int32).toNatClampNeg))
noncomputable def f_X9_isCell (y1_s : Nat → Int32) (p1 : Int32) : Option (Int32) :=
  bd1 (f_X9_cells y1_s) fun (r4 : Int32) =>
  bd1 (f_X9_isIn (p1.toInt64) 0 (((r4 - 1)).toInt64)) fun (r10 : Int32) =>
  zb r10 (some r10)
noncomputable def f_X9_away (y1_s : Nat → Int32) (p1 : Int32) (p2 : Int32) (p3 : Int32) : Option (Int32) :=
  ar 1 552 <|
  dv (y1_s (1 : Int32).toNatClampNeg) <|
  bv (p1 / (y1_s (1 : Int32).toNatClampNeg)) fun v4 =>
  ar 1 552 <|
  dv (y1_s (1 : Int32).toNatClampNeg) <|
  bv (p1 - p1 / (y1_s (1 : Int32).toNatClampNeg) * (y1_s (1 : Int32).toNatClampNeg)) fun v5 =>
  bv (fun (t41 : Int32) => ((
    bv (v4 + t41) fun v4_1 =>
    bv (fun (t66 : Int32) => ((
      bv (v5 + t66) fun v5_1 =>
      ar 0 552 <|
      bd1 (f_X9_isIn (v4_1.toInt64) 0 ((((y1_s (0 : Int32).toNatClampNeg) - 1)).toInt64)) fun (r82 : Int32) =>
      bv (fun (_ : Unit) => ((
        some (-1)
        ) : Option (Int32))) fun j122 =>
      (if r82 = 0 then (
        j122 ()
      ) else (
        ar 1 552 <|
        bd1 (f_X9_isIn (v5_1.toInt64) 0 ((((y1_s (1 : Int32).toNatClampNeg) - 1)).toInt64)) fun (r101 : Int32) =>
        (if r101 = 0 then (
          j122 ()
        ) else (
          ar 1 552 <|
          some (((y1_s (1 : Int32).toNatClampNeg) * v4_1) + v5_1)
        ))
      ))
      ) : Option (Int32))) fun j66 =>
    (if p2 = 1 then (
      j66 p3
    ) else (
      (if p2 = 3 then (
        j66 (-p3)
      ) else (
        j66 0
      ))
    ))
    ) : Option (Int32))) fun j41 =>
  (if p2 = 0 then (
    j41 (-p3)
  ) else (
    (if p2 = 2 then (
      j41 p3
    ) else (
      j41 0
    ))
  ))
noncomputable def f_X9_isLand (y1_s : Nat → Int32) (p1 : Int32) : Option (Int32) :=
  bv (fun (_ : Unit) => ((
    some 0
    ) : Option (Int32))) fun j22 =>
  (if p1 = (-1) then (
    j22 ()
  ) else (
    ar (8 + p1) 552 <|
    (if (y1_s (8 + p1).toNatClampNeg) = 1 then (
      some 1
    ) else (
      j22 ()
    ))
  ))
noncomputable def f_X9_riverAt (y1_s : Nat → Int32) (p1 : Int32) : Option (Int32) :=
  ar (152 + p1) 552 <|
  some ((y1_s (152 + p1).toNatClampNeg) - 1)
noncomputable def f_X9_isRiver (y1_s : Nat → Int32) (p1 : Int32) : Option (Int32) :=
  bv (fun (_ : Unit) => ((
    some 0
    ) : Option (Int32))) fun j22 =>
  (if p1 = (-1) then (
    j22 ()
  ) else (
    ar (152 + p1) 552 <|
    (if (y1_s (152 + p1).toNatClampNeg) ≤ 0 then (
      j22 ()
    ) else (
      some 1
    ))
  ))
noncomputable def f_X9_isCoast (y1_s : Nat → Int32) (p1 : Int32) : Option (Int32) :=
  bd1 (f_X9_isLand y1_s p1) fun (r2 : Int32) =>
  (if r2 = 0 then (
    some 0
  ) else (
    bv (fun (v2 : Int32) (v3 : Int32) => ((
      (if 4 ≤ v3 then (
        some (.inr v2)
      ) else (
        bv (fun (t42 : Int32) => ((
          bv (v3 + 1) fun v3_1 =>
          some (.inl (t42, v3_1))
          ) : Option ((Int32 × Int32) ⊕ (Int32)))) fun j42 =>
        bv (fun (_ : Unit) => ((
          j42 1
          ) : Option ((Int32 × Int32) ⊕ (Int32)))) fun j37 =>
        (if v2 = 0 then (
          bd1 (f_X9_away y1_s p1 v3 1) fun (r28 : Int32) =>
          bd1 (f_X9_isLand y1_s r28) fun (r31 : Int32) =>
          (if r31 = 0 then (
            j37 ()
          ) else (
            j42 0
          ))
        ) else (
          j37 ()
        ))
      ))
      ) : Option ((Int32 × Int32) ⊕ (Int32)))) fun l14 =>
    bd1 (lq2 l14 0 0) fun (v2_1 : Int32) =>
    zb v2_1 (some v2_1)
  ))
noncomputable def f_X9_depthOf (y1_s : Nat → Int32) (p1 : Int32) : Option (Int32) :=
  ar 1 552 <|
  dv (y1_s (1 : Int32).toNatClampNeg) <|
  bv (p1 / (y1_s (1 : Int32).toNatClampNeg)) fun v2 =>
  ar 1 552 <|
  dv (y1_s (1 : Int32).toNatClampNeg) <|
  bv (p1 - p1 / (y1_s (1 : Int32).toNatClampNeg) * (y1_s (1 : Int32).toNatClampNeg)) fun v3 =>
  ar 0 552 <|
  ar 1 552 <|
  bv (if (if ((y1_s (1 : Int32).toNatClampNeg) - v3) < (v3 + 1) then ((y1_s (1 : Int32).toNatClampNeg) - v3) else (v3 + 1)) < (if ((y1_s (0 : Int32).toNatClampNeg) - v2) < (v2 + 1) then ((y1_s (0 : Int32).toNatClampNeg) - v2) else (v2 + 1)) then (if ((y1_s (1 : Int32).toNatClampNeg) - v3) < (v3 + 1) then ((y1_s (1 : Int32).toNatClampNeg) - v3) else (v3 + 1)) else (if ((y1_s (0 : Int32).toNatClampNeg) - v2) < (v2 + 1) then ((y1_s (0 : Int32).toNatClampNeg) - v2) else (v2 + 1))) fun v4 =>
  bv (fun (v4_1 : Int32) (v5 : Int32) => ((
    bd1 (f_X9_cells y1_s) fun (r57 : Int32) =>
    (if r57 ≤ v5 then (
      some (.inr v4_1)
    ) else (
      bd1 (f_X9_isLand y1_s v5) fun (r66 : Int32) =>
      bv (fun (v4_3 : Int32) => ((
        bv (v5 + 1) fun v5_1 =>
        some (.inl (v4_3, v5_1))
        ) : Option ((Int32 × Int32) ⊕ (Int32)))) fun j108 =>
      (if r66 = 0 then (
        ar 1 552 <|
        dv (y1_s (1 : Int32).toNatClampNeg) <|
        ar 1 552 <|
        dv (y1_s (1 : Int32).toNatClampNeg) <|
        bv (if ((if 0 ≤ ((v5 / (y1_s (1 : Int32).toNatClampNeg)) - v2) then ((v5 / (y1_s (1 : Int32).toNatClampNeg)) - v2) else 0 - ((v5 / (y1_s (1 : Int32).toNatClampNeg)) - v2)) + (if 0 ≤ ((v5 - v5 / (y1_s (1 : Int32).toNatClampNeg) * (y1_s (1 : Int32).toNatClampNeg)) - v3) then ((v5 - v5 / (y1_s (1 : Int32).toNatClampNeg) * (y1_s (1 : Int32).toNatClampNeg)) - v3) else 0 - ((v5 - v5 / (y1_s (1 : Int32).toNatClampNeg) * (y1_s (1 : Int32).toNatClampNeg)) - v3))) < v4_1 then ((if 0 ≤ ((v5 / (y1_s (1 : Int32).toNatClampNeg)) - v2) then ((v5 / (y1_s (1 : Int32).toNatClampNeg)) - v2) else 0 - ((v5 / (y1_s (1 : Int32).toNatClampNeg)) - v2)) + (if 0 ≤ ((v5 - v5 / (y1_s (1 : Int32).toNatClampNeg) * (y1_s (1 : Int32).toNatClampNeg)) - v3) then ((v5 - v5 / (y1_s (1 : Int32).toNatClampNeg) * (y1_s (1 : Int32).toNatClampNeg)) - v3) else 0 - ((v5 - v5 / (y1_s (1 : Int32).toNatClampNeg) * (y1_s (1 : Int32).toNatClampNeg)) - v3))) else v4_1) fun v4_4 =>
        j108 v4_4
      ) else (
        j108 v4_1
      ))
    ))
    ) : Option ((Int32 × Int32) ⊕ (Int32)))) fun l54 =>
  bd1 (lq2 l54 v4 0) fun (v4_2 : Int32) =>
  some v4_2
noncomputable def f_X9_of (y1_s : Nat → Int32) (p1 : Int32) (p2 : Int32) : Option (Int32) :=
  ar ((440 + (12 * p1)) + p2) 552 <|
  some (y1_s ((440 + (12 * p1)) + p2).toNatClampNeg)
noncomputable def f_X9_puts (y1_s : Nat → Int32) (p1 : Int32) (p2 : Int32) (p3 : Int32) : Option ((Nat → Int32)) :=
  ar ((440 + (12 * p1)) + p2) 552 <| bv (upd y1_s ((440 + (12 * p1)) + p2).toNatClampNeg p3) fun y1_s_1 =>
  some y1_s_1
noncomputable def f_X9_isHarbour (y1_s : Nat → Int32) (p1 : Int32) : Option (Int32) :=
  ar 2 552 <|
  bd1 (f_X9_isIn (p1.toInt64) 0 ((((y1_s (2 : Int32).toNatClampNeg) - 1)).toInt64)) fun (r12 : Int32) =>
  zb r12 (some r12)
noncomputable def f_X9_isPlaced (y1_s : Nat → Int32) (p1 : Int32) : Option (Int32) :=
  bd1 (f_X9_of y1_s p1 2) fun (r3 : Int32) =>
  (if r3 = (-1) then (
    some 0
  ) else (
    some 1
  ))
noncomputable def f_X9_harbourAt (y1_s : Nat → Int32) (p1 : Int32) (p2 : Int32) : Option (Int32) :=
  bv (fun (v3 : Int32) => ((
    ar 2 552 <|
    (if (y1_s (2 : Int32).toNatClampNeg) ≤ v3 then (
      mr (some (-1))
    ) else (
      bv (fun (_ : Unit) => ((
        bv (v3 + 1) fun v3_1 =>
        some (.inl v3_1)
        ) : Option ((Int32) ⊕ (Int32)))) fun j29 =>
      (if v3 = p2 then (
        j29 ()
      ) else (
        bd1 (f_X9_of y1_s v3 0) fun (r20 : Int32) =>
        (if r20 = p1 then (
          mr (some v3)
        ) else (
          j29 ()
        ))
      ))
    ))
    ) : Option ((Int32) ⊕ (Int32)))) fun l2 =>
  lq1 l2 0
noncomputable def f_X9_letterIn (y1_s : Nat → Int32) (p1 : Int32) (p2 : Int32) (p3 : Int32) : Option (Int32) :=
  bv (fun (v4 : Int32) => ((
    bd1 (f_X9_of y1_s p1 3) fun (r8 : Int32) =>
    (if r8 ≤ v4 then (
      mr (some (-1))
    ) else (
      (if p3 = (-1) then (
        mr (some (-1))
      ) else (
        bd1 (f_X9_of y1_s p1 0) fun (r23 : Int32) =>
        bd1 (f_X9_away y1_s r23 p2 (v4 + 1)) fun (r31 : Int32) =>
        (if r31 = p3 then (
          mr (bd1 (f_X9_of y1_s p1 (4 + v4)) fun (r44 : Int32) =>
          some r44)
        ) else (
          bv (v4 + 1) fun v4_1 =>
          some (.inl v4_1)
        ))
      ))
    ))
    ) : Option ((Int32) ⊕ (Int32)))) fun l3 =>
  lq1 l3 0
noncomputable def f_X9_letterOf (y1_s : Nat → Int32) (p1 : Int32) (p2 : Int32) : Option (Int32) :=
  bd1 (f_X9_isPlaced y1_s p1) fun (r2 : Int32) =>
  (if r2 = 0 then (
    some (-1)
  ) else (
    bd1 (f_X9_of y1_s p1 2) fun (r13 : Int32) =>
    bd1 (f_X9_letterIn y1_s p1 r13 p2) fun (r17 : Int32) =>
    some r17
  ))
noncomputable def f_X9_namesIn (y1_s : Nat → Int32) (p1 : Int32) : Option (Int32) :=
  bv (fun (v2 : Int32) (v3 : Int32) => ((
    ar 2 552 <|
    (if (y1_s (2 : Int32).toNatClampNeg) ≤ v3 then (
      some (.inr v2)
    ) else (
      bd1 (f_X9_letterOf y1_s v3 p1) fun (r18 : Int32) =>
      bv (fun (t32 : Int32) => ((
        bv (v2 ||| t32) fun v2_2 =>
        bv (v3 + 1) fun v3_1 =>
        some (.inl (v2_2, v3_1))
        ) : Option ((Int32 × Int32) ⊕ (Int32)))) fun j32 =>
      (if r18 = (-1) then (
        j32 0
      ) else (
        j32 (1 <<< (v3 &&& 31))
      ))
    ))
    ) : Option ((Int32 × Int32) ⊕ (Int32)))) fun l4 =>
  bd1 (lq2 l4 0 0) fun (v2_1 : Int32) =>
  some v2_1
noncomputable def f_X9_letterAt (y1_s : Nat → Int32) (p1 : Int32) : Option (Int32) :=
  bv (fun (v2 : Int32) (v3 : Int32) => ((
    ar 2 552 <|
    (if (y1_s (2 : Int32).toNatClampNeg) ≤ v3 then (
      some (.inr v2)
    ) else (
      bd1 (f_X9_letterOf y1_s v3 p1) fun (r18 : Int32) =>
      bv (if v2 < r18 then r18 else v2) fun v2_2 =>
      bv (v3 + 1) fun v3_1 =>
      some (.inl (v2_2, v3_1))
    ))
    ) : Option ((Int32 × Int32) ⊕ (Int32)))) fun l4 =>
  bd1 (lq2 l4 (-1) 0) fun (v2_1 : Int32) =>
  some v2_1
noncomputable def f_X9_chartReason (y1_s : Nat → Int32) (p1 : Int32) (p2 : Int32) (p3 : Int32) : Option (Int32) :=
  bd1 (f_X9_of y1_s p1 0) fun (r3 : Int32) =>
  bd1 (f_X9_away y1_s r3 ((p2 + 2) - (p2 + 2) / 4 * 4) 1) fun (r18 : Int32) =>
  bd1 (f_X9_isLand y1_s r18) fun (r21 : Int32) =>
  (if r21 = 0 then (
    bv (fun (v5 : Int32) (v6 : Int32) => ((
      bd1 (f_X9_of y1_s p1 3) fun (r41 : Int32) =>
      (if r41 < v6 then (
        some (.inr v5)
      ) else (
        bd1 (f_X9_away y1_s r3 p2 v6) fun (r53 : Int32) =>
        bv (fun (t111 : Int32) => ((
          bv (if t111 < v5 then t111 else v5) fun v5_2 =>
          bv (v6 + 1) fun v6_1 =>
          some (.inl (v5_2, v6_1))
          ) : Option ((Int32 × Int32) ⊕ (Int32)))) fun j111 =>
        (if r53 = (-1) then (
          j111 2
        ) else (
          bd1 (f_X9_isLand y1_s r53) fun (r71 : Int32) =>
          (if r71 = 0 then (
            j111 3
          ) else (
            bd1 (f_X9_isRiver y1_s r53) fun (r84 : Int32) =>
            (if r84 = 0 then (
              bd1 (f_X9_harbourAt y1_s r53 p3) fun (r98 : Int32) =>
              (if r98 = (-1) then (
                j111 9
              ) else (
                j111 5
              ))
            ) else (
              j111 4
            ))
          ))
        ))
      ))
      ) : Option ((Int32 × Int32) ⊕ (Int32)))) fun l36 =>
    bd1 (lq2 l36 9 1) fun (v5_1 : Int32) =>
    (if v5_1 = 9 then (
      some 0
    ) else (
      some v5_1
    ))
  ) else (
    some 1
  ))
noncomputable def f_X9_areAgainst (y1_s : Nat → Int32) (p1 : Int32) (p2 : Int32) (p3 : Int32) (p4 : Int32) (p5 : Int32) (p6 : Int32) : Option (Int32) :=
  bv (fun (v7 : Int32) (v8 : Int32) => ((
    bd1 (f_X9_of y1_s p1 3) fun (r11 : Int32) =>
    (if r11 ≤ v8 then (
      some (.inr v7)
    ) else (
      bd1 (f_X9_of y1_s p1 0) fun (r26 : Int32) =>
      bd1 (f_X9_away y1_s r26 p2 (v8 + 1)) fun (r34 : Int32) =>
      bd1 (f_X9_letterIn y1_s p4 p5 r34) fun (r37 : Int32) =>
      bv (fun (t81 : Int32) => ((
        bv (v8 + 1) fun v8_1 =>
        some (.inl (t81, v8_1))
        ) : Option ((Int32 × Int32) ⊕ (Int32)))) fun j81 =>
      bv (fun (_ : Unit) => ((
        j81 1
        ) : Option ((Int32 × Int32) ⊕ (Int32)))) fun j76 =>
      (if v7 = 0 then (
        bv (fun (_ : Unit) => ((
          j81 0
          ) : Option ((Int32 × Int32) ⊕ (Int32)))) fun j80 =>
        (if r37 = (-1) then (
          j80 ()
        ) else (
          (if p3 = 0 then (
            (if p6 = 0 then (
              bd1 (f_X9_of y1_s p1 (4 + v8)) fun (r70 : Int32) =>
              (if r37 = r70 then (
                j80 ()
              ) else (
                j76 ()
              ))
            ) else (
              j76 ()
            ))
          ) else (
            j76 ()
          ))
        ))
      ) else (
        j76 ()
      ))
    ))
    ) : Option ((Int32 × Int32) ⊕ (Int32)))) fun l6 =>
  bd1 (lq2 l6 0 0) fun (v7_1 : Int32) =>
  zb v7_1 (some v7_1)
noncomputable def f_X9_isRed (y1_s : Nat → Int32) (p1 : Int32) : Option (Int32) :=
  bd1 (f_X9_of y1_s p1 1) fun (r3 : Int32) =>
  (if r3 = 1 then (
    some 1
  ) else (
    some 0
  ))
noncomputable def f_X9_reason (y1_s : Nat → Int32) (p1 : Int32) (p2 : Int32) : Option (Int32) :=
  bd1 (f_X9_chartReason y1_s p1 p2 (-1)) fun (r4 : Int32) =>
  bv (fun (v3 : Int32) (v4 : Int32) => ((
    ar 2 552 <|
    (if (y1_s (2 : Int32).toNatClampNeg) ≤ v4 then (
      some (.inr v3)
    ) else (
      (if v3 = 0 then (
        bv (fun (v3_2 : Int32) => ((
          bv (v4 + 1) fun v4_1 =>
          some (.inl (v3_2, v4_1))
          ) : Option ((Int32 × Int32) ⊕ (Int32)))) fun j73 =>
        (if v4 = p1 then (
          j73 v3
        ) else (
          bd1 (f_X9_isPlaced y1_s v4) fun (r35 : Int32) =>
          (if r35 = 0 then (
            j73 v3
          ) else (
            bd1 (f_X9_isRed y1_s p1) fun (r46 : Int32) =>
            bd1 (f_X9_of y1_s v4 2) fun (r55 : Int32) =>
            bd1 (f_X9_isRed y1_s v4) fun (r61 : Int32) =>
            bd1 (f_X9_areAgainst y1_s p1 p2 r46 v4 r55 r61) fun (r64 : Int32) =>
            (if r64 = 0 then (
              j73 v3
            ) else (
              j73 6
            ))
          ))
        ))
      ) else (
        some (.inr v3)
      ))
    ))
    ) : Option ((Int32 × Int32) ⊕ (Int32)))) fun l11 =>
  bd1 (lq2 l11 r4 0) fun (v3_1 : Int32) =>
  some v3_1
noncomputable def f_X9_doCross (y1_s : Nat → Int32) (p1 : Int32) (p2 : Int32) : Option (Int32) :=
  bv (fun (v3 : Int32) (v4 : Int32) => ((
    bd1 (f_X9_of y1_s p1 3) fun (r10 : Int32) =>
    (if r10 ≤ v4 then (
      some (.inr v3)
    ) else (
      bd1 (f_X9_isPlaced y1_s p1) fun (r18 : Int32) =>
      (if r18 = 0 then (
        some (.inr v3)
      ) else (
        bv (fun (t62 : Int32) => ((
          bv (v4 + 1) fun v4_1 =>
          some (.inl (t62, v4_1))
          ) : Option ((Int32 × Int32) ⊕ (Int32)))) fun j62 =>
        bv (fun (_ : Unit) => ((
          j62 1
          ) : Option ((Int32 × Int32) ⊕ (Int32)))) fun j57 =>
        (if v3 = 0 then (
          bd1 (f_X9_of y1_s p1 0) fun (r34 : Int32) =>
          bd1 (f_X9_of y1_s p1 2) fun (r40 : Int32) =>
          bd1 (f_X9_away y1_s r34 r40 (v4 + 1)) fun (r47 : Int32) =>
          bd1 (f_X9_letterOf y1_s p2 r47) fun (r50 : Int32) =>
          (if r50 = (-1) then (
            j62 0
          ) else (
            j57 ()
          ))
        ) else (
          j57 ()
        ))
      ))
    ))
    ) : Option ((Int32 × Int32) ⊕ (Int32)))) fun l5 =>
  bd1 (lq2 l5 0 0) fun (v3_1 : Int32) =>
  zb v3_1 (some v3_1)
noncomputable def f_X9_crossedBy (y1_s : Nat → Int32) (p1 : Int32) : Option (Int32) :=
  bv (fun (v2 : Int32) (v3 : Int32) => ((
    ar 2 552 <|
    (if (y1_s (2 : Int32).toNatClampNeg) ≤ v3 then (
      some (.inr v2)
    ) else (
      bv (fun (t36 : Int32) => ((
        bv (v2 ||| t36) fun v2_2 =>
        bv (v3 + 1) fun v3_1 =>
        some (.inl (v2_2, v3_1))
        ) : Option ((Int32 × Int32) ⊕ (Int32)))) fun j36 =>
      bv (fun (_ : Unit) => ((
        j36 0
        ) : Option ((Int32 × Int32) ⊕ (Int32)))) fun j35 =>
      (if v3 = p1 then (
        j35 ()
      ) else (
        bd1 (f_X9_doCross y1_s p1 v3) fun (r23 : Int32) =>
        (if r23 = 0 then (
          j35 ()
        ) else (
          j36 (1 <<< (v3 &&& 31))
        ))
      ))
    ))
    ) : Option ((Int32 × Int32) ⊕ (Int32)))) fun l4 =>
  bd1 (lq2 l4 0 0) fun (v2_1 : Int32) =>
  some v2_1
noncomputable def f_X9_lifts (y1_s : Nat → Int32) (p1 : Int32) : Option (Int32 × (Nat → Int32)) :=
  bv (fun (v2 : Int32) (y1_s_1 : Nat → Int32) => ((
    ar 2 552 <|
    (if (y1_s_1 (2 : Int32).toNatClampNeg) ≤ v2 then (
      some (.inr y1_s_1)
    ) else (
      bv (fun (y1_s_3 : Nat → Int32) => ((
        bv (v2 + 1) fun v2_1 =>
        some (.inl (v2_1, y1_s_3))
        ) : Option ((Int32 × (Nat → Int32)) ⊕ ((Nat → Int32))))) fun j28 =>
      (if ((p1 >>> (v2 &&& 31)) &&& 1) = 1 then (
        bd1 (f_X9_puts y1_s_1 v2 2 (-1)) fun (y1_s_4 : Nat → Int32) =>
        j28 y1_s_4
      ) else (
        j28 y1_s_1
      ))
    ))
    ) : Option ((Int32 × (Nat → Int32)) ⊕ ((Nat → Int32))))) fun l2 =>
  bd1 (lq2 l2 0 y1_s) fun (y1_s_2 : Nat → Int32) =>
  bd1 (f_X9_ones p1) fun (r35 : Int32) =>
  some (r35, y1_s_2)
noncomputable def f_X9_canBegin (y1_s : Nat → Int32) (p1 : Int32) : Option (Int32) :=
  bd1 (f_X9_isLand y1_s p1) fun (r2 : Int32) =>
  bv (fun (_ : Unit) => ((
    some 0
    ) : Option (Int32))) fun j30 =>
  (if r2 = 0 then (
    j30 ()
  ) else (
    bd1 (f_X9_isRiver y1_s p1) fun (r10 : Int32) =>
    (if r10 = 0 then (
      bd1 (f_X9_harbourAt y1_s p1 (-1)) fun (r19 : Int32) =>
      (if r19 = (-1) then (
        some 1
      ) else (
        j30 ()
      ))
    ) else (
      j30 ()
    ))
  ))
noncomputable def f_X9_isEnd (y1_s : Nat → Int32) (p1 : Int32) : Option (Int32) :=
  bd1 (f_X9_isCoast y1_s p1) fun (r2 : Int32) =>
  bv (fun (v2 : Int32) (v3 : Int32) => ((
    (if 4 ≤ v3 then (
      some (.inr v2)
    ) else (
      bv (fun (t36 : Int32) => ((
        bv (v3 + 1) fun v3_1 =>
        some (.inl (t36, v3_1))
        ) : Option ((Int32 × Int32) ⊕ (Int32)))) fun j36 =>
      bv (fun (_ : Unit) => ((
        j36 1
        ) : Option ((Int32 × Int32) ⊕ (Int32)))) fun j31 =>
      (if v2 = 0 then (
        bd1 (f_X9_away y1_s p1 v3 1) fun (r22 : Int32) =>
        bd1 (f_X9_isRiver y1_s r22) fun (r25 : Int32) =>
        (if r25 = 0 then (
          j36 0
        ) else (
          j31 ()
        ))
      ) else (
        j31 ()
      ))
    ))
    ) : Option ((Int32 × Int32) ⊕ (Int32)))) fun l8 =>
  bd1 (lq2 l8 r2 0) fun (v2_1 : Int32) =>
  zb v2_1 (some v2_1)
noncomputable def f_X9_costOf (y1_s : Nat → Int32) (p1 : Int32) : Option (Int32) :=
  bd1 (f_X9_namesIn y1_s p1) fun (r2 : Int32) =>
  (if r2 = 0 then (
    some 1
  ) else (
    some 11
  ))
noncomputable def f_X9_laysSums (y1_s : Nat → Int32) (y2_sums : Nat → Int32)  : Option ((Nat → Int32)) :=
  bv (fun (v1 : Int32) (y2_sums_1 : Nat → Int32) => ((
    bd1 (f_X9_cells y1_s) fun (r4 : Int32) =>
    (if r4 ≤ v1 then (
      some (.inr y2_sums_1)
    ) else (
      bd1 (f_X9_canBegin y1_s v1) fun (r17 : Int32) =>
      bv (fun (t41 : Int32) => ((
        ar v1 144 <| bv (upd y2_sums_1 v1.toNatClampNeg t41) fun y2_sums_3 =>
        bv (v1 + 1) fun v1_1 =>
        some (.inl (v1_1, y2_sums_3))
        ) : Option ((Int32 × (Nat → Int32)) ⊕ ((Nat → Int32))))) fun j41 =>
      bv (fun (_ : Unit) => ((
        j41 1000000
        ) : Option ((Int32 × (Nat → Int32)) ⊕ ((Nat → Int32))))) fun j39 =>
      (if r17 = 0 then (
        j39 ()
      ) else (
        bd1 (f_X9_isEnd y1_s v1) fun (r25 : Int32) =>
        (if r25 = 0 then (
          j39 ()
        ) else (
          bd1 (f_X9_costOf y1_s v1) fun (r33 : Int32) =>
          j41 r33
        ))
      ))
    ))
    ) : Option ((Int32 × (Nat → Int32)) ⊕ ((Nat → Int32))))) fun l2 =>
  bd1 (lq2 l2 0 y2_sums) fun (y2_sums_2 : Nat → Int32) =>
  bv (fun (v1_2 : Int32) (y2_sums_4 : Nat → Int32) => ((
    (if v1_2 = 0 then (
      some (.inr y2_sums_4)
    ) else (
      bv (fun (v1_3 : Int32) (v2 : Int32) (y2_sums_6 : Nat → Int32) => ((
        bd1 (f_X9_cells y1_s) fun (r60 : Int32) =>
        (if r60 ≤ v2 then (
          some (.inr (v1_3, y2_sums_6))
        ) else (
          bd1 (f_X9_canBegin y1_s v2) fun (r68 : Int32) =>
          bv (fun (v1_5 : Int32) (y2_sums_8 : Nat → Int32) => ((
            bv (v2 + 1) fun v2_1 =>
            some (.inl (v1_5, v2_1, y2_sums_8))
            ) : Option ((Int32 × Int32 × (Nat → Int32)) ⊕ (Int32 × (Nat → Int32))))) fun j193 =>
          (if r68 = 0 then (
            j193 v1_3 y2_sums_6
          ) else (
            bd1 (f_X9_isEnd y1_s v2) fun (r76 : Int32) =>
            (if r76 = 0 then (
              bv (fun (v3 : Int32) (v4 : Int32) => ((
                (if 4 ≤ v4 then (
                  some (.inr v3)
                ) else (
                  bd1 (f_X9_away y1_s v2 v4 1) fun (r102 : Int32) =>
                  bv (fun (t128 : Int32) => ((
                    bv (v4 + 1) fun v4_1 =>
                    some (.inl (t128, v4_1))
                    ) : Option ((Int32 × Int32) ⊕ (Int32)))) fun j128 =>
                  (if r102 = (-1) then (
                    j128 v3
                  ) else (
                    ar r102 144 <|
                    j128 (if (y2_sums_6 r102.toNatClampNeg) < v3 then (y2_sums_6 r102.toNatClampNeg) else v3)
                  ))
                ))
                ) : Option ((Int32 × Int32) ⊕ (Int32)))) fun l91 =>
              bd1 (lq2 l91 1000000 0) fun (v3_1 : Int32) =>
              bv (fun (t153 : Int32) => ((
                bv (fun (t175 : Int32) => ((
                  ar v2 144 <|
                  ar v2 144 <| bv (upd y2_sums_6 v2.toNatClampNeg (if (y2_sums_6 v2.toNatClampNeg) < t153 then (y2_sums_6 v2.toNatClampNeg) else t153)) fun y2_sums_9 =>
                  j193 t175 y2_sums_9
                  ) : Option ((Int32 × Int32 × (Nat → Int32)) ⊕ (Int32 × (Nat → Int32))))) fun j175 =>
                bv (fun (_ : Unit) => ((
                  j175 1
                  ) : Option ((Int32 × Int32 × (Nat → Int32)) ⊕ (Int32 × (Nat → Int32))))) fun j170 =>
                (if v1_3 = 0 then (
                  ar v2 144 <|
                  (if (y2_sums_6 v2.toNatClampNeg) ≤ t153 then (
                    j175 0
                  ) else (
                    j170 ()
                  ))
                ) else (
                  j170 ()
                ))
                ) : Option ((Int32 × Int32 × (Nat → Int32)) ⊕ (Int32 × (Nat → Int32))))) fun j153 =>
              (if v3_1 = 1000000 then (
                j153 1000000
              ) else (
                bd1 (f_X9_costOf y1_s v2) fun (r149 : Int32) =>
                j153 (v3_1 + r149)
              ))
            ) else (
              j193 v1_3 y2_sums_6
            ))
          ))
        ))
        ) : Option ((Int32 × Int32 × (Nat → Int32)) ⊕ (Int32 × (Nat → Int32))))) fun l58 =>
      bd2 (lq3 l58 0 0 y2_sums_4) fun (v1_4 : Int32) (y2_sums_7 : Nat → Int32) =>
      some (.inl (v1_4, y2_sums_7))
    ))
    ) : Option ((Int32 × (Nat → Int32)) ⊕ ((Nat → Int32))))) fun l50 =>
  bd1 (lq2 l50 1 y2_sums_2) fun (y2_sums_5 : Nat → Int32) =>
  some y2_sums_5
noncomputable def f_X9_stepFrom (y1_s : Nat → Int32) (y2_sums : Nat → Int32) (p1 : Int32) : Option (Int32) :=
  ar p1 144 <|
  bd1 (f_X9_costOf y1_s p1) fun (r8 : Int32) =>
  bv ((y2_sums p1.toNatClampNeg) - r8) fun v2 =>
  bv (fun (v3 : Int32) => ((
    (if 4 ≤ v3 then (
      mr (some (-1))
    ) else (
      bd1 (f_X9_away y1_s p1 v3 1) fun (r24 : Int32) =>
      bv (fun (_ : Unit) => ((
        bv (v3 + 1) fun v3_1 =>
        some (.inl v3_1)
        ) : Option ((Int32) ⊕ (Int32)))) fun j49 =>
      (if r24 = (-1) then (
        j49 ()
      ) else (
        ar r24 144 <|
        (if (y2_sums r24.toNatClampNeg) = v2 then (
          mr (some r24)
        ) else (
          j49 ()
        ))
      ))
    ))
    ) : Option ((Int32) ⊕ (Int32)))) fun l15 =>
  lq1 l15 0
noncomputable def f_X9_laysFlow (x0_flowLong : Int32) (y1_flow : Nat → Int32) (y2_s : Nat → Int32) (y3_sums : Nat → Int32) (p1 : Int32) : Option (Int32 × Int32 × (Nat → Int32)) :=
  ar p1 144 <|
  (if (y3_sums p1.toNatClampNeg) = 1000000 then (
    some (0, 0, y1_flow)
  ) else (
    bv (fun (v2 : Int32) (x0_flowLong_1 : Int32) (y1_flow_1 : Nat → Int32) => ((
      (if v2 = (-1) then (
        some (.inr (x0_flowLong_1, y1_flow_1))
      ) else (
        ar x0_flowLong_1 144 <| bv (upd y1_flow_1 x0_flowLong_1.toNatClampNeg v2) fun y1_flow_3 =>
        bv (x0_flowLong_1 + 1) fun x0_flowLong_3 =>
        bd1 (f_X9_isEnd y2_s v2) fun (r47 : Int32) =>
        bv (fun (t62 : Int32) => ((
          some (.inl (t62, x0_flowLong_3, y1_flow_3))
          ) : Option ((Int32 × Int32 × (Nat → Int32)) ⊕ (Int32 × (Nat → Int32))))) fun j62 =>
        (if r47 = 0 then (
          bd1 (f_X9_stepFrom y2_s y3_sums v2) fun (r59 : Int32) =>
          j62 r59
        ) else (
          j62 (-1)
        ))
      ))
      ) : Option ((Int32 × Int32 × (Nat → Int32)) ⊕ (Int32 × (Nat → Int32))))) fun l20 =>
    bd2 (lq3 l20 p1 0 y1_flow) fun (x0_flowLong_2 : Int32) (y1_flow_2 : Nat → Int32) =>
    some (1, x0_flowLong_2, y1_flow_2)
  ))
noncomputable def f_X9_findsFlow (x0_flowLong : Int32) (y1_flow : Nat → Int32) (y2_s : Nat → Int32) (y3_sums : Nat → Int32) (p1 : Int32) : Option (Int32 × Int32 × (Nat → Int32) × (Nat → Int32)) :=
  bd1 (f_X9_laysSums y2_s y3_sums) fun (y3_sums_1 : Nat → Int32) =>
  bd3 (f_X9_laysFlow x0_flowLong y1_flow y2_s y3_sums_1 p1) fun (r6 : Int32) (x0_flowLong_1 : Int32) (y1_flow_1 : Nat → Int32) =>
  zb r6 (some (r6, x0_flowLong_1, y1_flow_1, y3_sums_1))
noncomputable def f_X9_washedBy (x0_flowLong : Int32) (y1_flow : Nat → Int32) (y2_s : Nat → Int32)  : Option (Int32) :=
  bv (fun (v1 : Int32) (v2 : Int32) => ((
    (if x0_flowLong ≤ v2 then (
      some (.inr v1)
    ) else (
      ar v2 144 <|
      bd1 (f_X9_namesIn y2_s (y1_flow v2.toNatClampNeg)) fun (r20 : Int32) =>
      bv (v1 ||| r20) fun v1_2 =>
      bv (v2 + 1) fun v2_1 =>
      some (.inl (v1_2, v2_1))
    ))
    ) : Option ((Int32 × Int32) ⊕ (Int32)))) fun l4 =>
  bd1 (lq2 l4 0 0) fun (v1_1 : Int32) =>
  some v1_1
noncomputable def f_X9_flows (x0_flowLong : Int32) (y1_flow : Nat → Int32) (y2_s : Nat → Int32)  : Option ((Nat → Int32)) :=
  bd1 (f_X9_washedBy x0_flowLong y1_flow y2_s) fun (r2 : Int32) =>
  bd2 (f_X9_lifts y2_s r2) fun (r5 : Int32) (y2_s_1 : Nat → Int32) =>
  ar 3 552 <|
  ar 3 552 <| bv (upd y2_s_1 (3 : Int32).toNatClampNeg ((y2_s_1 (3 : Int32).toNatClampNeg) + 1)) fun y2_s_2 =>
  bv (fun (v2 : Int32) (y2_s_3 : Nat → Int32) => ((
    (if x0_flowLong ≤ v2 then (
      some (.inr y2_s_3)
    ) else (
      ar v2 144 <|
      ar 3 552 <|
      ar (152 + (y1_flow v2.toNatClampNeg)) 552 <| bv (upd y2_s_3 (152 + (y1_flow v2.toNatClampNeg)).toNatClampNeg (y2_s_3 (3 : Int32).toNatClampNeg)) fun y2_s_5 =>
      ar v2 144 <|
      ar (296 + (y1_flow v2.toNatClampNeg)) 552 <| bv (upd y2_s_5 (296 + (y1_flow v2.toNatClampNeg)).toNatClampNeg v2) fun y2_s_6 =>
      bv (v2 + 1) fun v2_1 =>
      some (.inl (v2_1, y2_s_6))
    ))
    ) : Option ((Int32 × (Nat → Int32)) ⊕ ((Nat → Int32))))) fun l21 =>
  bd1 (lq2 l21 0 y2_s_2) fun (y2_s_4 : Nat → Int32) =>
  some y2_s_4
noncomputable def f_X9_quarters  (p0 : Int32) (p1 : Int32) : Option (Int32) :=
  bv (if 0 ≤ (p0 - p1) then (p0 - p1) else 0 - (p0 - p1)) fun v2 =>
  some (if (4 - v2) < v2 then (4 - v2) else v2)
noncomputable def f_X9_uprightBy  (p0 : Int32) : Option (Int32) :=
  some ((p0 + 3) - (p0 + 3) / 4 * 4)
noncomputable def f_X9_turningBy (y1_s : Nat → Int32) (y2_ways : Nat → Int32) (p1 : Int32) : Option (Int32) :=
  bv (fun (v2 : Int32) (v3 : Int32) (v4 : Int32) => ((
    ar 4 552 <|
    (if (y1_s (4 : Int32).toNatClampNeg) ≤ v4 then (
      some (.inr v3)
    ) else (
      ar (536 + v4) 552 <|
      ar (y1_s (536 + v4).toNatClampNeg) 8 <|
      bv (y2_ways (y1_s (536 + v4).toNatClampNeg).toNatClampNeg) fun v5 =>
      bv (fun (v2_1 : Int32) (v3_2 : Int32) => ((
        bv (v4 + 1) fun v4_1 =>
        some (.inl (v2_1, v3_2, v4_1))
        ) : Option ((Int32 × Int32 × Int32) ⊕ (Int32)))) fun j60 =>
      (if v5 = (-1) then (
        j60 v2 v3
      ) else (
        bd1 (f_X9_uprightBy v5) fun (r46 : Int32) =>
        bd1 (f_X9_quarters v2 r46) fun (r49 : Int32) =>
        bv (v3 + r49) fun v3_3 =>
        bd1 (f_X9_uprightBy v5) fun (r56 : Int32) =>
        j60 r56 v3_3
      ))
    ))
    ) : Option ((Int32 × Int32 × Int32) ⊕ (Int32)))) fun l7 =>
  bd1 (lq3 l7 p1 0 0) fun (v3_1 : Int32) =>
  some v3_1
noncomputable def f_X9_turningNow (y1_s : Nat → Int32) (y2_ways : Nat → Int32) (p1 : Int32) : Option (Int32 × (Nat → Int32)) :=
  bv (fun (v2 : Int32) (y2_ways_1 : Nat → Int32) => ((
    ar 2 552 <|
    (if (y1_s (2 : Int32).toNatClampNeg) ≤ v2 then (
      some (.inr y2_ways_1)
    ) else (
      bd1 (f_X9_of y1_s v2 2) fun (r20 : Int32) =>
      ar v2 8 <| bv (upd y2_ways_1 v2.toNatClampNeg r20) fun y2_ways_3 =>
      bv (v2 + 1) fun v2_1 =>
      some (.inl (v2_1, y2_ways_3))
    ))
    ) : Option ((Int32 × (Nat → Int32)) ⊕ ((Nat → Int32))))) fun l2 =>
  bd1 (lq2 l2 0 y2_ways) fun (y2_ways_2 : Nat → Int32) =>
  bd1 (f_X9_turningBy y1_s y2_ways_2 p1) fun (r32 : Int32) =>
  some (r32, y2_ways_2)
noncomputable def f_X9_laysPairs (y1_against : Nat → Int32) (y2_may : Nat → Int32) (y3_redThen : Nat → Int32) (y4_s : Nat → Int32) (p1 : Int32) : Option ((Nat → Int32) × (Nat → Int32)) :=
  ar 2 552 <|
  bv (y4_s (2 : Int32).toNatClampNeg) fun v2 =>
  bv (fun (v3 : Int32) (y2_may_1 : Nat → Int32) => ((
    (if (v2 * 4) ≤ v3 then (
      some (.inr y2_may_1)
    ) else (
      bv (fun (t47 : Int32) => ((
        ar v3 32 <| bv (upd y2_may_1 v3.toNatClampNeg (vp_nar .boolean t47)) fun y2_may_3 =>
        bv (v3 + 1) fun v3_1 =>
        some (.inl (v3_1, y2_may_3))
        ) : Option ((Int32 × (Nat → Int32)) ⊕ ((Nat → Int32))))) fun j47 =>
      bv (fun (_ : Unit) => ((
        j47 0
        ) : Option ((Int32 × (Nat → Int32)) ⊕ ((Nat → Int32))))) fun j46 =>
      (if (v3 / 4) = p1 then (
        j46 ()
      ) else (
        bd1 (f_X9_chartReason y4_s (v3 / 4) (v3 - v3 / 4 * 4) p1) fun (r36 : Int32) =>
        (if r36 = 0 then (
          j47 1
        ) else (
          j46 ()
        ))
      ))
    ))
    ) : Option ((Int32 × (Nat → Int32)) ⊕ ((Nat → Int32))))) fun l9 =>
  bd1 (lq2 l9 0 y2_may) fun (y2_may_2 : Nat → Int32) =>
  bv (fun (v3_2 : Int32) (y1_against_1 : Nat → Int32) => ((
    (if (v2 * 4) ≤ v3_2 then (
      some (.inr y1_against_1)
    ) else (
      bv (fun (v4 : Int32) (y1_against_3 : Nat → Int32) => ((
        (if (v2 * 4) ≤ v4 then (
          some (.inr y1_against_3)
        ) else (
          ar v3_2 32 <|
          bv (fun (t108 : Int32) => ((
            bv (fun (t169 : Int32) => ((
              ar ((32 * v3_2) + v4) 1024 <| bv (upd y1_against_3 ((32 * v3_2) + v4).toNatClampNeg (vp_nar .boolean t169)) fun y1_against_5 =>
              bv (v4 + 1) fun v4_1 =>
              some (.inl (v4_1, y1_against_5))
              ) : Option ((Int32 × (Nat → Int32)) ⊕ ((Nat → Int32))))) fun j169 =>
            bv (fun (_ : Unit) => ((
              j169 0
              ) : Option ((Int32 × (Nat → Int32)) ⊕ ((Nat → Int32))))) fun j168 =>
            (if t108 = 0 then (
              j168 ()
            ) else (
              ar (v3_2 / 4) 8 <|
              ar (v4 / 4) 8 <|
              bd1 (f_X9_areAgainst y4_s (v3_2 / 4) (v3_2 - v3_2 / 4 * 4) (y3_redThen (v3_2 / 4).toNatClampNeg) (v4 / 4) (v4 - v4 / 4 * 4) (y3_redThen (v4 / 4).toNatClampNeg)) fun (r158 : Int32) =>
              (if r158 = 0 then (
                j168 ()
              ) else (
                j169 1
              ))
            ))
            ) : Option ((Int32 × (Nat → Int32)) ⊕ ((Nat → Int32))))) fun j108 =>
          bv (fun (_ : Unit) => ((
            j108 0
            ) : Option ((Int32 × (Nat → Int32)) ⊕ ((Nat → Int32))))) fun j107 =>
          (if (y2_may_2 v3_2.toNatClampNeg) = 0 then (
            j107 ()
          ) else (
            ar v4 32 <|
            (if (y2_may_2 v4.toNatClampNeg) = 0 then (
              j107 ()
            ) else (
              (if (v3_2 / 4) = (v4 / 4) then (
                j107 ()
              ) else (
                j108 1
              ))
            ))
          ))
        ))
        ) : Option ((Int32 × (Nat → Int32)) ⊕ ((Nat → Int32))))) fun l66 =>
      bd1 (lq2 l66 0 y1_against_1) fun (y1_against_4 : Nat → Int32) =>
      bv (v3_2 + 1) fun v3_3 =>
      some (.inl (v3_3, y1_against_4))
    ))
    ) : Option ((Int32 × (Nat → Int32)) ⊕ ((Nat → Int32))))) fun l56 =>
  bd1 (lq2 l56 0 y1_against) fun (y1_against_2 : Nat → Int32) =>
  some (y1_against_2, y2_may_2)
noncomputable def f_X9_canLie (y1_against : Nat → Int32) (y2_may : Nat → Int32) (y3_ways : Nat → Int32) (p1 : Int32) (p2 : Int32) : Option (Int32) :=
  ar ((4 * p1) + p2) 32 <|
  bv (y2_may ((4 * p1) + p2).toNatClampNeg) fun v3 =>
  bv (fun (v3_1 : Int32) (v4 : Int32) => ((
    (if p1 ≤ v4 then (
      some (.inr v3_1)
    ) else (
      (if v3_1 = 0 then (
        some (.inr v3_1)
      ) else (
        ar v4 8 <|
        bv (fun (t69 : Int32) => ((
          bv (v4 + 1) fun v4_1 =>
          some (.inl (t69, v4_1))
          ) : Option ((Int32 × Int32) ⊕ (Int32)))) fun j69 =>
        bv (fun (_ : Unit) => ((
          j69 1
          ) : Option ((Int32 × Int32) ⊕ (Int32)))) fun j64 =>
        (if (y3_ways v4.toNatClampNeg) = (-1) then (
          j64 ()
        ) else (
          ar v4 8 <|
          ar (((32 * ((4 * p1) + p2)) + (4 * v4)) + (y3_ways v4.toNatClampNeg)) 1024 <|
          (if (y1_against (((32 * ((4 * p1) + p2)) + (4 * v4)) + (y3_ways v4.toNatClampNeg)).toNatClampNeg) = 0 then (
            j64 ()
          ) else (
            j69 0
          ))
        ))
      ))
    ))
    ) : Option ((Int32 × Int32) ⊕ (Int32)))) fun l14 =>
  bd1 (lq2 l14 v3 0) fun (v3_2 : Int32) =>
  zb v3_2 (some v3_2)
noncomputable def f_X9_weighs (x0_bestReds : Int32) (x0_bestPlaced : Int32) (x0_bestTurning : Int32) (y1_best : Nat → Int32) (y2_s : Nat → Int32) (y3_ways : Nat → Int32) (p1 : Int32) (p2 : Int32) : Option (Int32 × Int32 × Int32 × (Nat → Int32)) :=
  (if p2 < x0_bestReds then (
    some (x0_bestReds, x0_bestPlaced, x0_bestTurning, y1_best)
  ) else (
    bv (fun (_ : Unit) => ((
      ar 5 552 <|
      bd1 (f_X9_turningBy y2_s y3_ways (y2_s (5 : Int32).toNatClampNeg)) fun (r32 : Int32) =>
      bv (fun (_ : Unit) => ((
        bv (fun (v4 : Int32) (y1_best_1 : Nat → Int32) => ((
          ar 2 552 <|
          (if (y2_s (2 : Int32).toNatClampNeg) ≤ v4 then (
            some (.inr y1_best_1)
          ) else (
            ar v4 8 <|
            ar v4 8 <| bv (upd y1_best_1 v4.toNatClampNeg (y3_ways v4.toNatClampNeg)) fun y1_best_3 =>
            bv (v4 + 1) fun v4_1 =>
            some (.inl (v4_1, y1_best_3))
          ))
          ) : Option ((Int32 × (Nat → Int32)) ⊕ ((Nat → Int32))))) fun l79 =>
        bd1 (lq2 l79 0 y1_best) fun (y1_best_2 : Nat → Int32) =>
        some (p2, p1, r32, y1_best_2)
        ) : Option (Int32 × Int32 × Int32 × (Nat → Int32)))) fun j61 =>
      (if p2 = x0_bestReds then (
        (if p1 = x0_bestPlaced then (
          (if r32 < x0_bestTurning then (
            j61 ()
          ) else (
            some (x0_bestReds, x0_bestPlaced, x0_bestTurning, y1_best)
          ))
        ) else (
          j61 ()
        ))
      ) else (
        j61 ()
      ))
      ) : Option (Int32 × Int32 × Int32 × (Nat → Int32)))) fun j25 =>
    (if p2 = x0_bestReds then (
      (if x0_bestPlaced ≤ p1 then (
        j25 ()
      ) else (
        some (x0_bestReds, x0_bestPlaced, x0_bestTurning, y1_best)
      ))
    ) else (
      j25 ()
    ))
  ))
