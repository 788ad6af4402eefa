noncomputable def rJ (v2 : Int32) (x0_statement_3 : Int32) (x0_length : Int32) (x0_numberStart_2 : Int32) (x0_number_2 : Int32) (x0_cell_1 : Int32) (y3_text : Nat → Int32) (x4_rows_1 : Int32) (x4_columns_1 : Int32) (x4_rivers_2 : Int32) (x5_count_2 : Int32) (y12_land_2 : Nat → Int32) (x0_voyageTold_1 : Int32) (x2_length_1 : Int32) (x5_reds_2 : Int32) (x6_count_2 : Int32) (x6_turn_2 : Int32) (y7_letterOn_2 : Nat → Int32) (y8_namesOn_2 : Nat → Int32) (y9_costs_1 : Nat → Int32) (y10_sums_1 : Nat → Int32) (y11_way_1 : Nat → Int32) (y13_riverOf_2 : Nat → Int32) (y14_riverPlace_2 : Nat → Int32) (y15_direction_1 : Nat → Int32) (y16_home_1 : Nat → Int32) (y17_length_1 : Nat → Int32) (y18_letters_1 : Nat → Int32) (y19_stops_1 : Nat → Int32) :=
  fun (x0_at_6 : Int32) (x0_wordStart_4 : Int32) (x0_wordLength_4 : Int32) (x0_error_5 : Int32) (x0_errorAt_5 : Int32) (t69 : Int32) => ((
            bv (fun (v1_2 : Int32) (x0_at_7 : Int32) (x0_voyageTold_3 : Int32) (x0_wordStart_5 : Int32) (x0_wordLength_5 : Int32) (x0_numberStart_4 : Int32) (x0_number_4 : Int32) (x0_cell_3 : Int32) (x0_error_6 : Int32) (x0_errorAt_6 : Int32) (x2_length_3 : Int32) (x4_rivers_4 : Int32) (x5_count_4 : Int32) (x5_reds_4 : Int32) (x6_count_4 : Int32) (x6_turn_4 : Int32) (y7_letterOn_4 : Nat → Int32) (y8_namesOn_4 : Nat → Int32) (y9_costs_3 : Nat → Int32) (y10_sums_3 : Nat → Int32) (y11_way_3 : Nat → Int32) (y12_land_4 : Nat → Int32) (y13_riverOf_4 : Nat → Int32) (y14_riverPlace_4 : Nat → Int32) (y15_direction_3 : Nat → Int32) (y16_home_3 : Nat → Int32) (y17_length_3 : Nat → Int32) (y18_letters_3 : Nat → Int32) (y19_stops_3 : Nat → Int32) => ((
              bv (v2 + 1) fun v2_1 =>
              some (.inl (v1_2, v2_1, x0_at_7, x0_voyageTold_3, x0_wordStart_5, x0_wordLength_5, x0_numberStart_4, x0_number_4, x0_cell_3, x0_statement_3, x0_error_6, x0_errorAt_6, x2_length_3, x4_rivers_4, x5_count_4, x5_reds_4, x6_count_4, x6_turn_4, y7_letterOn_4, y8_namesOn_4, y9_costs_3, y10_sums_3, y11_way_3, y12_land_4, y13_riverOf_4, y14_riverPlace_4, y15_direction_3, y16_home_3, y17_length_3, y18_letters_3, y19_stops_3))
              ) : Option ((Int32 × Int32 × Int32 × Int32 × Int32 × Int32 × Int32 × Int32 × Int32 × Int32 × Int32 × Int32 × Int32 × Int32 × Int32 × Int32 × Int32 × Int32 × (Nat → Int32) × (Nat → Int32) × (Nat → Int32) × (Nat → Int32) × (Nat → Int32) × (Nat → Int32) × (Nat → Int32) × (Nat → Int32) × (Nat → Int32) × (Nat → Int32) × (Nat → Int32) × (Nat → Int32) × (Nat → Int32)) ⊕ (Int32 × Int32 × Int32 × Int32 × Int32 × Int32 × Int32 × Int32 × Int32 × Int32 × Int32 × Int32 × Int32 × Int32 × Int32 × Int32 × Int32 × (Nat → Int32) × (Nat → Int32) × (Nat → Int32) × (Nat → Int32) × (Nat → Int32) × (Nat → Int32) × (Nat → Int32) × (Nat → Int32) × (Nat → Int32) × (Nat → Int32) × (Nat → Int32) × (Nat → Int32) × (Nat → Int32))))) fun j158 =>
            (if t69 = 1 then (
              bd8 (f_X5_readLand x0_length x0_at_6 x0_wordStart_4 x0_numberStart_2 x0_number_2 x0_cell_1 x0_error_5 x0_errorAt_5 y3_text x4_rows_1 x4_columns_1 x4_rivers_2 x5_count_2 y12_land_2) fun (r109 : Int32) (x0_at_8 : Int32) (x0_numberStart_5 : Int32) (x0_number_5 : Int32) (x0_cell_4 : Int32) (x0_error_7 : Int32) (x0_errorAt_7 : Int32) (y12_land_5 : Nat → Int32) =>
              j158 r109 x0_at_8 x0_voyageTold_1 x0_wordStart_4 x0_wordLength_4 x0_numberStart_5 x0_number_5 x0_cell_4 x0_error_7 x0_errorAt_7 x2_length_1 x4_rivers_2 x5_count_2 x5_reds_2 x6_count_2 x6_turn_2 y7_letterOn_2 y8_namesOn_2 y9_costs_1 y10_sums_1 y11_way_1 y12_land_5 y13_riverOf_2 y14_riverPlace_2 y15_direction_1 y16_home_1 y17_length_1 y18_letters_1 y19_stops_1
            ) else (
            (if t69 = 2 then (
              bd15 (f_X5_readHarbour x0_length x0_at_6 x0_wordStart_4 x0_wordLength_4 x0_numberStart_2 x0_number_2 x0_cell_1 x0_error_5 x0_errorAt_5 y3_text x4_rows_1 x4_columns_1 x5_count_2 x5_reds_2 y8_namesOn_2 y12_land_2 y13_riverOf_2 y15_direction_1 y16_home_1 y17_length_1 y18_letters_1) fun (r117 : Int32) (x0_at_9 : Int32) (x0_wordStart_6 : Int32) (x0_wordLength_6 : Int32) (x0_numberStart_6 : Int32) (x0_number_6 : Int32) (x0_cell_5 : Int32) (x0_error_8 : Int32) (x0_errorAt_8 : Int32) (x5_count_5 : Int32) (x5_reds_5 : Int32) (y15_direction_4 : Nat → Int32) (y16_home_4 : Nat → Int32) (y17_length_4 : Nat → Int32) (y18_letters_4 : Nat → Int32) =>
              j158 r117 x0_at_9 x0_voyageTold_1 x0_wordStart_6 x0_wordLength_6 x0_numberStart_6 x0_number_6 x0_cell_5 x0_error_8 x0_errorAt_8 x2_length_1 x4_rivers_2 x5_count_5 x5_reds_5 x6_count_2 x6_turn_2 y7_letterOn_2 y8_namesOn_2 y9_costs_1 y10_sums_1 y11_way_1 y12_land_2 y13_riverOf_2 y14_riverPlace_2 y15_direction_4 y16_home_4 y17_length_4 y18_letters_4 y19_stops_1
            ) else (
            (if t69 = 3 then (
              bd16 (f_X5_readRiver x0_length x0_at_6 x0_wordStart_4 x0_numberStart_2 x0_number_2 x0_cell_1 x0_error_5 x0_errorAt_5 x2_length_1 y3_text x4_rows_1 x4_columns_1 x4_rivers_2 x5_count_2 y8_namesOn_2 y9_costs_1 y10_sums_1 y11_way_1 y12_land_2 y13_riverOf_2 y14_riverPlace_2 y15_direction_1 y16_home_1 y17_length_1) fun (r125 : Int32) (x0_at_10 : Int32) (x0_numberStart_7 : Int32) (x0_number_7 : Int32) (x0_cell_6 : Int32) (x0_error_9 : Int32) (x0_errorAt_9 : Int32) (x2_length_4 : Int32) (x4_rivers_5 : Int32) (y8_namesOn_5 : Nat → Int32) (y9_costs_4 : Nat → Int32) (y10_sums_4 : Nat → Int32) (y11_way_4 : Nat → Int32) (y13_riverOf_5 : Nat → Int32) (y14_riverPlace_5 : Nat → Int32) (y15_direction_5 : Nat → Int32) =>
              j158 r125 x0_at_10 x0_voyageTold_1 x0_wordStart_4 x0_wordLength_4 x0_numberStart_7 x0_number_7 x0_cell_6 x0_error_9 x0_errorAt_9 x2_length_4 x4_rivers_5 x5_count_2 x5_reds_2 x6_count_2 x6_turn_2 y7_letterOn_2 y8_namesOn_5 y9_costs_4 y10_sums_4 y11_way_4 y12_land_2 y13_riverOf_5 y14_riverPlace_5 y15_direction_5 y16_home_1 y17_length_1 y18_letters_1 y19_stops_1
            ) else (
            (if t69 = 4 then (
              bd9 (f_X5_readPlace x0_length x0_at_6 x0_wordStart_4 x0_wordLength_4 x0_error_5 x0_errorAt_5 y3_text x4_rows_1 x4_columns_1 x5_count_2 x5_reds_2 y7_letterOn_2 y8_namesOn_2 y12_land_2 y13_riverOf_2 y15_direction_1 y16_home_1 y17_length_1 y18_letters_1) fun (r133 : Int32) (x0_at_11 : Int32) (x0_wordStart_7 : Int32) (x0_wordLength_7 : Int32) (x0_error_10 : Int32) (x0_errorAt_10 : Int32) (y7_letterOn_5 : Nat → Int32) (y8_namesOn_6 : Nat → Int32) (y15_direction_6 : Nat → Int32) =>
              j158 r133 x0_at_11 x0_voyageTold_1 x0_wordStart_7 x0_wordLength_7 x0_numberStart_2 x0_number_2 x0_cell_1 x0_error_10 x0_errorAt_10 x2_length_1 x4_rivers_2 x5_count_2 x5_reds_2 x6_count_2 x6_turn_2 y7_letterOn_5 y8_namesOn_6 y9_costs_1 y10_sums_1 y11_way_1 y12_land_2 y13_riverOf_2 y14_riverPlace_2 y15_direction_6 y16_home_1 y17_length_1 y18_letters_1 y19_stops_1
            ) else (
            (if t69 = 5 then (
              bd9 (f_X5_readVoyage x0_length x0_at_6 x0_voyageTold_1 x0_wordStart_4 x0_wordLength_4 x0_error_5 x0_errorAt_5 y3_text x5_count_2 x6_count_2 y17_length_1 y18_letters_1 y19_stops_1) fun (r141 : Int32) (x0_at_12 : Int32) (x0_voyageTold_4 : Int32) (x0_wordStart_8 : Int32) (x0_wordLength_8 : Int32) (x0_error_11 : Int32) (x0_errorAt_11 : Int32) (x6_count_5 : Int32) (y19_stops_4 : Nat → Int32) =>
              j158 r141 x0_at_12 x0_voyageTold_4 x0_wordStart_8 x0_wordLength_8 x0_numberStart_2 x0_number_2 x0_cell_1 x0_error_11 x0_errorAt_11 x2_length_1 x4_rivers_2 x5_count_2 x5_reds_2 x6_count_5 x6_turn_2 y7_letterOn_2 y8_namesOn_2 y9_costs_1 y10_sums_1 y11_way_1 y12_land_2 y13_riverOf_2 y14_riverPlace_2 y15_direction_1 y16_home_1 y17_length_1 y18_letters_1 y19_stops_4
            ) else (
            (if t69 = 6 then (
              bd7 (f_X5_readTurn x0_length x0_at_6 x0_numberStart_2 x0_number_2 x0_error_5 x0_errorAt_5 y3_text x6_turn_2) fun (r149 : Int32) (x0_at_13 : Int32) (x0_numberStart_8 : Int32) (x0_number_8 : Int32) (x0_error_12 : Int32) (x0_errorAt_12 : Int32) (x6_turn_5 : Int32) =>
              j158 r149 x0_at_13 x0_voyageTold_1 x0_wordStart_4 x0_wordLength_4 x0_numberStart_8 x0_number_8 x0_cell_1 x0_error_12 x0_errorAt_12 x2_length_1 x4_rivers_2 x5_count_2 x5_reds_2 x6_count_2 x6_turn_5 y7_letterOn_2 y8_namesOn_2 y9_costs_1 y10_sums_1 y11_way_1 y12_land_2 y13_riverOf_2 y14_riverPlace_2 y15_direction_1 y16_home_1 y17_length_1 y18_letters_1 y19_stops_1
            ) else (
            j158 0 x0_at_6 x0_voyageTold_1 x0_wordStart_4 x0_wordLength_4 x0_numberStart_2 x0_number_2 x0_cell_1 x0_error_5 x0_errorAt_5 x2_length_1 x4_rivers_2 x5_count_2 x5_reds_2 x6_count_2 x6_turn_2 y7_letterOn_2 y8_namesOn_2 y9_costs_1 y10_sums_1 y11_way_1 y12_land_2 y13_riverOf_2 y14_riverPlace_2 y15_direction_1 y16_home_1 y17_length_1 y18_letters_1 y19_stops_1
            ))
            ))
            ))
            ))
            ))
            ))
            ) : Option ((Int32 × Int32 × Int32 × Int32 × Int32 × Int32 × Int32 × Int32 × Int32 × Int32 × Int32 × Int32 × Int32 × Int32 × Int32 × Int32 × Int32 × Int32 × (Nat → Int32) × (Nat → Int32) × (Nat → Int32) × (Nat → Int32) × (Nat → Int32) × (Nat → Int32) × (Nat → Int32) × (Nat → Int32) × (Nat → Int32) × (Nat → Int32) × (Nat → Int32) × (Nat → Int32) × (Nat → Int32)) ⊕ (Int32 × Int32 × Int32 × Int32 × Int32 × Int32 × Int32 × Int32 × Int32 × Int32 × Int32 × Int32 × Int32 × Int32 × Int32 × Int32 × Int32 × (Nat → Int32) × (Nat → Int32) × (Nat → Int32) × (Nat → Int32) × (Nat → Int32) × (Nat → Int32) × (Nat → Int32) × (Nat → Int32) × (Nat → Int32) × (Nat → Int32) × (Nat → Int32) × (Nat → Int32) × (Nat → Int32))))
def kwd (t : Int → Int) (b l : Int) : Int := if isK t b l 1 = true then 1 else if isK t b l 2 = true then 2 else if isK t b l 3 = true then 3 else if isK t b l 4 = true then 4 else if isK t b l 5 = true then 5 else if isK t b l 6 = true then 6 else -1
theorem pc_lits : True := trivial
theorem pc_k2_1 : (iI (2) = iI 1) = False := eq_false (by decide)
theorem pc_k3_1 : (iI (3) = iI 1) = False := eq_false (by decide)
theorem pc_k3_2 : (iI (3) = iI 2) = False := eq_false (by decide)
theorem pc_k4_1 : (iI (4) = iI 1) = False := eq_false (by decide)
theorem pc_k4_2 : (iI (4) = iI 2) = False := eq_false (by decide)
theorem pc_k4_3 : (iI (4) = iI 3) = False := eq_false (by decide)
theorem pc_k5_1 : (iI (5) = iI 1) = False := eq_false (by decide)
theorem pc_k5_2 : (iI (5) = iI 2) = False := eq_false (by decide)
theorem pc_k5_3 : (iI (5) = iI 3) = False := eq_false (by decide)
theorem pc_k5_4 : (iI (5) = iI 4) = False := eq_false (by decide)
theorem pc_k6_1 : (iI (6) = iI 1) = False := eq_false (by decide)
theorem pc_k6_2 : (iI (6) = iI 2) = False := eq_false (by decide)
theorem pc_k6_3 : (iI (6) = iI 3) = False := eq_false (by decide)
theorem pc_k6_4 : (iI (6) = iI 4) = False := eq_false (by decide)
theorem pc_k6_5 : (iI (6) = iI 5) = False := eq_false (by decide)
theorem pc_km_1 : (iI (-1) = iI 1) = False := eq_false (by decide)
theorem pc_km_2 : (iI (-1) = iI 2) = False := eq_false (by decide)
theorem pc_km_3 : (iI (-1) = iI 3) = False := eq_false (by decide)
theorem pc_km_4 : (iI (-1) = iI 4) = False := eq_false (by decide)
theorem pc_km_5 : (iI (-1) = iI 5) = False := eq_false (by decide)
theorem pc_km_6 : (iI (-1) = iI 6) = False := eq_false (by decide)
theorem pc_k5_n : (iI (-1) = iI (-1)) = True := eq_true rfl
theorem isK_0 (t : Int → Int) (b : Int) {j : Nat} (hj : j < 12) : isK t b 0 j = false := by
  unfold isK
  have : ∀ i : Fin 12, ¬ (0 : Int) = kwI i.val := by decide
  rw [decide_eq_false (this ⟨j, hj⟩), Bool.false_and]
section
variable {n : Int} {t : Int → Int} {y yc ym : Nat → Int32} {S : Int → Int}
theorem x_keyOk (h : tT n t) (hy : tX n t y) {a : Int} (a0 : 0 ≤ a) (a1 : a ≤ n) {v2 v3 e ea : Int32} {k : Int} (k0 : k ≠ -1) (hk : kwd t (tws t n a) (twl t n a) = k) : f_X5_takeKeyword (iI n) (iI a) v2 v3 e ea y = some (iI k, iI (tws t n a + twl t n a), iI (tws t n a), iI (twl t n a), e, ea) := by
  have c := tw_end h a0 a1
  have hl : 0 < twl t n a := by
    by_cases z : 0 < twl t n a
    · exact z
    · have e : twl t n a = 0 := by omega
      rw [e] at hk
      unfold kwd at hk
      rw [isK_0 t _ (by omega), isK_0 t _ (by omega), isK_0 t _ (by omega), isK_0 t _ (by omega), isK_0 t _ (by omega), isK_0 t _ (by omega)] at hk
      exact absurd hk.symm k0
  have w := x_wordIs h hy (b := tws t n a) (l := twl t n a) (by omega) (by omega) (by omega)
  unfold f_X5_takeKeyword
  simp only [pc_bv, x_word1 h hy a0 a1 hl, pd_6, w, pd_1]
  unfold kwd at hk
  simp only [pc_lit, pc_neg, pc_10, if_false]
  cases i1 : isK t (tws t n a) (twl t n a) 1
  · cases i2 : isK t (tws t n a) (twl t n a) 2
    · cases i3 : isK t (tws t n a) (twl t n a) 3
      · cases i4 : isK t (tws t n a) (twl t n a) 4
        · cases i5 : isK t (tws t n a) (twl t n a) 5
          · cases i6 : isK t (tws t n a) (twl t n a) 6
            · rw [i1, i2, i3, i4, i5, i6] at hk
              exact absurd hk.symm k0
            · rw [i1, i2, i3, i4, i5, i6] at hk
              subst hk
              rfl
          · rw [i1, i2, i3, i4, i5] at hk
            subst hk
            rfl
        · rw [i1, i2, i3, i4] at hk
          subst hk
          rfl
      · rw [i1, i2, i3] at hk
        subst hk
        rfl
    · rw [i1, i2] at hk
      subst hk
      rfl
  · rw [i1] at hk
    subst hk
    rfl
theorem x_keyKo (h : tT n t) (hy : tX n t y) {a : Int} (a0 : 0 ≤ a) (a1 : a ≤ n) {v2 v3 e ea : Int32} (hk : kwd t (tws t n a) (twl t n a) = -1) : ∃ z1 z2 z3, f_X5_takeKeyword (iI n) (iI a) v2 v3 e ea y = some (iI (-1), z1, z2, z3, iI 1, iI (tws t n a)) := by
  have c := tw_end h a0 a1
  by_cases hl : 0 < twl t n a
  · have w := x_wordIs h hy (b := tws t n a) (l := twl t n a) (by omega) (by omega) (by omega)
    refine ⟨?_, ?_, ?_, ?xx⟩
    case xx =>
      unfold f_X5_takeKeyword
      simp only [pc_bv, x_word1 h hy a0 a1 hl, pd_6, w, pd_1]
      unfold kwd at hk
      simp only [pc_lit, pc_neg, pc_10, if_false]
      cases i1 : isK t (tws t n a) (twl t n a) 1
      · cases i2 : isK t (tws t n a) (twl t n a) 2
        · cases i3 : isK t (tws t n a) (twl t n a) 3
          · cases i4 : isK t (tws t n a) (twl t n a) 4
            · cases i5 : isK t (tws t n a) (twl t n a) 5
              · cases i6 : isK t (tws t n a) (twl t n a) 6
                · rfl
                · rw [i1, i2, i3, i4, i5, i6] at hk; cases hk
              · rw [i1, i2, i3, i4, i5] at hk; cases hk
            · rw [i1, i2, i3, i4] at hk; cases hk
          · rw [i1, i2, i3] at hk; cases hk
        · rw [i1, i2] at hk; cases hk
      · rw [i1] at hk; cases hk
  · refine ⟨?_, ?_, ?_, ?yy⟩
    case yy =>
      unfold f_X5_takeKeyword
      simp only [pc_bv, x_word0 h hy a0 a1 hl, pd_6]
      simp only [pc_lit, pc_neg, if_true]
      rfl
theorem kwd_f {b l : Int} (hk : kwd t b l = -1) : isK t b l 1 = false ∧ isK t b l 2 = false ∧ isK t b l 3 = false ∧ isK t b l 4 = false ∧ isK t b l 5 = false ∧ isK t b l 6 = false := by
  unfold kwd at hk
  cases i1 : isK t b l 1
  · cases i2 : isK t b l 2
    · cases i3 : isK t b l 3
      · cases i4 : isK t b l 4
        · cases i5 : isK t b l 5
          · cases i6 : isK t b l 6
            · exact ⟨rfl, rfl, rfl, rfl, rfl, rfl⟩
            · rw [i1, i2, i3, i4, i5, i6] at hk; cases hk
          · rw [i1, i2, i3, i4, i5] at hk; cases hk
        · rw [i1, i2, i3, i4] at hk; cases hk
      · rw [i1, i2, i3] at hk; cases hk
    · rw [i1, i2] at hk; cases hk
  · rw [i1] at hk; cases hk
theorem m_oneKo (h : tT n t) (hy : tX n t ym) {b l : Int} (b0 : 0 ≤ b) (l0 : 0 ≤ l) (bl : b + l ≤ n) (hk : kwd t b l = -1) {hv' fl : Int32} {flow s sums : Nat → Int32} : f_X9_readsOne fl (iI n) (iI (b + l)) (iI b) (iI 0) (iI 0) hv' flow s sums ym = some (fl, iI (b + l), iI b, iI 1, iI b, hv', flow, s, sums) := by
  obtain ⟨k1, k2, k3, k4, k5, k6⟩ := kwd_f hk
  unfold f_X9_readsOne
  simp only [pc_bv]
  rw [m_was h hy b0 l0 bl 1, k1, pd_1, if_pos (by rfl), m_was h hy b0 l0 bl 2, k2, pd_1, if_pos (by rfl), m_was h hy b0 l0 bl 3, k3, pd_1, if_pos (by rfl), m_was h hy b0 l0 bl 4, k4, pd_1, if_pos (by rfl), m_was h hy b0 l0 bl 5, k5, pd_1, if_pos (by rfl), m_was h hy b0 l0 bl 6, k6, pd_1, if_pos (by rfl)]
  rfl
theorem rC_stop {ws wl ns nu ce ln vt st : Int32} {lOn nOn co sm wy land riv ord dir hom len let' stp : Nat → Int32} {nn v2 a e ea rv cn rd jc tn r0 c0 : Int32} : rC nn yc r0 c0 (iI 0) v2 a vt ws wl ns nu ce st e ea ln rv cn rd jc tn lOn nOn co sm wy land riv ord dir hom len let' stp = some (.inr (iI 0, a, vt, ws, wl, ns, nu, ce, st, e, ea, ln, rv, cn, rd, jc, tn, lOn, nOn, co, sm, wy, land, riv, ord, dir, hom, len, let', stp)) := by
  unfold rC
  simp only [pc_lit]
  by_cases z : nn < v2
  · rw [if_pos z]
  · rw [if_neg z, if_pos (by first | trivial | rfl)]
theorem rM_stop {fl a f e ea st hv' nn : Int32} {fw s sm : Nat → Int32} (he : ¬ e = iI 0) : rM1 nn ym fl a f e ea st hv' fw s sm = some (.inr (fl, a, f, e, ea, st, hv', fw, s, sm)) := by
  unfold rM1
  simp only [m_fineE he, pd_1]
  rfl
theorem rC_end (h : tT n t) (hx : tX n t yc) {v2 a : Int} (a0 : 0 ≤ a) (a1 : a ≤ n) (hv : 0 ≤ v2) (hva : v2 ≤ a) (q : t (tws t n a) = -1) {ws wl ns nu ce ln vt st : Int32} {lOn nOn co sm wy land riv ord dir hom len let' stp : Nat → Int32} {rv cn rd jc tn : Int32} : rC (iI n) yc (iI (S 0)) (iI (S 1)) (iI 1) (iI v2) (iI a) vt ws wl ns nu ce st (iI 0) (iI 0) ln rv cn rd jc tn lOn nOn co sm wy land riv ord dir hom len let' stp = some (.inr (iI 1, iI (tws t n a), vt, ws, wl, ns, nu, ce, st, iI 0, iI 0, ln, rv, cn, rd, jc, tn, lOn, nOn, co, sm, wy, land, riv, ord, dir, hom, len, let', stp)) := by
  have hn2 := h.2.1
  have p1 : (iI n < iI v2) = False := (pc_lt (by omega) (by omega) (by omega) (by omega)).trans (eq_false (by omega))
  unfold rC
  simp only [pc_lit, p1, if_false, pc_10, x_nextSign h hx a0 a1, pd_2, q, pc_neg, if_true]
theorem rC_semi (h : tT n t) (hx : tX n t yc) {v2 a : Int} (a0 : 0 ≤ a) (a1 : a ≤ n) (hv : 0 ≤ v2) (hva : v2 ≤ a) (q : ¬ t (tws t n a) = -1) (q2 : ¬ t (tws t n a) = 59) {ws wl ns nu ce ln vt st : Int32} {lOn nOn co sm wy land riv ord dir hom len let' stp : Nat → Int32} {rv cn rd jc tn : Int32} : rC (iI n) yc (iI (S 0)) (iI (S 1)) (iI 1) (iI v2) (iI a) vt ws wl ns nu ce st (iI 0) (iI 0) ln rv cn rd jc tn lOn nOn co sm wy land riv ord dir hom len let' stp = some (.inl (iI 0, iI (v2 + 1), iI (tws t n a), vt, ws, wl, ns, nu, ce, st, iI 1, iI (tws t n a), ln, rv, cn, rd, jc, tn, lOn, nOn, co, sm, wy, land, riv, ord, dir, hom, len, let', stp)) := by
  have hn2 := h.2.1
  have c := tws_c h a0 a1
  have g := t_rg h (k := tws t n a) (by omega)
  have p1 : (iI n < iI v2) = False := (pc_lt (by omega) (by omega) (by omega) (by omega)).trans (eq_false (by omega))
  have p2 : (iI (t (tws t n a)) = iI (-1)) = False := (pc_eq (by omega) (by omega) (by omega) (by omega)).trans (eq_false q)
  have p3 : (iI (t (tws t n a)) = iI 59) = False := (pc_eq (by omega) (by omega) (by omega) (by omega)).trans (eq_false q2)
  have n2 := x_nextSign h hx (a := tws t n a) (by omega) (by omega)
  rw [tws_2 h a0 a1] at n2
  unfold rC
  simp only [pc_bv, pc_lit, p1, if_false, pc_10, x_nextSign h hx a0 a1, pd_2, p2, pc_neg, f_X5_takeSemicolon, n2, p3, f_X5_fail, pd_3, pc_zbI0, pd_5, if_true, pc_k2_1, pc_k3_1, pc_k3_2, pc_k4_1, pc_k4_2, pc_k4_3, pc_k5_1, pc_k5_2, pc_k5_3, pc_k5_4, pc_k6_1, pc_k6_2, pc_k6_3, pc_k6_4, pc_k6_5, pc_km_1, pc_km_2, pc_km_3, pc_km_4, pc_km_5, pc_km_6, pc_add]
theorem rC_key (h : tT n t) (hx : tX n t yc) {v2 a : Int} (a0 : 0 ≤ a) (a1 : a ≤ n) (hv : 0 ≤ v2) (hva : v2 ≤ a) (q2 : t (tws t n a) = 59) {st0 : Int} {ws wl ns nu ce ln vt : Int32} {lOn nOn co sm wy land riv ord dir hom len let' stp : Nat → Int32} {R : Int32 × Int32 × Int32 × Int32 × Int32 × Int32} (hR : f_X5_takeKeyword (iI n) (iI (tws t n a + 1)) ws wl (iI 0) (iI 0) yc = some R) : rC (iI n) yc (iI (S 0)) (iI (S 1)) (iI 1) (iI v2) (iI a) vt ws wl ns nu ce (iI st0) (iI 0) (iI 0) ln (iI (S 3)) (iI (S 2)) (rM S) (iI (S 4)) (iI (S 5)) lOn nOn co sm wy land riv ord dir hom len let' stp = rJ (iI v2) (iI (st0 + 1)) (iI n) ns nu ce yc (iI (S 0)) (iI (S 1)) (iI (S 3)) (iI (S 2)) land vt ln (rM S) (iI (S 4)) (iI (S 5)) lOn nOn co sm wy riv ord dir hom len let' stp R.2.1 R.2.2.1 R.2.2.2.1 R.2.2.2.2.1 R.2.2.2.2.2 R.1 := by
  obtain ⟨r1, r2, r3, r4, r5, r6⟩ := R
  have hn2 := h.2.1
  have c := tws_c h a0 a1
  have p1 : (iI n < iI v2) = False := (pc_lt (by omega) (by omega) (by omega) (by omega)).trans (eq_false (by omega))
  have p2 : (iI 59 = iI (-1)) = False := eq_false (by decide)
  have n2 := x_nextSign h hx (a := tws t n a) (by omega) (by omega)
  rw [tws_2 h a0 a1] at n2
  have e1 : f_X5_nextSign (iI n) (iI a) yc = some (iI 59, iI (tws t n a)) := by rw [x_nextSign h hx a0 a1, q2]
  rw [q2] at n2
  have sc : f_X5_takeSemicolon (iI n) (iI (tws t n a)) (iI st0) (iI 0) (iI 0) yc = some (iI 1, iI (tws t n a + 1), iI (st0 + 1), iI 0, iI 0) := by
    unfold f_X5_takeSemicolon
    simp only [pc_bv, pc_lit, n2, pd_2, if_true, pc_add]
  unfold rC
  simp only [pc_lit, p1, if_false, pc_10, e1, pd_2, p2, pc_neg, sc, pd_5]
  rw [pc_bv]
  simp only [hR, pd_6]
  unfold rJ
  simp only [pc_bv, pc_lit, pc_neg]
end
