theorem q_36 : SP_36 RR := by
  intro L xs i σ μ o hR h1 h2
  obtain ⟨S, hc, w, hm, hh, hr⟩ := hR
  obtain ⟨a, ea, a1, a2⟩ := pc_wr (xs (i + 1).toNatClampNeg)
  obtain ⟨b, eb, b1, b2⟩ := pc_wr (xs (i + 2).toNatClampNeg)
  have hC := w.C
  have hN := w.N
  have hD := w.D
  have ra := hc.ra
  have key : ∃ o_x1_latest o_x1_count o_x3_length o_y4_past o_x5_rivers o_y9_namesOn o_y10_costs o_y11_sums o_y12_way o_y14_riverOf o_y15_riverPlace o_y16_direction o_x21_acts o_x21_thrown o_x21_flowLong o_y22_flow o_y23_past o_y24_s o_y25_sums o_y26_p, f_case_36 L xs i (σ.2.1.1) (σ.2.1.2.1) (σ.2.2.1.1) (σ.2.1.2.2) (σ.1.1) (σ.1.2.1) (σ.1.2.2.1) (σ.1.2.2.2.1) (σ.1.2.2.2.2.1) (σ.1.2.2.2.2.2.1) (σ.1.2.2.2.2.2.2.1) (σ.1.2.2.2.2.2.2.2.1) (σ.1.2.2.2.2.2.2.2.2.1) (σ.1.2.2.2.2.2.2.2.2.2.1) (σ.1.2.2.2.2.2.2.2.2.2.2.1) (σ.2.2.1.2.1) (σ.2.2.1.2.2.1) (σ.2.2.1.2.2.2) (σ.1.2.2.2.2.2.2.2.2.2.2.2.1) (σ.1.2.2.2.2.2.2.2.2.2.2.2.2.1) (σ.1.2.2.2.2.2.2.2.2.2.2.2.2.2.1) (σ.1.2.2.2.2.2.2.2.2.2.2.2.2.2.2.1) (σ.1.2.2.2.2.2.2.2.2.2.2.2.2.2.2.2.1) (σ.1.2.2.2.2.2.2.2.2.2.2.2.2.2.2.2.2.1) (σ.1.2.2.2.2.2.2.2.2.2.2.2.2.2.2.2.2.2.1) (σ.1.2.2.2.2.2.2.2.2.2.2.2.2.2.2.2.2.2.2) (μ.1) (μ.2.1) (μ.2.2.1) (μ.2.2.2.2.2.2.2.2.2.2.2.2.2.2.2.2.2.2.2.1) (μ.2.2.2.2.2.2.2.2.2.2.2.2.2.2.2.2.2.2.2.2.2.2.2.2.1) (μ.2.2.2.2.2.2.2.2.2.2.2.2.2.2.2.2.2.2.2.2.2.2.2.2.2.2.1) (μ.2.2.2.2.2.2.2.2.2.2.2.2.2.2.2.2.2.2.2.2.2.2.2.2.2.2.2.1) (o) = some (o_x1_latest, o_x1_count, o_x3_length, o_y4_past, o_x5_rivers, o_y9_namesOn, o_y10_costs, o_y11_sums, o_y12_way, o_y14_riverOf, o_y15_riverPlace, o_y16_direction, o_x21_acts, o_x21_thrown, o_x21_flowLong, o_y22_flow, o_y23_past, o_y24_s, o_y25_sums, o_y26_p) ∧ ∃ S', RC (σ.1.1, σ.1.2.1, o_x5_rivers, σ.1.2.2.2.1, σ.1.2.2.2.2.1, σ.1.2.2.2.2.2.1, σ.1.2.2.2.2.2.2.1, σ.1.2.2.2.2.2.2.2.1, σ.1.2.2.2.2.2.2.2.2.1, σ.1.2.2.2.2.2.2.2.2.2.1, o_y9_namesOn, σ.1.2.2.2.2.2.2.2.2.2.2.2.1, o_y14_riverOf, o_y15_riverPlace, o_y16_direction, σ.1.2.2.2.2.2.2.2.2.2.2.2.2.2.2.2.1, σ.1.2.2.2.2.2.2.2.2.2.2.2.2.2.2.2.2.1, σ.1.2.2.2.2.2.2.2.2.2.2.2.2.2.2.2.2.2.1, σ.1.2.2.2.2.2.2.2.2.2.2.2.2.2.2.2.2.2.2) S' ∧ wS S' ∧ mS o_y24_s S' ∧ RH o_x1_latest o_x1_count o_y4_past o_x21_acts o_y23_past := by
    unfold f_case_36
    simp only [pc_vi h1, pc_vi h2, ea, eb, hc.rows, hc.columns, hc.rivers, hc.count, hc.jcount, hc.next, hc.turn, hc.quarters, hc.reds, pc_bv]
    by_cases c1 : 0 ≤ a ∧ a < S 0 * S 1
    · have n1 : 0 ≤ a ∧ a ≤ S 0 * S 1 - 1 := by omega
      have e3 : μ.2.2.2.2.2.2.2.2.2.2.2.2.2.2.2.2.2.2.2.2.2.2.2.2.2.2.1 (3 : Int).toNat = iI (S 3) := hm 3 (by omega) (by omega)
      have i1 : f_X9_mayCell μ.2.1 μ.2.2.2.2.2.2.2.2.2.2.2.2.2.2.2.2.2.2.2.2.2.2.2.2.2.2.1 (iI a) = some (zB true, iI 0) := by rw [m_mayC hm w a1 a2, decide_eq_true n1, if_pos n1]
      by_cases h8 : S 3 < 8
      · have z8 := (pc_lt (a := S 3) (b := 8) (by omega) (by omega) (by omega) (by omega)).trans (eq_true h8)
        have z9 := (pc_eq (a := S 3) (b := 8) (by omega) (by omega) (by omega) (by omega)).trans (eq_false (by omega))
        obtain ⟨M, co, y, sm, hM, hco, hy, hsm, es, em⟩ := way_both hm w ra σ.2.2.1.2.1 σ.2.2.1.2.2.1 μ.2.2.2.2.2.2.2.2.2.2.2.2.2.2.2.2.2.2.2.2.2.2.2.2.2.2.2.1
        have wf := x_wayFrom w hM hco hy es (ln := σ.2.2.1.1) (wy := σ.2.2.1.2.2.2) c1.1 c1.2
        have ff := m_findsFlow hm w hM hsm em (ln := μ.2.2.1) (wy := μ.2.2.2.2.2.2.2.2.2.2.2.2.2.2.2.2.2.2.2.1) c1.1 c1.2
        by_cases hf : M a < 1000000
        · rw [if_pos hf] at wf ff
          have hL := fLn_c w hM c1.1 c1.2 hf
          have z := (pc_eq (a := fLn S M a) (b := 0) (by omega) (by omega) (by omega) (by omega)).trans (eq_false (by omega))
          obtain ⟨l', c', D', a', p', k1, k2, k3⟩ := h_keep w hm ra hh
          have wT := lfM_wS w (m := wsh S M a)
          obtain ⟨⟨r1, r2⟩, t1, t2⟩ := x_takeNames w ra (wsh S M a)
          have T3 : wyS S (lfM S (wsh S M a)) 3 = S 3 := wy_lo (by omega)
          obtain ⟨⟨q1, q2⟩, l1, l2, l3⟩ := x_lay (T := wyS S (lfM S (wsh S M a))) w hM t2.riverOf t2.riverPlace (wy := σ.2.2.1.2.2.2) c1.1 c1.2 hf
          obtain ⟨s', m1, m2⟩ := m_flows hm w hM (wy := μ.2.2.2.2.2.2.2.2.2.2.2.2.2.2.2.2.2.2.2.1) c1.1 c1.2 hf
          have w' := rv_wS w wT hM T3 (wy_lo (by omega)) (wy_lo (by omega)) c1.1 c1.2 hf h8
          have x8 : f_X8_addRiver σ.2.1.1 σ.2.1.2.1 σ.2.2.1.1 σ.2.1.2.2 (iI (S 0)) (iI (S 1)) (iI (S 3)) (iI (S 2)) (rM S) (iI (S 4)) (iI (S 6)) (iI (S 5)) (iI (S 7)) σ.1.2.2.2.2.2.2.2.2.2.1 σ.1.2.2.2.2.2.2.2.2.2.2.1 σ.2.2.1.2.1 σ.2.2.1.2.2.1 σ.2.2.1.2.2.2 σ.1.2.2.2.2.2.2.2.2.2.2.2.1 σ.1.2.2.2.2.2.2.2.2.2.2.2.2.1 σ.1.2.2.2.2.2.2.2.2.2.2.2.2.2.1 σ.1.2.2.2.2.2.2.2.2.2.2.2.2.2.2.1 σ.1.2.2.2.2.2.2.2.2.2.2.2.2.2.2.2.1 σ.1.2.2.2.2.2.2.2.2.2.2.2.2.2.2.2.2.1 σ.1.2.2.2.2.2.2.2.2.2.2.2.2.2.2.2.2.2.1 σ.1.2.2.2.2.2.2.2.2.2.2.2.2.2.2.2.2.2.2 (iI a) = some (iI (S 3), l', c', iI (fLn S M a), D', iI (S 3 + 1), r1, co, y, cpF (fLn S M a).toNat (flA S M a) σ.2.2.1.2.2.2, q1, q2, r2) := by
            unfold f_X8_addRiver
            simp only [pc_lit, x_needC w c1.1 c1.2, pd_1, z8, if_true, wf, pd_5, z, if_false, k1, pd_3, x_namesOnWay w ra.namesOn hM c1.1 c1.2 hf, t1, pd_2, l1, pc_sub]
            rw [show S 3 + 1 - 1 = S 3 by omega]
          have s3 : s' (3 : Int).toNat = iI (S 3 + 1) := by rw [m2 3 (by omega) (by omega), rv_3]
          have x9 : f_X9_addRiver μ.1 μ.2.1 μ.2.2.1 μ.2.2.2.2.2.2.2.2.2.2.2.2.2.2.2.2.2.2.2.1 μ.2.2.2.2.2.2.2.2.2.2.2.2.2.2.2.2.2.2.2.2.2.2.2.2.1 μ.2.2.2.2.2.2.2.2.2.2.2.2.2.2.2.2.2.2.2.2.2.2.2.2.2.2.1 μ.2.2.2.2.2.2.2.2.2.2.2.2.2.2.2.2.2.2.2.2.2.2.2.2.2.2.2.1 (iI a) = some (iI (S 3), a', iI 0, iI (fLn S M a), cpF (fLn S M a).toNat (flA S M a) μ.2.2.2.2.2.2.2.2.2.2.2.2.2.2.2.2.2.2.2.1, p', s', sm) := by
            unfold f_X9_addRiver
            rw [i1, pd_2, if_neg (by decide)]
            simp (disch := omega) only [pc_lit, pc_ar, pc_nat, e3, z9, if_false, ff, pd_4, pc_10, k2, pd_2, m1, pd_1, s3, pc_sub]
            rw [show S 3 + 1 - 1 = S 3 by omega]
          simp only [t_X8_addRiver, t_needC w c1.1 c1.2, x8, x9, pd_13, pc_tx, pc_txs, pd_1, pd_2, pc_bv, pd_3, pd_4, pd_5, pd_6, pd_7, pd_8, pd_9, pc_thr, if_true, if_false, pc_lit, pc_lit64, pc_ar1, pc_upL, pc_cmp, pc_10, pc_20, pc_str, Bool.false_eq_true, Bool.false_and, Bool.true_and, Bool.and_false, Bool.and_true, and_self, decide_true, decide_false, pc_zbI0, pc_zbI1, pc_ifz, pc_zb]
          exact ⟨_, _, _, _, _, _, _, _, _, _, _, _, _, _, _, _, _, _, _, _, rfl, rvS S M (wyS S (lfM S (wsh S M a))) a (fLn S M a), RC.mk (by rw [rv_lo (by omega) (by omega), wy_lo (by omega)]) (by rw [rv_lo (by omega) (by omega), wy_lo (by omega)]) (by rw [rv_3]) (by rw [rv_lo (by omega) (by omega), wy_lo (by omega)]) (by
            rw [← wy_rM w (D := lfM S (wsh S M a))]
            unfold rM
            rw [rv_lo (by omega) (by omega)]
            exact mk_congr (fun h g1 g2 => by unfold isR hv; rw [rv_hi (by omega)])) (by rw [rv_lo (by omega) (by omega), wy_lo (by omega)]) (by rw [rv_lo (by omega) (by omega), wy_lo (by omega)]) (by rw [rv_lo (by omega) (by omega), wy_lo (by omega)]) (by rw [rv_lo (by omega) (by omega), wy_lo (by omega)]) (rv_RA wT t2 l2 l3), w', m2, k3⟩
        · rw [if_neg hf] at wf ff
          have x9 : f_X9_addRiver μ.1 μ.2.1 μ.2.2.1 μ.2.2.2.2.2.2.2.2.2.2.2.2.2.2.2.2.2.2.2.1 μ.2.2.2.2.2.2.2.2.2.2.2.2.2.2.2.2.2.2.2.2.2.2.2.2.1 μ.2.2.2.2.2.2.2.2.2.2.2.2.2.2.2.2.2.2.2.2.2.2.2.2.2.2.1 μ.2.2.2.2.2.2.2.2.2.2.2.2.2.2.2.2.2.2.2.2.2.2.2.2.2.2.2.1 (iI a) = some (iI (-3), μ.1, iI 0, iI 0, μ.2.2.2.2.2.2.2.2.2.2.2.2.2.2.2.2.2.2.2.1, μ.2.2.2.2.2.2.2.2.2.2.2.2.2.2.2.2.2.2.2.2.2.2.2.2.1, μ.2.2.2.2.2.2.2.2.2.2.2.2.2.2.2.2.2.2.2.2.2.2.2.2.2.2.1, sm) := by
            unfold f_X9_addRiver
            rw [i1, pd_2, if_neg (by decide)]
            simp (disch := omega) only [pc_lit, pc_neg, pc_ar, pc_nat, e3, z9, if_false, ff, pd_4, if_true]
          simp only [t_X8_addRiver, t_needC w c1.1 c1.2, x_needC w c1.1 c1.2, f_X8_addRiver, z8, wf, pc_neg, x9, pd_13, pc_tx, pc_txs, pd_1, pd_2, pc_bv, pd_3, pd_4, pd_5, pd_6, pd_7, pd_8, pd_9, pc_thr, if_true, if_false, pc_lit, pc_lit64, pc_ar1, pc_upL, pc_cmp, pc_10, pc_20, pc_str, Bool.false_eq_true, Bool.false_and, Bool.true_and, Bool.and_false, Bool.and_true, and_self, decide_true, decide_false, pc_zbI0, pc_zbI1, pc_ifz, pc_zb]
          exact ⟨_, _, _, _, _, _, _, _, _, _, _, _, _, _, _, _, _, _, _, _, rfl, S, RC.mk rfl rfl rfl rfl rfl rfl rfl rfl rfl ra, w, hm, hh⟩
      · have z8 := (pc_lt (a := S 3) (b := 8) (by omega) (by omega) (by omega) (by omega)).trans (eq_false h8)
        have x9 : f_X9_addRiver μ.1 μ.2.1 μ.2.2.1 μ.2.2.2.2.2.2.2.2.2.2.2.2.2.2.2.2.2.2.2.1 μ.2.2.2.2.2.2.2.2.2.2.2.2.2.2.2.2.2.2.2.2.2.2.2.2.1 μ.2.2.2.2.2.2.2.2.2.2.2.2.2.2.2.2.2.2.2.2.2.2.2.2.2.2.1 μ.2.2.2.2.2.2.2.2.2.2.2.2.2.2.2.2.2.2.2.2.2.2.2.2.2.2.2.1 (iI a) = some (iI (-2), μ.1, iI 0, μ.2.2.1, μ.2.2.2.2.2.2.2.2.2.2.2.2.2.2.2.2.2.2.2.1, μ.2.2.2.2.2.2.2.2.2.2.2.2.2.2.2.2.2.2.2.2.2.2.2.2.1, μ.2.2.2.2.2.2.2.2.2.2.2.2.2.2.2.2.2.2.2.2.2.2.2.2.2.2.1, μ.2.2.2.2.2.2.2.2.2.2.2.2.2.2.2.2.2.2.2.2.2.2.2.2.2.2.2.1) := by
          unfold f_X9_addRiver
          rw [i1, pd_2, if_neg (by decide)]
          have q : S 3 = 8 := by omega
          simp (disch := omega) only [pc_lit, pc_neg, pc_ar, pc_nat, e3, q, if_true]
        simp only [t_X8_addRiver, t_needC w c1.1 c1.2, x_needC w c1.1 c1.2, f_X8_addRiver, z8, pc_neg, x9, pd_13, pc_tx, pc_txs, pd_1, pd_2, pc_bv, pd_3, pd_4, pd_5, pd_6, pd_7, pd_8, pd_9, pc_thr, if_true, if_false, pc_lit, pc_lit64, pc_ar1, pc_upL, pc_cmp, pc_10, pc_20, pc_str, Bool.false_eq_true, Bool.false_and, Bool.true_and, Bool.and_false, Bool.and_true, and_self, decide_true, decide_false, pc_zbI0, pc_zbI1, pc_ifz, pc_zb]
        exact ⟨_, _, _, _, _, _, _, _, _, _, _, _, _, _, _, _, _, _, _, _, rfl, S, RC.mk rfl rfl rfl rfl rfl rfl rfl rfl rfl ra, w, hm, hh⟩
    · have x9 : f_X9_addRiver μ.1 μ.2.1 μ.2.2.1 μ.2.2.2.2.2.2.2.2.2.2.2.2.2.2.2.2.2.2.2.1 μ.2.2.2.2.2.2.2.2.2.2.2.2.2.2.2.2.2.2.2.2.2.2.2.2.1 μ.2.2.2.2.2.2.2.2.2.2.2.2.2.2.2.2.2.2.2.2.2.2.2.2.2.2.1 μ.2.2.2.2.2.2.2.2.2.2.2.2.2.2.2.2.2.2.2.2.2.2.2.2.2.2.2.1 (iI a) = some (iI 0, μ.1, iI 1, μ.2.2.1, μ.2.2.2.2.2.2.2.2.2.2.2.2.2.2.2.2.2.2.2.1, μ.2.2.2.2.2.2.2.2.2.2.2.2.2.2.2.2.2.2.2.2.2.2.2.2.1, μ.2.2.2.2.2.2.2.2.2.2.2.2.2.2.2.2.2.2.2.2.2.2.2.2.2.2.1, μ.2.2.2.2.2.2.2.2.2.2.2.2.2.2.2.2.2.2.2.2.2.2.2.2.2.2.2.1) := by
        unfold f_X9_addRiver
        rw [m_mayC hm w a1 a2, decide_eq_false (by omega), if_neg (by omega), pd_2, if_pos (by decide)]
        rfl
      simp only [t_X8_addRiver, t_needC' w c1 a1 a2, x9, pd_13, pc_tx, pc_txs, pd_1, pd_2, pc_bv, pd_3, pd_4, pd_5, pd_6, pd_7, pd_8, pd_9, pc_thr, if_true, if_false, pc_lit, pc_lit64, pc_ar1, pc_upL, pc_cmp, pc_10, pc_20, pc_str, Bool.false_eq_true, Bool.false_and, Bool.true_and, Bool.and_false, Bool.and_true, and_self, decide_true, decide_false, pc_zbI0, pc_zbI1, pc_ifz, pc_zb]
      exact ⟨_, _, _, _, _, _, _, _, _, _, _, _, _, _, _, _, _, _, _, _, rfl, S, RC.mk rfl rfl rfl rfl rfl rfl rfl rfl rfl ra, w, hm, hh⟩
  obtain ⟨o_x1_latest, o_x1_count, o_x3_length, o_y4_past, o_x5_rivers, o_y9_namesOn, o_y10_costs, o_y11_sums, o_y12_way, o_y14_riverOf, o_y15_riverPlace, o_y16_direction, o_x21_acts, o_x21_thrown, o_x21_flowLong, o_y22_flow, o_y23_past, o_y24_s, o_y25_sums, o_y26_p, e, S', hc', w', hm', hh'⟩ := key
  exact ⟨o_x1_latest, o_x1_count, o_x3_length, o_y4_past, o_x5_rivers, o_y9_namesOn, o_y10_costs, o_y11_sums, o_y12_way, o_y14_riverOf, o_y15_riverPlace, o_y16_direction, o_x21_acts, o_x21_thrown, o_x21_flowLong, o_y22_flow, o_y23_past, o_y24_s, o_y25_sums, o_y26_p, e, S', hc', w', hm', hh', hr⟩
