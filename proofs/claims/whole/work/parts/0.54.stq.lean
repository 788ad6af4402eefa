theorem q_27 : SP_27 RR := by
  intro L xs i σ μ o hR h1 h2
  obtain ⟨S, hc, w, hm, hr⟩ := hR
  obtain ⟨a, ea, a1, a2⟩ := pc_wr (xs (i + 1).toNatClampNeg)
  obtain ⟨b, eb, b1, b2⟩ := pc_wr (xs (i + 2).toNatClampNeg)
  have hC := w.C
  have hN := w.N
  have hD := w.D
  have ra := hc.ra
  have key : ∃ o_x2_length o_y6_costs o_y7_sums o_y8_way o_x12_thrown o_x12_flowLong o_y13_flow o_y15_sums o_y16_p, f_case_27 L xs i (σ.2.2.1.1) (σ.1.1) (σ.1.2.1) (σ.1.2.2.2.1) (σ.1.2.2.2.2.2.2.2.2.2.2.1) (σ.2.2.1.2.1) (σ.2.2.1.2.2.1) (σ.2.2.1.2.2.2) (σ.1.2.2.2.2.2.2.2.2.2.2.2.1) (σ.1.2.2.2.2.2.2.2.2.2.2.2.2.1) (σ.1.2.2.2.2.2.2.2.2.2.2.2.2.2.2.2.1) (μ.2.1) (μ.2.2.1) (μ.2.2.2.2.2.2.2.2.2.2.2.2.2.2.2.2.2.2.2.1) (μ.2.2.2.2.2.2.2.2.2.2.2.2.2.2.2.2.2.2.2.2.2.2.2.2.2.2.1) (μ.2.2.2.2.2.2.2.2.2.2.2.2.2.2.2.2.2.2.2.2.2.2.2.2.2.2.2.1) (o) = some (o_x2_length, o_y6_costs, o_y7_sums, o_y8_way, o_x12_thrown, o_x12_flowLong, o_y13_flow, o_y15_sums, o_y16_p) := by
    unfold f_case_27
    simp only [pc_vi h1, pc_vi h2, ea, eb, hc.rows, hc.columns, hc.rivers, hc.count, hc.jcount, hc.next, hc.turn, hc.quarters, hc.reds, pc_bv]
    by_cases c1 : 0 ≤ a ∧ a < S 0 * S 1
    · have n1 : 0 ≤ a ∧ a ≤ S 0 * S 1 - 1 := by omega
      obtain ⟨M, co, y, sm, hM, hco, hy, hsm, es, em⟩ := way_both hm w ra σ.2.2.1.2.1 σ.2.2.1.2.2.1 μ.2.2.2.2.2.2.2.2.2.2.2.2.2.2.2.2.2.2.2.2.2.2.2.2.2.2.2.1
      have wf := x_wayFrom w hM hco hy es (ln := σ.2.2.1.1) (wy := σ.2.2.1.2.2.2) c1.1 c1.2
      have ff := m_findsFlow hm w hM hsm em (ln := μ.2.2.1) (wy := μ.2.2.2.2.2.2.2.2.2.2.2.2.2.2.2.2.2.2.2.1) c1.1 c1.2
      by_cases hf : M a < 1000000
      · rw [if_pos hf] at wf ff
        have hL := fLn_c w hM c1.1 c1.2 hf
        have z := (pc_eq (a := fLn S M a) (b := 0) (by omega) (by omega) (by omega) (by omega)).trans (eq_false (by omega))
        simp only [t_X8_wayLength, t_needC w c1.1 c1.2, x_needC w c1.1 c1.2, f_X8_wayLength, wf, f_X9_wayLength, m_mayC hm w a1 a2, n1, ff, z, pd_5, pd_4, pc_tx, pc_txs, pd_1, pd_2, pc_bv, pd_3, pd_4, pd_5, pd_6, pd_7, pd_8, pd_9, pc_thr, if_true, if_false, pc_lit, pc_lit64, pc_ar1, pc_upL, pc_cmp, pc_10, pc_20, pc_str, Bool.false_eq_true, Bool.false_and, Bool.true_and, Bool.and_false, Bool.and_true, and_self, decide_true, decide_false, pc_zbI0, pc_zbI1, pc_ifz, pc_zb]
        exact ⟨_, _, _, _, _, _, _, _, _, rfl⟩
      · rw [if_neg hf] at wf ff
        simp only [t_X8_wayLength, t_needC w c1.1 c1.2, x_needC w c1.1 c1.2, f_X8_wayLength, wf, f_X9_wayLength, m_mayC hm w a1 a2, n1, ff, pd_5, pd_4, pc_neg, pc_tx, pc_txs, pd_1, pd_2, pc_bv, pd_3, pd_4, pd_5, pd_6, pd_7, pd_8, pd_9, pc_thr, if_true, if_false, pc_lit, pc_lit64, pc_ar1, pc_upL, pc_cmp, pc_10, pc_20, pc_str, Bool.false_eq_true, Bool.false_and, Bool.true_and, Bool.and_false, Bool.and_true, and_self, decide_true, decide_false, pc_zbI0, pc_zbI1, pc_ifz, pc_zb]
        exact ⟨_, _, _, _, _, _, _, _, _, rfl⟩
    · have n1 : ¬ (0 ≤ a ∧ a ≤ S 0 * S 1 - 1) := by omega
      simp only [t_X8_wayLength, t_needC' w c1 a1 a2, f_X9_wayLength, m_mayC hm w a1 a2, n1, pc_tx, pc_txs, pd_1, pd_2, pc_bv, pd_3, pd_4, pd_5, pd_6, pd_7, pd_8, pd_9, pc_thr, if_true, if_false, pc_lit, pc_lit64, pc_ar1, pc_upL, pc_cmp, pc_10, pc_20, pc_str, Bool.false_eq_true, Bool.false_and, Bool.true_and, Bool.and_false, Bool.and_true, and_self, decide_true, decide_false, pc_zbI0, pc_zbI1, pc_ifz, pc_zb]
      exact ⟨_, _, _, _, _, _, _, _, _, rfl⟩
  obtain ⟨o_x2_length, o_y6_costs, o_y7_sums, o_y8_way, o_x12_thrown, o_x12_flowLong, o_y13_flow, o_y15_sums, o_y16_p, e⟩ := key
  exact ⟨o_x2_length, o_y6_costs, o_y7_sums, o_y8_way, o_x12_thrown, o_x12_flowLong, o_y13_flow, o_y15_sums, o_y16_p, e, S, hc, w, hm, hr⟩
theorem q_28 : SP_28 RR := by
  intro L xs i σ μ o hR h1 h2
  obtain ⟨S, hc, w, hm, hr⟩ := hR
  obtain ⟨a, ea, a1, a2⟩ := pc_wr (xs (i + 1).toNatClampNeg)
  obtain ⟨b, eb, b1, b2⟩ := pc_wr (xs (i + 2).toNatClampNeg)
  have hC := w.C
  have hN := w.N
  have hD := w.D
  have ra := hc.ra
  have key : ∃ o_x2_length o_y6_costs o_y7_sums o_y8_way o_x12_thrown o_x12_flowLong o_y13_flow o_y15_sums o_y16_p, f_case_28 L xs i (σ.2.2.1.1) (σ.1.1) (σ.1.2.1) (σ.1.2.2.2.1) (σ.1.2.2.2.2.2.2.2.2.2.2.1) (σ.2.2.1.2.1) (σ.2.2.1.2.2.1) (σ.2.2.1.2.2.2) (σ.1.2.2.2.2.2.2.2.2.2.2.2.1) (σ.1.2.2.2.2.2.2.2.2.2.2.2.2.1) (σ.1.2.2.2.2.2.2.2.2.2.2.2.2.2.2.2.1) (μ.2.1) (μ.2.2.1) (μ.2.2.2.2.2.2.2.2.2.2.2.2.2.2.2.2.2.2.2.1) (μ.2.2.2.2.2.2.2.2.2.2.2.2.2.2.2.2.2.2.2.2.2.2.2.2.2.2.1) (μ.2.2.2.2.2.2.2.2.2.2.2.2.2.2.2.2.2.2.2.2.2.2.2.2.2.2.2.1) (o) = some (o_x2_length, o_y6_costs, o_y7_sums, o_y8_way, o_x12_thrown, o_x12_flowLong, o_y13_flow, o_y15_sums, o_y16_p) := by
    unfold f_case_28
    simp only [pc_vi h1, pc_vi h2, ea, eb, hc.rows, hc.columns, hc.rivers, hc.count, hc.jcount, hc.next, hc.turn, hc.quarters, hc.reds, pc_bv]
    by_cases c1 : 0 ≤ a ∧ a < S 0 * S 1
    · have n1 : 0 ≤ a ∧ a ≤ S 0 * S 1 - 1 := by omega
      obtain ⟨M, co, y, sm, hM, hco, hy, hsm, es, em⟩ := way_both hm w ra σ.2.2.1.2.1 σ.2.2.1.2.2.1 μ.2.2.2.2.2.2.2.2.2.2.2.2.2.2.2.2.2.2.2.2.2.2.2.2.2.2.2.1
      have wf := x_wayFrom w hM hco hy es (ln := σ.2.2.1.1) (wy := σ.2.2.1.2.2.2) c1.1 c1.2
      have ff := m_findsFlow hm w hM hsm em (ln := μ.2.2.1) (wy := μ.2.2.2.2.2.2.2.2.2.2.2.2.2.2.2.2.2.2.2.1) c1.1 c1.2
      by_cases hf : M a < 1000000
      · rw [if_pos hf] at wf ff
        have hL := fLn_c w hM c1.1 c1.2 hf
        have wa := x_wayAt w hM (wy := σ.2.2.1.2.2.2) c1.1 c1.2 hf b1 b2
        have ii := m_isIn (a := b) (b := 0) (c := fLn S M a - 1) b1 b2 (by omega) (by omega) (by omega) (by omega)
        by_cases z : 0 ≤ b ∧ b < fLn S M a
        · have z2 : 0 ≤ b ∧ b ≤ fLn S M a - 1 := by omega
          have arb : ∀ {α : Type} {k : Option α}, ar (iI b) 144 k = k := fun {_ _} => pc_ar z.1 (by omega) (by omega)
          have nb2 : (iI b).toNatClampNeg = b.toNat := pc_nat (by omega) (by omega)
          have ec : cpF (fLn S M a).toNat (flA S M a) μ.2.2.2.2.2.2.2.2.2.2.2.2.2.2.2.2.2.2.2.1 b.toNat = iI (fl S M a b.toNat) := by unfold cpF; rw [if_pos (by omega)]; rfl
          rw [if_pos z] at wa
          rw [decide_eq_true z2] at ii
          simp only [t_X8_wayCell, t_needC w c1.1 c1.2, x_needC w c1.1 c1.2, f_X8_wayCell, wf, f_X9_wayCell, m_mayC hm w a1 a2, n1, ff, wa, pc_sub, ii, arb, nb2, ec, pd_5, pd_4, pc_tx, pc_txs, pd_1, pd_2, pc_bv, pd_3, pd_4, pd_5, pd_6, pd_7, pd_8, pd_9, pc_thr, if_true, if_false, pc_lit, pc_lit64, pc_ar1, pc_upL, pc_cmp, pc_10, pc_20, pc_str, Bool.false_eq_true, Bool.false_and, Bool.true_and, Bool.and_false, Bool.and_true, and_self, decide_true, decide_false, pc_zbI0, pc_zbI1, pc_ifz, pc_zb]
          exact ⟨_, _, _, _, _, _, _, _, _, rfl⟩
        · have z2 : ¬ (0 ≤ b ∧ b ≤ fLn S M a - 1) := by omega
          rw [if_neg z] at wa
          rw [decide_eq_false z2] at ii
          simp only [t_X8_wayCell, t_needC w c1.1 c1.2, x_needC w c1.1 c1.2, f_X8_wayCell, wf, f_X9_wayCell, m_mayC hm w a1 a2, n1, ff, wa, pc_sub, ii, pc_neg, pd_5, pd_4, pc_tx, pc_txs, pd_1, pd_2, pc_bv, pd_3, pd_4, pd_5, pd_6, pd_7, pd_8, pd_9, pc_thr, if_true, if_false, pc_lit, pc_lit64, pc_ar1, pc_upL, pc_cmp, pc_10, pc_20, pc_str, Bool.false_eq_true, Bool.false_and, Bool.true_and, Bool.and_false, Bool.and_true, and_self, decide_true, decide_false, pc_zbI0, pc_zbI1, pc_ifz, pc_zb]
          exact ⟨_, _, _, _, _, _, _, _, _, rfl⟩
      · rw [if_neg hf] at wf ff
        simp only [t_X8_wayCell, t_needC w c1.1 c1.2, x_needC w c1.1 c1.2, f_X8_wayCell, wf, f_X9_wayCell, m_mayC hm w a1 a2, n1, ff, x_wayAt0 b1 b2, pc_neg, pd_5, pd_4, pc_tx, pc_txs, pd_1, pd_2, pc_bv, pd_3, pd_4, pd_5, pd_6, pd_7, pd_8, pd_9, pc_thr, if_true, if_false, pc_lit, pc_lit64, pc_ar1, pc_upL, pc_cmp, pc_10, pc_20, pc_str, Bool.false_eq_true, Bool.false_and, Bool.true_and, Bool.and_false, Bool.and_true, and_self, decide_true, decide_false, pc_zbI0, pc_zbI1, pc_ifz, pc_zb]
        exact ⟨_, _, _, _, _, _, _, _, _, rfl⟩
    · have n1 : ¬ (0 ≤ a ∧ a ≤ S 0 * S 1 - 1) := by omega
      simp only [t_X8_wayCell, t_needC' w c1 a1 a2, f_X9_wayCell, m_mayC hm w a1 a2, n1, pc_tx, pc_txs, pd_1, pd_2, pc_bv, pd_3, pd_4, pd_5, pd_6, pd_7, pd_8, pd_9, pc_thr, if_true, if_false, pc_lit, pc_lit64, pc_ar1, pc_upL, pc_cmp, pc_10, pc_20, pc_str, Bool.false_eq_true, Bool.false_and, Bool.true_and, Bool.and_false, Bool.and_true, and_self, decide_true, decide_false, pc_zbI0, pc_zbI1, pc_ifz, pc_zb]
      exact ⟨_, _, _, _, _, _, _, _, _, rfl⟩
  obtain ⟨o_x2_length, o_y6_costs, o_y7_sums, o_y8_way, o_x12_thrown, o_x12_flowLong, o_y13_flow, o_y15_sums, o_y16_p, e⟩ := key
  exact ⟨o_x2_length, o_y6_costs, o_y7_sums, o_y8_way, o_x12_thrown, o_x12_flowLong, o_y13_flow, o_y15_sums, o_y16_p, e, S, hc, w, hm, hr⟩
theorem q_29 : SP_29 RR := by
  intro L xs i σ μ o hR h1 h2
  obtain ⟨S, hc, w, hm, hr⟩ := hR
  obtain ⟨a, ea, a1, a2⟩ := pc_wr (xs (i + 1).toNatClampNeg)
  obtain ⟨b, eb, b1, b2⟩ := pc_wr (xs (i + 2).toNatClampNeg)
  have hC := w.C
  have hN := w.N
  have hD := w.D
  have ra := hc.ra
  have key : ∃ o_x2_length o_y6_costs o_y7_sums o_y8_way o_x12_thrown o_x12_flowLong o_y13_flow o_y15_sums o_y16_p, f_case_29 L xs i (σ.2.2.1.1) (σ.1.1) (σ.1.2.1) (σ.1.2.2.2.1) (σ.1.2.2.2.2.2.2.2.2.2.2.1) (σ.2.2.1.2.1) (σ.2.2.1.2.2.1) (σ.2.2.1.2.2.2) (σ.1.2.2.2.2.2.2.2.2.2.2.2.1) (σ.1.2.2.2.2.2.2.2.2.2.2.2.2.1) (σ.1.2.2.2.2.2.2.2.2.2.2.2.2.2.2.2.1) (μ.2.1) (μ.2.2.1) (μ.2.2.2.2.2.2.2.2.2.2.2.2.2.2.2.2.2.2.2.1) (μ.2.2.2.2.2.2.2.2.2.2.2.2.2.2.2.2.2.2.2.2.2.2.2.2.2.2.1) (μ.2.2.2.2.2.2.2.2.2.2.2.2.2.2.2.2.2.2.2.2.2.2.2.2.2.2.2.1) (o) = some (o_x2_length, o_y6_costs, o_y7_sums, o_y8_way, o_x12_thrown, o_x12_flowLong, o_y13_flow, o_y15_sums, o_y16_p) := by
    unfold f_case_29
    simp only [pc_vi h1, pc_vi h2, ea, eb, hc.rows, hc.columns, hc.rivers, hc.count, hc.jcount, hc.next, hc.turn, hc.quarters, hc.reds, pc_bv]
    by_cases c1 : 0 ≤ a ∧ a < S 0 * S 1
    · have n1 : 0 ≤ a ∧ a ≤ S 0 * S 1 - 1 := by omega
      obtain ⟨M, co, y, sm, hM, hco, hy, hsm, es, em⟩ := way_both hm w ra σ.2.2.1.2.1 σ.2.2.1.2.2.1 μ.2.2.2.2.2.2.2.2.2.2.2.2.2.2.2.2.2.2.2.2.2.2.2.2.2.2.2.1
      have wf := x_wayFrom w hM hco hy es (ln := σ.2.2.1.1) (wy := σ.2.2.1.2.2.2) c1.1 c1.2
      have ff := m_findsFlow hm w hM hsm em (ln := μ.2.2.1) (wy := μ.2.2.2.2.2.2.2.2.2.2.2.2.2.2.2.2.2.2.2.1) c1.1 c1.2
      by_cases hf : M a < 1000000
      · rw [if_pos hf] at wf ff
        have hL := fLn_c w hM c1.1 c1.2 hf
        simp only [t_X8_washes, t_needC w c1.1 c1.2, x_needC w c1.1 c1.2, f_X8_washes, wf, f_X9_washes, m_mayC hm w a1 a2, n1, ff, x_namesOnWay w ra.namesOn hM c1.1 c1.2 hf, m_washedBy hm w hM c1.1 c1.2 hf, pd_5, pd_4, pc_tx, pc_txs, pd_1, pd_2, pc_bv, pd_3, pd_4, pd_5, pd_6, pd_7, pd_8, pd_9, pc_thr, if_true, if_false, pc_lit, pc_lit64, pc_ar1, pc_upL, pc_cmp, pc_10, pc_20, pc_str, Bool.false_eq_true, Bool.false_and, Bool.true_and, Bool.and_false, Bool.and_true, and_self, decide_true, decide_false, pc_zbI0, pc_zbI1, pc_ifz, pc_zb]
        exact ⟨_, _, _, _, _, _, _, _, _, rfl⟩
      · rw [if_neg hf] at wf ff
        simp only [t_X8_washes, t_needC w c1.1 c1.2, x_needC w c1.1 c1.2, f_X8_washes, wf, f_X9_washes, m_mayC hm w a1 a2, n1, ff, x_namesOnWay0, pd_5, pd_4, pc_tx, pc_txs, pd_1, pd_2, pc_bv, pd_3, pd_4, pd_5, pd_6, pd_7, pd_8, pd_9, pc_thr, if_true, if_false, pc_lit, pc_lit64, pc_ar1, pc_upL, pc_cmp, pc_10, pc_20, pc_str, Bool.false_eq_true, Bool.false_and, Bool.true_and, Bool.and_false, Bool.and_true, and_self, decide_true, decide_false, pc_zbI0, pc_zbI1, pc_ifz, pc_zb]
        exact ⟨_, _, _, _, _, _, _, _, _, rfl⟩
    · have n1 : ¬ (0 ≤ a ∧ a ≤ S 0 * S 1 - 1) := by omega
      simp only [t_X8_washes, t_needC' w c1 a1 a2, f_X9_washes, m_mayC hm w a1 a2, n1, pc_tx, pc_txs, pd_1, pd_2, pc_bv, pd_3, pd_4, pd_5, pd_6, pd_7, pd_8, pd_9, pc_thr, if_true, if_false, pc_lit, pc_lit64, pc_ar1, pc_upL, pc_cmp, pc_10, pc_20, pc_str, Bool.false_eq_true, Bool.false_and, Bool.true_and, Bool.and_false, Bool.and_true, and_self, decide_true, decide_false, pc_zbI0, pc_zbI1, pc_ifz, pc_zb]
      exact ⟨_, _, _, _, _, _, _, _, _, rfl⟩
  obtain ⟨o_x2_length, o_y6_costs, o_y7_sums, o_y8_way, o_x12_thrown, o_x12_flowLong, o_y13_flow, o_y15_sums, o_y16_p, e⟩ := key
  exact ⟨o_x2_length, o_y6_costs, o_y7_sums, o_y8_way, o_x12_thrown, o_x12_flowLong, o_y13_flow, o_y15_sums, o_y16_p, e, S, hc, w, hm, hr⟩
