theorem pc_10 : (iI 1 = iI 0) = False := eq_false (by decide)
theorem pc_20 : (iI 2 = iI 0) = False := eq_false (by decide)
theorem pc_str : ("java/lang/IllegalArgumentException" = "java/lang/IndexOutOfBoundsException") = False := eq_false (by decide)
theorem pc_zbI0 {α : Type} {k : Option α} : zb (iI 0) k = k := rfl
theorem pc_zbI1 {α : Type} {k : Option α} : zb (iI 1) k = k := rfl
theorem q_2 : SP_2 RR := by
  intro L xs i σ μ o hR h1 h2
  obtain ⟨S, hc, w, hm, hr⟩ := hR
  obtain ⟨a, ea, a1, a2⟩ := pc_wr (xs (i + 1).toNatClampNeg)
  obtain ⟨b, eb, b1, b2⟩ := pc_wr (xs (i + 2).toNatClampNeg)
  have hC := w.C
  have hN := w.N
  have hD := w.D
  have key : ∃ o_x1_thrown, f_case_2 L xs i (σ.2.2.2.2.2.2.2.1.1) (μ.2.1) (μ.2.2.2.2.2.2.2.2.2.2.2.1) = some (o_x1_thrown) := by
    unfold f_case_2
    simp only [f_X8_loadError, f_X9_loadError, hr.2.2.2.2.1, pc_tx, pc_txs, pd_1, pd_2, pd_3, pc_thr, if_true, if_false, pc_lit, pc_lit64, pc_ar1, pc_upL, pc_cmp, pc_10, pc_20, pc_str, Bool.false_eq_true, Bool.false_and, Bool.true_and, Bool.and_false, Bool.and_true, and_self, decide_true, decide_false, pc_zB0, pc_zB1, pc_zbI0, pc_zbI1, pc_ifz, pc_zb]
    exact ⟨_, rfl⟩
  obtain ⟨o_x1_thrown, e⟩ := key
  exact ⟨o_x1_thrown, e, S, hc, w, hm, hr⟩

theorem q_3 : SP_3 RR := by
  intro L xs i σ μ o hR h1 h2
  obtain ⟨S, hc, w, hm, hr⟩ := hR
  obtain ⟨a, ea, a1, a2⟩ := pc_wr (xs (i + 1).toNatClampNeg)
  obtain ⟨b, eb, b1, b2⟩ := pc_wr (xs (i + 2).toNatClampNeg)
  have hC := w.C
  have hN := w.N
  have hD := w.D
  have key : ∃ o_x1_thrown, f_case_3 L xs i (σ.2.2.2.2.2.2.2.1.2.1) (μ.2.1) (μ.2.2.2.2.2.2.2.2.2.2.2.2.1) = some (o_x1_thrown) := by
    unfold f_case_3
    simp only [f_X8_loadStatement, f_X9_loadStatement, hr.2.2.2.2.2, pc_tx, pc_txs, pd_1, pd_2, pd_3, pc_thr, if_true, if_false, pc_lit, pc_lit64, pc_ar1, pc_upL, pc_cmp, pc_10, pc_20, pc_str, Bool.false_eq_true, Bool.false_and, Bool.true_and, Bool.and_false, Bool.and_true, and_self, decide_true, decide_false, pc_zB0, pc_zB1, pc_zbI0, pc_zbI1, pc_ifz, pc_zb]
    exact ⟨_, rfl⟩
  obtain ⟨o_x1_thrown, e⟩ := key
  exact ⟨o_x1_thrown, e, S, hc, w, hm, hr⟩

theorem q_7 : SP_7 RR := by
  intro L xs i σ μ o hR h1 h2
  obtain ⟨S, hc, w, hm, hr⟩ := hR
  obtain ⟨a, ea, a1, a2⟩ := pc_wr (xs (i + 1).toNatClampNeg)
  obtain ⟨b, eb, b1, b2⟩ := pc_wr (xs (i + 2).toNatClampNeg)
  have hC := w.C
  have hN := w.N
  have hD := w.D
  have key : ∃ o_x5_thrown o_y7_p, f_case_7 L xs i (σ.1.2.2.2.1) (σ.1.2.2.2.2.2.2.2.2.2.2.2.2.2.2.2.2.1) (σ.1.2.2.2.2.2.2.2.2.2.2.2.2.2.2.2.2.2.1) (μ.2.1) (μ.2.2.2.2.2.2.2.2.2.2.2.2.2.2.2.2.2.2.2.2.2.2.2.2.2.2.1) (o) = some (o_x5_thrown, o_y7_p) := by
    unfold f_case_7
    simp only [pc_vi h1, pc_vi h2, ea, eb, hc.rows, hc.columns, hc.rivers, hc.count, hc.jcount, hc.next, hc.turn, hc.quarters, hc.reds, pc_bv]
    by_cases c1 : 0 ≤ a ∧ a < S 2
    · skip
      simp only [t_X8_letter, t_needH c1.1 c1.2 (by omega), x_needH c1.1 c1.2 (by omega), x_letter w hc.length hc.letters c1.1 c1.2 b1 b2, m_letter hm w c1.1 c1.2 b1 b2, pc_tx, pc_txs, pd_1, pd_2, pd_3, pc_thr, if_true, if_false, pc_lit, pc_lit64, pc_ar1, pc_upL, pc_cmp, pc_10, pc_20, pc_str, Bool.false_eq_true, Bool.false_and, Bool.true_and, Bool.and_false, Bool.and_true, and_self, decide_true, decide_false, pc_zB0, pc_zB1, pc_zbI0, pc_zbI1, pc_ifz, pc_zb]
      exact ⟨_, _, rfl⟩
    · skip
      have n1 : ¬ (0 ≤ a ∧ a ≤ S 2 - 1) := by omega
      simp only [t_X8_letter, t_needH' c1 a1 a2 (by omega) (by omega), f_X9_letter, m_isHarbour hm w a1 a2, m_mayH hm w a1 a2, m_passes, n1, pc_tx, pc_txs, pd_1, pd_2, pd_3, pc_thr, if_true, if_false, pc_lit, pc_lit64, pc_ar1, pc_upL, pc_cmp, pc_10, pc_20, pc_str, Bool.false_eq_true, Bool.false_and, Bool.true_and, Bool.and_false, Bool.and_true, and_self, decide_true, decide_false, pc_zB0, pc_zB1, pc_zbI0, pc_zbI1, pc_ifz, pc_zb]
      exact ⟨_, _, rfl⟩
  obtain ⟨o_x5_thrown, o_y7_p, e⟩ := key
  exact ⟨o_x5_thrown, o_y7_p, e, S, hc, w, hm, hr⟩

theorem q_8 : SP_8 RR := by
  intro L xs i σ μ o hR h1 h2
  obtain ⟨S, hc, w, hm, hr⟩ := hR
  obtain ⟨a, ea, a1, a2⟩ := pc_wr (xs (i + 1).toNatClampNeg)
  obtain ⟨b, eb, b1, b2⟩ := pc_wr (xs (i + 2).toNatClampNeg)
  have hC := w.C
  have hN := w.N
  have hD := w.D
  have key : ∃ o_x5_thrown o_y7_p, f_case_8 L xs i (σ.1.2.2.1) (σ.1.2.2.2.2.2.2.2.2.2.2.2.2.1) (σ.1.2.2.2.2.2.2.2.2.2.2.2.2.2.1) (μ.2.1) (μ.2.2.2.2.2.2.2.2.2.2.2.2.2.2.2.2.2.2.2.2.2.2.2.2.2.2.1) (o) = some (o_x5_thrown, o_y7_p) := by
    unfold f_case_8
    simp only [pc_vi h1, pc_vi h2, ea, eb, hc.rows, hc.columns, hc.rivers, hc.count, hc.jcount, hc.next, hc.turn, hc.quarters, hc.reds, pc_bv]
    by_cases c1 : 0 ≤ a ∧ a < S 3
    · skip
      simp only [t_X8_river, t_needR c1.1 c1.2 (by omega), x_needR c1.1 c1.2 (by omega), x_river w hc.riverOf hc.riverPlace c1.1 c1.2 b1 b2, m_river hm w c1.1 c1.2 b1 b2, pc_tx, pc_txs, pd_1, pd_2, pd_3, pc_thr, if_true, if_false, pc_lit, pc_lit64, pc_ar1, pc_upL, pc_cmp, pc_10, pc_20, pc_str, Bool.false_eq_true, Bool.false_and, Bool.true_and, Bool.and_false, Bool.and_true, and_self, decide_true, decide_false, pc_zB0, pc_zB1, pc_zbI0, pc_zbI1, pc_ifz, pc_zb]
      exact ⟨_, _, rfl⟩
    · skip
      have n1 : ¬ (0 ≤ a ∧ a ≤ S 3 - 1) := by omega
      simp only [t_X8_river, t_needR' c1 a1 a2 (by omega) (by omega), f_X9_river, m_mayR hm w a1 a2, m_mayR hm w a1 a2, m_passes, n1, pc_tx, pc_txs, pd_1, pd_2, pd_3, pc_thr, if_true, if_false, pc_lit, pc_lit64, pc_ar1, pc_upL, pc_cmp, pc_10, pc_20, pc_str, Bool.false_eq_true, Bool.false_and, Bool.true_and, Bool.and_false, Bool.and_true, and_self, decide_true, decide_false, pc_zB0, pc_zB1, pc_zbI0, pc_zbI1, pc_ifz, pc_zb]
      exact ⟨_, _, rfl⟩
  obtain ⟨o_x5_thrown, o_y7_p, e⟩ := key
  exact ⟨o_x5_thrown, o_y7_p, e, S, hc, w, hm, hr⟩

theorem q_9 : SP_9 RR := by
  intro L xs i σ μ o hR h1 h2
  obtain ⟨S, hc, w, hm, hr⟩ := hR
  obtain ⟨a, ea, a1, a2⟩ := pc_wr (xs (i + 1).toNatClampNeg)
  obtain ⟨b, eb, b1, b2⟩ := pc_wr (xs (i + 2).toNatClampNeg)
  have hC := w.C
  have hN := w.N
  have hD := w.D
  have key : ∃ o_x4_thrown, f_case_9 L xs i (σ.1.2.2.2.2.2.1) (σ.1.2.2.2.2.2.2.2.2.2.2.2.2.2.2.2.2.2.2) (μ.2.1) (μ.2.2.2.2.2.2.2.2.2.2.2.2.2.2.2.2.2.2.2.2.2.2.2.2.2.2.1) = some (o_x4_thrown) := by
    unfold f_case_9
    simp only [pc_vi h1, pc_vi h2, ea, eb, hc.rows, hc.columns, hc.rivers, hc.count, hc.jcount, hc.next, hc.turn, hc.quarters, hc.reds, pc_bv]
    simp only [x_voyage w hc.stops a1 a2, m_voyage hm w a1 a2, pc_tx, pc_txs, pd_1, pd_2, pd_3, pc_thr, if_true, if_false, pc_lit, pc_lit64, pc_ar1, pc_upL, pc_cmp, pc_10, pc_20, pc_str, Bool.false_eq_true, Bool.false_and, Bool.true_and, Bool.and_false, Bool.and_true, and_self, decide_true, decide_false, pc_zB0, pc_zB1, pc_zbI0, pc_zbI1, pc_ifz, pc_zb]
    exact ⟨_, rfl⟩
  obtain ⟨o_x4_thrown, e⟩ := key
  exact ⟨o_x4_thrown, e, S, hc, w, hm, hr⟩

theorem q_10 : SP_10 RR := by
  intro L xs i σ μ o hR h1 h2
  obtain ⟨S, hc, w, hm, hr⟩ := hR
  obtain ⟨a, ea, a1, a2⟩ := pc_wr (xs (i + 1).toNatClampNeg)
  obtain ⟨b, eb, b1, b2⟩ := pc_wr (xs (i + 2).toNatClampNeg)
  have hC := w.C
  have hN := w.N
  have hD := w.D
  have key : ∃ o_x11_thrown o_y13_p, f_case_10 L xs i (σ.1.1) (σ.1.2.1) (σ.1.2.2.2.1) (σ.1.2.2.2.2.1) (σ.1.2.2.2.2.2.2.2.2.2.1) (σ.1.2.2.2.2.2.2.2.2.2.2.1) (σ.1.2.2.2.2.2.2.2.2.2.2.2.1) (σ.1.2.2.2.2.2.2.2.2.2.2.2.2.1) (σ.1.2.2.2.2.2.2.2.2.2.2.2.2.2.2.2.1) (σ.1.2.2.2.2.2.2.2.2.2.2.2.2.2.2.2.2.1) (σ.1.2.2.2.2.2.2.2.2.2.2.2.2.2.2.2.2.2.1) (μ.2.1) (μ.2.2.2.2.2.2.2.2.2.2.2.2.2.2.2.2.2.2.2.2.2.2.2.2.2.2.1) (o) = some (o_x11_thrown, o_y13_p) := by
    unfold f_case_10
    simp only [pc_vi h1, pc_vi h2, ea, eb, hc.rows, hc.columns, hc.rivers, hc.count, hc.jcount, hc.next, hc.turn, hc.quarters, hc.reds, pc_bv]
    by_cases c1 : 0 ≤ a ∧ a < S 2
    · skip
      by_cases c2 : 0 ≤ b ∧ b < 4
      · skip
        simp only [t_X8_why, t_needH c1.1 c1.2 (by omega), x_needH c1.1 c1.2 (by omega), t_needD c2.1 c2.2, x_needD c2.1 c2.2, x_why w hc.land hc.riverOf hc.home hc.length hc.letters hc.namesOn hc.letterOn c1.1 c1.2 c2.1 c2.2, m_why hm w c1.1 c1.2 c2.1 c2.2, pc_tx, pc_txs, pd_1, pd_2, pd_3, pc_thr, if_true, if_false, pc_lit, pc_lit64, pc_ar1, pc_upL, pc_cmp, pc_10, pc_20, pc_str, Bool.false_eq_true, Bool.false_and, Bool.true_and, Bool.and_false, Bool.and_true, and_self, decide_true, decide_false, pc_zB0, pc_zB1, pc_zbI0, pc_zbI1, pc_ifz, pc_zb]
        exact ⟨_, _, rfl⟩
      · skip
        have n1 : 0 ≤ a ∧ a ≤ S 2 - 1 := by omega
        have n2 : ¬ (0 ≤ b ∧ b ≤ 3) := by omega
        simp only [t_X8_why, t_needH c1.1 c1.2 (by omega), x_needH c1.1 c1.2 (by omega), t_needD' c2 b1 b2, f_X9_why, m_isHarbour hm w a1 a2, m_mayH hm w a1 a2, m_isWay b1 b2, m_isWay b1 b2, m_passes, n1, n2, pc_tx, pc_txs, pd_1, pd_2, pd_3, pc_thr, if_true, if_false, pc_lit, pc_lit64, pc_ar1, pc_upL, pc_cmp, pc_10, pc_20, pc_str, Bool.false_eq_true, Bool.false_and, Bool.true_and, Bool.and_false, Bool.and_true, and_self, decide_true, decide_false, pc_zB0, pc_zB1, pc_zbI0, pc_zbI1, pc_ifz, pc_zb]
        exact ⟨_, _, rfl⟩
    · skip
      have n1 : ¬ (0 ≤ a ∧ a ≤ S 2 - 1) := by omega
      simp only [t_X8_why, t_needH' c1 a1 a2 (by omega) (by omega), f_X9_why, m_isHarbour hm w a1 a2, m_mayH hm w a1 a2, m_isWay b1 b2, m_isWay b1 b2, m_passes, n1, pc_tx, pc_txs, pd_1, pd_2, pd_3, pc_thr, if_true, if_false, pc_lit, pc_lit64, pc_ar1, pc_upL, pc_cmp, pc_10, pc_20, pc_str, Bool.false_eq_true, Bool.false_and, Bool.true_and, Bool.and_false, Bool.and_true, and_self, decide_true, decide_false, pc_zB0, pc_zB1, pc_zbI0, pc_zbI1, pc_ifz, pc_zb]
      exact ⟨_, _, rfl⟩
  obtain ⟨o_x11_thrown, o_y13_p, e⟩ := key
  exact ⟨o_x11_thrown, o_y13_p, e, S, hc, w, hm, hr⟩

theorem q_11 : SP_11 RR := by
  intro L xs i σ μ o hR h1 h2
  obtain ⟨S, hc, w, hm, hr⟩ := hR
  obtain ⟨a, ea, a1, a2⟩ := pc_wr (xs (i + 1).toNatClampNeg)
  obtain ⟨b, eb, b1, b2⟩ := pc_wr (xs (i + 2).toNatClampNeg)
  have hC := w.C
  have hN := w.N
  have hD := w.D
  have key : ∃ o_x11_thrown o_y13_p, f_case_11 L xs i (σ.1.1) (σ.1.2.1) (σ.1.2.2.2.1) (σ.1.2.2.2.2.1) (σ.1.2.2.2.2.2.2.2.2.2.1) (σ.1.2.2.2.2.2.2.2.2.2.2.1) (σ.1.2.2.2.2.2.2.2.2.2.2.2.1) (σ.1.2.2.2.2.2.2.2.2.2.2.2.2.1) (σ.1.2.2.2.2.2.2.2.2.2.2.2.2.2.2.2.1) (σ.1.2.2.2.2.2.2.2.2.2.2.2.2.2.2.2.2.1) (σ.1.2.2.2.2.2.2.2.2.2.2.2.2.2.2.2.2.2.1) (μ.2.1) (μ.2.2.2.2.2.2.2.2.2.2.2.2.2.2.2.2.2.2.2.2.2.2.2.2.2.2.1) (o) = some (o_x11_thrown, o_y13_p) := by
    unfold f_case_11
    simp only [pc_vi h1, pc_vi h2, ea, eb, hc.rows, hc.columns, hc.rivers, hc.count, hc.jcount, hc.next, hc.turn, hc.quarters, hc.reds, pc_bv]
    by_cases c1 : 0 ≤ a ∧ a < S 2
    · skip
      simp only [t_X8_ways, t_needH c1.1 c1.2 (by omega), x_needH c1.1 c1.2 (by omega), x_ways w hc.land hc.riverOf hc.home hc.length hc.letters hc.namesOn hc.letterOn c1.1 c1.2, m_ways hm w c1.1 c1.2, pc_tx, pc_txs, pd_1, pd_2, pd_3, pc_thr, if_true, if_false, pc_lit, pc_lit64, pc_ar1, pc_upL, pc_cmp, pc_10, pc_20, pc_str, Bool.false_eq_true, Bool.false_and, Bool.true_and, Bool.and_false, Bool.and_true, and_self, decide_true, decide_false, pc_zB0, pc_zB1, pc_zbI0, pc_zbI1, pc_ifz, pc_zb]
      exact ⟨_, _, rfl⟩
    · skip
      have n1 : ¬ (0 ≤ a ∧ a ≤ S 2 - 1) := by omega
      simp only [t_X8_ways, t_needH' c1 a1 a2 (by omega) (by omega), f_X9_ways, m_isHarbour hm w a1 a2, m_mayH hm w a1 a2, m_passes, n1, pc_tx, pc_txs, pd_1, pd_2, pd_3, pc_thr, if_true, if_false, pc_lit, pc_lit64, pc_ar1, pc_upL, pc_cmp, pc_10, pc_20, pc_str, Bool.false_eq_true, Bool.false_and, Bool.true_and, Bool.and_false, Bool.and_true, and_self, decide_true, decide_false, pc_zB0, pc_zB1, pc_zbI0, pc_zbI1, pc_ifz, pc_zb]
      exact ⟨_, _, rfl⟩
  obtain ⟨o_x11_thrown, o_y13_p, e⟩ := key
  exact ⟨o_x11_thrown, o_y13_p, e, S, hc, w, hm, hr⟩

theorem q_12 : SP_12 RR := by
  intro L xs i σ μ o hR h1 h2
  obtain ⟨S, hc, w, hm, hr⟩ := hR
  obtain ⟨a, ea, a1, a2⟩ := pc_wr (xs (i + 1).toNatClampNeg)
  obtain ⟨b, eb, b1, b2⟩ := pc_wr (xs (i + 2).toNatClampNeg)
  have hC := w.C
  have hN := w.N
  have hD := w.D
  have key : ∃ o_x7_thrown o_y9_p, f_case_12 L xs i (σ.1.1) (σ.1.2.1) (σ.1.2.2.2.1) (σ.1.2.2.2.2.2.2.2.2.2.2.2.1) (σ.1.2.2.2.2.2.2.2.2.2.2.2.2.1) (σ.1.2.2.2.2.2.2.2.2.2.2.2.2.2.2.2.1) (μ.2.1) (μ.2.2.2.2.2.2.2.2.2.2.2.2.2.2.2.2.2.2.2.2.2.2.2.2.2.2.1) (o) = some (o_x7_thrown, o_y9_p) := by
    unfold f_case_12
    simp only [pc_vi h1, pc_vi h2, ea, eb, hc.rows, hc.columns, hc.rivers, hc.count, hc.jcount, hc.next, hc.turn, hc.quarters, hc.reds, pc_bv]
    by_cases c1 : 0 ≤ a ∧ a < S 2
    · skip
      by_cases c2 : 0 ≤ b ∧ b < 4
      · skip
        simp only [t_X8_room, t_needH c1.1 c1.2 (by omega), x_needH c1.1 c1.2 (by omega), t_needD c2.1 c2.2, x_needD c2.1 c2.2, x_room w hc.land hc.riverOf hc.home c1.1 c1.2 c2.1 c2.2, m_roomL hm w c1.1 c1.2 c2.1 c2.2, pc_tx, pc_txs, pd_1, pd_2, pd_3, pc_thr, if_true, if_false, pc_lit, pc_lit64, pc_ar1, pc_upL, pc_cmp, pc_10, pc_20, pc_str, Bool.false_eq_true, Bool.false_and, Bool.true_and, Bool.and_false, Bool.and_true, and_self, decide_true, decide_false, pc_zB0, pc_zB1, pc_zbI0, pc_zbI1, pc_ifz, pc_zb]
        exact ⟨_, _, rfl⟩
      · skip
        have n1 : 0 ≤ a ∧ a ≤ S 2 - 1 := by omega
        have n2 : ¬ (0 ≤ b ∧ b ≤ 3) := by omega
        simp only [t_X8_room, t_needH c1.1 c1.2 (by omega), x_needH c1.1 c1.2 (by omega), t_needD' c2 b1 b2, f_X9_room, m_isHarbour hm w a1 a2, m_mayH hm w a1 a2, m_isWay b1 b2, m_isWay b1 b2, m_passes, n1, n2, pc_tx, pc_txs, pd_1, pd_2, pd_3, pc_thr, if_true, if_false, pc_lit, pc_lit64, pc_ar1, pc_upL, pc_cmp, pc_10, pc_20, pc_str, Bool.false_eq_true, Bool.false_and, Bool.true_and, Bool.and_false, Bool.and_true, and_self, decide_true, decide_false, pc_zB0, pc_zB1, pc_zbI0, pc_zbI1, pc_ifz, pc_zb]
        exact ⟨_, _, rfl⟩
    · skip
      have n1 : ¬ (0 ≤ a ∧ a ≤ S 2 - 1) := by omega
      simp only [t_X8_room, t_needH' c1 a1 a2 (by omega) (by omega), f_X9_room, m_isHarbour hm w a1 a2, m_mayH hm w a1 a2, m_isWay b1 b2, m_isWay b1 b2, m_passes, n1, pc_tx, pc_txs, pd_1, pd_2, pd_3, pc_thr, if_true, if_false, pc_lit, pc_lit64, pc_ar1, pc_upL, pc_cmp, pc_10, pc_20, pc_str, Bool.false_eq_true, Bool.false_and, Bool.true_and, Bool.and_false, Bool.and_true, and_self, decide_true, decide_false, pc_zB0, pc_zB1, pc_zbI0, pc_zbI1, pc_ifz, pc_zb]
      exact ⟨_, _, rfl⟩
  obtain ⟨o_x7_thrown, o_y9_p, e⟩ := key
  exact ⟨o_x7_thrown, o_y9_p, e, S, hc, w, hm, hr⟩

theorem q_13 : SP_13 RR := by
  intro L xs i σ μ o hR h1 h2
  obtain ⟨S, hc, w, hm, hr⟩ := hR
  obtain ⟨a, ea, a1, a2⟩ := pc_wr (xs (i + 1).toNatClampNeg)
  obtain ⟨b, eb, b1, b2⟩ := pc_wr (xs (i + 2).toNatClampNeg)
  have hC := w.C
  have hN := w.N
  have hD := w.D
  have key : ∃ o_x8_thrown, f_case_13 L xs i (σ.1.1) (σ.1.2.1) (σ.1.2.2.2.1) (σ.1.2.2.2.2.2.2.2.2.2.2.1) (σ.1.2.2.2.2.2.2.2.2.2.2.2.2.2.2.1) (σ.1.2.2.2.2.2.2.2.2.2.2.2.2.2.2.2.1) (σ.1.2.2.2.2.2.2.2.2.2.2.2.2.2.2.2.2.1) (μ.2.1) (μ.2.2.2.2.2.2.2.2.2.2.2.2.2.2.2.2.2.2.2.2.2.2.2.2.2.2.1) = some (o_x8_thrown) := by
    unfold f_case_13
    simp only [pc_vi h1, pc_vi h2, ea, eb, hc.rows, hc.columns, hc.rivers, hc.count, hc.jcount, hc.next, hc.turn, hc.quarters, hc.reds, pc_bv]
    simp only [x_crossings w hc.home hc.direction hc.length hc.namesOn, m_crossings hm w, pc_tx, pc_txs, pd_1, pd_2, pd_3, pc_thr, if_true, if_false, pc_lit, pc_lit64, pc_ar1, pc_upL, pc_cmp, pc_10, pc_20, pc_str, Bool.false_eq_true, Bool.false_and, Bool.true_and, Bool.and_false, Bool.and_true, and_self, decide_true, decide_false, pc_zB0, pc_zB1, pc_zbI0, pc_zbI1, pc_ifz, pc_zb]
    exact ⟨_, rfl⟩
  obtain ⟨o_x8_thrown, e⟩ := key
  exact ⟨o_x8_thrown, e, S, hc, w, hm, hr⟩

theorem q_14 : SP_14 RR := by
  intro L xs i σ μ o hR h1 h2
  obtain ⟨S, hc, w, hm, hr⟩ := hR
  obtain ⟨a, ea, a1, a2⟩ := pc_wr (xs (i + 1).toNatClampNeg)
  obtain ⟨b, eb, b1, b2⟩ := pc_wr (xs (i + 2).toNatClampNeg)
  have hC := w.C
  have hN := w.N
  have hD := w.D
  have key : ∃ o_x8_thrown o_y10_p, f_case_14 L xs i (σ.1.1) (σ.1.2.1) (σ.1.2.2.2.1) (σ.1.2.2.2.2.2.2.2.2.2.2.1) (σ.1.2.2.2.2.2.2.2.2.2.2.2.2.2.2.1) (σ.1.2.2.2.2.2.2.2.2.2.2.2.2.2.2.2.1) (σ.1.2.2.2.2.2.2.2.2.2.2.2.2.2.2.2.2.1) (μ.2.1) (μ.2.2.2.2.2.2.2.2.2.2.2.2.2.2.2.2.2.2.2.2.2.2.2.2.2.2.1) (o) = some (o_x8_thrown, o_y10_p) := by
    unfold f_case_14
    simp only [pc_vi h1, pc_vi h2, ea, eb, hc.rows, hc.columns, hc.rivers, hc.count, hc.jcount, hc.next, hc.turn, hc.quarters, hc.reds, pc_bv]
    by_cases c1 : 0 ≤ a ∧ a < S 2
    · skip
      simp only [t_X8_crossed, t_needH c1.1 c1.2 (by omega), x_needH c1.1 c1.2 (by omega), x_crossed w hc.home hc.direction hc.length hc.namesOn c1.1 c1.2, m_crossed hm w c1.1 c1.2, pc_tx, pc_txs, pd_1, pd_2, pd_3, pc_thr, if_true, if_false, pc_lit, pc_lit64, pc_ar1, pc_upL, pc_cmp, pc_10, pc_20, pc_str, Bool.false_eq_true, Bool.false_and, Bool.true_and, Bool.and_false, Bool.and_true, and_self, decide_true, decide_false, pc_zB0, pc_zB1, pc_zbI0, pc_zbI1, pc_ifz, pc_zb]
      exact ⟨_, _, rfl⟩
    · skip
      have n1 : ¬ (0 ≤ a ∧ a ≤ S 2 - 1) := by omega
      simp only [t_X8_crossed, t_needH' c1 a1 a2 (by omega) (by omega), f_X9_crossed, m_isHarbour hm w a1 a2, m_mayH hm w a1 a2, m_passes, n1, pc_tx, pc_txs, pd_1, pd_2, pd_3, pc_thr, if_true, if_false, pc_lit, pc_lit64, pc_ar1, pc_upL, pc_cmp, pc_10, pc_20, pc_str, Bool.false_eq_true, Bool.false_and, Bool.true_and, Bool.and_false, Bool.and_true, and_self, decide_true, decide_false, pc_zB0, pc_zB1, pc_zbI0, pc_zbI1, pc_ifz, pc_zb]
      exact ⟨_, _, rfl⟩
  obtain ⟨o_x8_thrown, o_y10_p, e⟩ := key
  exact ⟨o_x8_thrown, o_y10_p, e, S, hc, w, hm, hr⟩

theorem q_15 : SP_15 RR := by
  intro L xs i σ μ o hR h1 h2
  obtain ⟨S, hc, w, hm, hr⟩ := hR
  obtain ⟨a, ea, a1, a2⟩ := pc_wr (xs (i + 1).toNatClampNeg)
  obtain ⟨b, eb, b1, b2⟩ := pc_wr (xs (i + 2).toNatClampNeg)
  have hC := w.C
  have hN := w.N
  have hD := w.D
  have key : ∃ o_x8_thrown, f_case_15 L xs i (σ.1.1) (σ.1.2.1) (σ.1.2.2.2.1) (σ.1.2.2.2.2.2.2.2.2.2.2.1) (σ.1.2.2.2.2.2.2.2.2.2.2.2.1) (σ.1.2.2.2.2.2.2.2.2.2.2.2.2.1) (σ.1.2.2.2.2.2.2.2.2.2.2.2.2.2.2.2.1) (μ.2.1) (μ.2.2.2.2.2.2.2.2.2.2.2.2.2.2.2.2.2.2.2.2.2.2.2.2.2.2.1) = some (o_x8_thrown) := by
    unfold f_case_15
    simp only [pc_vi h1, pc_vi h2, ea, eb, hc.rows, hc.columns, hc.rivers, hc.count, hc.jcount, hc.next, hc.turn, hc.quarters, hc.reds, pc_bv]
    simp only [x_free w hc.land hc.riverOf hc.home hc.namesOn, m_free hm w, pc_tx, pc_txs, pd_1, pd_2, pd_3, pc_thr, if_true, if_false, pc_lit, pc_lit64, pc_ar1, pc_upL, pc_cmp, pc_10, pc_20, pc_str, Bool.false_eq_true, Bool.false_and, Bool.true_and, Bool.and_false, Bool.and_true, and_self, decide_true, decide_false, pc_zB0, pc_zB1, pc_zbI0, pc_zbI1, pc_ifz, pc_zb]
    exact ⟨_, rfl⟩
  obtain ⟨o_x8_thrown, e⟩ := key
  exact ⟨o_x8_thrown, e, S, hc, w, hm, hr⟩

theorem q_16 : SP_16 RR := by
  intro L xs i σ μ o hR h1 h2
  obtain ⟨S, hc, w, hm, hr⟩ := hR
  obtain ⟨a, ea, a1, a2⟩ := pc_wr (xs (i + 1).toNatClampNeg)
  obtain ⟨b, eb, b1, b2⟩ := pc_wr (xs (i + 2).toNatClampNeg)
  have hC := w.C
  have hN := w.N
  have hD := w.D
  have key : ∃ o_x4_thrown o_y6_p, f_case_16 L xs i (σ.1.2.2.2.1) (σ.1.2.2.2.2.2.2.2.2.2.2.2.2.2.2.1) (μ.2.1) (μ.2.2.2.2.2.2.2.2.2.2.2.2.2.2.2.2.2.2.2.2.2.2.2.2.2.2.1) (o) = some (o_x4_thrown, o_y6_p) := by
    unfold f_case_16
    simp only [pc_vi h1, pc_vi h2, ea, eb, hc.rows, hc.columns, hc.rivers, hc.count, hc.jcount, hc.next, hc.turn, hc.quarters, hc.reds, pc_bv]
    by_cases c1 : 0 ≤ a ∧ a < 4
    · skip
      simp only [t_X8_upright, t_needT c1.1 c1.2, x_needT c1.1 c1.2, x_upr8 w hc.direction c1.1 c1.2, m_upr8 hm w c1.1 c1.2, pc_tx, pc_txs, pd_1, pd_2, pd_3, pc_thr, if_true, if_false, pc_lit, pc_lit64, pc_ar1, pc_upL, pc_cmp, pc_10, pc_20, pc_str, Bool.false_eq_true, Bool.false_and, Bool.true_and, Bool.and_false, Bool.and_true, and_self, decide_true, decide_false, pc_zB0, pc_zB1, pc_zbI0, pc_zbI1, pc_ifz, pc_zb]
      exact ⟨_, _, rfl⟩
    · skip
      have n1 : ¬ (0 ≤ a ∧ a ≤ 3) := by omega
      simp only [t_X8_upright, t_needT' c1 a1 a2, f_X9_upright, m_mayT a1 a2, m_mayT a1 a2, m_passes, n1, pc_tx, pc_txs, pd_1, pd_2, pd_3, pc_thr, if_true, if_false, pc_lit, pc_lit64, pc_ar1, pc_upL, pc_cmp, pc_10, pc_20, pc_str, Bool.false_eq_true, Bool.false_and, Bool.true_and, Bool.and_false, Bool.and_true, and_self, decide_true, decide_false, pc_zB0, pc_zB1, pc_zbI0, pc_zbI1, pc_ifz, pc_zb]
      exact ⟨_, _, rfl⟩
  obtain ⟨o_x4_thrown, o_y6_p, e⟩ := key
  exact ⟨o_x4_thrown, o_y6_p, e, S, hc, w, hm, hr⟩

theorem q_17 : SP_17 RR := by
  intro L xs i σ μ o hR h1 h2
  obtain ⟨S, hc, w, hm, hr⟩ := hR
  obtain ⟨a, ea, a1, a2⟩ := pc_wr (xs (i + 1).toNatClampNeg)
  obtain ⟨b, eb, b1, b2⟩ := pc_wr (xs (i + 2).toNatClampNeg)
  have hC := w.C
  have hN := w.N
  have hD := w.D
  have key : ∃ o_x6_thrown o_y8_ways, f_case_17 L xs i (σ.1.2.2.2.2.2.1) (σ.1.2.2.2.2.2.2.2.1) (σ.1.2.2.2.2.2.2.2.2.2.2.2.2.2.2.1) (σ.1.2.2.2.2.2.2.2.2.2.2.2.2.2.2.2.2.2.2) (μ.2.1) (μ.2.2.2.2.2.2.2.2.2.2.2.2.2.2.2.2.2.2.2.2.2.2.2.2.2.2.1) (μ.2.2.2.2.2.2.2.2.2.2.2.2.2.2.2.2.2.2.2.2.2.2.2.2.2.2.2.2.2) = some (o_x6_thrown, o_y8_ways) := by
    unfold f_case_17
    simp only [pc_vi h1, pc_vi h2, ea, eb, hc.rows, hc.columns, hc.rivers, hc.count, hc.jcount, hc.next, hc.turn, hc.quarters, hc.reds, pc_bv]
    simp only [x_turning w hc.direction hc.stops, m_turning hm w, pc_tx, pc_txs, pd_1, pd_2, pd_3, pc_thr, if_true, if_false, pc_lit, pc_lit64, pc_ar1, pc_upL, pc_cmp, pc_10, pc_20, pc_str, Bool.false_eq_true, Bool.false_and, Bool.true_and, Bool.and_false, Bool.and_true, and_self, decide_true, decide_false, pc_zB0, pc_zB1, pc_zbI0, pc_zbI1, pc_ifz, pc_zb]
    exact ⟨_, _, rfl⟩
  obtain ⟨o_x6_thrown, o_y8_ways, e⟩ := key
  exact ⟨o_x6_thrown, o_y8_ways, e, S, hc, w, hm, hr⟩

theorem q_18 : SP_18 RR := by
  intro L xs i σ μ o hR h1 h2
  obtain ⟨S, hc, w, hm, hr⟩ := hR
  obtain ⟨a, ea, a1, a2⟩ := pc_wr (xs (i + 1).toNatClampNeg)
  obtain ⟨b, eb, b1, b2⟩ := pc_wr (xs (i + 2).toNatClampNeg)
  have hC := w.C
  have hN := w.N
  have hD := w.D
  have key : ∃ o_x6_thrown o_y8_ways o_y9_p, f_case_18 L xs i (σ.1.2.2.2.2.2.1) (σ.1.2.2.2.2.2.2.2.2.2.2.2.2.2.2.1) (σ.1.2.2.2.2.2.2.2.2.2.2.2.2.2.2.2.2.2.2) (μ.2.1) (μ.2.2.2.2.2.2.2.2.2.2.2.2.2.2.2.2.2.2.2.2.2.2.2.2.2.2.1) (μ.2.2.2.2.2.2.2.2.2.2.2.2.2.2.2.2.2.2.2.2.2.2.2.2.2.2.2.2.2) (o) = some (o_x6_thrown, o_y8_ways, o_y9_p) := by
    unfold f_case_18
    simp only [pc_vi h1, pc_vi h2, ea, eb, hc.rows, hc.columns, hc.rivers, hc.count, hc.jcount, hc.next, hc.turn, hc.quarters, hc.reds, pc_bv]
    by_cases c1 : 0 ≤ a ∧ a < 4
    · skip
      simp only [t_X8_turningFrom, t_needT c1.1 c1.2, x_needT c1.1 c1.2, x_turningFrom w hc.direction hc.stops c1.1 c1.2, m_turningFrom hm w c1.1 c1.2, pc_tx, pc_txs, pd_1, pd_2, pd_3, pc_thr, if_true, if_false, pc_lit, pc_lit64, pc_ar1, pc_upL, pc_cmp, pc_10, pc_20, pc_str, Bool.false_eq_true, Bool.false_and, Bool.true_and, Bool.and_false, Bool.and_true, and_self, decide_true, decide_false, pc_zB0, pc_zB1, pc_zbI0, pc_zbI1, pc_ifz, pc_zb]
      exact ⟨_, _, _, rfl⟩
    · skip
      have n1 : ¬ (0 ≤ a ∧ a ≤ 3) := by omega
      simp only [t_X8_turningFrom, t_needT' c1 a1 a2, f_X9_turningFrom, m_mayT a1 a2, m_mayT a1 a2, m_passes, n1, pc_tx, pc_txs, pd_1, pd_2, pd_3, pc_thr, if_true, if_false, pc_lit, pc_lit64, pc_ar1, pc_upL, pc_cmp, pc_10, pc_20, pc_str, Bool.false_eq_true, Bool.false_and, Bool.true_and, Bool.and_false, Bool.and_true, and_self, decide_true, decide_false, pc_zB0, pc_zB1, pc_zbI0, pc_zbI1, pc_ifz, pc_zb]
      exact ⟨_, _, _, rfl⟩
  obtain ⟨o_x6_thrown, o_y8_ways, o_y9_p, e⟩ := key
  exact ⟨o_x6_thrown, o_y8_ways, o_y9_p, e, S, hc, w, hm, hr⟩

theorem q_19 : SP_19 RR := by
  intro L xs i σ μ o hR h1 h2
  obtain ⟨S, hc, w, hm, hr⟩ := hR
  obtain ⟨a, ea, a1, a2⟩ := pc_wr (xs (i + 1).toNatClampNeg)
  obtain ⟨b, eb, b1, b2⟩ := pc_wr (xs (i + 2).toNatClampNeg)
  have hC := w.C
  have hN := w.N
  have hD := w.D
  have key : ∃ o_x6_thrown o_y8_ways, f_case_19 L xs i (σ.1.2.2.2.2.2.1) (σ.1.2.2.2.2.2.2.2.2.2.2.2.2.2.2.1) (σ.1.2.2.2.2.2.2.2.2.2.2.2.2.2.2.2.2.2.2) (μ.2.1) (μ.2.2.2.2.2.2.2.2.2.2.2.2.2.2.2.2.2.2.2.2.2.2.2.2.2.2.1) (μ.2.2.2.2.2.2.2.2.2.2.2.2.2.2.2.2.2.2.2.2.2.2.2.2.2.2.2.2.2) = some (o_x6_thrown, o_y8_ways) := by
    unfold f_case_19
    simp only [pc_vi h1, pc_vi h2, ea, eb, hc.rows, hc.columns, hc.rivers, hc.count, hc.jcount, hc.next, hc.turn, hc.quarters, hc.reds, pc_bv]
    obtain ⟨w2, eW⟩ := m_bestTurn (th := μ.2.1) (wys := μ.2.2.2.2.2.2.2.2.2.2.2.2.2.2.2.2.2.2.2.2.2.2.2.2.2.2.2.2.2) hm w
    simp only [x_bestTurn w hc.direction hc.stops, eW, pc_tx, pc_txs, pd_1, pd_2, pd_3, pc_thr, if_true, if_false, pc_lit, pc_lit64, pc_ar1, pc_upL, pc_cmp, pc_10, pc_20, pc_str, Bool.false_eq_true, Bool.false_and, Bool.true_and, Bool.and_false, Bool.and_true, and_self, decide_true, decide_false, pc_zB0, pc_zB1, pc_zbI0, pc_zbI1, pc_ifz, pc_zb]
    exact ⟨_, _, rfl⟩
  obtain ⟨o_x6_thrown, o_y8_ways, e⟩ := key
  exact ⟨o_x6_thrown, o_y8_ways, e, S, hc, w, hm, hr⟩

theorem q_20 : SP_20 RR := by
  intro L xs i σ μ o hR h1 h2
  obtain ⟨S, hc, w, hm, hr⟩ := hR
  obtain ⟨a, ea, a1, a2⟩ := pc_wr (xs (i + 1).toNatClampNeg)
  obtain ⟨b, eb, b1, b2⟩ := pc_wr (xs (i + 2).toNatClampNeg)
  have hC := w.C
  have hN := w.N
  have hD := w.D
  have key : ∃ o_x6_thrown, f_case_20 L xs i (σ.1.2.2.2.1) (σ.1.2.2.2.2.2.1) (σ.1.2.2.2.2.2.2.2.1) (σ.1.2.2.2.2.2.2.2.2.2.2.2.2.2.2.1) (σ.1.2.2.2.2.2.2.2.2.2.2.2.2.2.2.2.2.2.2) (μ.2.1) (μ.2.2.2.2.2.2.2.2.2.2.2.2.2.2.2.2.2.2.2.2.2.2.2.2.2.2.1) = some (o_x6_thrown) := by
    unfold f_case_20
    simp only [pc_vi h1, pc_vi h2, ea, eb, hc.rows, hc.columns, hc.rivers, hc.count, hc.jcount, hc.next, hc.turn, hc.quarters, hc.reds, pc_bv]
    simp only [x_hardest w hc.direction hc.stops, m_hardest hm w, pc_tx, pc_txs, pd_1, pd_2, pd_3, pc_thr, if_true, if_false, pc_lit, pc_lit64, pc_ar1, pc_upL, pc_cmp, pc_10, pc_20, pc_str, Bool.false_eq_true, Bool.false_and, Bool.true_and, Bool.and_false, Bool.and_true, and_self, decide_true, decide_false, pc_zB0, pc_zB1, pc_zbI0, pc_zbI1, pc_ifz, pc_zb]
    exact ⟨_, rfl⟩
  obtain ⟨o_x6_thrown, e⟩ := key
  exact ⟨o_x6_thrown, e, S, hc, w, hm, hr⟩

theorem q_31 : SP_31 RR := by
  intro L xs i σ μ o hR h1 h2
  obtain ⟨S, hc, w, hm, hr⟩ := hR
  obtain ⟨a, ea, a1, a2⟩ := pc_wr (xs (i + 1).toNatClampNeg)
  obtain ⟨b, eb, b1, b2⟩ := pc_wr (xs (i + 2).toNatClampNeg)
  have hC := w.C
  have hN := w.N
  have hD := w.D
  have key : ∃ o_x4_thrown o_y6_p, f_case_31 L xs i (σ.1.1) (σ.1.2.1) (σ.1.2.2.2.2.2.2.2.2.2.2.1) (μ.2.1) (μ.2.2.2.2.2.2.2.2.2.2.2.2.2.2.2.2.2.2.2.2.2.2.2.2.2.2.1) (o) = some (o_x4_thrown, o_y6_p) := by
    unfold f_case_31
    simp only [pc_vi h1, pc_vi h2, ea, eb, hc.rows, hc.columns, hc.rivers, hc.count, hc.jcount, hc.next, hc.turn, hc.quarters, hc.reds, pc_bv]
    by_cases c1 : 0 ≤ a ∧ a < S 0 * S 1
    · skip
      simp only [t_X8_drowns, t_needC w c1.1 c1.2, x_needC w c1.1 c1.2, x_drowns w hc.namesOn c1.1 c1.2, m_drowns hm w c1.1 c1.2, pc_tx, pc_txs, pd_1, pd_2, pd_3, pc_thr, if_true, if_false, pc_lit, pc_lit64, pc_ar1, pc_upL, pc_cmp, pc_10, pc_20, pc_str, Bool.false_eq_true, Bool.false_and, Bool.true_and, Bool.and_false, Bool.and_true, and_self, decide_true, decide_false, pc_zB0, pc_zB1, pc_zbI0, pc_zbI1, pc_ifz, pc_zb]
      exact ⟨_, _, rfl⟩
    · skip
      have n1 : ¬ (0 ≤ a ∧ a ≤ S 0 * S 1 - 1) := by omega
      simp only [t_X8_drowns, t_needC' w c1 a1 a2, f_X9_drowns, m_isCell hm w a1 a2, m_mayC hm w a1 a2, m_passes, n1, pc_tx, pc_txs, pd_1, pd_2, pd_3, pc_thr, if_true, if_false, pc_lit, pc_lit64, pc_ar1, pc_upL, pc_cmp, pc_10, pc_20, pc_str, Bool.false_eq_true, Bool.false_and, Bool.true_and, Bool.and_false, Bool.and_true, and_self, decide_true, decide_false, pc_zB0, pc_zB1, pc_zbI0, pc_zbI1, pc_ifz, pc_zb]
      exact ⟨_, _, rfl⟩
  obtain ⟨o_x4_thrown, o_y6_p, e⟩ := key
  exact ⟨o_x4_thrown, o_y6_p, e, S, hc, w, hm, hr⟩

