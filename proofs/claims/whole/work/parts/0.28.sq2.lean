section
variable {S : Int → Int} {land riv hom dir len let' nOn lOn stp ord : Nat → Int32}
theorem t_size {x0 x1 x2 x3 x4 x5 x6 x7 x8 x9 : Int32} {y z : Nat → Int32} {q : Int} (h1 : -2147483648 ≤ q) (h2 : q < 2147483648) : t_X8_size x0 x1 x2 x3 x4 x5 x6 x7 x8 x9 y z (iI q) = if 0 ≤ q ∧ q < 12 then none else some "java/lang/IllegalArgumentException" := by
  unfold t_X8_size
  by_cases z : 0 ≤ q ∧ q < 12
  · rw [if_pos z]
    have e : q = 0 ∨ q = 1 ∨ q = 2 ∨ q = 3 ∨ q = 4 ∨ q = 5 ∨ q = 6 ∨ q = 7 ∨ q = 8 ∨ q = 9 ∨ q = 10 ∨ q = 11 := by omega
    rcases e with rfl | rfl | rfl | rfl | rfl | rfl | rfl | rfl | rfl | rfl | rfl | rfl <;> simp (disch := omega) only [pc_lit, pc_eq, Int.reduceEq, if_true, if_false]
  · rw [if_neg z]
    have e0 : ¬ q = 0 := by omega
    have e1 : ¬ q = 1 := by omega
    have e2 : ¬ q = 2 := by omega
    have e3 : ¬ q = 3 := by omega
    have e4 : ¬ q = 4 := by omega
    have e5 : ¬ q = 5 := by omega
    have e6 : ¬ q = 6 := by omega
    have e7 : ¬ q = 7 := by omega
    have e8 : ¬ q = 8 := by omega
    have e9 : ¬ q = 9 := by omega
    have e10 : ¬ q = 10 := by omega
    have e11 : ¬ q = 11 := by omega
    simp (disch := omega) only [pc_lit, pc_eq, e0, e1, e2, e3, e4, e5, e6, e7, e8, e9, e10, e11, if_false]
theorem t_cell {x0 : Int32} {y1 y2 y3 y4 y5 : Nat → Int32} (w : wS S) {c q : Int} (g1 : -2147483648 ≤ c) (g2 : c < 2147483648) (h1 : -2147483648 ≤ q) (h2 : q < 2147483648) : t_X8_cell (iI (S 0)) (iI (S 1)) x0 y1 y2 y3 y4 y5 (iI c) (iI q) = if 0 ≤ c ∧ c < S 0 * S 1 then (if 0 ≤ q ∧ q < 6 then none else some "java/lang/IllegalArgumentException") else some "java/lang/IndexOutOfBoundsException" := by
  unfold t_X8_cell
  by_cases z : 0 ≤ c ∧ c < S 0 * S 1
  · rw [if_pos z, t_needC w z.1 z.2, x_needC w z.1 z.2, pd_1]
    by_cases z : 0 ≤ q ∧ q < 6
    · rw [if_pos z]
      have e : q = 0 ∨ q = 1 ∨ q = 2 ∨ q = 3 ∨ q = 4 ∨ q = 5 := by omega
      rcases e with rfl | rfl | rfl | rfl | rfl | rfl <;> simp (disch := omega) only [pc_tx, pc_lit, pc_eq, Int.reduceEq, if_true, if_false]
    · rw [if_neg z]
      have e0 : ¬ q = 0 := by omega
      have e1 : ¬ q = 1 := by omega
      have e2 : ¬ q = 2 := by omega
      have e3 : ¬ q = 3 := by omega
      have e4 : ¬ q = 4 := by omega
      have e5 : ¬ q = 5 := by omega
      simp (disch := omega) only [pc_tx, pc_lit, pc_eq, e0, e1, e2, e3, e4, e5, if_false]
  · rw [if_neg z, t_needC' w z g1 g2]; rfl
theorem t_harbour {x0 x1 : Int32} {y1 y2 y3 y4 : Nat → Int32} (w : wS S) {c q : Int} (g1 : -2147483648 ≤ c) (g2 : c < 2147483648) (h1 : -2147483648 ≤ q) (h2 : q < 2147483648) : t_X8_harbour (iI (S 2)) x0 x1 y1 y2 y3 y4 (iI c) (iI q) = if 0 ≤ c ∧ c < S 2 then (if 0 ≤ q ∧ q < 5 then none else some "java/lang/IllegalArgumentException") else some "java/lang/IndexOutOfBoundsException" := by
  have hC := w.C
  unfold t_X8_harbour
  by_cases z : 0 ≤ c ∧ c < S 2
  · rw [if_pos z, t_needH z.1 z.2 (by omega), x_needH z.1 z.2 (by omega), pd_1]
    by_cases z : 0 ≤ q ∧ q < 5
    · rw [if_pos z]
      have e : q = 0 ∨ q = 1 ∨ q = 2 ∨ q = 3 ∨ q = 4 := by omega
      rcases e with rfl | rfl | rfl | rfl | rfl <;> simp (disch := omega) only [pc_tx, pc_lit, pc_eq, Int.reduceEq, if_true, if_false]
    · rw [if_neg z]
      have e0 : ¬ q = 0 := by omega
      have e1 : ¬ q = 1 := by omega
      have e2 : ¬ q = 2 := by omega
      have e3 : ¬ q = 3 := by omega
      have e4 : ¬ q = 4 := by omega
      simp (disch := omega) only [pc_tx, pc_lit, pc_eq, e0, e1, e2, e3, e4, if_false]
  · rw [if_neg z, t_needH' z g1 g2 (by omega) (by omega)]; rfl
theorem t_writeRow {x0 x1 x2 x3 : Int32} {y1 y2 y3 y4 y5 y6 : Nat → Int32} (w : wS S) {c : Int} (g1 : -2147483648 ≤ c) (g2 : c < 2147483648) : t_X8_writeRow x0 y1 (iI (S 0)) x1 x2 x3 y2 y3 y4 y5 y6 (iI c) = if 0 ≤ c ∧ c < S 0 then none else some "java/lang/IndexOutOfBoundsException" := by
  have hD := w.D
  unfold t_X8_writeRow
  by_cases z : 0 ≤ c ∧ c < S 0
  · rw [if_pos z]
    simp (disch := omega) only [-Int.reduceToNat, pc_ite, if_true, if_false, pc_bv, pc_lit, pc_neg, pc_add, pc_sub, pc_mul, pc_mr, pc_ar, pc_dv, pc_lt, pc_le, pc_eq, pc_nat, pc_div, pc_emod, pc_ifz, pc_ifo, pc_zb, pd_1, pd_2, pd_3, pd_4, pd_5, pd_6, pd_7, pd_8, pd_9, pd_10, pd_11, pd_12, pd_13, pd_14, pd_15, pd_16, pd_17, pd_19, pd_21, pd_22, pd_30, pd_34, pd_57, if_neg, if_pos]
  · rw [if_neg z]
    by_cases z : c < 0
    · simp (disch := omega) only [-Int.reduceToNat, pc_ite, if_true, if_false, pc_bv, pc_lit, pc_neg, pc_add, pc_sub, pc_mul, pc_mr, pc_ar, pc_dv, pc_lt, pc_le, pc_eq, pc_nat, pc_div, pc_emod, pc_ifz, pc_ifo, pc_zb, pd_1, pd_2, pd_3, pd_4, pd_5, pd_6, pd_7, pd_8, pd_9, pd_10, pd_11, pd_12, pd_13, pd_14, pd_15, pd_16, pd_17, pd_19, pd_21, pd_22, pd_30, pd_34, pd_57, if_pos]
    · simp (disch := omega) only [-Int.reduceToNat, pc_ite, if_true, if_false, pc_bv, pc_lit, pc_neg, pc_add, pc_sub, pc_mul, pc_mr, pc_ar, pc_dv, pc_lt, pc_le, pc_eq, pc_nat, pc_div, pc_emod, pc_ifz, pc_ifo, pc_zb, pd_1, pd_2, pd_3, pd_4, pd_5, pd_6, pd_7, pd_8, pd_9, pd_10, pd_11, pd_12, pd_13, pd_14, pd_15, pd_16, pd_17, pd_19, pd_21, pd_22, pd_30, pd_34, pd_57, if_neg]
end

theorem q_4 : SP_4 RR := by
  intro L xs i σ μ o hR h1 h2
  obtain ⟨S, hc, w, hm, ⟨n, l, n1, n2, l1, l2, k1, k2, k3⟩, hr⟩ := hR
  obtain ⟨a, ea, a1, a2⟩ := pc_wr (xs (i + 1).toNatClampNeg)
  obtain ⟨b, eb, b1, b2⟩ := pc_wr (xs (i + 2).toNatClampNeg)
  have hC := w.C
  have hN := w.N
  have hD := w.D
  have key : ∃ o_x8_thrown o_y10_p, f_case_4 L xs i (σ.2.1.2.1) (σ.1.1) (σ.1.2.1) (σ.1.2.2.1) (σ.1.2.2.2.1) (σ.1.2.2.2.2.1) (σ.1.2.2.2.2.2.1) (σ.1.2.2.2.2.2.2.1) (σ.1.2.2.2.2.2.2.2.1) (σ.1.2.2.2.2.2.2.2.2.1) (σ.1.2.2.2.2.2.2.2.2.2.2.2.1) (σ.1.2.2.2.2.2.2.2.2.2.2.2.2.2.2.1) (μ.1) (μ.2.1) (μ.2.2.2.2.2.2.2.2.2.2.2.2.2.2.2.2.2.2.2.2.2.2.2.2.2.2.1) (o) = some (o_x8_thrown, o_y10_p) := by
    unfold f_case_4
    simp only [pc_vi h1, pc_vi h2, ea, eb, hc.rows, hc.columns, hc.rivers, hc.count, hc.jcount, hc.next, hc.turn, hc.quarters, hc.reds, k1, k2, pc_bv]
    by_cases c1 : 0 ≤ a ∧ a < 12
    · simp only [t_size a1 a2, if_pos c1, x_size w hc.land hc.direction c1.1 c1.2, m_size hm w c1.1 c1.2, pc_tx, pc_txs, pd_1, pd_2, pd_3, pc_thr, if_true, if_false, pc_lit, pc_lit64, pc_ar1, pc_upL, pc_cmp, pc_10, pc_20, pc_str, Bool.false_eq_true, Bool.false_and, Bool.true_and, Bool.and_false, Bool.and_true, and_self, decide_true, decide_false, pc_zB0, pc_zB1, pc_zbI0, pc_zbI1, pc_ifz, pc_zb]
      exact ⟨_, _, rfl⟩
    · simp only [t_size a1 a2, if_neg c1, m_size' a1 a2 c1, pc_tx, pc_txs, pd_1, pd_2, pd_3, pc_thr, if_true, if_false, pc_lit, pc_lit64, pc_ar1, pc_upL, pc_cmp, pc_10, pc_20, pc_str, Bool.false_eq_true, Bool.false_and, Bool.true_and, Bool.and_false, Bool.and_true, and_self, decide_true, decide_false, pc_zB0, pc_zB1, pc_zbI0, pc_zbI1, pc_ifz, pc_zb]
      exact ⟨_, _, rfl⟩
  obtain ⟨o_x8_thrown, o_y10_p, e⟩ := key
  exact ⟨o_x8_thrown, o_y10_p, e, S, hc, w, hm, ⟨n, l, n1, n2, l1, l2, k1, k2, k3⟩, hr⟩

theorem q_5 : SP_5 RR := by
  intro L xs i σ μ o hR h1 h2
  obtain ⟨S, hc, w, hm, hr⟩ := hR
  obtain ⟨a, ea, a1, a2⟩ := pc_wr (xs (i + 1).toNatClampNeg)
  obtain ⟨b, eb, b1, b2⟩ := pc_wr (xs (i + 2).toNatClampNeg)
  have hC := w.C
  have hN := w.N
  have hD := w.D
  have key : ∃ o_x9_thrown o_y11_p, f_case_5 L xs i (σ.1.1) (σ.1.2.1) (σ.1.2.2.2.1) (σ.1.2.2.2.2.2.2.2.2.2.1) (σ.1.2.2.2.2.2.2.2.2.2.2.1) (σ.1.2.2.2.2.2.2.2.2.2.2.2.1) (σ.1.2.2.2.2.2.2.2.2.2.2.2.2.1) (σ.1.2.2.2.2.2.2.2.2.2.2.2.2.2.2.2.1) (μ.2.1) (μ.2.2.2.2.2.2.2.2.2.2.2.2.2.2.2.2.2.2.2.2.2.2.2.2.2.2.1) (o) = some (o_x9_thrown, o_y11_p) := by
    unfold f_case_5
    simp only [pc_vi h1, pc_vi h2, ea, eb, hc.rows, hc.columns, hc.rivers, hc.count, hc.jcount, hc.next, hc.turn, hc.quarters, hc.reds, pc_bv]
    by_cases c1 : 0 ≤ a ∧ a < S 0 * S 1
    · by_cases c2 : 0 ≤ b ∧ b < 6
      · simp only [t_cell w a1 a2 b1 b2, if_pos c1, if_pos c2, x_cell w hc.land hc.riverOf hc.home hc.namesOn hc.letterOn c1.1 c1.2 c2.1 c2.2, m_cell hm w c1.1 c1.2 c2.1 c2.2, pc_tx, pc_txs, pd_1, pd_2, pd_3, pc_thr, if_true, if_false, pc_lit, pc_lit64, pc_ar1, pc_upL, pc_cmp, pc_10, pc_20, pc_str, Bool.false_eq_true, Bool.false_and, Bool.true_and, Bool.and_false, Bool.and_true, and_self, decide_true, decide_false, pc_zB0, pc_zB1, pc_zbI0, pc_zbI1, pc_ifz, pc_zb]
        exact ⟨_, _, rfl⟩
      · simp only [t_cell w a1 a2 b1 b2, if_pos c1, if_neg c2, m_cell2 hm w c1.1 c1.2 b1 b2 c2, pc_tx, pc_txs, pd_1, pd_2, pd_3, pc_thr, if_true, if_false, pc_lit, pc_lit64, pc_ar1, pc_upL, pc_cmp, pc_10, pc_20, pc_str, Bool.false_eq_true, Bool.false_and, Bool.true_and, Bool.and_false, Bool.and_true, and_self, decide_true, decide_false, pc_zB0, pc_zB1, pc_zbI0, pc_zbI1, pc_ifz, pc_zb]
        exact ⟨_, _, rfl⟩
    · simp only [t_cell w a1 a2 b1 b2, if_neg c1, m_cell1 hm w a1 a2 b1 b2 c1, pc_tx, pc_txs, pd_1, pd_2, pd_3, pc_thr, if_true, if_false, pc_lit, pc_lit64, pc_ar1, pc_upL, pc_cmp, pc_10, pc_20, pc_str, Bool.false_eq_true, Bool.false_and, Bool.true_and, Bool.and_false, Bool.and_true, and_self, decide_true, decide_false, pc_zB0, pc_zB1, pc_zbI0, pc_zbI1, pc_ifz, pc_zb]
      exact ⟨_, _, rfl⟩
  obtain ⟨o_x9_thrown, o_y11_p, e⟩ := key
  exact ⟨o_x9_thrown, o_y11_p, e, S, hc, w, hm, hr⟩

theorem q_6 : SP_6 RR := by
  intro L xs i σ μ o hR h1 h2
  obtain ⟨S, hc, w, hm, hr⟩ := hR
  obtain ⟨a, ea, a1, a2⟩ := pc_wr (xs (i + 1).toNatClampNeg)
  obtain ⟨b, eb, b1, b2⟩ := pc_wr (xs (i + 2).toNatClampNeg)
  have hC := w.C
  have hN := w.N
  have hD := w.D
  have key : ∃ o_x8_thrown o_y10_p, f_case_6 L xs i (σ.1.2.2.2.1) (σ.1.2.2.2.2.1) (σ.1.2.2.2.2.2.1) (σ.1.2.2.2.2.2.2.2.2.2.2.2.2.2.2.1) (σ.1.2.2.2.2.2.2.2.2.2.2.2.2.2.2.2.1) (σ.1.2.2.2.2.2.2.2.2.2.2.2.2.2.2.2.2.1) (σ.1.2.2.2.2.2.2.2.2.2.2.2.2.2.2.2.2.2.2) (μ.2.1) (μ.2.2.2.2.2.2.2.2.2.2.2.2.2.2.2.2.2.2.2.2.2.2.2.2.2.2.1) (o) = some (o_x8_thrown, o_y10_p) := by
    unfold f_case_6
    simp only [pc_vi h1, pc_vi h2, ea, eb, hc.rows, hc.columns, hc.rivers, hc.count, hc.jcount, hc.next, hc.turn, hc.quarters, hc.reds, pc_bv]
    by_cases c1 : 0 ≤ a ∧ a < S 2
    · by_cases c2 : 0 ≤ b ∧ b < 5
      · simp only [t_harbour w a1 a2 b1 b2, if_pos c1, if_pos c2, x_harbour w hc.home hc.direction hc.length hc.stops c1.1 c1.2 c2.1 c2.2, m_harbour hm w c1.1 c1.2 c2.1 c2.2, pc_tx, pc_txs, pd_1, pd_2, pd_3, pc_thr, if_true, if_false, pc_lit, pc_lit64, pc_ar1, pc_upL, pc_cmp, pc_10, pc_20, pc_str, Bool.false_eq_true, Bool.false_and, Bool.true_and, Bool.and_false, Bool.and_true, and_self, decide_true, decide_false, pc_zB0, pc_zB1, pc_zbI0, pc_zbI1, pc_ifz, pc_zb]
        exact ⟨_, _, rfl⟩
      · simp only [t_harbour w a1 a2 b1 b2, if_pos c1, if_neg c2, m_harbour2 hm w c1.1 c1.2 b1 b2 c2, pc_tx, pc_txs, pd_1, pd_2, pd_3, pc_thr, if_true, if_false, pc_lit, pc_lit64, pc_ar1, pc_upL, pc_cmp, pc_10, pc_20, pc_str, Bool.false_eq_true, Bool.false_and, Bool.true_and, Bool.and_false, Bool.and_true, and_self, decide_true, decide_false, pc_zB0, pc_zB1, pc_zbI0, pc_zbI1, pc_ifz, pc_zb]
        exact ⟨_, _, rfl⟩
    · simp only [t_harbour w a1 a2 b1 b2, if_neg c1, m_harbour1 hm w a1 a2 b1 b2 c1, pc_tx, pc_txs, pd_1, pd_2, pd_3, pc_thr, if_true, if_false, pc_lit, pc_lit64, pc_ar1, pc_upL, pc_cmp, pc_10, pc_20, pc_str, Bool.false_eq_true, Bool.false_and, Bool.true_and, Bool.and_false, Bool.and_true, and_self, decide_true, decide_false, pc_zB0, pc_zB1, pc_zbI0, pc_zbI1, pc_ifz, pc_zb]
      exact ⟨_, _, rfl⟩
  obtain ⟨o_x8_thrown, o_y10_p, e⟩ := key
  exact ⟨o_x8_thrown, o_y10_p, e, S, hc, w, hm, hr⟩

theorem q_44 : SP_44 RR := by
  intro L xs i σ μ o hR h1 h2
  obtain ⟨S, hc, w, hm, hr⟩ := hR
  obtain ⟨a, ea, a1, a2⟩ := pc_wr (xs (i + 1).toNatClampNeg)
  obtain ⟨b, eb, b1, b2⟩ := pc_wr (xs (i + 2).toNatClampNeg)
  have hC := w.C
  have hN := w.N
  have hD := w.D
  have key : ∃ o_x6_thrown o_y8_ways, f_case_44 L xs i (σ.1.2.2.2.1) (σ.1.2.2.2.2.2.1) (σ.1.2.2.2.2.2.2.2.1) (σ.1.2.2.2.2.2.2.2.2.2.2.2.2.2.2.1) (σ.1.2.2.2.2.2.2.2.2.2.2.2.2.2.2.2.2.2.2) (μ.2.1) (μ.2.2.2.2.2.2.2.2.2.2.2.2.2.2.2.2.2.2.2.2.2.2.2.2.2.2.1) (μ.2.2.2.2.2.2.2.2.2.2.2.2.2.2.2.2.2.2.2.2.2.2.2.2.2.2.2.2.2) = some (o_x6_thrown, o_y8_ways) := by
    unfold f_case_44
    simp only [pc_vi h1, pc_vi h2, ea, eb, hc.rows, hc.columns, hc.rivers, hc.count, hc.jcount, hc.next, hc.turn, hc.quarters, hc.reds, pc_bv]
    obtain ⟨w2, eW⟩ := m_meanTurn (th := μ.2.1) (wys := μ.2.2.2.2.2.2.2.2.2.2.2.2.2.2.2.2.2.2.2.2.2.2.2.2.2.2.2.2.2) hm w
    simp only [x_meanTurn w hc.direction hc.stops, eW, pc_tx, pc_txs, pd_1, pd_2, pd_3, pc_thr, if_true, if_false, pc_lit, pc_lit64, pc_ar1, pc_upL, pc_cmp, pc_10, pc_20, pc_str, Bool.false_eq_true, Bool.false_and, Bool.true_and, Bool.and_false, Bool.and_true, and_self, decide_true, decide_false, pc_zB0, pc_zB1, pc_zbI0, pc_zbI1, pc_ifz, pc_zb]
    by_cases z : Op.cmpValue (FP.dcmp (mtV S) (mtV S)) .l = iI 0
    · simp only [z, if_true]; exact ⟨_, _, rfl⟩
    · simp only [z, if_false]; exact ⟨_, _, rfl⟩
  obtain ⟨o_x6_thrown, o_y8_ways, e⟩ := key
  exact ⟨o_x6_thrown, o_y8_ways, e, S, hc, w, hm, hr⟩

theorem cv_64 {S : Int → Int} (w : wS S) : vf_n64 (FP.f2d (cvV S)) := by
  unfold cvV
  by_cases z : lc S = 0
  · rw [if_pos z]; unfold vf_n64; decide +kernel
  · rw [if_neg z]; exact (cv_ok w z).2

theorem q_45 : SP_45 RR := by
  intro L xs i σ μ o hR h1 h2
  obtain ⟨S, hc, w, hm, hr⟩ := hR
  obtain ⟨a, ea, a1, a2⟩ := pc_wr (xs (i + 1).toNatClampNeg)
  obtain ⟨b, eb, b1, b2⟩ := pc_wr (xs (i + 2).toNatClampNeg)
  have hC := w.C
  have hN := w.N
  have hD := w.D
  have key : ∃ o_x5_thrown, f_case_45 L xs i (σ.1.1) (σ.1.2.1) (σ.1.2.2.2.2.2.2.2.2.2.2.1) (σ.1.2.2.2.2.2.2.2.2.2.2.2.1) (μ.2.1) (μ.2.2.2.2.2.2.2.2.2.2.2.2.2.2.2.2.2.2.2.2.2.2.2.2.2.2.1) = some (o_x5_thrown) := by
    unfold f_case_45
    simp only [pc_vi h1, pc_vi h2, ea, eb, hc.rows, hc.columns, hc.rivers, hc.count, hc.jcount, hc.next, hc.turn, hc.quarters, hc.reds, pc_bv]
    simp only [x_cover w hc.land hc.namesOn, m_cover hm w, pc_nn64 (cv_64 w), pc_tx, pc_txs, pd_1, pd_2, pd_3, pc_thr, if_true, if_false, pc_lit, pc_lit64, pc_ar1, pc_upL, pc_cmp, pc_10, pc_20, pc_str, Bool.false_eq_true, Bool.false_and, Bool.true_and, Bool.and_false, Bool.and_true, and_self, decide_true, decide_false, pc_zB0, pc_zB1, pc_zbI0, pc_zbI1, pc_ifz, pc_zb]
    by_cases z : Op.cmpValue (FP.dcmp (FP.f2d (cvV S)) (FP.f2d (cvV S))) .l = iI 0
    · simp only [z, if_true]; exact ⟨_, rfl⟩
    · simp only [z, if_false]; exact ⟨_, rfl⟩
  obtain ⟨o_x5_thrown, e⟩ := key
  exact ⟨o_x5_thrown, e, S, hc, w, hm, hr⟩

theorem q_46 : SP_46 RR := by
  intro L xs i σ μ o hR h1 h2
  obtain ⟨S, hc, w, hm, hrh, hrx, ⟨n, n1, n2, n3, n4, n5⟩, hr⟩ := hR
  obtain ⟨a, ea, a1, a2⟩ := pc_wr (xs (i + 1).toNatClampNeg)
  have hC := w.C
  have hN := w.N
  have hD := w.D
  have key : ∃ o_x0_outputLength o_y1_output o_x10_thrown o_x10_written o_y11_output o_y13_p, f_case_46 L xs i (σ.2.2.2.2.2.2.2.1.2.2.1) (σ.2.2.2.2.2.2.2.1.2.2.2) (σ.1.1) (σ.1.2.1) (σ.1.2.2.2.1) (σ.1.2.2.2.2.1) (σ.1.2.2.2.2.2.2.2.2.2.1) (σ.1.2.2.2.2.2.2.2.2.2.2.1) (σ.1.2.2.2.2.2.2.2.2.2.2.2.1) (σ.1.2.2.2.2.2.2.2.2.2.2.2.2.1) (σ.1.2.2.2.2.2.2.2.2.2.2.2.2.2.2.2.1) (μ.2.1) (μ.2.2.2.2.2.2.2.2.2.2.2.2.2.2.2.1) (μ.2.2.2.2.2.2.2.2.2.2.2.2.2.2.2.2.2.2.2.2.2.2.2.1) (μ.2.2.2.2.2.2.2.2.2.2.2.2.2.2.2.2.2.2.2.2.2.2.2.2.2.2.1) (o) = some (o_x0_outputLength, o_y1_output, o_x10_thrown, o_x10_written, o_y11_output, o_y13_p) ∧ ∃ n : Int, 0 ≤ n ∧ n ≤ 12 ∧ o_x0_outputLength = iI n ∧ o_x10_written = iI n ∧ ∀ k, 0 ≤ k → k < n → o_y1_output k.toNat = o_y11_output k.toNat := by
    unfold f_case_46
    simp only [pc_vi h1, pc_vi h2, ea, hc.rows, hc.columns, hc.rivers, hc.count, hc.jcount, hc.next, hc.turn, hc.quarters, hc.reds, pc_bv]
    by_cases c1 : 0 ≤ a ∧ a < S 0
    · simp only [t_writeRow w a1 a2, if_pos c1, x_writeRow w hc.land hc.riverOf hc.home hc.namesOn hc.letterOn c1.1 c1.2, m_writeRow hm w c1.1 c1.2, pd_4, pc_tx, pc_txs, pd_1, pd_2, pd_3, pc_thr, if_true, if_false, pc_lit, pc_lit64, pc_ar1, pc_upL, pc_cmp, pc_10, pc_20, pc_str, Bool.false_eq_true, Bool.false_and, Bool.true_and, Bool.and_false, Bool.and_true, and_self, decide_true, decide_false, pc_zB0, pc_zB1, pc_zbI0, pc_zbI1, pc_ifz, pc_zb]
      refine ⟨_, _, _, _, _, _, rfl, S 1, by omega, by omega, rfl, rfl, fun k k1 k2 => ?_⟩
      rw [wr_at _ _ k1 (by omega), wr_at _ _ k1 (by omega)]
    · simp only [t_writeRow w a1 a2, if_neg c1, m_writeRow' hm w a1 a2 c1, pd_4, pc_tx, pc_txs, pd_1, pd_2, pd_3, pc_thr, if_true, if_false, pc_lit, pc_lit64, pc_ar1, pc_upL, pc_cmp, pc_10, pc_20, pc_str, Bool.false_eq_true, Bool.false_and, Bool.true_and, Bool.and_false, Bool.and_true, and_self, decide_true, decide_false, pc_zB0, pc_zB1, pc_zbI0, pc_zbI1, pc_ifz, pc_zb]
      exact ⟨_, _, _, _, _, _, rfl, n, n1, n2, n3, n4, n5⟩
  obtain ⟨o_x0_outputLength, o_y1_output, o_x10_thrown, o_x10_written, o_y11_output, o_y13_p, e, e2⟩ := key
  exact ⟨o_x0_outputLength, o_y1_output, o_x10_thrown, o_x10_written, o_y11_output, o_y13_p, e, S, hc, w, hm, hrh, hrx, e2, hr⟩

theorem q_47 : SP_47 RR := by
  intro L xs i σ μ o hR h1 h2
  obtain ⟨S, hc, w, hm, hrh, hrx, ⟨n, n1, n2, n3, n4, n5⟩, hr⟩ := hR
  obtain ⟨a, ea, a1, a2⟩ := pc_wr (xs (i + 1).toNatClampNeg)
  obtain ⟨b, eb, b1, b2⟩ := pc_wr (xs (i + 2).toNatClampNeg)
  have hC := w.C
  have hN := w.N
  have hD := w.D
  have key : ∃ o_x2_thrown, f_case_47 L xs i (σ.2.2.2.2.2.2.2.1.2.2.1) (σ.2.2.2.2.2.2.2.1.2.2.2) (μ.2.1) (μ.2.2.2.2.2.2.2.2.2.2.2.2.2.2.2.1) (μ.2.2.2.2.2.2.2.2.2.2.2.2.2.2.2.2.2.2.2.2.2.2.2.1) = some (o_x2_thrown) := by
    unfold f_case_47
    simp only [pc_vi h1, pc_vi h2, ea, eb, hc.rows, hc.columns, hc.rivers, hc.count, hc.jcount, hc.next, hc.turn, hc.quarters, hc.reds, n3, n4, pc_bv]
    by_cases c1 : 0 ≤ a ∧ a < n
    · have e1 : f_X8_outputByte (iI n) σ.2.2.2.2.2.2.2.1.2.2.2 (iI a) = some (σ.2.2.2.2.2.2.2.1.2.2.2 a.toNat) := by
        unfold f_X8_outputByte
        simp (disch := omega) only [-Int.reduceToNat, pc_ite, if_true, if_false, pc_bv, pc_lit, pc_neg, pc_add, pc_sub, pc_mul, pc_mr, pc_ar, pc_dv, pc_lt, pc_le, pc_eq, pc_nat, pc_div, pc_emod, pc_ifz, pc_ifo, pc_zb, pd_1, pd_2, pd_3, pd_4, pd_5, pd_6, pd_7, pd_8, pd_9, pd_10, pd_11, pd_12, pd_13, pd_14, pd_15, pd_16, pd_17, pd_19, pd_21, pd_22, pd_30, pd_34, pd_57, if_neg]
      have e2 : f_X9_outputByte μ.2.1 (iI n) μ.2.2.2.2.2.2.2.2.2.2.2.2.2.2.2.2.2.2.2.2.2.2.2.1 (iI a) = some (μ.2.2.2.2.2.2.2.2.2.2.2.2.2.2.2.2.2.2.2.2.2.2.2.1 a.toNat, iI 0) := by
        have ok : (0 ≤ a ∧ a ≤ n - 1) := by omega
        unfold f_X9_outputByte
        simp (disch := omega) only [-Int.reduceToNat, pc_ite, if_true, if_false, pc_bv, pc_lit, pc_neg, pc_add, pc_sub, pc_mul, pc_mr, pc_ar, pc_dv, pc_lt, pc_le, pc_eq, pc_nat, pc_div, pc_emod, pc_ifz, pc_ifo, pc_zb, pd_1, pd_2, pd_3, pd_4, pd_5, pd_6, pd_7, pd_8, pd_9, pd_10, pd_11, pd_12, pd_13, pd_14, pd_15, pd_16, pd_17, pd_19, pd_21, pd_22, pd_30, pd_34, pd_57, pc_lit64, m_isIn, ok, and_self, decide_true]
      simp only [e1, e2, n5 a c1.1 c1.2, pc_tx, pc_txs, pd_1, pd_2, pd_3, pc_thr, if_true, if_false, pc_lit, pc_lit64, pc_ar1, pc_upL, pc_cmp, pc_10, pc_20, pc_str, Bool.false_eq_true, Bool.false_and, Bool.true_and, Bool.and_false, Bool.and_true, and_self, decide_true, decide_false, pc_zB0, pc_zB1, pc_zbI0, pc_zbI1, pc_ifz, pc_zb]
      exact ⟨_, rfl⟩
    · have e1 : f_X8_outputByte (iI n) σ.2.2.2.2.2.2.2.1.2.2.2 (iI a) = some (iI (-1)) := by
        unfold f_X8_outputByte
        by_cases z : a < 0
        · simp (disch := omega) only [-Int.reduceToNat, pc_ite, if_true, if_false, pc_bv, pc_lit, pc_neg, pc_add, pc_sub, pc_mul, pc_mr, pc_ar, pc_dv, pc_lt, pc_le, pc_eq, pc_nat, pc_div, pc_emod, pc_ifz, pc_ifo, pc_zb, pd_1, pd_2, pd_3, pd_4, pd_5, pd_6, pd_7, pd_8, pd_9, pd_10, pd_11, pd_12, pd_13, pd_14, pd_15, pd_16, pd_17, pd_19, pd_21, pd_22, pd_30, pd_34, pd_57, if_pos]
        · have z2 : n ≤ a := by omega
          simp (disch := omega) only [-Int.reduceToNat, pc_ite, if_true, if_false, pc_bv, pc_lit, pc_neg, pc_add, pc_sub, pc_mul, pc_mr, pc_ar, pc_dv, pc_lt, pc_le, pc_eq, pc_nat, pc_div, pc_emod, pc_ifz, pc_ifo, pc_zb, pd_1, pd_2, pd_3, pd_4, pd_5, pd_6, pd_7, pd_8, pd_9, pd_10, pd_11, pd_12, pd_13, pd_14, pd_15, pd_16, pd_17, pd_19, pd_21, pd_22, pd_30, pd_34, pd_57, z, z2, if_false, if_true]
      have e2 : f_X9_outputByte μ.2.1 (iI n) μ.2.2.2.2.2.2.2.2.2.2.2.2.2.2.2.2.2.2.2.2.2.2.2.1 (iI a) = some (iI (-1), iI 0) := by
        have ok : ¬ (0 ≤ a ∧ a ≤ n - 1) := by omega
        unfold f_X9_outputByte
        simp (disch := omega) only [-Int.reduceToNat, pc_ite, if_true, if_false, pc_bv, pc_lit, pc_neg, pc_add, pc_sub, pc_mul, pc_mr, pc_ar, pc_dv, pc_lt, pc_le, pc_eq, pc_nat, pc_div, pc_emod, pc_ifz, pc_ifo, pc_zb, pd_1, pd_2, pd_3, pd_4, pd_5, pd_6, pd_7, pd_8, pd_9, pd_10, pd_11, pd_12, pd_13, pd_14, pd_15, pd_16, pd_17, pd_19, pd_21, pd_22, pd_30, pd_34, pd_57, pc_lit64, m_isIn, ok, decide_false, Bool.false_eq_true]
      simp only [e1, e2, pc_tx, pc_txs, pd_1, pd_2, pd_3, pc_thr, if_true, if_false, pc_lit, pc_lit64, pc_ar1, pc_upL, pc_cmp, pc_10, pc_20, pc_str, Bool.false_eq_true, Bool.false_and, Bool.true_and, Bool.and_false, Bool.and_true, and_self, decide_true, decide_false, pc_zB0, pc_zB1, pc_zbI0, pc_zbI1, pc_ifz, pc_zb]
      exact ⟨_, rfl⟩
  obtain ⟨o_x2_thrown, e⟩ := key
  exact ⟨o_x2_thrown, e, S, hc, w, hm, hrh, hrx, ⟨n, n1, n2, n3, n4, n5⟩, hr⟩

