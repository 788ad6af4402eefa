theorem RC.upd {S S' : Int → Int} (E0 : S' 0 = S 0) (E1 : S' 1 = S 1) (E2 : S' 2 = S 2) (E3 : S' 3 = S 3) (E4 : S' 4 = S 4) (E5 : S' 5 = S 5) (E6 : S' 6 = S 6) (E7 : S' 7 = S 7) (EM : rM S' = rM S) {l n a r o2 d h e t j : Nat → Int32} (ra : RA l n a r o2 d h e t j S') : RC (iI (S 0), iI (S 1), iI (S 3), iI (S 2), rM S, iI (S 4), iI (S 6), iI (S 5), iI (S 7), l, n, a, r, o2, d, h, e, t, j) S' :=
  RC.mk (by rw [E0]) (by rw [E1]) (by rw [E3]) (by rw [E2]) EM.symm (by rw [E4]) (by rw [E6]) (by rw [E5]) (by rw [E7]) ra
theorem RC.wy {S D : Int → Int} (w : wS S) {l n a r o2 d h e t j : Nat → Int32} (ra : RA l n a r o2 d h e t j (wyS S D)) : RC (iI (S 0), iI (S 1), iI (S 3), iI (S 2), rM S, iI (S 4), iI (S 6), iI (S 5), iI (S 7), l, n, a, r, o2, d, h, e, t, j) (wyS S D) :=
  RC.upd (wy_lo (by omega)) (wy_lo (by omega)) (wy_lo (by omega)) (wy_lo (by omega)) (wy_lo (by omega)) (wy_lo (by omega)) (wy_lo (by omega)) (wy_lo (by omega)) (wy_rM w) ra
theorem q_32 : SP_32 RR := by
  intro L xs i σ μ o hR h1 h2
  obtain ⟨S, hc, w, hm, hh, hr⟩ := hR
  obtain ⟨a, ea, a1, a2⟩ := pc_wr (xs (i + 1).toNatClampNeg)
  obtain ⟨b, eb, b1, b2⟩ := pc_wr (xs (i + 2).toNatClampNeg)
  have hC := w.C
  have hN := w.N
  have hD := w.D
  have ra := hc.ra
  have key : ∃ o_x1_latest o_x1_count o_y3_past o_y7_letterOn o_y8_namesOn o_y12_direction o_x17_acts o_x17_thrown o_y18_past o_y19_s o_y20_p, f_case_32 L xs i (σ.2.1.1) (σ.2.1.2.1) (σ.2.1.2.2) (σ.1.1) (σ.1.2.1) (σ.1.2.2.1) (σ.1.2.2.2.1) (σ.1.2.2.2.2.1) (σ.1.2.2.2.2.2.1) (σ.1.2.2.2.2.2.2.1) (σ.1.2.2.2.2.2.2.2.1) (σ.1.2.2.2.2.2.2.2.2.1) (σ.1.2.2.2.2.2.2.2.2.2.1) (σ.1.2.2.2.2.2.2.2.2.2.2.1) (σ.1.2.2.2.2.2.2.2.2.2.2.2.1) (σ.1.2.2.2.2.2.2.2.2.2.2.2.2.1) (σ.1.2.2.2.2.2.2.2.2.2.2.2.2.2.1) (σ.1.2.2.2.2.2.2.2.2.2.2.2.2.2.2.1) (σ.1.2.2.2.2.2.2.2.2.2.2.2.2.2.2.2.1) (σ.1.2.2.2.2.2.2.2.2.2.2.2.2.2.2.2.2.1) (σ.1.2.2.2.2.2.2.2.2.2.2.2.2.2.2.2.2.2.1) (σ.1.2.2.2.2.2.2.2.2.2.2.2.2.2.2.2.2.2.2) (μ.1) (μ.2.1) (μ.2.2.2.2.2.2.2.2.2.2.2.2.2.2.2.2.2.2.2.2.2.2.2.2.1) (μ.2.2.2.2.2.2.2.2.2.2.2.2.2.2.2.2.2.2.2.2.2.2.2.2.2.2.1) (o) = some (o_x1_latest, o_x1_count, o_y3_past, o_y7_letterOn, o_y8_namesOn, o_y12_direction, o_x17_acts, o_x17_thrown, o_y18_past, o_y19_s, o_y20_p) ∧ ∃ S', RC (σ.1.1, σ.1.2.1, σ.1.2.2.1, σ.1.2.2.2.1, σ.1.2.2.2.2.1, σ.1.2.2.2.2.2.1, σ.1.2.2.2.2.2.2.1, σ.1.2.2.2.2.2.2.2.1, σ.1.2.2.2.2.2.2.2.2.1, o_y7_letterOn, o_y8_namesOn, σ.1.2.2.2.2.2.2.2.2.2.2.2.1, σ.1.2.2.2.2.2.2.2.2.2.2.2.2.1, σ.1.2.2.2.2.2.2.2.2.2.2.2.2.2.1, o_y12_direction, σ.1.2.2.2.2.2.2.2.2.2.2.2.2.2.2.2.1, σ.1.2.2.2.2.2.2.2.2.2.2.2.2.2.2.2.2.1, σ.1.2.2.2.2.2.2.2.2.2.2.2.2.2.2.2.2.2.1, σ.1.2.2.2.2.2.2.2.2.2.2.2.2.2.2.2.2.2.2) S' ∧ wS S' ∧ mS o_y19_s S' ∧ RH o_x1_latest o_x1_count o_y3_past o_x17_acts o_y18_past := by
    unfold f_case_32
    simp only [pc_vi h1, pc_vi h2, ea, eb, hc.rows, hc.columns, hc.rivers, hc.count, hc.jcount, hc.next, hc.turn, hc.quarters, hc.reds, pc_bv]
    by_cases c1 : 0 ≤ a ∧ a < S 2
    · skip
      by_cases c2 : 0 ≤ b ∧ b < 4
      · skip
        have n1 : 0 ≤ a ∧ a ≤ S 2 - 1 := by omega
        have n2 : 0 ≤ b ∧ b ≤ 3 := by omega
        have hq := rsn_rg S a b
        by_cases z : rsn S a b = 0
        · obtain ⟨l', c', D', a', p', k1, k2, k3⟩ := h_keep w hm ra hh
          have w' := wy_place w c1.1 c1.2 c2.1 c2.2 z
          have c0 := chR_0 w c1.1 c1.2 (v := b) (o := -1) (by unfold rsn at z; by_cases q : chR S a b (-1) = 0; exact q; rw [if_neg q] at z; exact absurd z q)
          obtain ⟨⟨r1, r2, r3⟩, t1, t2⟩ := x_putName w ra c1.1 c1.2 c2.1 c2.2 (fun k q1 q2 => (cR_9 (c0.2 k q1 q2)).1) w'
          obtain ⟨s', p1, p2⟩ := m_put2 (v := b) hm w c1.1 c1.2
          simp only [t_X8_place, t_needH c1.1 c1.2 (by omega), x_needH c1.1 c1.2 (by omega), t_needD c2.1 c2.2, x_needD c2.1 c2.2, f_X8_place, x_reason w ra.land ra.riverOf ra.home ra.length ra.letters ra.namesOn ra.letterOn c1.1 c1.2 c2.1 c2.2, k1, x_directionOf w ra.direction c1.1 c1.2, t1, f_X9_place, m_isHarbour hm w a1 a2, m_mayH hm w a1 a2, m_isWay b1 b2, m_isWay b1 b2, m_passes, n1, n2, m_reason hm w c1.1 c1.2 c2.1 c2.2, k2, m_of hm c1.1 (by omega : a < 8) (by omega : (0 : Int) ≤ 2) (by omega : (2 : Int) < 12), p1, z, pc_tx, pc_txs, pd_1, pd_2, pc_bv, pd_3, pd_4, pd_5, pd_6, pd_7, pd_8, pd_9, pc_thr, if_true, if_false, pc_lit, pc_lit64, pc_ar1, pc_upL, pc_cmp, pc_10, pc_20, pc_str, Bool.false_eq_true, Bool.false_and, Bool.true_and, Bool.and_false, Bool.and_true, and_self, decide_true, decide_false, pc_zbI0, pc_zbI1, pc_ifz, pc_zb]
          exact ⟨_, _, _, _, _, _, _, _, _, _, _, rfl, _, RC.wy w t2, w', p2, k3⟩
        · have z2 := (pc_eq (a := rsn S a b) (b := 0) (by omega) (by omega) (by omega) (by omega)).trans (eq_false z)
          simp only [t_X8_place, t_needH c1.1 c1.2 (by omega), x_needH c1.1 c1.2 (by omega), t_needD c2.1 c2.2, x_needD c2.1 c2.2, f_X8_place, x_reason w ra.land ra.riverOf ra.home ra.length ra.letters ra.namesOn ra.letterOn c1.1 c1.2 c2.1 c2.2, f_X9_place, m_isHarbour hm w a1 a2, m_mayH hm w a1 a2, m_isWay b1 b2, m_isWay b1 b2, m_passes, n1, n2, m_reason hm w c1.1 c1.2 c2.1 c2.2, z2, pc_tx, pc_txs, pd_1, pd_2, pc_bv, pd_3, pd_4, pd_5, pd_6, pd_7, pd_8, pd_9, pc_thr, if_true, if_false, pc_lit, pc_lit64, pc_ar1, pc_upL, pc_cmp, pc_10, pc_20, pc_str, Bool.false_eq_true, Bool.false_and, Bool.true_and, Bool.and_false, Bool.and_true, and_self, decide_true, decide_false, pc_zbI0, pc_zbI1, pc_ifz, pc_zb]
          exact ⟨_, _, _, _, _, _, _, _, _, _, _, rfl, S, RC.mk rfl rfl rfl rfl rfl rfl rfl rfl rfl ra, w, hm, hh⟩
      · skip
        have n1 : 0 ≤ a ∧ a ≤ S 2 - 1 := by omega
        have n2 : ¬ (0 ≤ b ∧ b ≤ 3) := by omega
        simp only [t_X8_place, t_needH c1.1 c1.2 (by omega), x_needH c1.1 c1.2 (by omega), t_needD' c2 b1 b2, f_X9_place, m_isHarbour hm w a1 a2, m_mayH hm w a1 a2, m_isWay b1 b2, m_isWay b1 b2, m_passes, n1, n2, pc_tx, pc_txs, pd_1, pd_2, pc_bv, pd_3, pd_4, pd_5, pd_6, pd_7, pd_8, pd_9, pc_thr, if_true, if_false, pc_lit, pc_lit64, pc_ar1, pc_upL, pc_cmp, pc_10, pc_20, pc_str, Bool.false_eq_true, Bool.false_and, Bool.true_and, Bool.and_false, Bool.and_true, and_self, decide_true, decide_false, pc_zbI0, pc_zbI1, pc_ifz, pc_zb]
        exact ⟨_, _, _, _, _, _, _, _, _, _, _, rfl, S, RC.mk rfl rfl rfl rfl rfl rfl rfl rfl rfl ra, w, hm, hh⟩
    · skip
      have n1 : ¬ (0 ≤ a ∧ a ≤ S 2 - 1) := by omega
      simp only [t_X8_place, t_needH' c1 a1 a2 (by omega) (by omega), f_X9_place, m_isHarbour hm w a1 a2, m_mayH hm w a1 a2, m_isWay b1 b2, m_isWay b1 b2, m_passes, n1, pc_tx, pc_txs, pd_1, pd_2, pc_bv, pd_3, pd_4, pd_5, pd_6, pd_7, pd_8, pd_9, pc_thr, if_true, if_false, pc_lit, pc_lit64, pc_ar1, pc_upL, pc_cmp, pc_10, pc_20, pc_str, Bool.false_eq_true, Bool.false_and, Bool.true_and, Bool.and_false, Bool.and_true, and_self, decide_true, decide_false, pc_zbI0, pc_zbI1, pc_ifz, pc_zb]
      exact ⟨_, _, _, _, _, _, _, _, _, _, _, rfl, S, RC.mk rfl rfl rfl rfl rfl rfl rfl rfl rfl ra, w, hm, hh⟩
  obtain ⟨o_x1_latest, o_x1_count, o_y3_past, o_y7_letterOn, o_y8_namesOn, o_y12_direction, o_x17_acts, o_x17_thrown, o_y18_past, o_y19_s, o_y20_p, e, S', hc', w', hm', hh'⟩ := key
  exact ⟨o_x1_latest, o_x1_count, o_y3_past, o_y7_letterOn, o_y8_namesOn, o_y12_direction, o_x17_acts, o_x17_thrown, o_y18_past, o_y19_s, o_y20_p, e, S', hc', w', hm', hh', hr⟩
theorem q_33 : SP_33 RR := by
  intro L xs i σ μ o hR h1 h2
  obtain ⟨S, hc, w, hm, hh, hr⟩ := hR
  obtain ⟨a, ea, a1, a2⟩ := pc_wr (xs (i + 1).toNatClampNeg)
  obtain ⟨b, eb, b1, b2⟩ := pc_wr (xs (i + 2).toNatClampNeg)
  have hC := w.C
  have hN := w.N
  have hD := w.D
  have ra := hc.ra
  have key : ∃ o_x1_latest o_x1_count o_y3_past o_y8_namesOn o_y12_direction o_x17_acts o_x17_thrown o_y18_past o_y19_s o_y20_p, f_case_33 L xs i (σ.2.1.1) (σ.2.1.2.1) (σ.2.1.2.2) (σ.1.1) (σ.1.2.1) (σ.1.2.2.1) (σ.1.2.2.2.1) (σ.1.2.2.2.2.1) (σ.1.2.2.2.2.2.1) (σ.1.2.2.2.2.2.2.1) (σ.1.2.2.2.2.2.2.2.1) (σ.1.2.2.2.2.2.2.2.2.1) (σ.1.2.2.2.2.2.2.2.2.2.1) (σ.1.2.2.2.2.2.2.2.2.2.2.1) (σ.1.2.2.2.2.2.2.2.2.2.2.2.1) (σ.1.2.2.2.2.2.2.2.2.2.2.2.2.1) (σ.1.2.2.2.2.2.2.2.2.2.2.2.2.2.1) (σ.1.2.2.2.2.2.2.2.2.2.2.2.2.2.2.1) (σ.1.2.2.2.2.2.2.2.2.2.2.2.2.2.2.2.1) (σ.1.2.2.2.2.2.2.2.2.2.2.2.2.2.2.2.2.1) (σ.1.2.2.2.2.2.2.2.2.2.2.2.2.2.2.2.2.2.1) (σ.1.2.2.2.2.2.2.2.2.2.2.2.2.2.2.2.2.2.2) (μ.1) (μ.2.1) (μ.2.2.2.2.2.2.2.2.2.2.2.2.2.2.2.2.2.2.2.2.2.2.2.2.1) (μ.2.2.2.2.2.2.2.2.2.2.2.2.2.2.2.2.2.2.2.2.2.2.2.2.2.2.1) (o) = some (o_x1_latest, o_x1_count, o_y3_past, o_y8_namesOn, o_y12_direction, o_x17_acts, o_x17_thrown, o_y18_past, o_y19_s, o_y20_p) ∧ ∃ S', RC (σ.1.1, σ.1.2.1, σ.1.2.2.1, σ.1.2.2.2.1, σ.1.2.2.2.2.1, σ.1.2.2.2.2.2.1, σ.1.2.2.2.2.2.2.1, σ.1.2.2.2.2.2.2.2.1, σ.1.2.2.2.2.2.2.2.2.1, σ.1.2.2.2.2.2.2.2.2.2.1, o_y8_namesOn, σ.1.2.2.2.2.2.2.2.2.2.2.2.1, σ.1.2.2.2.2.2.2.2.2.2.2.2.2.1, σ.1.2.2.2.2.2.2.2.2.2.2.2.2.2.1, o_y12_direction, σ.1.2.2.2.2.2.2.2.2.2.2.2.2.2.2.2.1, σ.1.2.2.2.2.2.2.2.2.2.2.2.2.2.2.2.2.1, σ.1.2.2.2.2.2.2.2.2.2.2.2.2.2.2.2.2.2.1, σ.1.2.2.2.2.2.2.2.2.2.2.2.2.2.2.2.2.2.2) S' ∧ wS S' ∧ mS o_y19_s S' ∧ RH o_x1_latest o_x1_count o_y3_past o_x17_acts o_y18_past := by
    unfold f_case_33
    simp only [pc_vi h1, pc_vi h2, ea, eb, hc.rows, hc.columns, hc.rivers, hc.count, hc.jcount, hc.next, hc.turn, hc.quarters, hc.reds, pc_bv]
    by_cases c1 : 0 ≤ a ∧ a < S 2
    · skip
      have n1 : 0 ≤ a ∧ a ≤ S 2 - 1 := by omega
      have hH := w.H c1.1 c1.2
      have of2 := m_of hm c1.1 (by omega : a < 8) (by omega : (0 : Int) ≤ 2) (by omega : (2 : Int) < 12)
      by_cases z : hv S a 2 = -1
      · simp only [t_X8_lift, t_needH c1.1 c1.2 (by omega), x_needH c1.1 c1.2 (by omega), f_X8_lift, x_directionOf w ra.direction c1.1 c1.2, f_X9_lift, m_isHarbour hm w a1 a2, m_mayH hm w a1 a2, m_passes, n1, of2, z, pc_neg, pc_tx, pc_txs, pd_1, pd_2, pc_bv, pd_3, pd_4, pd_5, pd_6, pd_7, pd_8, pd_9, pc_thr, if_true, if_false, pc_lit, pc_lit64, pc_ar1, pc_upL, pc_cmp, pc_10, pc_20, pc_str, Bool.false_eq_true, Bool.false_and, Bool.true_and, Bool.and_false, Bool.and_true, and_self, decide_true, decide_false, pc_zbI0, pc_zbI1, pc_ifz, pc_zb]
        exact ⟨_, _, _, _, _, _, _, _, _, _, rfl, S, RC.mk rfl rfl rfl rfl rfl rfl rfl rfl rfl ra, w, hm, hh⟩
      · obtain ⟨l', c', D', a', p', k1, k2, k3⟩ := h_keep w hm ra hh
        have w' := lf1_wS w (h := a)
        obtain ⟨n', d', t1, t2⟩ := x_takeName w ra c1.1 c1.2
        obtain ⟨s', p1, p2⟩ := m_put2 (v := -1) hm w c1.1 c1.2
        have z2 := (pc_eq (a := hv S a 2) (b := -1) (by omega) (by omega) (by omega) (by omega)).trans (eq_false z)
        simp only [t_X8_lift, t_needH c1.1 c1.2 (by omega), x_needH c1.1 c1.2 (by omega), f_X8_lift, x_directionOf w ra.direction c1.1 c1.2, k1, t1, f_X9_lift, m_isHarbour hm w a1 a2, m_mayH hm w a1 a2, m_passes, n1, of2, k2, p1, z2, pc_neg, pc_tx, pc_txs, pd_1, pd_2, pc_bv, pd_3, pd_4, pd_5, pd_6, pd_7, pd_8, pd_9, pc_thr, if_true, if_false, pc_lit, pc_lit64, pc_ar1, pc_upL, pc_cmp, pc_10, pc_20, pc_str, Bool.false_eq_true, Bool.false_and, Bool.true_and, Bool.and_false, Bool.and_true, and_self, decide_true, decide_false, pc_zbI0, pc_zbI1, pc_ifz, pc_zb]
        exact ⟨_, _, _, _, _, _, _, _, _, _, rfl, _, RC.wy w t2, w', p2, k3⟩
    · skip
      have n1 : ¬ (0 ≤ a ∧ a ≤ S 2 - 1) := by omega
      simp only [t_X8_lift, t_needH' c1 a1 a2 (by omega) (by omega), f_X9_lift, m_isHarbour hm w a1 a2, m_mayH hm w a1 a2, m_passes, n1, pc_tx, pc_txs, pd_1, pd_2, pc_bv, pd_3, pd_4, pd_5, pd_6, pd_7, pd_8, pd_9, pc_thr, if_true, if_false, pc_lit, pc_lit64, pc_ar1, pc_upL, pc_cmp, pc_10, pc_20, pc_str, Bool.false_eq_true, Bool.false_and, Bool.true_and, Bool.and_false, Bool.and_true, and_self, decide_true, decide_false, pc_zbI0, pc_zbI1, pc_ifz, pc_zb]
      exact ⟨_, _, _, _, _, _, _, _, _, _, rfl, S, RC.mk rfl rfl rfl rfl rfl rfl rfl rfl rfl ra, w, hm, hh⟩
  obtain ⟨o_x1_latest, o_x1_count, o_y3_past, o_y8_namesOn, o_y12_direction, o_x17_acts, o_x17_thrown, o_y18_past, o_y19_s, o_y20_p, e, S', hc', w', hm', hh'⟩ := key
  exact ⟨o_x1_latest, o_x1_count, o_y3_past, o_y8_namesOn, o_y12_direction, o_x17_acts, o_x17_thrown, o_y18_past, o_y19_s, o_y20_p, e, S', hc', w', hm', hh', hr⟩
