theorem q_39 : SP_39 RR := by
  intro L xs i σ μ o hR h1 h2
  obtain ⟨S, hc, w, hm, hh, hr⟩ := hR
  obtain ⟨a, ea, a1, a2⟩ := pc_wr (xs (i + 1).toNatClampNeg)
  obtain ⟨b, eb, b1, b2⟩ := pc_wr (xs (i + 2).toNatClampNeg)
  have hC := w.C
  have hN := w.N
  have hD := w.D
  have ra := hc.ra
  have key : ∃ o_x1_latest o_x1_count o_y3_past o_y8_namesOn o_y9_land o_y12_direction o_x17_acts o_x17_thrown o_y18_past o_y19_s o_y20_p, f_case_39 L xs i (σ.2.1.1) (σ.2.1.2.1) (σ.2.1.2.2) (σ.1.1) (σ.1.2.1) (σ.1.2.2.1) (σ.1.2.2.2.1) (σ.1.2.2.2.2.1) (σ.1.2.2.2.2.2.1) (σ.1.2.2.2.2.2.2.1) (σ.1.2.2.2.2.2.2.2.1) (σ.1.2.2.2.2.2.2.2.2.1) (σ.1.2.2.2.2.2.2.2.2.2.1) (σ.1.2.2.2.2.2.2.2.2.2.2.1) (σ.1.2.2.2.2.2.2.2.2.2.2.2.1) (σ.1.2.2.2.2.2.2.2.2.2.2.2.2.1) (σ.1.2.2.2.2.2.2.2.2.2.2.2.2.2.1) (σ.1.2.2.2.2.2.2.2.2.2.2.2.2.2.2.1) (σ.1.2.2.2.2.2.2.2.2.2.2.2.2.2.2.2.1) (σ.1.2.2.2.2.2.2.2.2.2.2.2.2.2.2.2.2.1) (σ.1.2.2.2.2.2.2.2.2.2.2.2.2.2.2.2.2.2.1) (σ.1.2.2.2.2.2.2.2.2.2.2.2.2.2.2.2.2.2.2) (μ.1) (μ.2.1) (μ.2.2.2.2.2.2.2.2.2.2.2.2.2.2.2.2.2.2.2.2.2.2.2.2.1) (μ.2.2.2.2.2.2.2.2.2.2.2.2.2.2.2.2.2.2.2.2.2.2.2.2.2.2.1) (o) = some (o_x1_latest, o_x1_count, o_y3_past, o_y8_namesOn, o_y9_land, o_y12_direction, o_x17_acts, o_x17_thrown, o_y18_past, o_y19_s, o_y20_p) ∧ ∃ S', RC (σ.1.1, σ.1.2.1, σ.1.2.2.1, σ.1.2.2.2.1, σ.1.2.2.2.2.1, σ.1.2.2.2.2.2.1, σ.1.2.2.2.2.2.2.1, σ.1.2.2.2.2.2.2.2.1, σ.1.2.2.2.2.2.2.2.2.1, σ.1.2.2.2.2.2.2.2.2.2.1, o_y8_namesOn, o_y9_land, σ.1.2.2.2.2.2.2.2.2.2.2.2.2.1, σ.1.2.2.2.2.2.2.2.2.2.2.2.2.2.1, o_y12_direction, σ.1.2.2.2.2.2.2.2.2.2.2.2.2.2.2.2.1, σ.1.2.2.2.2.2.2.2.2.2.2.2.2.2.2.2.2.1, σ.1.2.2.2.2.2.2.2.2.2.2.2.2.2.2.2.2.2.1, σ.1.2.2.2.2.2.2.2.2.2.2.2.2.2.2.2.2.2.2) S' ∧ wS S' ∧ mS o_y19_s S' ∧ RH o_x1_latest o_x1_count o_y3_past o_x17_acts o_y18_past := by
    unfold f_case_39
    simp only [pc_vi h1, pc_vi h2, ea, eb, hc.rows, hc.columns, hc.rivers, hc.count, hc.jcount, hc.next, hc.turn, hc.quarters, hc.reds, pc_bv]
    by_cases c1 : 0 ≤ a ∧ a < S 0 * S 1
    · skip
      have n1 : 0 ≤ a ∧ a ≤ S 0 * S 1 - 1 := by omega
      have io := x_isLand w ra.land (c := a) (by omega) (by omega)
      have mi := m_isLand hm w (c := a) (by omega) (by omega)
      cases z : isL S a
      · obtain ⟨s2, hm2, m1, m2⟩ := m_raise (acts := μ.1) (past := μ.2.2.2.2.2.2.2.2.2.2.2.2.2.2.2.2.2.2.2.2.2.2.2.2.1) (th := μ.2.1) hm w c1.1 c1.2 z
        have sh := x_shuts w ra.land ra.home c1.1 (by omega : a < 144)
        cases y : an (fun h => !hsB S h a) (S 2)
        · rw [y] at sh
          obtain ⟨l', c', D', a', p', k1, k2, k3⟩ := h_keep w hm2 ra hh
          obtain ⟨s', m3, m4⟩ := m2 y a' p' k2
          have wT := lfM_wS w (m := bkM S a)
          obtain ⟨⟨r1, r2⟩, t1, t2⟩ := x_takeNames w ra (bkM S a)
          have sl := x_setLand (land := σ.1.2.2.2.2.2.2.2.2.2.2.2.1) (v := 1) c1.1 (by omega : a < 144) (.inr rfl)
          have E : ∀ k, k < 8 → wr1 (wyS S (lfM S (bkM S a))) (8 + a) 1 k = S k := fun k hk => (wr1_no (by omega)).trans (wy_lo (by omega))
          have w' := ld_raise w c1.1 c1.2
          have rm : rM (wr1 (wyS S (lfM S (bkM S a))) (8 + a) 1) = rM S := by
            rw [← wy_rM w (D := lfM S (bkM S a))]
            unfold rM
            rw [show wr1 (wyS S (lfM S (bkM S a))) (8 + a) 1 2 = wyS S (lfM S (bkM S a)) 2 from wr1_no (by omega)]
            exact mk_congr (fun h g1 g2 => by unfold isR hv; rw [wr1_no (by omega)])
          have e : wyS (wr1 S (8 + a) 1) (lfM (wr1 S (8 + a) 1) (bkM S a)) = wr1 (wyS S (lfM S (bkM S a))) (8 + a) 1 := by
            rw [wy_wr (by omega) (by omega), wy_congr]
            intro g g1 g2
            unfold lfM
            rw [show hv (wr1 S (8 + a) 1) g 2 = hv S g 2 from wr1_no (by omega)]
          rw [e] at m4
          have bk := x_backTo w ra.direction ra.home c1.1 (by omega : a < 144)
          simp only [t_X8_raise, t_needC w c1.1 c1.2, x_needC w c1.1 c1.2, f_X8_raise, io, z, sh, k1, bk, t1, sl, bkM_bits w a, m3, pc_tx, pc_txs, pd_1, pd_2, pc_bv, pd_3, pd_4, pd_5, pd_6, pd_7, pd_8, pd_9, pc_thr, if_true, if_false, pc_lit, pc_lit64, pc_ar1, pc_upL, pc_cmp, pc_10, pc_20, pc_str, Bool.false_eq_true, Bool.false_and, Bool.true_and, Bool.and_false, Bool.and_true, and_self, decide_true, decide_false, pc_zbI0, pc_zbI1, pc_ifz, pc_zb]
          exact ⟨_, _, _, _, _, _, _, _, _, _, _, rfl, _, RC.upd (E 0 (by omega)) (E 1 (by omega)) (E 2 (by omega)) (E 3 (by omega)) (E 4 (by omega)) (E 5 (by omega)) (E 6 (by omega)) (E 7 (by omega)) rm (ld_RA wT t2 c1.1 (by omega)), w', m4, k3⟩
        · rw [y] at sh
          simp only [t_X8_raise, t_needC w c1.1 c1.2, x_needC w c1.1 c1.2, f_X8_raise, io, z, sh, m1 y, pc_neg, pc_tx, pc_txs, pd_1, pd_2, pc_bv, pd_3, pd_4, pd_5, pd_6, pd_7, pd_8, pd_9, pc_thr, if_true, if_false, pc_lit, pc_lit64, pc_ar1, pc_upL, pc_cmp, pc_10, pc_20, pc_str, Bool.false_eq_true, Bool.false_and, Bool.true_and, Bool.and_false, Bool.and_true, and_self, decide_true, decide_false, pc_zbI0, pc_zbI1, pc_ifz, pc_zb]
          exact ⟨_, _, _, _, _, _, _, _, _, _, _, rfl, S, RC.mk rfl rfl rfl rfl rfl rfl rfl rfl rfl ra, w, hm2, hh⟩
      · rw [z] at io mi
        have q : f_X9_raise μ.1 μ.2.1 μ.2.2.2.2.2.2.2.2.2.2.2.2.2.2.2.2.2.2.2.2.2.2.2.2.1 μ.2.2.2.2.2.2.2.2.2.2.2.2.2.2.2.2.2.2.2.2.2.2.2.2.2.2.1 (iI a) = some (iI (-3), μ.1, iI 0, μ.2.2.2.2.2.2.2.2.2.2.2.2.2.2.2.2.2.2.2.2.2.2.2.2.1, μ.2.2.2.2.2.2.2.2.2.2.2.2.2.2.2.2.2.2.2.2.2.2.2.2.2.2.1) := by
          unfold f_X9_raise
          rw [m_mayC hm w a1 a2, decide_eq_true n1, if_pos n1, pd_2, if_neg (by decide), mi, pd_1, if_neg (by decide)]
          rfl
        simp only [t_X8_raise, t_needC w c1.1 c1.2, x_needC w c1.1 c1.2, f_X8_raise, io, q, pc_neg, pc_tx, pc_txs, pd_1, pd_2, pc_bv, pd_3, pd_4, pd_5, pd_6, pd_7, pd_8, pd_9, pc_thr, if_true, if_false, pc_lit, pc_lit64, pc_ar1, pc_upL, pc_cmp, pc_10, pc_20, pc_str, Bool.false_eq_true, Bool.false_and, Bool.true_and, Bool.and_false, Bool.and_true, and_self, decide_true, decide_false, pc_zbI0, pc_zbI1, pc_ifz, pc_zb]
        exact ⟨_, _, _, _, _, _, _, _, _, _, _, rfl, S, RC.mk rfl rfl rfl rfl rfl rfl rfl rfl rfl ra, w, hm, hh⟩
    · skip
      have n1 : ¬ (0 ≤ a ∧ a ≤ S 0 * S 1 - 1) := by omega
      simp only [t_X8_raise, t_needC' w c1 a1 a2, f_X9_raise, m_isCell hm w a1 a2, m_mayC hm w a1 a2, m_passes, n1, pc_tx, pc_txs, pd_1, pd_2, pc_bv, pd_3, pd_4, pd_5, pd_6, pd_7, pd_8, pd_9, pc_thr, if_true, if_false, pc_lit, pc_lit64, pc_ar1, pc_upL, pc_cmp, pc_10, pc_20, pc_str, Bool.false_eq_true, Bool.false_and, Bool.true_and, Bool.and_false, Bool.and_true, and_self, decide_true, decide_false, pc_zbI0, pc_zbI1, pc_ifz, pc_zb]
      exact ⟨_, _, _, _, _, _, _, _, _, _, _, rfl, S, RC.mk rfl rfl rfl rfl rfl rfl rfl rfl rfl ra, w, hm, hh⟩
  obtain ⟨o_x1_latest, o_x1_count, o_y3_past, o_y8_namesOn, o_y9_land, o_y12_direction, o_x17_acts, o_x17_thrown, o_y18_past, o_y19_s, o_y20_p, e, S', hc', w', hm', hh'⟩ := key
  exact ⟨o_x1_latest, o_x1_count, o_y3_past, o_y8_namesOn, o_y9_land, o_y12_direction, o_x17_acts, o_x17_thrown, o_y18_past, o_y19_s, o_y20_p, e, S', hc', w', hm', hh', hr⟩
theorem q_40 : SP_40 RR := by
  intro L xs i σ μ o hR h1 h2
  obtain ⟨S, hc, w, hm, hh, hr⟩ := hR
  obtain ⟨a, ea, a1, a2⟩ := pc_wr (xs (i + 1).toNatClampNeg)
  obtain ⟨b, eb, b1, b2⟩ := pc_wr (xs (i + 2).toNatClampNeg)
  have hC := w.C
  have hN := w.N
  have hD := w.D
  have ra := hc.ra
  have key : ∃ o_x1_latest o_x1_count o_y3_past o_x6_count o_y16_stops o_x17_acts o_x17_thrown o_y18_past o_y19_s o_y20_p, f_case_40 L xs i (σ.2.1.1) (σ.2.1.2.1) (σ.2.1.2.2) (σ.1.1) (σ.1.2.1) (σ.1.2.2.1) (σ.1.2.2.2.1) (σ.1.2.2.2.2.1) (σ.1.2.2.2.2.2.1) (σ.1.2.2.2.2.2.2.1) (σ.1.2.2.2.2.2.2.2.1) (σ.1.2.2.2.2.2.2.2.2.1) (σ.1.2.2.2.2.2.2.2.2.2.1) (σ.1.2.2.2.2.2.2.2.2.2.2.1) (σ.1.2.2.2.2.2.2.2.2.2.2.2.1) (σ.1.2.2.2.2.2.2.2.2.2.2.2.2.1) (σ.1.2.2.2.2.2.2.2.2.2.2.2.2.2.1) (σ.1.2.2.2.2.2.2.2.2.2.2.2.2.2.2.1) (σ.1.2.2.2.2.2.2.2.2.2.2.2.2.2.2.2.1) (σ.1.2.2.2.2.2.2.2.2.2.2.2.2.2.2.2.2.1) (σ.1.2.2.2.2.2.2.2.2.2.2.2.2.2.2.2.2.2.1) (σ.1.2.2.2.2.2.2.2.2.2.2.2.2.2.2.2.2.2.2) (μ.1) (μ.2.1) (μ.2.2.2.2.2.2.2.2.2.2.2.2.2.2.2.2.2.2.2.2.2.2.2.2.1) (μ.2.2.2.2.2.2.2.2.2.2.2.2.2.2.2.2.2.2.2.2.2.2.2.2.2.2.1) (o) = some (o_x1_latest, o_x1_count, o_y3_past, o_x6_count, o_y16_stops, o_x17_acts, o_x17_thrown, o_y18_past, o_y19_s, o_y20_p) ∧ ∃ S', RC (σ.1.1, σ.1.2.1, σ.1.2.2.1, σ.1.2.2.2.1, σ.1.2.2.2.2.1, o_x6_count, σ.1.2.2.2.2.2.2.1, σ.1.2.2.2.2.2.2.2.1, σ.1.2.2.2.2.2.2.2.2.1, σ.1.2.2.2.2.2.2.2.2.2.1, σ.1.2.2.2.2.2.2.2.2.2.2.1, σ.1.2.2.2.2.2.2.2.2.2.2.2.1, σ.1.2.2.2.2.2.2.2.2.2.2.2.2.1, σ.1.2.2.2.2.2.2.2.2.2.2.2.2.2.1, σ.1.2.2.2.2.2.2.2.2.2.2.2.2.2.2.1, σ.1.2.2.2.2.2.2.2.2.2.2.2.2.2.2.2.1, σ.1.2.2.2.2.2.2.2.2.2.2.2.2.2.2.2.2.1, σ.1.2.2.2.2.2.2.2.2.2.2.2.2.2.2.2.2.2.1, o_y16_stops) S' ∧ wS S' ∧ mS o_y19_s S' ∧ RH o_x1_latest o_x1_count o_y3_past o_x17_acts o_y18_past := by
    unfold f_case_40
    simp only [pc_vi h1, pc_vi h2, ea, eb, hc.rows, hc.columns, hc.rivers, hc.count, hc.jcount, hc.next, hc.turn, hc.quarters, hc.reds, pc_bv]
    by_cases c1 : 0 ≤ a ∧ a < S 2
    · skip
      have n1 : 0 ≤ a ∧ a ≤ S 2 - 1 := by omega
      by_cases z : S 4 < 16
      · obtain ⟨l', c', D', a', p', k1, k2, k3⟩ := h_keep w hm ra hh
        obtain ⟨s', m1, m2⟩ := m_sail (th := μ.2.1) hm w c1.1 c1.2 z k2
        have jn := sa_jn w a
        have z2 := (pc_lt (a := S 4) (b := 16) (by omega) (by omega) (by omega) (by omega)).trans (eq_true z)
        simp only [t_X8_sail, t_needH c1.1 c1.2 (by omega), x_needH c1.1 c1.2 (by omega), f_X8_sail, z2, k1, x_addStop w z, m1, pc_tx, pc_txs, pd_1, pd_2, pc_bv, pd_3, pd_4, pd_5, pd_6, pd_7, pd_8, pd_9, pc_thr, if_true, if_false, pc_lit, pc_lit64, pc_ar1, pc_upL, pc_cmp, pc_10, pc_20, pc_str, Bool.false_eq_true, Bool.false_and, Bool.true_and, Bool.and_false, Bool.and_true, and_self, decide_true, decide_false, pc_zbI0, pc_zbI1, pc_ifz, pc_zb]
        exact ⟨_, _, _, _, _, _, _, _, _, _, rfl, saS S a, RC.mk (by rw [jn 0 (by omega)]) (by rw [jn 1 (by omega)]) (by rw [jn 3 (by omega)]) (by rw [jn 2 (by omega)]) (jn_rM w jn).symm (by rw [sa_at w, if_pos rfl]) (by rw [sa_at w, if_neg (by omega), if_neg (by omega)]) (by rw [sa_at w, if_neg (by omega), if_neg (by omega)]) (by rw [sa_at w, if_neg (by omega), if_neg (by omega)]) (jn_RA w ra jn (sa_aJ w ra.stops z)), sa_wS w c1.1 c1.2 z, m2, k3⟩
      · have z2 := (pc_lt (a := S 4) (b := 16) (by omega) (by omega) (by omega) (by omega)).trans (eq_false z)
        have e4 : μ.2.2.2.2.2.2.2.2.2.2.2.2.2.2.2.2.2.2.2.2.2.2.2.2.2.2.1 (4 : Int).toNat = iI (S 4) := hm 4 (by omega) (by omega)
        have q : f_X9_sail μ.1 μ.2.1 μ.2.2.2.2.2.2.2.2.2.2.2.2.2.2.2.2.2.2.2.2.2.2.2.2.1 μ.2.2.2.2.2.2.2.2.2.2.2.2.2.2.2.2.2.2.2.2.2.2.2.2.2.2.1 (iI a) = some (iI (-2), μ.1, iI 0, μ.2.2.2.2.2.2.2.2.2.2.2.2.2.2.2.2.2.2.2.2.2.2.2.2.1, μ.2.2.2.2.2.2.2.2.2.2.2.2.2.2.2.2.2.2.2.2.2.2.2.2.2.2.1) := by
          unfold f_X9_sail
          rw [m_mayH hm w a1 a2, decide_eq_true n1, if_pos n1, pd_2, if_neg (by decide)]
          have y : S 4 = 16 := by omega
          simp (disch := omega) only [-Int.reduceToNat, pc_ite, if_true, if_false, pc_bv, pc_lit, pc_neg, pc_add, pc_sub, pc_mul, pc_mr, pc_ar, pc_dv, pc_lt, pc_le, pc_eq, pc_nat, pc_div, pc_emod, pc_ifz, pc_ifo, pc_zb, pd_1, pd_2, pd_3, pd_4, pd_5, pd_6, pd_7, pd_8, pd_9, pd_10, pd_11, pd_12, pd_13, pd_14, pd_15, pd_16, pd_17, pd_19, pd_21, pd_22, pd_30, pd_34, pd_57, e4, y]
        simp only [t_X8_sail, t_needH c1.1 c1.2 (by omega), x_needH c1.1 c1.2 (by omega), f_X8_sail, z2, q, pc_neg, pc_tx, pc_txs, pd_1, pd_2, pc_bv, pd_3, pd_4, pd_5, pd_6, pd_7, pd_8, pd_9, pc_thr, if_true, if_false, pc_lit, pc_lit64, pc_ar1, pc_upL, pc_cmp, pc_10, pc_20, pc_str, Bool.false_eq_true, Bool.false_and, Bool.true_and, Bool.and_false, Bool.and_true, and_self, decide_true, decide_false, pc_zbI0, pc_zbI1, pc_ifz, pc_zb]
        exact ⟨_, _, _, _, _, _, _, _, _, _, rfl, S, RC.mk rfl rfl rfl rfl rfl rfl rfl rfl rfl ra, w, hm, hh⟩
    · skip
      have n1 : ¬ (0 ≤ a ∧ a ≤ S 2 - 1) := by omega
      simp only [t_X8_sail, t_needH' c1 a1 a2 (by omega) (by omega), f_X9_sail, m_isHarbour hm w a1 a2, m_mayH hm w a1 a2, m_passes, n1, pc_tx, pc_txs, pd_1, pd_2, pc_bv, pd_3, pd_4, pd_5, pd_6, pd_7, pd_8, pd_9, pc_thr, if_true, if_false, pc_lit, pc_lit64, pc_ar1, pc_upL, pc_cmp, pc_10, pc_20, pc_str, Bool.false_eq_true, Bool.false_and, Bool.true_and, Bool.and_false, Bool.and_true, and_self, decide_true, decide_false, pc_zbI0, pc_zbI1, pc_ifz, pc_zb]
      exact ⟨_, _, _, _, _, _, _, _, _, _, rfl, S, RC.mk rfl rfl rfl rfl rfl rfl rfl rfl rfl ra, w, hm, hh⟩
  obtain ⟨o_x1_latest, o_x1_count, o_y3_past, o_x6_count, o_y16_stops, o_x17_acts, o_x17_thrown, o_y18_past, o_y19_s, o_y20_p, e, S', hc', w', hm', hh'⟩ := key
  exact ⟨o_x1_latest, o_x1_count, o_y3_past, o_x6_count, o_y16_stops, o_x17_acts, o_x17_thrown, o_y18_past, o_y19_s, o_y20_p, e, S', hc', w', hm', hh', hr⟩
theorem q_41 : SP_41 RR := by
  intro L xs i σ μ o hR h1 h2
  obtain ⟨S, hc, w, hm, hh, hr⟩ := hR
  obtain ⟨a, ea, a1, a2⟩ := pc_wr (xs (i + 1).toNatClampNeg)
  obtain ⟨b, eb, b1, b2⟩ := pc_wr (xs (i + 2).toNatClampNeg)
  have hC := w.C
  have hN := w.N
  have hD := w.D
  have ra := hc.ra
  have key : ∃ o_x1_latest o_x1_count o_y3_past o_x6_count o_x6_next o_y16_stops o_x17_acts o_x17_thrown o_y18_past o_y19_s o_y20_p, f_case_41 L xs i (σ.2.1.1) (σ.2.1.2.1) (σ.2.1.2.2) (σ.1.1) (σ.1.2.1) (σ.1.2.2.1) (σ.1.2.2.2.1) (σ.1.2.2.2.2.1) (σ.1.2.2.2.2.2.1) (σ.1.2.2.2.2.2.2.1) (σ.1.2.2.2.2.2.2.2.1) (σ.1.2.2.2.2.2.2.2.2.1) (σ.1.2.2.2.2.2.2.2.2.2.1) (σ.1.2.2.2.2.2.2.2.2.2.2.1) (σ.1.2.2.2.2.2.2.2.2.2.2.2.1) (σ.1.2.2.2.2.2.2.2.2.2.2.2.2.1) (σ.1.2.2.2.2.2.2.2.2.2.2.2.2.2.1) (σ.1.2.2.2.2.2.2.2.2.2.2.2.2.2.2.1) (σ.1.2.2.2.2.2.2.2.2.2.2.2.2.2.2.2.1) (σ.1.2.2.2.2.2.2.2.2.2.2.2.2.2.2.2.2.1) (σ.1.2.2.2.2.2.2.2.2.2.2.2.2.2.2.2.2.2.1) (σ.1.2.2.2.2.2.2.2.2.2.2.2.2.2.2.2.2.2.2) (μ.1) (μ.2.1) (μ.2.2.2.2.2.2.2.2.2.2.2.2.2.2.2.2.2.2.2.2.2.2.2.2.1) (μ.2.2.2.2.2.2.2.2.2.2.2.2.2.2.2.2.2.2.2.2.2.2.2.2.2.2.1) (o) = some (o_x1_latest, o_x1_count, o_y3_past, o_x6_count, o_x6_next, o_y16_stops, o_x17_acts, o_x17_thrown, o_y18_past, o_y19_s, o_y20_p) ∧ ∃ S', RC (σ.1.1, σ.1.2.1, σ.1.2.2.1, σ.1.2.2.2.1, σ.1.2.2.2.2.1, o_x6_count, o_x6_next, σ.1.2.2.2.2.2.2.2.1, σ.1.2.2.2.2.2.2.2.2.1, σ.1.2.2.2.2.2.2.2.2.2.1, σ.1.2.2.2.2.2.2.2.2.2.2.1, σ.1.2.2.2.2.2.2.2.2.2.2.2.1, σ.1.2.2.2.2.2.2.2.2.2.2.2.2.1, σ.1.2.2.2.2.2.2.2.2.2.2.2.2.2.1, σ.1.2.2.2.2.2.2.2.2.2.2.2.2.2.2.1, σ.1.2.2.2.2.2.2.2.2.2.2.2.2.2.2.2.1, σ.1.2.2.2.2.2.2.2.2.2.2.2.2.2.2.2.2.1, σ.1.2.2.2.2.2.2.2.2.2.2.2.2.2.2.2.2.2.1, o_y16_stops) S' ∧ wS S' ∧ mS o_y19_s S' ∧ RH o_x1_latest o_x1_count o_y3_past o_x17_acts o_y18_past := by
    unfold f_case_41
    simp only [pc_vi h1, pc_vi h2, ea, eb, hc.rows, hc.columns, hc.rivers, hc.count, hc.jcount, hc.next, hc.turn, hc.quarters, hc.reds, pc_bv]
    by_cases c1 : 0 ≤ a ∧ a < S 4
    · obtain ⟨l', c', D', a', p', k1, k2, k3⟩ := h_keep w hm ra hh
      obtain ⟨s', m1, m2⟩ := m_cut (th := μ.2.1) hm w c1.1 c1.2 k2
      have jn := ct_jn w c1.1 c1.2
      have tc : t_X8_cut (iI (S 4)) (iI a) = none := by
        unfold t_X8_cut
        simp (disch := omega) only [-Int.reduceToNat, pc_ite, if_true, if_false, pc_bv, pc_lit, pc_neg, pc_add, pc_sub, pc_mul, pc_mr, pc_ar, pc_dv, pc_lt, pc_le, pc_eq, pc_nat, pc_div, pc_emod, pc_ifz, pc_ifo, pc_zb, pd_1, pd_2, pd_3, pd_4, pd_5, pd_6, pd_7, pd_8, pd_9, pd_10, pd_11, pd_12, pd_13, pd_14, pd_15, pd_16, pd_17, pd_19, pd_21, pd_22, pd_30, pd_34, pd_57, if_neg, if_pos]
      have xc : ∀ {la co : Int32} {D : Nat → Option ShT} {y1 y2 y3 y4 y5 y6 y7 y8 y9 y10 : Nat → Int32} {x1 x2 x3 x4 x5 x7 x8 : Int32} {l' c' : Int32} {D' : Nat → Option ShT}, f_X3_keep la co D x1 x2 x3 x4 x5 (iI (S 4)) (iI (S 6)) x7 x8 y1 y2 y3 y4 y5 y6 y7 y8 y9 y10 = some (l', c', D') → aJ y10 S → f_X8_cut la co D x1 x2 x3 x4 x5 (iI (S 4)) (iI (S 6)) x7 x8 y1 y2 y3 y4 y5 y6 y7 y8 y9 y10 (iI a) = some (iI (S (536 + a)), l', c', D', iI (S 4 - 1), iI (ctN S a), shF a.toNat (S 4 - 1 - a).toNat y10) := by
        intro la co D y1 y2 y3 y4 y5 y6 y7 y8 y9 y10 x1 x2 x3 x4 x5 x7 x8 l' c' D' hk hj
        unfold f_X8_cut
        simp only [pc_bv]
        have z1 : ¬ a < 0 := by omega
        simp (disch := omega) only [pc_lit, pc_lt, z1, c1.2, if_true, if_false, hk, pd_3, x_stopAt w hj, pd_1, x_dropStop w hj]
      simp only [tc, xc k1 ra.stops, m1, pc_tx, pc_txs, pd_1, pd_2, pc_bv, pd_3, pd_4, pd_5, pd_6, pd_7, pd_8, pd_9, pc_thr, if_true, if_false, pc_lit, pc_lit64, pc_ar1, pc_upL, pc_cmp, pc_10, pc_20, pc_str, Bool.false_eq_true, Bool.false_and, Bool.true_and, Bool.and_false, Bool.and_true, and_self, decide_true, decide_false, pc_zbI0, pc_zbI1, pc_ifz, pc_zb]
      exact ⟨_, _, _, _, _, _, _, _, _, _, _, rfl, ctS S a, RC.mk (by rw [jn 0 (by omega)]) (by rw [jn 1 (by omega)]) (by rw [jn 3 (by omega)]) (by rw [jn 2 (by omega)]) (jn_rM w jn).symm (by unfold ctS; rw [if_pos rfl]) (by unfold ctS; rw [if_neg (by omega), if_pos rfl]) (by unfold ctS; rw [if_neg (by omega), if_neg (by omega), if_neg (by omega), if_neg (by omega)]) (by unfold ctS; rw [if_neg (by omega), if_neg (by omega), if_neg (by omega), if_neg (by omega)]) (jn_RA w ra jn (ct_aJ w ra.stops c1.1 c1.2)), ct_wS w c1.1 c1.2, m2, k3⟩
    · have tc : t_X8_cut (iI (S 4)) (iI a) = some "java/lang/IndexOutOfBoundsException" := by
        unfold t_X8_cut
        by_cases z : a < 0
        · simp (disch := omega) only [-Int.reduceToNat, pc_ite, if_true, if_false, pc_bv, pc_lit, pc_neg, pc_add, pc_sub, pc_mul, pc_mr, pc_ar, pc_dv, pc_lt, pc_le, pc_eq, pc_nat, pc_div, pc_emod, pc_ifz, pc_ifo, pc_zb, pd_1, pd_2, pd_3, pd_4, pd_5, pd_6, pd_7, pd_8, pd_9, pd_10, pd_11, pd_12, pd_13, pd_14, pd_15, pd_16, pd_17, pd_19, pd_21, pd_22, pd_30, pd_34, pd_57, if_pos]
        · simp (disch := omega) only [-Int.reduceToNat, pc_ite, if_true, if_false, pc_bv, pc_lit, pc_neg, pc_add, pc_sub, pc_mul, pc_mr, pc_ar, pc_dv, pc_lt, pc_le, pc_eq, pc_nat, pc_div, pc_emod, pc_ifz, pc_ifo, pc_zb, pd_1, pd_2, pd_3, pd_4, pd_5, pd_6, pd_7, pd_8, pd_9, pd_10, pd_11, pd_12, pd_13, pd_14, pd_15, pd_16, pd_17, pd_19, pd_21, pd_22, pd_30, pd_34, pd_57, if_neg]
      have e4 : μ.2.2.2.2.2.2.2.2.2.2.2.2.2.2.2.2.2.2.2.2.2.2.2.2.2.2.1 (4 : Int).toNat = iI (S 4) := hm 4 (by omega) (by omega)
      have q : f_X9_cut μ.1 μ.2.1 μ.2.2.2.2.2.2.2.2.2.2.2.2.2.2.2.2.2.2.2.2.2.2.2.2.1 μ.2.2.2.2.2.2.2.2.2.2.2.2.2.2.2.2.2.2.2.2.2.2.2.2.2.2.1 (iI a) = some (iI 0, μ.1, iI 1, μ.2.2.2.2.2.2.2.2.2.2.2.2.2.2.2.2.2.2.2.2.2.2.2.2.1, μ.2.2.2.2.2.2.2.2.2.2.2.2.2.2.2.2.2.2.2.2.2.2.2.2.2.2.1) := by
        have i1 : f_X9_isIn (iI a).toInt64 (jI 0) (iI (S 4 - 1)).toInt64 = some (zB false) := by
          rw [m_isIn a1 a2 (by omega) (by omega) (by omega) (by omega), decide_eq_false (by omega)]
        have i2 : f_X9_passes μ.2.1 (zB false) (iI 1) = some (iI 0, iI 1) := m_passes1 μ.2.1 false
        unfold f_X9_cut
        simp only [pc_bv]
        simp (disch := omega) only [pc_lit, pc_lit64, pc_ar, pc_nat, pc_sub, e4, i1, pd_1, i2, pd_2]
        rw [if_pos trivial]
      simp only [tc, q, pc_tx, pc_txs, pd_1, pd_2, pc_bv, pd_3, pd_4, pd_5, pd_6, pd_7, pd_8, pd_9, pc_thr, if_true, if_false, pc_lit, pc_lit64, pc_ar1, pc_upL, pc_cmp, pc_10, pc_20, pc_str, Bool.false_eq_true, Bool.false_and, Bool.true_and, Bool.and_false, Bool.and_true, and_self, decide_true, decide_false, pc_zbI0, pc_zbI1, pc_ifz, pc_zb]
      exact ⟨_, _, _, _, _, _, _, _, _, _, _, rfl, S, RC.mk rfl rfl rfl rfl rfl rfl rfl rfl rfl ra, w, hm, hh⟩
  obtain ⟨o_x1_latest, o_x1_count, o_y3_past, o_x6_count, o_x6_next, o_y16_stops, o_x17_acts, o_x17_thrown, o_y18_past, o_y19_s, o_y20_p, e, S', hc', w', hm', hh'⟩ := key
  exact ⟨o_x1_latest, o_x1_count, o_y3_past, o_x6_count, o_x6_next, o_y16_stops, o_x17_acts, o_x17_thrown, o_y18_past, o_y19_s, o_y20_p, e, S', hc', w', hm', hh', hr⟩
theorem q_42 : SP_42 RR := by
  intro L xs i σ μ o hR h1 h2
  obtain ⟨S, hc, w, hm, hh, hr⟩ := hR
  obtain ⟨a, ea, a1, a2⟩ := pc_wr (xs (i + 1).toNatClampNeg)
  obtain ⟨b, eb, b1, b2⟩ := pc_wr (xs (i + 2).toNatClampNeg)
  have hC := w.C
  have hN := w.N
  have hD := w.D
  have ra := hc.ra
  have key : ∃ o_x1_latest o_x1_count o_y3_past o_x6_turn o_x6_quarters o_x17_acts o_x17_thrown o_y18_past o_y19_s o_y20_p, f_case_42 L xs i (σ.2.1.1) (σ.2.1.2.1) (σ.2.1.2.2) (σ.1.1) (σ.1.2.1) (σ.1.2.2.1) (σ.1.2.2.2.1) (σ.1.2.2.2.2.1) (σ.1.2.2.2.2.2.1) (σ.1.2.2.2.2.2.2.1) (σ.1.2.2.2.2.2.2.2.1) (σ.1.2.2.2.2.2.2.2.2.1) (σ.1.2.2.2.2.2.2.2.2.2.1) (σ.1.2.2.2.2.2.2.2.2.2.2.1) (σ.1.2.2.2.2.2.2.2.2.2.2.2.1) (σ.1.2.2.2.2.2.2.2.2.2.2.2.2.1) (σ.1.2.2.2.2.2.2.2.2.2.2.2.2.2.1) (σ.1.2.2.2.2.2.2.2.2.2.2.2.2.2.2.1) (σ.1.2.2.2.2.2.2.2.2.2.2.2.2.2.2.2.1) (σ.1.2.2.2.2.2.2.2.2.2.2.2.2.2.2.2.2.1) (σ.1.2.2.2.2.2.2.2.2.2.2.2.2.2.2.2.2.2.1) (σ.1.2.2.2.2.2.2.2.2.2.2.2.2.2.2.2.2.2.2) (μ.1) (μ.2.1) (μ.2.2.2.2.2.2.2.2.2.2.2.2.2.2.2.2.2.2.2.2.2.2.2.2.1) (μ.2.2.2.2.2.2.2.2.2.2.2.2.2.2.2.2.2.2.2.2.2.2.2.2.2.2.1) (o) = some (o_x1_latest, o_x1_count, o_y3_past, o_x6_turn, o_x6_quarters, o_x17_acts, o_x17_thrown, o_y18_past, o_y19_s, o_y20_p) ∧ ∃ S', RC (σ.1.1, σ.1.2.1, σ.1.2.2.1, σ.1.2.2.2.1, σ.1.2.2.2.2.1, σ.1.2.2.2.2.2.1, σ.1.2.2.2.2.2.2.1, o_x6_turn, o_x6_quarters, σ.1.2.2.2.2.2.2.2.2.2.1, σ.1.2.2.2.2.2.2.2.2.2.2.1, σ.1.2.2.2.2.2.2.2.2.2.2.2.1, σ.1.2.2.2.2.2.2.2.2.2.2.2.2.1, σ.1.2.2.2.2.2.2.2.2.2.2.2.2.2.1, σ.1.2.2.2.2.2.2.2.2.2.2.2.2.2.2.1, σ.1.2.2.2.2.2.2.2.2.2.2.2.2.2.2.2.1, σ.1.2.2.2.2.2.2.2.2.2.2.2.2.2.2.2.2.1, σ.1.2.2.2.2.2.2.2.2.2.2.2.2.2.2.2.2.2.1, σ.1.2.2.2.2.2.2.2.2.2.2.2.2.2.2.2.2.2.2) S' ∧ wS S' ∧ mS o_y19_s S' ∧ RH o_x1_latest o_x1_count o_y3_past o_x17_acts o_y18_past := by
    unfold f_case_42
    simp only [pc_vi h1, pc_vi h2, ea, eb, hc.rows, hc.columns, hc.rivers, hc.count, hc.jcount, hc.next, hc.turn, hc.quarters, hc.reds, pc_bv]
    by_cases c1 : 0 ≤ a ∧ a < 4
    · skip
      have n1 : 0 ≤ a ∧ a ≤ 3 := by omega
      obtain ⟨l', c', D', a', p', k1, k2, k3⟩ := h_keep w hm ra hh
      obtain ⟨s', m1, m2⟩ := m_turns hm w c1.1 c1.2
      have jn := tu_jn (S := S) a
      simp only [t_X8_turnPage, t_needT c1.1 c1.2, x_needT c1.1 c1.2, f_X8_turnPage, k1, x_turnTo (c := S 7) (by omega : 0 ≤ S 5) (by omega : S 5 < 4) c1.1 c1.2, f_X9_turnPage, m_mayT a1 a2, n1, k2, m1, pc_tx, pc_txs, pd_1, pd_2, pc_bv, pd_3, pd_4, pd_5, pd_6, pd_7, pd_8, pd_9, pc_thr, if_true, if_false, pc_lit, pc_lit64, pc_ar1, pc_upL, pc_cmp, pc_10, pc_20, pc_str, Bool.false_eq_true, Bool.false_and, Bool.true_and, Bool.and_false, Bool.and_true, and_self, decide_true, decide_false, pc_zbI0, pc_zbI1, pc_ifz, pc_zb]
      exact ⟨_, _, _, _, _, _, _, _, _, _, rfl, tuS S a, RC.mk (by rw [jn 0 (by omega)]) (by rw [jn 1 (by omega)]) (by rw [jn 3 (by omega)]) (by rw [jn 2 (by omega)]) (jn_rM w jn).symm (by rw [tu_at, if_neg (by omega), if_neg (by omega)]) (by rw [tu_at, if_neg (by omega), if_neg (by omega)]) (by rw [tu_at, if_neg (by omega), if_pos rfl]) (by rw [tu_at, if_pos rfl]) (jn_RA w ra jn (fun k k1 k2 => by rw [tu_at, if_neg (by omega), if_neg (by omega)] at k2; rw [tu_at, if_neg (by omega), if_neg (by omega)]; exact ra.stops k k1 k2)), tu_wS w c1.1 c1.2, m2, k3⟩
    · skip
      have n1 : ¬ (0 ≤ a ∧ a ≤ 3) := by omega
      simp only [t_X8_turnPage, t_needT' c1 a1 a2, f_X9_turnPage, m_mayT a1 a2, m_mayT a1 a2, m_passes, n1, pc_tx, pc_txs, pd_1, pd_2, pc_bv, pd_3, pd_4, pd_5, pd_6, pd_7, pd_8, pd_9, pc_thr, if_true, if_false, pc_lit, pc_lit64, pc_ar1, pc_upL, pc_cmp, pc_10, pc_20, pc_str, Bool.false_eq_true, Bool.false_and, Bool.true_and, Bool.and_false, Bool.and_true, and_self, decide_true, decide_false, pc_zbI0, pc_zbI1, pc_ifz, pc_zb]
      exact ⟨_, _, _, _, _, _, _, _, _, _, rfl, S, RC.mk rfl rfl rfl rfl rfl rfl rfl rfl rfl ra, w, hm, hh⟩
  obtain ⟨o_x1_latest, o_x1_count, o_y3_past, o_x6_turn, o_x6_quarters, o_x17_acts, o_x17_thrown, o_y18_past, o_y19_s, o_y20_p, e, S', hc', w', hm', hh'⟩ := key
  exact ⟨o_x1_latest, o_x1_count, o_y3_past, o_x6_turn, o_x6_quarters, o_x17_acts, o_x17_thrown, o_y18_past, o_y19_s, o_y20_p, e, S', hc', w', hm', hh', hr⟩
theorem q_43 : SP_43 RR := by
  intro L xs i σ μ o hR h1 h2
  obtain ⟨S, hc, w, hm, hh, hr⟩ := hR
  obtain ⟨a, ea, a1, a2⟩ := pc_wr (xs (i + 1).toNatClampNeg)
  obtain ⟨b, eb, b1, b2⟩ := pc_wr (xs (i + 2).toNatClampNeg)
  have hC := w.C
  have hN := w.N
  have hD := w.D
  have ra := hc.ra
  have key : ∃ o_x1_latest o_x1_count o_y3_past o_x6_next o_x6_turn o_x6_quarters o_x17_acts o_x17_thrown o_y18_past o_y19_s, f_case_43 L xs i (σ.2.1.1) (σ.2.1.2.1) (σ.2.1.2.2) (σ.1.1) (σ.1.2.1) (σ.1.2.2.1) (σ.1.2.2.2.1) (σ.1.2.2.2.2.1) (σ.1.2.2.2.2.2.1) (σ.1.2.2.2.2.2.2.1) (σ.1.2.2.2.2.2.2.2.1) (σ.1.2.2.2.2.2.2.2.2.1) (σ.1.2.2.2.2.2.2.2.2.2.1) (σ.1.2.2.2.2.2.2.2.2.2.2.1) (σ.1.2.2.2.2.2.2.2.2.2.2.2.1) (σ.1.2.2.2.2.2.2.2.2.2.2.2.2.1) (σ.1.2.2.2.2.2.2.2.2.2.2.2.2.2.1) (σ.1.2.2.2.2.2.2.2.2.2.2.2.2.2.2.1) (σ.1.2.2.2.2.2.2.2.2.2.2.2.2.2.2.2.1) (σ.1.2.2.2.2.2.2.2.2.2.2.2.2.2.2.2.2.1) (σ.1.2.2.2.2.2.2.2.2.2.2.2.2.2.2.2.2.2.1) (σ.1.2.2.2.2.2.2.2.2.2.2.2.2.2.2.2.2.2.2) (μ.1) (μ.2.1) (μ.2.2.2.2.2.2.2.2.2.2.2.2.2.2.2.2.2.2.2.2.2.2.2.2.1) (μ.2.2.2.2.2.2.2.2.2.2.2.2.2.2.2.2.2.2.2.2.2.2.2.2.2.2.1) = some (o_x1_latest, o_x1_count, o_y3_past, o_x6_next, o_x6_turn, o_x6_quarters, o_x17_acts, o_x17_thrown, o_y18_past, o_y19_s) ∧ ∃ S', RC (σ.1.1, σ.1.2.1, σ.1.2.2.1, σ.1.2.2.2.1, σ.1.2.2.2.2.1, σ.1.2.2.2.2.2.1, o_x6_next, o_x6_turn, o_x6_quarters, σ.1.2.2.2.2.2.2.2.2.2.1, σ.1.2.2.2.2.2.2.2.2.2.2.1, σ.1.2.2.2.2.2.2.2.2.2.2.2.1, σ.1.2.2.2.2.2.2.2.2.2.2.2.2.1, σ.1.2.2.2.2.2.2.2.2.2.2.2.2.2.1, σ.1.2.2.2.2.2.2.2.2.2.2.2.2.2.2.1, σ.1.2.2.2.2.2.2.2.2.2.2.2.2.2.2.2.1, σ.1.2.2.2.2.2.2.2.2.2.2.2.2.2.2.2.2.1, σ.1.2.2.2.2.2.2.2.2.2.2.2.2.2.2.2.2.2.1, σ.1.2.2.2.2.2.2.2.2.2.2.2.2.2.2.2.2.2.2) S' ∧ wS S' ∧ mS o_y19_s S' ∧ RH o_x1_latest o_x1_count o_y3_past o_x17_acts o_y18_past := by
    unfold f_case_43
    simp only [pc_vi h1, pc_vi h2, ea, eb, hc.rows, hc.columns, hc.rivers, hc.count, hc.jcount, hc.next, hc.turn, hc.quarters, hc.reds, pc_bv]
    by_cases z : S 4 = 0
    · have z2 : (iI (S 4) = iI 0) = True := by rw [z]; exact eq_true rfl
      have e4 : μ.2.2.2.2.2.2.2.2.2.2.2.2.2.2.2.2.2.2.2.2.2.2.2.2.2.2.1 (4 : Int).toNat = iI (S 4) := hm 4 (by omega) (by omega)
      have q : f_X9_read μ.1 μ.2.1 μ.2.2.2.2.2.2.2.2.2.2.2.2.2.2.2.2.2.2.2.2.2.2.2.2.1 μ.2.2.2.2.2.2.2.2.2.2.2.2.2.2.2.2.2.2.2.2.2.2.2.2.2.2.1 = some (iI (-3), μ.1, iI 0, μ.2.2.2.2.2.2.2.2.2.2.2.2.2.2.2.2.2.2.2.2.2.2.2.2.1, μ.2.2.2.2.2.2.2.2.2.2.2.2.2.2.2.2.2.2.2.2.2.2.2.2.2.2.1) := by
        unfold f_X9_read
        simp (disch := omega) only [-Int.reduceToNat, pc_ite, if_true, if_false, pc_bv, pc_lit, pc_neg, pc_add, pc_sub, pc_mul, pc_mr, pc_ar, pc_dv, pc_lt, pc_le, pc_eq, pc_nat, pc_div, pc_emod, pc_ifz, pc_ifo, pc_zb, pd_1, pd_2, pd_3, pd_4, pd_5, pd_6, pd_7, pd_8, pd_9, pd_10, pd_11, pd_12, pd_13, pd_14, pd_15, pd_16, pd_17, pd_19, pd_21, pd_22, pd_30, pd_34, pd_57, e4, z]
      simp only [f_X8_read, z2, q, pc_neg, pc_tx, pc_txs, pd_1, pd_2, pc_bv, pd_3, pd_4, pd_5, pd_6, pd_7, pd_8, pd_9, pc_thr, if_true, if_false, pc_lit, pc_lit64, pc_ar1, pc_upL, pc_cmp, pc_10, pc_20, pc_str, Bool.false_eq_true, Bool.false_and, Bool.true_and, Bool.and_false, Bool.and_true, and_self, decide_true, decide_false, pc_zbI0, pc_zbI1, pc_ifz, pc_zb]
      exact ⟨_, _, _, _, _, _, _, _, _, _, rfl, S, RC.mk rfl rfl rfl rfl rfl rfl rfl rfl rfl ra, w, hm, hh⟩
    · have z2 : (iI (S 4) = iI 0) = False := (pc_eq (by omega) (by omega) (by omega) (by omega)).trans (eq_false z)
      have h4 : 0 < S 4 := by omega
      have hr2 := reH_rg w h4
      obtain ⟨l', c', D', a', p', k1, k2, k3⟩ := h_keep w hm ra hh
      obtain ⟨s', m1, m2⟩ := m_read (th := μ.2.1) hm w h4 k2
      have jn := re_jn w
      have xs := x_stopAt w ra.stops (k := S 6) (by omega) (by omega)
      rw [show S (536 + S 6) = reH S from rfl] at xs
      have xd := x_directionOf w ra.direction hr2.1 hr2.2
      have hu := upr_rg (v := hv S (reH S) 2)
      have ct := x_goOn w h4
      cases p : isP S (reH S)
      · have d : hv S (reH S) 2 = -1 := by unfold isP at p; simpa using p
        rw [d] at xd
        have e : reS S = wr1 S 6 (goN S) := by unfold reS; rw [p]; rfl
        rw [e] at jn
        simp only [f_X8_read, z2, k1, xs, xd, ct, m1, pc_neg, pc_tx, pc_txs, pd_1, pd_2, pc_bv, pd_3, pd_4, pd_5, pd_6, pd_7, pd_8, pd_9, pc_thr, if_true, if_false, pc_lit, pc_lit64, pc_ar1, pc_upL, pc_cmp, pc_10, pc_20, pc_str, Bool.false_eq_true, Bool.false_and, Bool.true_and, Bool.and_false, Bool.and_true, and_self, decide_true, decide_false, pc_zbI0, pc_zbI1, pc_ifz, pc_zb]
        exact ⟨_, _, _, _, _, _, _, _, _, _, rfl, wr1 S 6 (goN S), RC.mk (by rw [jn 0 (by omega)]) (by rw [jn 1 (by omega)]) (by rw [jn 3 (by omega)]) (by rw [jn 2 (by omega)]) (jn_rM w jn).symm (by rw [wr1_no (by omega)]) (by rw [wr1_at]) (by rw [wr1_no (by omega)]) (by rw [wr1_no (by omega)]) (jn_RA w ra jn (fun k k1 k2 => by rw [wr1_no (by omega)] at k2; rw [wr1_no (by omega)]; exact ra.stops k k1 k2)), by rw [← e]; exact re_wS w h4, by rw [← e]; exact m2, k3⟩
      · have hp := isP_c w hr2.1 hr2.2 p
        have d : (iI (hv S (reH S) 2) = iI (-1)) = False := (pc_eq (by omega) (by omega) (by omega) (by omega)).trans (eq_false (by omega))
        have e : reS S = wr1 (tuS S (upr (hv S (reH S) 2))) 6 (goN S) := by unfold reS; rw [if_pos p]
        rw [e] at jn
        have xt := x_turnTo (c := S 7) (by omega : 0 ≤ S 5) (by omega : S 5 < 4) hu.1 hu.2
        simp only [f_X8_read, z2, k1, xs, xd, d, x_upright (a := hv S (reH S) 2) (by omega) (by omega), xt, ct, m1, pc_neg, pc_tx, pc_txs, pd_1, pd_2, pc_bv, pd_3, pd_4, pd_5, pd_6, pd_7, pd_8, pd_9, pc_thr, if_true, if_false, pc_lit, pc_lit64, pc_ar1, pc_upL, pc_cmp, pc_10, pc_20, pc_str, Bool.false_eq_true, Bool.false_and, Bool.true_and, Bool.and_false, Bool.and_true, and_self, decide_true, decide_false, pc_zbI0, pc_zbI1, pc_ifz, pc_zb]
        exact ⟨_, _, _, _, _, _, _, _, _, _, rfl, wr1 (tuS S (upr (hv S (reH S) 2))) 6 (goN S), RC.mk (by rw [jn 0 (by omega)]) (by rw [jn 1 (by omega)]) (by rw [jn 3 (by omega)]) (by rw [jn 2 (by omega)]) (jn_rM w jn).symm (by rw [wr1_no (by omega), tu_at, if_neg (by omega), if_neg (by omega)]) (by rw [wr1_at]) (by rw [wr1_no (by omega), tu_at, if_neg (by omega), if_pos rfl]) (by rw [wr1_no (by omega), tu_at, if_pos rfl]) (jn_RA w ra jn (fun k k1 k2 => by rw [wr1_no (by omega), tu_at, if_neg (by omega), if_neg (by omega)] at k2; rw [wr1_no (by omega), tu_at, if_neg (by omega), if_neg (by omega)]; exact ra.stops k k1 k2)), by rw [← e]; exact re_wS w h4, by rw [← e]; exact m2, k3⟩
  obtain ⟨o_x1_latest, o_x1_count, o_y3_past, o_x6_next, o_x6_turn, o_x6_quarters, o_x17_acts, o_x17_thrown, o_y18_past, o_y19_s, e, S', hc', w', hm', hh'⟩ := key
  exact ⟨o_x1_latest, o_x1_count, o_y3_past, o_x6_next, o_x6_turn, o_x6_quarters, o_x17_acts, o_x17_thrown, o_y18_past, o_y19_s, e, S', hc', w', hm', hh', hr⟩
