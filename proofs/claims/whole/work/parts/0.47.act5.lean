theorem q_37 : SP_37 RR := by
  intro L xs i σ μ o hR h1 h2
  obtain ⟨S, hc, w, hm, hh, hr⟩ := hR
  obtain ⟨a, ea, a1, a2⟩ := pc_wr (xs (i + 1).toNatClampNeg)
  obtain ⟨b, eb, b1, b2⟩ := pc_wr (xs (i + 2).toNatClampNeg)
  have hC := w.C
  have hN := w.N
  have hD := w.D
  have ra := hc.ra
  have key : ∃ o_x1_latest o_x1_count o_y3_past o_x4_rivers o_y10_riverOf o_y11_riverPlace o_x17_acts o_x17_thrown o_y18_past o_y19_s o_y20_p, f_case_37 L xs i (σ.2.1.1) (σ.2.1.2.1) (σ.2.1.2.2) (σ.1.1) (σ.1.2.1) (σ.1.2.2.1) (σ.1.2.2.2.1) (σ.1.2.2.2.2.1) (σ.1.2.2.2.2.2.1) (σ.1.2.2.2.2.2.2.1) (σ.1.2.2.2.2.2.2.2.1) (σ.1.2.2.2.2.2.2.2.2.1) (σ.1.2.2.2.2.2.2.2.2.2.1) (σ.1.2.2.2.2.2.2.2.2.2.2.1) (σ.1.2.2.2.2.2.2.2.2.2.2.2.1) (σ.1.2.2.2.2.2.2.2.2.2.2.2.2.1) (σ.1.2.2.2.2.2.2.2.2.2.2.2.2.2.1) (σ.1.2.2.2.2.2.2.2.2.2.2.2.2.2.2.1) (σ.1.2.2.2.2.2.2.2.2.2.2.2.2.2.2.2.1) (σ.1.2.2.2.2.2.2.2.2.2.2.2.2.2.2.2.2.1) (σ.1.2.2.2.2.2.2.2.2.2.2.2.2.2.2.2.2.2.1) (σ.1.2.2.2.2.2.2.2.2.2.2.2.2.2.2.2.2.2.2) (μ.1) (μ.2.1) (μ.2.2.2.2.2.2.2.2.2.2.2.2.2.2.2.2.2.2.2.2.2.2.2.2.1) (μ.2.2.2.2.2.2.2.2.2.2.2.2.2.2.2.2.2.2.2.2.2.2.2.2.2.2.1) (o) = some (o_x1_latest, o_x1_count, o_y3_past, o_x4_rivers, o_y10_riverOf, o_y11_riverPlace, o_x17_acts, o_x17_thrown, o_y18_past, o_y19_s, o_y20_p) ∧ ∃ S', RC (σ.1.1, σ.1.2.1, o_x4_rivers, σ.1.2.2.2.1, σ.1.2.2.2.2.1, σ.1.2.2.2.2.2.1, σ.1.2.2.2.2.2.2.1, σ.1.2.2.2.2.2.2.2.1, σ.1.2.2.2.2.2.2.2.2.1, σ.1.2.2.2.2.2.2.2.2.2.1, σ.1.2.2.2.2.2.2.2.2.2.2.1, σ.1.2.2.2.2.2.2.2.2.2.2.2.1, o_y10_riverOf, o_y11_riverPlace, σ.1.2.2.2.2.2.2.2.2.2.2.2.2.2.2.1, σ.1.2.2.2.2.2.2.2.2.2.2.2.2.2.2.2.1, σ.1.2.2.2.2.2.2.2.2.2.2.2.2.2.2.2.2.1, σ.1.2.2.2.2.2.2.2.2.2.2.2.2.2.2.2.2.2.1, σ.1.2.2.2.2.2.2.2.2.2.2.2.2.2.2.2.2.2.2) S' ∧ wS S' ∧ mS o_y19_s S' ∧ RH o_x1_latest o_x1_count o_y3_past o_x17_acts o_y18_past := by
    unfold f_case_37
    simp only [pc_vi h1, pc_vi h2, ea, eb, hc.rows, hc.columns, hc.rivers, hc.count, hc.jcount, hc.next, hc.turn, hc.quarters, hc.reds, pc_bv]
    by_cases c1 : 0 ≤ a ∧ a < S 3
    · skip
      have n1 : 0 ≤ a ∧ a ≤ S 3 - 1 := by omega
      obtain ⟨l', c', D', a', p', k1, k2, k3⟩ := h_keep w hm ra hh
      obtain ⟨s', m1, m2⟩ := m_dry (th := μ.2.1) hm w c1.1 c1.2 k2
      have xd := x_dry (ord := σ.1.2.2.2.2.2.2.2.2.2.2.2.2.2.1) w ra.riverOf c1.1 c1.2
      have rm : rM (dryS S a) = rM S := by
        unfold rM
        rw [dry_lo (by omega) (by omega)]
        exact mk_congr (fun h g1 g2 => by unfold isR hv; rw [dry_hi (by omega)])
      simp only [t_X8_dropRiver, t_needR c1.1 c1.2 (by omega), x_needR c1.1 c1.2 (by omega), f_X8_dropRiver, k1, xd, m1, pc_tx, pc_txs, pd_1, pd_2, pc_bv, pd_3, pd_4, pd_5, pd_6, pd_7, pd_8, pd_9, pc_thr, if_true, if_false, pc_lit, pc_lit64, pc_ar1, pc_upL, pc_cmp, pc_10, pc_20, pc_str, Bool.false_eq_true, Bool.false_and, Bool.true_and, Bool.and_false, Bool.and_true, and_self, decide_true, decide_false, pc_zbI0, pc_zbI1, pc_ifz, pc_zb]
      exact ⟨_, _, _, _, _, _, _, _, _, _, _, rfl, dryS S a, RC.mk (by rw [dry_lo (by omega) (by omega)]) (by rw [dry_lo (by omega) (by omega)]) (by unfold dryS; rw [if_pos rfl]) (by rw [dry_lo (by omega) (by omega)]) rm.symm (by rw [dry_lo (by omega) (by omega)]) (by rw [dry_lo (by omega) (by omega)]) (by rw [dry_lo (by omega) (by omega)]) (by rw [dry_lo (by omega) (by omega)]) (dry_RA w ra c1.1), dry_wS w c1.1 c1.2, m2, k3⟩
    · skip
      have n1 : ¬ (0 ≤ a ∧ a ≤ S 3 - 1) := by omega
      simp only [t_X8_dropRiver, t_needR' c1 a1 a2 (by omega) (by omega), f_X9_dropRiver, m_mayR hm w a1 a2, m_mayR hm w a1 a2, m_passes, n1, pc_tx, pc_txs, pd_1, pd_2, pc_bv, pd_3, pd_4, pd_5, pd_6, pd_7, pd_8, pd_9, pc_thr, if_true, if_false, pc_lit, pc_lit64, pc_ar1, pc_upL, pc_cmp, pc_10, pc_20, pc_str, Bool.false_eq_true, Bool.false_and, Bool.true_and, Bool.and_false, Bool.and_true, and_self, decide_true, decide_false, pc_zbI0, pc_zbI1, pc_ifz, pc_zb]
      exact ⟨_, _, _, _, _, _, _, _, _, _, _, rfl, S, RC.mk rfl rfl rfl rfl rfl rfl rfl rfl rfl ra, w, hm, hh⟩
  obtain ⟨o_x1_latest, o_x1_count, o_y3_past, o_x4_rivers, o_y10_riverOf, o_y11_riverPlace, o_x17_acts, o_x17_thrown, o_y18_past, o_y19_s, o_y20_p, e, S', hc', w', hm', hh'⟩ := key
  exact ⟨o_x1_latest, o_x1_count, o_y3_past, o_x4_rivers, o_y10_riverOf, o_y11_riverPlace, o_x17_acts, o_x17_thrown, o_y18_past, o_y19_s, o_y20_p, e, S', hc', w', hm', hh', hr⟩
