theorem pc_e01 : lg_cmp (0 : Int64) 0 = 0 := pc_cmp
theorem q_35 : SP_35 RR := by
  intro L xs i σ μ o hR h1 h2
  obtain ⟨S, hc, w, hm, hh, hr⟩ := hR
  obtain ⟨a, ea, a1, a2⟩ := pc_wr (xs (i + 1).toNatClampNeg)
  obtain ⟨b, eb, b1, b2⟩ := pc_wr (xs (i + 2).toNatClampNeg)
  have hC := w.C
  have hN := w.N
  have hD := w.D
  have ra := hc.ra
  have key : ∃ o_x1_latest o_x1_count o_y3_past o_x5_reds o_y8_namesOn o_y12_direction o_x17_acts o_x17_thrown o_y18_past o_y19_s o_y20_p, f_case_35 L xs i (σ.2.1.1) (σ.2.1.2.1) (σ.2.1.2.2) (σ.1.1) (σ.1.2.1) (σ.1.2.2.1) (σ.1.2.2.2.1) (σ.1.2.2.2.2.1) (σ.1.2.2.2.2.2.1) (σ.1.2.2.2.2.2.2.1) (σ.1.2.2.2.2.2.2.2.1) (σ.1.2.2.2.2.2.2.2.2.1) (σ.1.2.2.2.2.2.2.2.2.2.1) (σ.1.2.2.2.2.2.2.2.2.2.2.1) (σ.1.2.2.2.2.2.2.2.2.2.2.2.1) (σ.1.2.2.2.2.2.2.2.2.2.2.2.2.1) (σ.1.2.2.2.2.2.2.2.2.2.2.2.2.2.1) (σ.1.2.2.2.2.2.2.2.2.2.2.2.2.2.2.1) (σ.1.2.2.2.2.2.2.2.2.2.2.2.2.2.2.2.1) (σ.1.2.2.2.2.2.2.2.2.2.2.2.2.2.2.2.2.1) (σ.1.2.2.2.2.2.2.2.2.2.2.2.2.2.2.2.2.2.1) (σ.1.2.2.2.2.2.2.2.2.2.2.2.2.2.2.2.2.2.2) (μ.1) (μ.2.1) (μ.2.2.2.2.2.2.2.2.2.2.2.2.2.2.2.2.2.2.2.2.2.2.2.2.1) (μ.2.2.2.2.2.2.2.2.2.2.2.2.2.2.2.2.2.2.2.2.2.2.2.2.2.2.1) (o) = some (o_x1_latest, o_x1_count, o_y3_past, o_x5_reds, o_y8_namesOn, o_y12_direction, o_x17_acts, o_x17_thrown, o_y18_past, o_y19_s, o_y20_p) ∧ ∃ S', RC (σ.1.1, σ.1.2.1, σ.1.2.2.1, σ.1.2.2.2.1, o_x5_reds, σ.1.2.2.2.2.2.1, σ.1.2.2.2.2.2.2.1, σ.1.2.2.2.2.2.2.2.1, σ.1.2.2.2.2.2.2.2.2.1, σ.1.2.2.2.2.2.2.2.2.2.1, o_y8_namesOn, σ.1.2.2.2.2.2.2.2.2.2.2.2.1, σ.1.2.2.2.2.2.2.2.2.2.2.2.2.1, σ.1.2.2.2.2.2.2.2.2.2.2.2.2.2.1, o_y12_direction, σ.1.2.2.2.2.2.2.2.2.2.2.2.2.2.2.2.1, σ.1.2.2.2.2.2.2.2.2.2.2.2.2.2.2.2.2.1, σ.1.2.2.2.2.2.2.2.2.2.2.2.2.2.2.2.2.2.1, σ.1.2.2.2.2.2.2.2.2.2.2.2.2.2.2.2.2.2.2) S' ∧ wS S' ∧ mS o_y19_s S' ∧ RH o_x1_latest o_x1_count o_y3_past o_x17_acts o_y18_past := by
    unfold f_case_35
    simp only [pc_vi h1, pc_vi h2, ea, eb, hc.rows, hc.columns, hc.rivers, hc.count, hc.jcount, hc.next, hc.turn, hc.quarters, hc.reds, pc_bv]
    have i0 : (iI b = iI 0) = (b = 0) := pc_eq b1 b2 (by omega) (by omega)
    have h01 : (1 : Int32) = iI 1 := rfl
    by_cases c1 : 0 ≤ a ∧ a < S 2
    · have n1 : 0 ≤ a ∧ a ≤ S 2 - 1 := by omega
      have hH := w.H c1.1 c1.2
      obtain ⟨l', c', D', a', p', k1, k2, k3⟩ := h_keep w hm ra hh
      have ir := x_isRed w c1.1 c1.2
      have mr := m_isRed hm w c1.1 c1.2
      by_cases zb : b = 0
      · have w' := rdF_wS w c1.1 c1.2
        have rm := rM_wr w w' c1.1 c1.2 (.inl rfl)
        rw [if_pos rfl] at rm
        have rI : f_X2_redsIf (rM S) (iI a) (iI 0) = some (rM (rdF S a)) := by
          unfold f_X2_redsIf rdF
          simp only [pc_bv, pc_lit, pc_neg, pc_sB, if_true]
          rw [rm]
        have pu := m_puts (x := 0) hm c1.1 (by omega : a < 8) (by omega : (0 : Int) ≤ 1) (by omega : (1 : Int) < 12)
        simp only [pc_lit, i0, zb, if_true, t_X8_setRed, t_needH c1.1 c1.2 (by omega), x_needH c1.1 c1.2 (by omega), f_X8_setRed, k1, ir, rI, f_X9_setRed, m_mayH hm w a1 a2, n1, k2, mr, pu, pc_tx, pc_txs, pd_1, pd_2, pc_bv, pd_3, pd_4, pd_5, pd_6, pd_7, pd_8, pd_9, pc_thr, if_true, if_false, pc_lit, pc_lit64, pc_ar1, pc_upL, pc_cmp, pc_10, pc_20, pc_str, Bool.false_eq_true, Bool.false_and, Bool.true_and, Bool.and_false, Bool.and_true, and_self, decide_true, decide_false, pc_zbI0, pc_zbI1, pc_ifz, pc_zb]
        cases isR S a <;> simp only [pc_ifz, Bool.false_eq_true, if_true, if_false, pc_lit64, pc_cmp, pc_lit, pc_zB0, pc_zB1, pc_10] <;> exact ⟨_, _, _, _, _, _, _, _, _, _, _, rfl, rdF S a, RC.mk (by rw [show rdF S a 0 = S 0 from wr1_no (by omega)]) (by rw [show rdF S a 1 = S 1 from wr1_no (by omega)]) (by rw [show rdF S a 3 = S 3 from wr1_no (by omega)]) (by rw [show rdF S a 2 = S 2 from wr1_no (by omega)]) rfl (by rw [show rdF S a 4 = S 4 from wr1_no (by omega)]) (by rw [show rdF S a 6 = S 6 from wr1_no (by omega)]) (by rw [show rdF S a 5 = S 5 from wr1_no (by omega)]) (by rw [show rdF S a 7 = S 7 from wr1_no (by omega)]) (rd_RA w ra c1.1 (by omega)), w', mS_wr hm (by omega), k3⟩
      · have w' := rdS_wS w c1.1 c1.2
        have wT := lfM_wS w (m := xs8 S a)
        have rm := rM_wr wT w' c1.1 (by rw [wy_2]; exact c1.2) (.inr rfl)
        rw [if_neg (by omega), wy_rM w] at rm
        have rI : f_X2_redsIf (rM S) (iI a) (iI 1) = some (rM (rdS S a)) := by
          unfold f_X2_redsIf rdS
          simp only [pc_bv, pc_lit, pc_neg, pc_sB, pc_10, if_false]
          rw [rm]
        have pu := m_puts (x := 1) hm c1.1 (by omega : a < 8) (by omega : (0 : Int) ≤ 1) (by omega : (1 : Int) < 12)
        have hm1 : mS (upd (μ.2.2.2.2.2.2.2.2.2.2.2.2.2.2.2.2.2.2.2.2.2.2.2.2.2.2.1) (440 + 12 * a + 1).toNat (iI 1)) (wr1 S (440 + 12 * a + 1) 1) := mS_wr hm (by omega)
        have cb := m_crossedByQ hm1 (rd_wQ w c1.1 c1.2 (by omega) (by omega)) c1.1 (by rw [wr1_no (by omega)]; exact c1.2)
        rw [xs8_rd w c1.1 c1.2] at cb
        obtain ⟨s', m1, m2⟩ := m_liftsQ hm1 (by rw [wr1_no (by omega)]; omega) (by rw [wr1_no (by omega)]; omega) (xs8 S a)
        obtain ⟨⟨r1, r2⟩, t1, t2⟩ := x_takeNames w ra (xs8 S a)
        have cx := x_crossedBy w ra.home ra.direction ra.length ra.namesOn c1.1 c1.2
        have e : wyS (wr1 S (440 + 12 * a + 1) 1) (lfM (wr1 S (440 + 12 * a + 1) 1) (xs8 S a)) = rdS S a := by
          rw [wy_wr (by omega) (by omega)]
          unfold rdS
          rw [wy_congr]
          intro g g1 g2
          unfold lfM
          rw [show hv (wr1 S (440 + 12 * a + 1) 1) g 2 = hv S g 2 from (sn_rd c1.1).eHv w (k := 2) g1 g2 (by omega) (by omega) (by omega)]
        rw [e] at m2
        simp only [pc_lit, i0, zb, if_false, t_X8_setRed, t_needH c1.1 c1.2 (by omega), x_needH c1.1 c1.2 (by omega), f_X8_setRed, k1, ir, rI, cx, t1, f_X9_setRed, m_mayH hm w a1 a2, n1, k2, mr, pu, cb, m1, pc_tx, pc_txs, pd_1, pd_2, pc_bv, pd_3, pd_4, pd_5, pd_6, pd_7, pd_8, pd_9, pc_thr, if_true, if_false, pc_lit, pc_lit64, pc_ar1, pc_upL, pc_cmp, pc_10, pc_20, pc_str, Bool.false_eq_true, Bool.false_and, Bool.true_and, Bool.and_false, Bool.and_true, and_self, decide_true, decide_false, pc_zbI0, pc_zbI1, pc_ifz, pc_zb]
        have E : ∀ k, k < 8 → rdS S a k = S k := fun k hk => (wr1_no (by omega)).trans (wy_lo (by omega))
        cases isR S a <;> simp only [pc_ifz, Bool.false_eq_true, if_true, if_false, pc_lit64, pc_cmp, pc_lit, pc_zB0, pc_zB1, pc_10] <;> exact ⟨_, _, _, _, _, _, _, _, _, _, _, rfl, rdS S a, RC.mk (by rw [E 0 (by omega)]) (by rw [E 1 (by omega)]) (by rw [E 3 (by omega)]) (by rw [E 2 (by omega)]) rfl (by rw [E 4 (by omega)]) (by rw [E 6 (by omega)]) (by rw [E 5 (by omega)]) (by rw [E 7 (by omega)]) (rd_RA wT t2 c1.1 (by omega)), w', m2, k3⟩
    · have n1 : ¬ (0 ≤ a ∧ a ≤ S 2 - 1) := by omega
      by_cases zb : b = 0
      · simp only [pc_lit, i0, zb, if_true, t_X8_setRed, t_needH' c1 a1 a2 (by omega) (by omega), f_X9_setRed, m_mayH hm w a1 a2, n1, pc_tx, pc_txs, pd_1, pd_2, pc_bv, pd_3, pd_4, pd_5, pd_6, pd_7, pd_8, pd_9, pc_thr, if_true, if_false, pc_lit, pc_lit64, pc_ar1, pc_upL, pc_cmp, pc_10, pc_20, pc_str, Bool.false_eq_true, Bool.false_and, Bool.true_and, Bool.and_false, Bool.and_true, and_self, decide_true, decide_false, pc_zbI0, pc_zbI1, pc_ifz, pc_zb]
        exact ⟨_, _, _, _, _, _, _, _, _, _, _, rfl, S, RC.mk rfl rfl rfl rfl rfl rfl rfl rfl rfl ra, w, hm, hh⟩
      · simp only [pc_lit, i0, zb, if_false, t_X8_setRed, t_needH' c1 a1 a2 (by omega) (by omega), f_X9_setRed, m_mayH hm w a1 a2, n1, pc_tx, pc_txs, pd_1, pd_2, pc_bv, pd_3, pd_4, pd_5, pd_6, pd_7, pd_8, pd_9, pc_thr, if_true, if_false, pc_lit, pc_lit64, pc_ar1, pc_upL, pc_cmp, pc_10, pc_20, pc_str, Bool.false_eq_true, Bool.false_and, Bool.true_and, Bool.and_false, Bool.and_true, and_self, decide_true, decide_false, pc_zbI0, pc_zbI1, pc_ifz, pc_zb]
        exact ⟨_, _, _, _, _, _, _, _, _, _, _, rfl, S, RC.mk rfl rfl rfl rfl rfl rfl rfl rfl rfl ra, w, hm, hh⟩
  obtain ⟨o_x1_latest, o_x1_count, o_y3_past, o_x5_reds, o_y8_namesOn, o_y12_direction, o_x17_acts, o_x17_thrown, o_y18_past, o_y19_s, o_y20_p, e, S', hc', w', hm', hh'⟩ := key
  exact ⟨o_x1_latest, o_x1_count, o_y3_past, o_x5_reds, o_y8_namesOn, o_y12_direction, o_x17_acts, o_x17_thrown, o_y18_past, o_y19_s, o_y20_p, e, S', hc', w', hm', hh', hr⟩
theorem q_38 : SP_38 RR := by
  intro L xs i σ μ o hR h1 h2
  obtain ⟨S, hc, w, hm, hh, hr⟩ := hR
  obtain ⟨a, ea, a1, a2⟩ := pc_wr (xs (i + 1).toNatClampNeg)
  obtain ⟨b, eb, b1, b2⟩ := pc_wr (xs (i + 2).toNatClampNeg)
  have hC := w.C
  have hN := w.N
  have hD := w.D
  have ra := hc.ra
  have key : ∃ o_x1_latest o_x1_count o_y3_past o_y8_namesOn o_y9_land o_y12_direction o_x17_acts o_x17_thrown o_y18_past o_y19_s o_y20_p, f_case_38 L xs i (σ.2.1.1) (σ.2.1.2.1) (σ.2.1.2.2) (σ.1.1) (σ.1.2.1) (σ.1.2.2.1) (σ.1.2.2.2.1) (σ.1.2.2.2.2.1) (σ.1.2.2.2.2.2.1) (σ.1.2.2.2.2.2.2.1) (σ.1.2.2.2.2.2.2.2.1) (σ.1.2.2.2.2.2.2.2.2.1) (σ.1.2.2.2.2.2.2.2.2.2.1) (σ.1.2.2.2.2.2.2.2.2.2.2.1) (σ.1.2.2.2.2.2.2.2.2.2.2.2.1) (σ.1.2.2.2.2.2.2.2.2.2.2.2.2.1) (σ.1.2.2.2.2.2.2.2.2.2.2.2.2.2.1) (σ.1.2.2.2.2.2.2.2.2.2.2.2.2.2.2.1) (σ.1.2.2.2.2.2.2.2.2.2.2.2.2.2.2.2.1) (σ.1.2.2.2.2.2.2.2.2.2.2.2.2.2.2.2.2.1) (σ.1.2.2.2.2.2.2.2.2.2.2.2.2.2.2.2.2.2.1) (σ.1.2.2.2.2.2.2.2.2.2.2.2.2.2.2.2.2.2.2) (μ.1) (μ.2.1) (μ.2.2.2.2.2.2.2.2.2.2.2.2.2.2.2.2.2.2.2.2.2.2.2.2.1) (μ.2.2.2.2.2.2.2.2.2.2.2.2.2.2.2.2.2.2.2.2.2.2.2.2.2.2.1) (o) = some (o_x1_latest, o_x1_count, o_y3_past, o_y8_namesOn, o_y9_land, o_y12_direction, o_x17_acts, o_x17_thrown, o_y18_past, o_y19_s, o_y20_p) ∧ ∃ S', RC (σ.1.1, σ.1.2.1, σ.1.2.2.1, σ.1.2.2.2.1, σ.1.2.2.2.2.1, σ.1.2.2.2.2.2.1, σ.1.2.2.2.2.2.2.1, σ.1.2.2.2.2.2.2.2.1, σ.1.2.2.2.2.2.2.2.2.1, σ.1.2.2.2.2.2.2.2.2.2.1, o_y8_namesOn, o_y9_land, σ.1.2.2.2.2.2.2.2.2.2.2.2.2.1, σ.1.2.2.2.2.2.2.2.2.2.2.2.2.2.1, o_y12_direction, σ.1.2.2.2.2.2.2.2.2.2.2.2.2.2.2.2.1, σ.1.2.2.2.2.2.2.2.2.2.2.2.2.2.2.2.2.1, σ.1.2.2.2.2.2.2.2.2.2.2.2.2.2.2.2.2.2.1, σ.1.2.2.2.2.2.2.2.2.2.2.2.2.2.2.2.2.2.2) S' ∧ wS S' ∧ mS o_y19_s S' ∧ RH o_x1_latest o_x1_count o_y3_past o_x17_acts o_y18_past := by
    unfold f_case_38
    simp only [pc_vi h1, pc_vi h2, ea, eb, hc.rows, hc.columns, hc.rivers, hc.count, hc.jcount, hc.next, hc.turn, hc.quarters, hc.reds, pc_bv]
    by_cases c1 : 0 ≤ a ∧ a < S 0 * S 1
    · skip
      have n1 : 0 ≤ a ∧ a ≤ S 0 * S 1 - 1 := by omega
      have io := x_isOpen w ra.land ra.riverOf ra.home (c := a) (by omega) (by omega)
      have mo := m_canBegin hm w (c := a) (by omega) (by omega)
      cases z : cB S a
      · simp only [t_X8_erode, t_needC w c1.1 c1.2, x_needC w c1.1 c1.2, f_X8_erode, io, z, f_X9_erode, m_isCell hm w a1 a2, m_mayC hm w a1 a2, m_passes, n1, mo, pc_neg, pc_tx, pc_txs, pd_1, pd_2, pc_bv, pd_3, pd_4, pd_5, pd_6, pd_7, pd_8, pd_9, pc_thr, if_true, if_false, pc_lit, pc_lit64, pc_ar1, pc_upL, pc_cmp, pc_10, pc_20, pc_str, Bool.false_eq_true, Bool.false_and, Bool.true_and, Bool.and_false, Bool.and_true, and_self, decide_true, decide_false, pc_zbI0, pc_zbI1, pc_ifz, pc_zb]
        exact ⟨_, _, _, _, _, _, _, _, _, _, _, rfl, S, RC.mk rfl rfl rfl rfl rfl rfl rfl rfl rfl ra, w, hm, hh⟩
      · obtain ⟨l', c', D', a', p', k1, k2, k3⟩ := h_keep w hm ra hh
        have wT := lfM_wS w (m := nm S a)
        obtain ⟨⟨r1, r2⟩, t1, t2⟩ := x_takeNames w ra (nm S a)
        obtain ⟨s', m1, m2⟩ := m_lifts hm w (nm S a)
        have E : ∀ k, k < 8 → wr1 (wyS S (lfM S (nm S a))) (8 + a) 0 k = S k := fun k hk => (wr1_no (by omega)).trans (wy_lo (by omega))
        have w' : wS (wr1 (wyS S (lfM S (nm S a))) (8 + a) 0) := ld_wS wT c1.1 (by rw [wy_lo (by omega), wy_lo (by omega)]; exact c1.2) (.inl rfl) (fun _ h g1 g2 => by rw [wy_2] at g2; rw [wy_hn (v := 0) g1 (by omega) (by omega) (by omega)]; exact cB_no w z h g1 g2) (fun q => by omega)
        have sl := x_setLand (land := σ.1.2.2.2.2.2.2.2.2.2.2.2.1) (v := 0) c1.1 (by omega : a < 144) (.inl rfl)
        have rm : rM (wr1 (wyS S (lfM S (nm S a))) (8 + a) 0) = rM S := by
          rw [← wy_rM w (D := lfM S (nm S a))]
          unfold rM
          rw [show wr1 (wyS S (lfM S (nm S a))) (8 + a) 0 2 = wyS S (lfM S (nm S a)) 2 from wr1_no (by omega)]
          exact mk_congr (fun h g1 g2 => by unfold isR hv; rw [wr1_no (by omega)])
        have up : (iI 8 + iI a).toNatClampNeg = (8 + a).toNat := by rw [pc_add, pc_nat (by omega) (by omega)]
        have ar8 : ∀ {α : Type} (k : Option α), ar (iI 8 + iI a) 552 k = k := fun k => by rw [pc_add, pc_ar (by omega) (by omega) (by omega)]
        simp only [t_X8_erode, t_needC w c1.1 c1.2, x_needC w c1.1 c1.2, f_X8_erode, io, z, k1, x_namesIn ra.namesOn c1.1 (by omega : a < 144), t1, sl, oc_nm w a, f_X9_erode, m_isCell hm w a1 a2, m_mayC hm w a1 a2, m_passes, n1, mo, k2, m_namesIn hm w (c := a) (by omega) (by omega), m1, ar8, up, pc_bv, pc_tx, pc_txs, pd_1, pd_2, pc_bv, pd_3, pd_4, pd_5, pd_6, pd_7, pd_8, pd_9, pc_thr, if_true, if_false, pc_lit, pc_lit64, pc_ar1, pc_upL, pc_cmp, pc_10, pc_20, pc_str, Bool.false_eq_true, Bool.false_and, Bool.true_and, Bool.and_false, Bool.and_true, and_self, decide_true, decide_false, pc_zbI0, pc_zbI1, pc_ifz, pc_zb]
        exact ⟨_, _, _, _, _, _, _, _, _, _, _, rfl, _, RC.upd (E 0 (by omega)) (E 1 (by omega)) (E 2 (by omega)) (E 3 (by omega)) (E 4 (by omega)) (E 5 (by omega)) (E 6 (by omega)) (E 7 (by omega)) rm (ld_RA wT t2 c1.1 (by omega)), w', mS_wr m2 (by omega), k3⟩
    · skip
      have n1 : ¬ (0 ≤ a ∧ a ≤ S 0 * S 1 - 1) := by omega
      simp only [t_X8_erode, t_needC' w c1 a1 a2, f_X9_erode, m_isCell hm w a1 a2, m_mayC hm w a1 a2, m_passes, n1, pc_tx, pc_txs, pd_1, pd_2, pc_bv, pd_3, pd_4, pd_5, pd_6, pd_7, pd_8, pd_9, pc_thr, if_true, if_false, pc_lit, pc_lit64, pc_ar1, pc_upL, pc_cmp, pc_10, pc_20, pc_str, Bool.false_eq_true, Bool.false_and, Bool.true_and, Bool.and_false, Bool.and_true, and_self, decide_true, decide_false, pc_zbI0, pc_zbI1, pc_ifz, pc_zb]
      exact ⟨_, _, _, _, _, _, _, _, _, _, _, rfl, S, RC.mk rfl rfl rfl rfl rfl rfl rfl rfl rfl ra, w, hm, hh⟩
  obtain ⟨o_x1_latest, o_x1_count, o_y3_past, o_y8_namesOn, o_y9_land, o_y12_direction, o_x17_acts, o_x17_thrown, o_y18_past, o_y19_s, o_y20_p, e, S', hc', w', hm', hh'⟩ := key
  exact ⟨o_x1_latest, o_x1_count, o_y3_past, o_y8_namesOn, o_y9_land, o_y12_direction, o_x17_acts, o_x17_thrown, o_y18_past, o_y19_s, o_y20_p, e, S', hc', w', hm', hh', hr⟩
