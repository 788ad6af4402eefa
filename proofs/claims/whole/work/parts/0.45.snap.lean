theorem t_needS {a : Int} (h1 : 0 ≤ a) (h2 : a < 2) : t_X8_needSlot (iI a) = none := by
  unfold t_X8_needSlot
  simp (disch := omega) only [-Int.reduceToNat, pc_ite, if_true, if_false, pc_bv, pc_lit, pc_neg, pc_add, pc_sub, pc_mul, pc_mr, pc_ar, pc_dv, pc_lt, pc_le, pc_eq, pc_nat, pc_div, pc_emod, pc_ifz, pc_ifo, pc_zb, pd_1, pd_2, pd_3, pd_4, pd_5, pd_6, pd_7, pd_8, pd_9, pd_10, pd_11, pd_12, pd_13, pd_14, pd_15, pd_16, pd_17, pd_19, pd_21, pd_22, pd_30, pd_34, pd_57, if_neg, if_pos]
theorem x_needS {a : Int} (h1 : 0 ≤ a) (h2 : a < 2) : f_X8_needSlot (iI a) = some () := by
  unfold f_X8_needSlot
  simp (disch := omega) only [-Int.reduceToNat, pc_ite, if_true, if_false, pc_bv, pc_lit, pc_neg, pc_add, pc_sub, pc_mul, pc_mr, pc_ar, pc_dv, pc_lt, pc_le, pc_eq, pc_nat, pc_div, pc_emod, pc_ifz, pc_ifo, pc_zb, pd_1, pd_2, pd_3, pd_4, pd_5, pd_6, pd_7, pd_8, pd_9, pd_10, pd_11, pd_12, pd_13, pd_14, pd_15, pd_16, pd_17, pd_19, pd_21, pd_22, pd_30, pd_34, pd_57, if_neg, if_pos]
theorem t_needS' {a : Int} (h0 : ¬ (0 ≤ a ∧ a < 2)) (h1 : -2147483648 ≤ a) (h2 : a < 2147483648) : t_X8_needSlot (iI a) = some "java/lang/IllegalArgumentException" := by
  unfold t_X8_needSlot
  by_cases z : a < 0
  · simp (disch := omega) only [-Int.reduceToNat, pc_ite, if_true, if_false, pc_bv, pc_lit, pc_neg, pc_add, pc_sub, pc_mul, pc_mr, pc_ar, pc_dv, pc_lt, pc_le, pc_eq, pc_nat, pc_div, pc_emod, pc_ifz, pc_ifo, pc_zb, pd_1, pd_2, pd_3, pd_4, pd_5, pd_6, pd_7, pd_8, pd_9, pd_10, pd_11, pd_12, pd_13, pd_14, pd_15, pd_16, pd_17, pd_19, pd_21, pd_22, pd_30, pd_34, pd_57, if_pos]
  · simp (disch := omega) only [-Int.reduceToNat, pc_ite, if_true, if_false, pc_bv, pc_lit, pc_neg, pc_add, pc_sub, pc_mul, pc_mr, pc_ar, pc_dv, pc_lt, pc_le, pc_eq, pc_nat, pc_div, pc_emod, pc_ifz, pc_ifo, pc_zb, pd_1, pd_2, pd_3, pd_4, pd_5, pd_6, pd_7, pd_8, pd_9, pd_10, pd_11, pd_12, pd_13, pd_14, pd_15, pd_16, pd_17, pd_19, pd_21, pd_22, pd_30, pd_34, pd_57, if_neg]
theorem m_isSlot {a : Int} (h1 : -2147483648 ≤ a) (h2 : a < 2147483648) : f_X9_isIn (iI a).toInt64 0 1 = some (zB (decide (0 ≤ a ∧ a ≤ 1))) := by
  simp (disch := omega) only [pc_lit64, m_isInL]
theorem x_save {D : Nat → Option ShT} {lOn nOn land riv ord dir hom len let' stp : Nat → Int32} {S : Int → Int} (w : wS S) (ra : RA lOn nOn land riv ord dir hom len let' stp S) {a : Int} (h1 : 0 ≤ a) (h2 : a < 2) : ∃ d, RC d S ∧ f_X8_saveSnapshot D (iI (S 0)) (iI (S 1)) (iI (S 3)) (iI (S 2)) (rM S) (iI (S 4)) (iI (S 6)) (iI (S 5)) (iI (S 7)) lOn nOn land riv ord dir hom len let' stp (iI a) = some (iI (S 2), updD D a.toNat d) := by
  refine ⟨_, RC.mk rfl rfl rfl rfl rfl rfl rfl rfl rfl (RA.cp w ra (Xl := ((D a.toNat).getD shZ).2.2.2.2.2.2.2.2.2.1) (Xn := ((D a.toNat).getD shZ).2.2.2.2.2.2.2.2.2.2.1) (Xa := ((D a.toNat).getD shZ).2.2.2.2.2.2.2.2.2.2.2.1) (Xr := ((D a.toNat).getD shZ).2.2.2.2.2.2.2.2.2.2.2.2.1) (Xo := ((D a.toNat).getD shZ).2.2.2.2.2.2.2.2.2.2.2.2.2.1) (Xd := ((D a.toNat).getD shZ).2.2.2.2.2.2.2.2.2.2.2.2.2.2.1) (Xh := ((D a.toNat).getD shZ).2.2.2.2.2.2.2.2.2.2.2.2.2.2.2.1) (Xe := ((D a.toNat).getD shZ).2.2.2.2.2.2.2.2.2.2.2.2.2.2.2.2.1) (Xt := ((D a.toNat).getD shZ).2.2.2.2.2.2.2.2.2.2.2.2.2.2.2.2.2.1) (Xj := ((D a.toNat).getD shZ).2.2.2.2.2.2.2.2.2.2.2.2.2.2.2.2.2.2)), ?_⟩
  unfold f_X8_saveSnapshot
  rw [x_needS h1 h2, pd_1, pc_ar h1 (by omega) (by omega)]
  simp only [pc_bv, x_copy6, pd_19]
  rw [pc_nat (by omega) (by omega)]
theorem m_save {s isKept kept : Nat → Int32} {S : Int → Int} {th : Int32} (hs : mS s S) (w : wS S) {a : Int} (h1 : 0 ≤ a) (h2 : a < 2) : f_X9_saveSnapshot th isKept kept s (iI a) = some (iI (S 2), iI 0, upd isKept a.toNat (iI 1), cpM 0 (552 * a).toNat 552 s kept) := by
  have i2 : f_X9_passes th (zB true) 1 = some (iI 1, iI 0) := m_passes1 th true
  have e : (552 : Int32) * iI a = iI (((552 * a).toNat : Nat) : Int) := by
    rw [show (552 : Int32) = iI 552 from rfl, pc_mul]; congr 1; omega
  have e2 : s (2 : Int).toNat = iI (S 2) := hs 2 (by omega) (by omega)
  unfold f_X9_saveSnapshot
  rw [m_isSlot (by omega) (by omega), decide_eq_true (by omega), pd_1, i2, pd_2, if_neg (by decide), e]
  show bd1 (f_X9_copies 552 1104 _ _ (iI ((0 : Nat) : Int)) _) _ = _
  rw [m_copies _ _ (by omega) (by omega) (by omega) (by omega), pd_1]
  have n1 : vp_nar .boolean 1 = iI 1 := naB_1
  rw [n1]
  simp (disch := omega) only [-Int.reduceToNat, pc_ite, if_true, if_false, pc_bv, pc_lit, pc_neg, pc_add, pc_sub, pc_mul, pc_mr, pc_ar, pc_dv, pc_lt, pc_le, pc_eq, pc_nat, pc_div, pc_emod, pc_ifz, pc_ifo, pc_zb, pd_1, pd_2, pd_3, pd_4, pd_5, pd_6, pd_7, pd_8, pd_9, pd_10, pd_11, pd_12, pd_13, pd_14, pd_15, pd_16, pd_17, pd_19, pd_21, pd_22, pd_30, pd_34, pd_57, e2]
theorem q_49 : SP_49 RR := by
  intro L xs i σ μ o hR h1 h2
  obtain ⟨S, hc, w, hm, hh, hrx, hro, hk, hr⟩ := hR
  obtain ⟨a, ea, a1, a2⟩ := pc_wr (xs (i + 1).toNatClampNeg)
  have ra := hc.ra
  have key : ∃ o_y2_snapshots o_x16_thrown o_y17_isKept o_y18_kept o_y20_p, f_case_49 L xs i (σ.2.2.2.2.2.2.2.2) (σ.1.1) (σ.1.2.1) (σ.1.2.2.1) (σ.1.2.2.2.1) (σ.1.2.2.2.2.1) (σ.1.2.2.2.2.2.1) (σ.1.2.2.2.2.2.2.1) (σ.1.2.2.2.2.2.2.2.1) (σ.1.2.2.2.2.2.2.2.2.1) (σ.1.2.2.2.2.2.2.2.2.2.1) (σ.1.2.2.2.2.2.2.2.2.2.2.1) (σ.1.2.2.2.2.2.2.2.2.2.2.2.1) (σ.1.2.2.2.2.2.2.2.2.2.2.2.2.1) (σ.1.2.2.2.2.2.2.2.2.2.2.2.2.2.1) (σ.1.2.2.2.2.2.2.2.2.2.2.2.2.2.2.1) (σ.1.2.2.2.2.2.2.2.2.2.2.2.2.2.2.2.1) (σ.1.2.2.2.2.2.2.2.2.2.2.2.2.2.2.2.2.1) (σ.1.2.2.2.2.2.2.2.2.2.2.2.2.2.2.2.2.2.1) (σ.1.2.2.2.2.2.2.2.2.2.2.2.2.2.2.2.2.2.2) (μ.2.1) (μ.2.2.2.2.2.2.2.2.2.2.2.2.2.2.2.2.2.2.2.2.1) (μ.2.2.2.2.2.2.2.2.2.2.2.2.2.2.2.2.2.2.2.2.2.1) (μ.2.2.2.2.2.2.2.2.2.2.2.2.2.2.2.2.2.2.2.2.2.2.2.2.2.2.1) (o) = some (o_y2_snapshots, o_x16_thrown, o_y17_isKept, o_y18_kept, o_y20_p) ∧ RK o_y2_snapshots o_y17_isKept o_y18_kept := by
    unfold f_case_49
    simp only [pc_vi h1, pc_vi h2, ea, hc.rows, hc.columns, hc.rivers, hc.count, hc.jcount, hc.next, hc.turn, hc.quarters, hc.reds, pc_bv]
    by_cases c1 : 0 ≤ a ∧ a < 2
    · obtain ⟨d, g1, g2⟩ := x_save (D := σ.2.2.2.2.2.2.2.2) w ra c1.1 c1.2
      simp only [t_X8_saveSnapshot, t_needS c1.1 c1.2, g2, m_save hm w c1.1 c1.2, pc_tx, pc_txs, pd_1, pd_2, pc_bv, pd_3, pd_4, pd_5, pd_6, pd_7, pd_8, pd_9, pc_thr, if_true, if_false, pc_lit, pc_lit64, pc_ar1, pc_upL, pc_cmp, pc_10, pc_20, pc_str, Bool.false_eq_true, Bool.false_and, Bool.true_and, Bool.and_false, Bool.and_true, and_self, decide_true, decide_false, pc_zbI0, pc_zbI1, pc_ifz, pc_zb]
      refine ⟨_, _, _, _, _, rfl, fun k k1 k2 => ?_⟩
      by_cases z : k = a
      · subst z
        right
        refine ⟨by rw [upd_at, if_pos rfl], d, S, ?_, g1, w, fun j j1 j2 => ?_⟩
        · show (if _ = _ then some d else _) = _
          rw [if_pos rfl]
        · rw [cpM_at (by omega) (by omega), show 0 + (552 * k + j - ((552 * k).toNat : Int)).toNat = j.toNat by omega]
          exact hm j j1 j2
      · have eD : updD σ.2.2.2.2.2.2.2.2 a.toNat d k.toNat = σ.2.2.2.2.2.2.2.2 k.toNat := by
          show (if _ = _ then some d else _) = _
          rw [if_neg (by omega)]
        rw [upd_at, if_neg (by omega), eD]
        rcases hk k k1 k2 with q | ⟨q1, d', T, q2, q3, q4, q5⟩
        · exact .inl q
        · right
          refine ⟨q1, d', T, q2, q3, q4, fun j j1 j2 => ?_⟩
          rw [cpM_no (by omega) (by omega)]
          exact q5 j j1 j2
    · have i2 : f_X9_passes μ.2.1 (zB false) 1 = some (iI 0, iI 1) := m_passes1 μ.2.1 false
      have q : f_X9_saveSnapshot μ.2.1 μ.2.2.2.2.2.2.2.2.2.2.2.2.2.2.2.2.2.2.2.2.1 μ.2.2.2.2.2.2.2.2.2.2.2.2.2.2.2.2.2.2.2.2.2.1 μ.2.2.2.2.2.2.2.2.2.2.2.2.2.2.2.2.2.2.2.2.2.2.2.2.2.2.1 (iI a) = some (iI 0, iI 1, μ.2.2.2.2.2.2.2.2.2.2.2.2.2.2.2.2.2.2.2.2.1, μ.2.2.2.2.2.2.2.2.2.2.2.2.2.2.2.2.2.2.2.2.2.1) := by
        unfold f_X9_saveSnapshot
        rw [m_isSlot a1 a2, decide_eq_false (by omega), pd_1, i2, pd_2, if_pos (by decide)]
        rfl
      simp only [t_X8_saveSnapshot, t_needS' c1 a1 a2, q, pc_tx, pc_txs, pd_1, pd_2, pc_bv, pd_3, pd_4, pd_5, pd_6, pd_7, pd_8, pd_9, pc_thr, if_true, if_false, pc_lit, pc_lit64, pc_ar1, pc_upL, pc_cmp, pc_10, pc_20, pc_str, Bool.false_eq_true, Bool.false_and, Bool.true_and, Bool.and_false, Bool.and_true, and_self, decide_true, decide_false, pc_zbI0, pc_zbI1, pc_ifz, pc_zb]
      exact ⟨_, _, _, _, _, rfl, hk⟩
  obtain ⟨o_y2_snapshots, o_x16_thrown, o_y17_isKept, o_y18_kept, o_y20_p, e, hq⟩ := key
  exact ⟨o_y2_snapshots, o_x16_thrown, o_y17_isKept, o_y18_kept, o_y20_p, e, S, hc, w, hm, hh, hrx, hro, hq, hr⟩
theorem q_50 : SP_50 RR := by
  intro L xs i σ μ o hR h1 h2
  obtain ⟨S, hc, w, hm, hh, hrx, hro, hk, hr⟩ := hR
  obtain ⟨a, ea, a1, a2⟩ := pc_wr (xs (i + 1).toNatClampNeg)
  have ra := hc.ra
  have key : ∃ o_x1_count o_x4_rows o_x4_columns o_x4_rivers o_x5_count o_x5_reds o_x6_count o_x6_next o_x6_turn o_x6_quarters o_y7_letterOn o_y8_namesOn o_y9_land o_y10_riverOf o_y11_riverPlace o_y12_direction o_y13_home o_y14_length o_y15_letters o_y16_stops o_x17_acts o_x17_thrown o_y20_s o_y21_p, f_case_50 L xs i (σ.2.1.2.1) (σ.2.2.2.2.2.2.2.2) (σ.1.1) (σ.1.2.1) (σ.1.2.2.1) (σ.1.2.2.2.1) (σ.1.2.2.2.2.1) (σ.1.2.2.2.2.2.1) (σ.1.2.2.2.2.2.2.1) (σ.1.2.2.2.2.2.2.2.1) (σ.1.2.2.2.2.2.2.2.2.1) (σ.1.2.2.2.2.2.2.2.2.2.1) (σ.1.2.2.2.2.2.2.2.2.2.2.1) (σ.1.2.2.2.2.2.2.2.2.2.2.2.1) (σ.1.2.2.2.2.2.2.2.2.2.2.2.2.1) (σ.1.2.2.2.2.2.2.2.2.2.2.2.2.2.1) (σ.1.2.2.2.2.2.2.2.2.2.2.2.2.2.2.1) (σ.1.2.2.2.2.2.2.2.2.2.2.2.2.2.2.2.1) (σ.1.2.2.2.2.2.2.2.2.2.2.2.2.2.2.2.2.1) (σ.1.2.2.2.2.2.2.2.2.2.2.2.2.2.2.2.2.2.1) (σ.1.2.2.2.2.2.2.2.2.2.2.2.2.2.2.2.2.2.2) (μ.1) (μ.2.1) (μ.2.2.2.2.2.2.2.2.2.2.2.2.2.2.2.2.2.2.2.2.1) (μ.2.2.2.2.2.2.2.2.2.2.2.2.2.2.2.2.2.2.2.2.2.1) (μ.2.2.2.2.2.2.2.2.2.2.2.2.2.2.2.2.2.2.2.2.2.2.2.2.2.2.1) (o) = some (o_x1_count, o_x4_rows, o_x4_columns, o_x4_rivers, o_x5_count, o_x5_reds, o_x6_count, o_x6_next, o_x6_turn, o_x6_quarters, o_y7_letterOn, o_y8_namesOn, o_y9_land, o_y10_riverOf, o_y11_riverPlace, o_y12_direction, o_y13_home, o_y14_length, o_y15_letters, o_y16_stops, o_x17_acts, o_x17_thrown, o_y20_s, o_y21_p) ∧ ∃ S', RC (o_x4_rows, o_x4_columns, o_x4_rivers, o_x5_count, o_x5_reds, o_x6_count, o_x6_next, o_x6_turn, o_x6_quarters, o_y7_letterOn, o_y8_namesOn, o_y9_land, o_y10_riverOf, o_y11_riverPlace, o_y12_direction, o_y13_home, o_y14_length, o_y15_letters, o_y16_stops) S' ∧ wS S' ∧ mS o_y20_s S' ∧ RH σ.2.1.1 o_x1_count σ.2.1.2.2 o_x17_acts μ.2.2.2.2.2.2.2.2.2.2.2.2.2.2.2.2.2.2.2.2.2.2.2.2.1 := by
    unfold f_case_50
    simp only [pc_vi h1, pc_vi h2, ea, hc.rows, hc.columns, hc.rivers, hc.count, hc.jcount, hc.next, hc.turn, hc.quarters, hc.reds, pc_bv]
    by_cases c1 : 0 ≤ a ∧ a < 2
    · have i2 : f_X9_passes μ.2.1 (zB true) 1 = some (iI 1, iI 0) := m_passes1 μ.2.1 true
      have i1 : f_X9_isIn (iI a).toInt64 0 1 = some (zB true) := by rw [m_isSlot a1 a2, decide_eq_true (by omega)]
      rcases hk a c1.1 c1.2 with ⟨q1, q2⟩ | ⟨q1, d, T, q2, q3, q4, q5⟩
      · have m : f_X9_restoreSnapshot μ.1 μ.2.1 μ.2.2.2.2.2.2.2.2.2.2.2.2.2.2.2.2.2.2.2.2.1 μ.2.2.2.2.2.2.2.2.2.2.2.2.2.2.2.2.2.2.2.2.2.1 μ.2.2.2.2.2.2.2.2.2.2.2.2.2.2.2.2.2.2.2.2.2.2.2.2.2.2.1 (iI a) = some (iI (-1), μ.1, iI 0, μ.2.2.2.2.2.2.2.2.2.2.2.2.2.2.2.2.2.2.2.2.2.2.2.2.2.2.1) := by
          unfold f_X9_restoreSnapshot
          rw [i1, pd_1, i2, pd_2, if_neg (by decide), pc_ar c1.1 (by omega) (by omega), pc_nat (by omega) (by omega), q1, if_pos (by decide)]
          rfl
        have x : f_X8_restoreSnapshot σ.2.1.2.1 σ.2.2.2.2.2.2.2.2 (iI (S 0)) (iI (S 1)) (iI (S 3)) (iI (S 2)) (rM S) (iI (S 4)) (iI (S 6)) (iI (S 5)) (iI (S 7)) σ.1.2.2.2.2.2.2.2.2.2.1 σ.1.2.2.2.2.2.2.2.2.2.2.1 σ.1.2.2.2.2.2.2.2.2.2.2.2.1 σ.1.2.2.2.2.2.2.2.2.2.2.2.2.1 σ.1.2.2.2.2.2.2.2.2.2.2.2.2.2.1 σ.1.2.2.2.2.2.2.2.2.2.2.2.2.2.2.1 σ.1.2.2.2.2.2.2.2.2.2.2.2.2.2.2.2.1 σ.1.2.2.2.2.2.2.2.2.2.2.2.2.2.2.2.2.1 σ.1.2.2.2.2.2.2.2.2.2.2.2.2.2.2.2.2.2.1 σ.1.2.2.2.2.2.2.2.2.2.2.2.2.2.2.2.2.2.2 (iI a) = some (iI (-1), σ.2.1.2.1, iI (S 0), iI (S 1), iI (S 3), iI (S 2), rM S, iI (S 4), iI (S 6), iI (S 5), iI (S 7), σ.1.2.2.2.2.2.2.2.2.2.1, σ.1.2.2.2.2.2.2.2.2.2.2.1, σ.1.2.2.2.2.2.2.2.2.2.2.2.1, σ.1.2.2.2.2.2.2.2.2.2.2.2.2.1, σ.1.2.2.2.2.2.2.2.2.2.2.2.2.2.1, σ.1.2.2.2.2.2.2.2.2.2.2.2.2.2.2.1, σ.1.2.2.2.2.2.2.2.2.2.2.2.2.2.2.2.1, σ.1.2.2.2.2.2.2.2.2.2.2.2.2.2.2.2.2.1, σ.1.2.2.2.2.2.2.2.2.2.2.2.2.2.2.2.2.2.1, σ.1.2.2.2.2.2.2.2.2.2.2.2.2.2.2.2.2.2.2) := by
          unfold f_X8_restoreSnapshot
          rw [x_needS c1.1 c1.2, pd_1, pc_ar c1.1 (by omega) (by omega), pc_nat (by omega) (by omega), q2]
          rfl
        simp only [t_X8_restoreSnapshot, t_needS c1.1 c1.2, x, m, pd_21, pc_tx, pc_txs, pd_1, pd_2, pc_bv, pd_3, pd_4, pd_5, pd_6, pd_7, pd_8, pd_9, pc_thr, if_true, if_false, pc_lit, pc_lit64, pc_ar1, pc_upL, pc_cmp, pc_10, pc_20, pc_str, Bool.false_eq_true, Bool.false_and, Bool.true_and, Bool.and_false, Bool.and_true, and_self, decide_true, decide_false, pc_zbI0, pc_zbI1, pc_ifz, pc_zb]
        exact ⟨_, _, _, _, _, _, _, _, _, _, _, _, _, _, _, _, _, _, _, _, _, _, _, _, rfl, S, RC.mk rfl rfl rfl rfl rfl rfl rfl rfl rfl ra, w, hm, hh⟩
      · have m : f_X9_restoreSnapshot μ.1 μ.2.1 μ.2.2.2.2.2.2.2.2.2.2.2.2.2.2.2.2.2.2.2.2.1 μ.2.2.2.2.2.2.2.2.2.2.2.2.2.2.2.2.2.2.2.2.2.1 μ.2.2.2.2.2.2.2.2.2.2.2.2.2.2.2.2.2.2.2.2.2.2.2.2.2.2.1 (iI a) = some (iI (T 2), iI 0, iI 0, cpM (552 * a).toNat 0 552 μ.2.2.2.2.2.2.2.2.2.2.2.2.2.2.2.2.2.2.2.2.2.1 μ.2.2.2.2.2.2.2.2.2.2.2.2.2.2.2.2.2.2.2.2.2.2.2.2.2.2.1) := by
          have e : (552 : Int32) * iI a = iI (((552 * a).toNat : Nat) : Int) := by
            rw [show (552 : Int32) = iI 552 from rfl, pc_mul]; congr 1; omega
          unfold f_X9_restoreSnapshot
          rw [i1, pd_1, i2, pd_2, if_neg (by decide), pc_ar c1.1 (by omega) (by omega), pc_nat (by omega) (by omega), q1, if_neg (by decide), e]
          show bd1 (f_X9_copies 1104 552 _ _ _ (iI ((0 : Nat) : Int))) _ = _
          rw [m_copies _ _ (by omega) (by omega) (by omega) (by omega), pd_1]
          have e2 : cpM (552 * a).toNat 0 552 μ.2.2.2.2.2.2.2.2.2.2.2.2.2.2.2.2.2.2.2.2.2.1 μ.2.2.2.2.2.2.2.2.2.2.2.2.2.2.2.2.2.2.2.2.2.2.2.2.2.2.1 (2 : Int).toNat = iI (T 2) := by
            rw [cpM_at (by omega) (by omega), ← q5 2 (by omega) (by omega)]
            rw [show (552 * a).toNat + ((2 : Int) - ((0 : Nat) : Int)).toNat = (552 * a + 2).toNat by omega]
          simp (disch := omega) only [-Int.reduceToNat, pc_ite, if_true, if_false, pc_bv, pc_lit, pc_neg, pc_add, pc_sub, pc_mul, pc_mr, pc_ar, pc_dv, pc_lt, pc_le, pc_eq, pc_nat, pc_div, pc_emod, pc_ifz, pc_ifo, pc_zb, pd_1, pd_2, pd_3, pd_4, pd_5, pd_6, pd_7, pd_8, pd_9, pd_10, pd_11, pd_12, pd_13, pd_14, pd_15, pd_16, pd_17, pd_19, pd_21, pd_22, pd_30, pd_34, pd_57, e2]
        have x : f_X8_restoreSnapshot σ.2.1.2.1 σ.2.2.2.2.2.2.2.2 (iI (S 0)) (iI (S 1)) (iI (S 3)) (iI (S 2)) (rM S) (iI (S 4)) (iI (S 6)) (iI (S 5)) (iI (S 7)) σ.1.2.2.2.2.2.2.2.2.2.1 σ.1.2.2.2.2.2.2.2.2.2.2.1 σ.1.2.2.2.2.2.2.2.2.2.2.2.1 σ.1.2.2.2.2.2.2.2.2.2.2.2.2.1 σ.1.2.2.2.2.2.2.2.2.2.2.2.2.2.1 σ.1.2.2.2.2.2.2.2.2.2.2.2.2.2.2.1 σ.1.2.2.2.2.2.2.2.2.2.2.2.2.2.2.2.1 σ.1.2.2.2.2.2.2.2.2.2.2.2.2.2.2.2.2.1 σ.1.2.2.2.2.2.2.2.2.2.2.2.2.2.2.2.2.2.1 σ.1.2.2.2.2.2.2.2.2.2.2.2.2.2.2.2.2.2.2 (iI a) = some (iI (T 2), iI 0, d.1, d.2.1, d.2.2.1, d.2.2.2.1, d.2.2.2.2.1, d.2.2.2.2.2.1, d.2.2.2.2.2.2.1, d.2.2.2.2.2.2.2.1, d.2.2.2.2.2.2.2.2.1, cpF 144 d.2.2.2.2.2.2.2.2.2.1 σ.1.2.2.2.2.2.2.2.2.2.1, cpF 144 d.2.2.2.2.2.2.2.2.2.2.1 σ.1.2.2.2.2.2.2.2.2.2.2.1, cpF 144 (naB d.2.2.2.2.2.2.2.2.2.2.2.1) σ.1.2.2.2.2.2.2.2.2.2.2.2.1, cpF 144 d.2.2.2.2.2.2.2.2.2.2.2.2.1 σ.1.2.2.2.2.2.2.2.2.2.2.2.2.1, cpF 144 d.2.2.2.2.2.2.2.2.2.2.2.2.2.1 σ.1.2.2.2.2.2.2.2.2.2.2.2.2.2.1, cpF 8 d.2.2.2.2.2.2.2.2.2.2.2.2.2.2.1 σ.1.2.2.2.2.2.2.2.2.2.2.2.2.2.2.1, cpF 8 d.2.2.2.2.2.2.2.2.2.2.2.2.2.2.2.1 σ.1.2.2.2.2.2.2.2.2.2.2.2.2.2.2.2.1, cpF 8 d.2.2.2.2.2.2.2.2.2.2.2.2.2.2.2.2.1 σ.1.2.2.2.2.2.2.2.2.2.2.2.2.2.2.2.2.1, cpF 64 d.2.2.2.2.2.2.2.2.2.2.2.2.2.2.2.2.2.1 σ.1.2.2.2.2.2.2.2.2.2.2.2.2.2.2.2.2.2.1, cpF 16 d.2.2.2.2.2.2.2.2.2.2.2.2.2.2.2.2.2.2 σ.1.2.2.2.2.2.2.2.2.2.2.2.2.2.2.2.2.2.2) := by
          unfold f_X8_restoreSnapshot f_X3_forget
          rw [x_needS c1.1 c1.2, pd_1, pc_ar c1.1 (by omega) (by omega), pc_nat (by omega) (by omega), q2]
          simp only [x_copy6, pd_19, pd_1, q3.count]
          rfl
        simp only [t_X8_restoreSnapshot, t_needS c1.1 c1.2, x, m, pd_21, pc_tx, pc_txs, pd_1, pd_2, pc_bv, pd_3, pd_4, pd_5, pd_6, pd_7, pd_8, pd_9, pc_thr, if_true, if_false, pc_lit, pc_lit64, pc_ar1, pc_upL, pc_cmp, pc_10, pc_20, pc_str, Bool.false_eq_true, Bool.false_and, Bool.true_and, Bool.and_false, Bool.and_true, and_self, decide_true, decide_false, pc_zbI0, pc_zbI1, pc_ifz, pc_zb]
        refine ⟨_, _, _, _, _, _, _, _, _, _, _, _, _, _, _, _, _, _, _, _, _, _, _, _, rfl, T, cp_RC q4 q3, q4, fun j j1 j2 => ?_, ?_⟩
        · rw [cpM_at (by omega) (by omega), ← q5 j j1 j2]
          rw [show (552 * a).toNat + (j - ((0 : Nat) : Int)).toNat = (552 * a + j).toNat by omega]
        · obtain ⟨n, l, n1, n2, l1, l2, e1, e2, e3, hj⟩ := hh
          exact ⟨0, l, by omega, by omega, l1, l2, rfl, rfl, e3, fun j j1 j2 => by omega⟩
    · have i2 : f_X9_passes μ.2.1 (zB false) 1 = some (iI 0, iI 1) := m_passes1 μ.2.1 false
      have q : f_X9_restoreSnapshot μ.1 μ.2.1 μ.2.2.2.2.2.2.2.2.2.2.2.2.2.2.2.2.2.2.2.2.1 μ.2.2.2.2.2.2.2.2.2.2.2.2.2.2.2.2.2.2.2.2.2.1 μ.2.2.2.2.2.2.2.2.2.2.2.2.2.2.2.2.2.2.2.2.2.2.2.2.2.2.1 (iI a) = some (iI 0, μ.1, iI 1, μ.2.2.2.2.2.2.2.2.2.2.2.2.2.2.2.2.2.2.2.2.2.2.2.2.2.2.1) := by
        unfold f_X9_restoreSnapshot
        rw [m_isSlot a1 a2, decide_eq_false (by omega), pd_1, i2, pd_2, if_pos (by decide)]
        rfl
      simp only [t_X8_restoreSnapshot, t_needS' c1 a1 a2, q, pc_tx, pc_txs, pd_1, pd_2, pc_bv, pd_3, pd_4, pd_5, pd_6, pd_7, pd_8, pd_9, pc_thr, if_true, if_false, pc_lit, pc_lit64, pc_ar1, pc_upL, pc_cmp, pc_10, pc_20, pc_str, Bool.false_eq_true, Bool.false_and, Bool.true_and, Bool.and_false, Bool.and_true, and_self, decide_true, decide_false, pc_zbI0, pc_zbI1, pc_ifz, pc_zb]
      exact ⟨_, _, _, _, _, _, _, _, _, _, _, _, _, _, _, _, _, _, _, _, _, _, _, _, rfl, S, RC.mk rfl rfl rfl rfl rfl rfl rfl rfl rfl ra, w, hm, hh⟩
  obtain ⟨o_x1_count, o_x4_rows, o_x4_columns, o_x4_rivers, o_x5_count, o_x5_reds, o_x6_count, o_x6_next, o_x6_turn, o_x6_quarters, o_y7_letterOn, o_y8_namesOn, o_y9_land, o_y10_riverOf, o_y11_riverPlace, o_y12_direction, o_y13_home, o_y14_length, o_y15_letters, o_y16_stops, o_x17_acts, o_x17_thrown, o_y20_s, o_y21_p, e, hq⟩ := key
  obtain ⟨S', hc', w', hm', hh'⟩ := hq
  exact ⟨o_x1_count, o_x4_rows, o_x4_columns, o_x4_rivers, o_x5_count, o_x5_reds, o_x6_count, o_x6_next, o_x6_turn, o_x6_quarters, o_y7_letterOn, o_y8_namesOn, o_y9_land, o_y10_riverOf, o_y11_riverPlace, o_y12_direction, o_y13_home, o_y14_length, o_y15_letters, o_y16_stops, o_x17_acts, o_x17_thrown, o_y20_s, o_y21_p, e, S', hc', w', hm', hh', hrx, hro, hk, hr⟩
