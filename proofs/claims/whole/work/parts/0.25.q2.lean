def hrN (S : Int → Int) (h q : Int) : Int := if q = 4 then tmS S h else hv S h q
def ltN (S : Int → Int) (h k : Int) : Int := if 0 ≤ k ∧ k < hv S h 3 then hv S h (4 + k) else -1
def vyN (S : Int → Int) (k : Int) : Int := if 0 ≤ k ∧ k < S 4 then S (536 + k) else -1
section
variable {s : Nat → Int32} {S : Int → Int} {land riv hom dir len let' nOn lOn stp ord wys : Nat → Int32} {th : Int32}
theorem x_isRed (w : wS S) {h : Int} (h1 : 0 ≤ h) (h2 : h < S 2) : f_X2_isRed (rM S) (iI h) = some (zB (isR S h)) := by
  have hC := w.C
  unfold f_X2_isRed
  have e := pc_bt (m := rM S) (h := h) h1 (by omega)
  simp (disch := omega) only [-Int.reduceToNat, pc_ite, if_true, if_false, pc_bv, pc_lit, pc_neg, pc_add, pc_sub, pc_mul, pc_mr, pc_ar, pc_dv, pc_lt, pc_le, pc_eq, pc_nat, pc_div, pc_emod, pc_ifz, pc_ifo, pc_zb, pd_1, pd_2, pd_3, pd_4, pd_5, pd_6, pd_7, pd_8, pd_9, pd_10, pd_11, pd_12, pd_13, pd_14, pd_15, pd_16, pd_17, pd_19, pd_21, pd_22, pd_30, pd_34, pd_57]
  rw [e, bt_rM w h1 (by omega), decide_eq_true h2, Bool.true_and]
  cases isR S h <;> rfl
theorem x_harbour (w : wS S) (hh : aH 0 hom S) (hd : aH 2 dir S) (hn : aH 3 len S) (hj : aJ stp S) {h q : Int} (g1 : 0 ≤ h) (g2 : h < S 2) (h1 : 0 ≤ q) (h2 : q < 5) : f_X8_harbour (iI (S 2)) (rM S) (iI (S 4)) dir hom len stp (iI h) (iI q) = some (iI (hrN S h q)) := by
  have hC := w.C
  have hH := w.H g1 g2
  have e : q = 0 ∨ q = 1 ∨ q = 2 ∨ q = 3 ∨ q = 4 := by omega
  unfold f_X8_harbour hrN
  rcases e with rfl | rfl | rfl | rfl | rfl
  · simp (disch := omega) only [-Int.reduceToNat, pc_ite, if_true, if_false, pc_bv, pc_lit, pc_neg, pc_add, pc_sub, pc_mul, pc_mr, pc_ar, pc_dv, pc_lt, pc_le, pc_eq, pc_nat, pc_div, pc_emod, pc_ifz, pc_ifo, pc_zb, pd_1, pd_2, pd_3, pd_4, pd_5, pd_6, pd_7, pd_8, pd_9, pd_10, pd_11, pd_12, pd_13, pd_14, pd_15, pd_16, pd_17, pd_19, pd_21, pd_22, pd_30, pd_34, pd_57, Int.reduceEq, x_needH, x_homeOf w hh]
  · simp (disch := omega) only [-Int.reduceToNat, pc_ite, if_true, if_false, pc_bv, pc_lit, pc_neg, pc_add, pc_sub, pc_mul, pc_mr, pc_ar, pc_dv, pc_lt, pc_le, pc_eq, pc_nat, pc_div, pc_emod, pc_ifz, pc_ifo, pc_zb, pd_1, pd_2, pd_3, pd_4, pd_5, pd_6, pd_7, pd_8, pd_9, pd_10, pd_11, pd_12, pd_13, pd_14, pd_15, pd_16, pd_17, pd_19, pd_21, pd_22, pd_30, pd_34, pd_57, Int.reduceEq, x_needH, x_isRed w]
    unfold isR
    by_cases z : hv S h 1 = 1
    · simp [z]
    · have z2 : hv S h 1 = 0 := by omega
      simp [z2]
  · simp (disch := omega) only [-Int.reduceToNat, pc_ite, if_true, if_false, pc_bv, pc_lit, pc_neg, pc_add, pc_sub, pc_mul, pc_mr, pc_ar, pc_dv, pc_lt, pc_le, pc_eq, pc_nat, pc_div, pc_emod, pc_ifz, pc_ifo, pc_zb, pd_1, pd_2, pd_3, pd_4, pd_5, pd_6, pd_7, pd_8, pd_9, pd_10, pd_11, pd_12, pd_13, pd_14, pd_15, pd_16, pd_17, pd_19, pd_21, pd_22, pd_30, pd_34, pd_57, Int.reduceEq, x_needH, x_directionOf w hd]
  · simp (disch := omega) only [-Int.reduceToNat, pc_ite, if_true, if_false, pc_bv, pc_lit, pc_neg, pc_add, pc_sub, pc_mul, pc_mr, pc_ar, pc_dv, pc_lt, pc_le, pc_eq, pc_nat, pc_div, pc_emod, pc_ifz, pc_ifo, pc_zb, pd_1, pd_2, pd_3, pd_4, pd_5, pd_6, pd_7, pd_8, pd_9, pd_10, pd_11, pd_12, pd_13, pd_14, pd_15, pd_16, pd_17, pd_19, pd_21, pd_22, pd_30, pd_34, pd_57, Int.reduceEq, x_needH, x_lengthOf w hn]
  · simp (disch := omega) only [-Int.reduceToNat, pc_ite, if_true, if_false, pc_bv, pc_lit, pc_neg, pc_add, pc_sub, pc_mul, pc_mr, pc_ar, pc_dv, pc_lt, pc_le, pc_eq, pc_nat, pc_div, pc_emod, pc_ifz, pc_ifo, pc_zb, pd_1, pd_2, pd_3, pd_4, pd_5, pd_6, pd_7, pd_8, pd_9, pd_10, pd_11, pd_12, pd_13, pd_14, pd_15, pd_16, pd_17, pd_19, pd_21, pd_22, pd_30, pd_34, pd_57, Int.reduceEq, x_needH, x_timesOf w hj]
theorem m_harbour (hs : mS s S) (w : wS S) {h q : Int} (g1 : 0 ≤ h) (g2 : h < S 2) (h1 : 0 ≤ q) (h2 : q < 5) : f_X9_harbour th s (iI h) (iI q) = some (iI (hrN S h q), iI 0) := by
  have hC := w.C
  have ok : (0 ≤ q ∧ q ≤ 4) := by omega
  have ok2 : (0 ≤ h ∧ h ≤ S 2 - 1) := by omega
  unfold f_X9_harbour
  simp (disch := omega) only [-Int.reduceToNat, pc_ite, if_true, if_false, pc_bv, pc_lit, pc_neg, pc_add, pc_sub, pc_mul, pc_mr, pc_ar, pc_dv, pc_lt, pc_le, pc_eq, pc_nat, pc_div, pc_emod, pc_ifz, pc_ifo, pc_zb, pd_1, pd_2, pd_3, pd_4, pd_5, pd_6, pd_7, pd_8, pd_9, pd_10, pd_11, pd_12, pd_13, pd_14, pd_15, pd_16, pd_17, pd_19, pd_21, pd_22, pd_30, pd_34, pd_57, pc_lit64, m_isInL, m_isHarbour hs w, m_passes, ok, ok2, and_self, decide_true, Bool.and_true]
  unfold hrN
  by_cases z : q = 4
  · simp (disch := omega) only [-Int.reduceToNat, pc_ite, if_true, if_false, pc_bv, pc_lit, pc_neg, pc_add, pc_sub, pc_mul, pc_mr, pc_ar, pc_dv, pc_lt, pc_le, pc_eq, pc_nat, pc_div, pc_emod, pc_ifz, pc_ifo, pc_zb, pd_1, pd_2, pd_3, pd_4, pd_5, pd_6, pd_7, pd_8, pd_9, pd_10, pd_11, pd_12, pd_13, pd_14, pd_15, pd_16, pd_17, pd_19, pd_21, pd_22, pd_30, pd_34, pd_57, m_timesIn hs w, if_pos z]
  · simp (disch := omega) only [-Int.reduceToNat, pc_ite, if_true, if_false, pc_bv, pc_lit, pc_neg, pc_add, pc_sub, pc_mul, pc_mr, pc_ar, pc_dv, pc_lt, pc_le, pc_eq, pc_nat, pc_div, pc_emod, pc_ifz, pc_ifo, pc_zb, pd_1, pd_2, pd_3, pd_4, pd_5, pd_6, pd_7, pd_8, pd_9, pd_10, pd_11, pd_12, pd_13, pd_14, pd_15, pd_16, pd_17, pd_19, pd_21, pd_22, pd_30, pd_34, pd_57, m_of hs, if_neg z]
theorem m_harbour1 (hs : mS s S) (w : wS S) {h q : Int} (g1 : -2147483648 ≤ h) (g2 : h < 2147483648) (h1 : -2147483648 ≤ q) (h2 : q < 2147483648) (h0 : ¬ (0 ≤ h ∧ h < S 2)) : f_X9_harbour th s (iI h) (iI q) = some (iI 0, iI 1) := by
  have ok2 : ¬ (0 ≤ h ∧ h ≤ S 2 - 1) := by omega
  unfold f_X9_harbour
  simp (disch := omega) only [-Int.reduceToNat, pc_ite, if_true, if_false, pc_bv, pc_lit, pc_neg, pc_add, pc_sub, pc_mul, pc_mr, pc_ar, pc_dv, pc_lt, pc_le, pc_eq, pc_nat, pc_div, pc_emod, pc_ifz, pc_ifo, pc_zb, pd_1, pd_2, pd_3, pd_4, pd_5, pd_6, pd_7, pd_8, pd_9, pd_10, pd_11, pd_12, pd_13, pd_14, pd_15, pd_16, pd_17, pd_19, pd_21, pd_22, pd_30, pd_34, pd_57, pc_lit64, m_isInL, m_isHarbour hs w, m_passes, ok2, decide_false, Bool.false_and, Bool.false_eq_true]
theorem m_harbour2 (hs : mS s S) (w : wS S) {h q : Int} (g1 : 0 ≤ h) (g2 : h < S 2) (h1 : -2147483648 ≤ q) (h2 : q < 2147483648) (h0 : ¬ (0 ≤ q ∧ q < 5)) : f_X9_harbour th s (iI h) (iI q) = some (iI 0, iI 2) := by
  have hC := w.C
  have ok2 : (0 ≤ h ∧ h ≤ S 2 - 1) := by omega
  have ok : ¬ (0 ≤ q ∧ q ≤ 4) := by omega
  unfold f_X9_harbour
  simp (disch := omega) only [-Int.reduceToNat, pc_ite, if_true, if_false, pc_bv, pc_lit, pc_neg, pc_add, pc_sub, pc_mul, pc_mr, pc_ar, pc_dv, pc_lt, pc_le, pc_eq, pc_nat, pc_div, pc_emod, pc_ifz, pc_ifo, pc_zb, pd_1, pd_2, pd_3, pd_4, pd_5, pd_6, pd_7, pd_8, pd_9, pd_10, pd_11, pd_12, pd_13, pd_14, pd_15, pd_16, pd_17, pd_19, pd_21, pd_22, pd_30, pd_34, pd_57, pc_lit64, m_isInL, m_isHarbour hs w, m_passes, ok, ok2, and_self, decide_true, decide_false, Bool.and_false, Bool.false_eq_true]
theorem x_letter (w : wS S) (hn : aH 3 len S) (ht : aT let' S) {h k : Int} (g1 : 0 ≤ h) (g2 : h < S 2) (h1 : -2147483648 ≤ k) (h2 : k < 2147483648) : f_X8_letter (iI (S 2)) len let' (iI h) (iI k) = some (iI (ltN S h k)) := by
  have hC := w.C
  unfold f_X8_letter ltN
  simp (disch := omega) only [-Int.reduceToNat, pc_ite, if_true, if_false, pc_bv, pc_lit, pc_neg, pc_add, pc_sub, pc_mul, pc_mr, pc_ar, pc_dv, pc_lt, pc_le, pc_eq, pc_nat, pc_div, pc_emod, pc_ifz, pc_ifo, pc_zb, pd_1, pd_2, pd_3, pd_4, pd_5, pd_6, pd_7, pd_8, pd_9, pd_10, pd_11, pd_12, pd_13, pd_14, pd_15, pd_16, pd_17, pd_19, pd_21, pd_22, pd_30, pd_34, pd_57, Int.reduceEq, x_needH, x_letterOf w hn ht]
theorem m_letter (hs : mS s S) (w : wS S) {h k : Int} (g1 : 0 ≤ h) (g2 : h < S 2) (h1 : -2147483648 ≤ k) (h2 : k < 2147483648) : f_X9_letter th s (iI h) (iI k) = some (iI (ltN S h k), iI 0) := by
  have hC := w.C
  have hH := w.H g1 g2
  have ok2 : (0 ≤ h ∧ h ≤ S 2 - 1) := by omega
  unfold f_X9_letter ltN
  simp (disch := omega) only [-Int.reduceToNat, pc_ite, if_true, if_false, pc_bv, pc_lit, pc_neg, pc_add, pc_sub, pc_mul, pc_mr, pc_ar, pc_dv, pc_lt, pc_le, pc_eq, pc_nat, pc_div, pc_emod, pc_ifz, pc_ifo, pc_zb, pd_1, pd_2, pd_3, pd_4, pd_5, pd_6, pd_7, pd_8, pd_9, pd_10, pd_11, pd_12, pd_13, pd_14, pd_15, pd_16, pd_17, pd_19, pd_21, pd_22, pd_30, pd_34, pd_57, pc_lit64, m_mayH hs w, m_of hs, m_isIn, ok2, and_self, decide_true]
  by_cases z : 0 ≤ k ∧ k < hv S h 3
  · have z2 : (0 ≤ k ∧ k ≤ hv S h 3 - 1) := by omega
    simp only [decide_eq_true z2, if_true]
    simp (disch := omega) only [-Int.reduceToNat, pc_ite, if_true, if_false, pc_bv, pc_lit, pc_neg, pc_add, pc_sub, pc_mul, pc_mr, pc_ar, pc_dv, pc_lt, pc_le, pc_eq, pc_nat, pc_div, pc_emod, pc_ifz, pc_ifo, pc_zb, pd_1, pd_2, pd_3, pd_4, pd_5, pd_6, pd_7, pd_8, pd_9, pd_10, pd_11, pd_12, pd_13, pd_14, pd_15, pd_16, pd_17, pd_19, pd_21, pd_22, pd_30, pd_34, pd_57, m_of hs, if_pos z]
  · have z2 : ¬ (0 ≤ k ∧ k ≤ hv S h 3 - 1) := by omega
    simp only [z2, decide_false, Bool.false_eq_true, if_false]
    rw [if_neg z]
theorem x_river (w : wS S) (hr : aV riv S) (ho : aO ord S) {r x : Int} (g1 : 0 ≤ r) (g2 : r < S 3) (h1 : -2147483648 ≤ x) (h2 : x < 2147483648) : f_X8_river (iI (S 3)) riv ord (iI r) (iI x) = some (iI (rvc S r x)) := by
  have hC := w.C
  unfold f_X8_river
  simp (disch := omega) only [-Int.reduceToNat, pc_ite, if_true, if_false, pc_bv, pc_lit, pc_neg, pc_add, pc_sub, pc_mul, pc_mr, pc_ar, pc_dv, pc_lt, pc_le, pc_eq, pc_nat, pc_div, pc_emod, pc_ifz, pc_ifo, pc_zb, pd_1, pd_2, pd_3, pd_4, pd_5, pd_6, pd_7, pd_8, pd_9, pd_10, pd_11, pd_12, pd_13, pd_14, pd_15, pd_16, pd_17, pd_19, pd_21, pd_22, pd_30, pd_34, pd_57, x_needR, x_riverCell w hr ho]
theorem m_river (hs : mS s S) (w : wS S) {r x : Int} (g1 : 0 ≤ r) (g2 : r < S 3) (h1 : -2147483648 ≤ x) (h2 : x < 2147483648) : f_X9_river th s (iI r) (iI x) = some (iI (rvc S r x), iI 0) := by
  have hC := w.C
  have hN := w.N
  have ok2 : (0 ≤ r ∧ r ≤ S 3 - 1) := by omega
  unfold f_X9_river rvc
  simp only [pc_bv]
  simp (disch := omega) only [-Int.reduceToNat, pc_ite, if_true, if_false, pc_bv, pc_lit, pc_neg, pc_add, pc_sub, pc_mul, pc_mr, pc_ar, pc_dv, pc_lt, pc_le, pc_eq, pc_nat, pc_div, pc_emod, pc_ifz, pc_ifo, pc_zb, pd_1, pd_2, pd_3, pd_4, pd_5, pd_6, pd_7, pd_8, pd_9, pd_10, pd_11, pd_12, pd_13, pd_14, pd_15, pd_16, pd_17, pd_19, pd_21, pd_22, pd_30, pd_34, pd_57, pc_lit64, m_mayR hs w, ok2, and_self, decide_true]
  refine (pc_srch (fun k => decide (S (152 + k) - 1 = r) && decide (S (296 + k) = x)) (fun i => (iI i, iI 0)) (iI (-1), iI 0) (S 0 * S 1) (by omega) rfl (fun i a1 a2 a3 => ?_) (fun i a1 a2 a3 => ?_) ?_).trans ?_
  · have hR := w.R (c := i) a1 (by omega)
    simp only [Bool.and_eq_true, decide_eq_true_iff] at a3
    simp (disch := omega) only [-Int.reduceToNat, pc_ite, if_true, if_false, pc_bv, pc_lit, pc_neg, pc_add, pc_sub, pc_mul, pc_mr, pc_ar, pc_dv, pc_lt, pc_le, pc_eq, pc_nat, pc_div, pc_emod, pc_ifz, pc_ifo, pc_zb, pd_1, pd_2, pd_3, pd_4, pd_5, pd_6, pd_7, pd_8, pd_9, pd_10, pd_11, pd_12, pd_13, pd_14, pd_15, pd_16, pd_17, pd_19, pd_21, pd_22, pd_30, pd_34, pd_57, m_cells hs, m_riverAt hs, hs.g, if_neg, if_pos a3.1, if_pos a3.2]
  · have hR := w.R (c := i) a1 (by omega)
    simp (disch := omega) only [-Int.reduceToNat, pc_ite, if_true, if_false, pc_bv, pc_lit, pc_neg, pc_add, pc_sub, pc_mul, pc_mr, pc_ar, pc_dv, pc_lt, pc_le, pc_eq, pc_nat, pc_div, pc_emod, pc_ifz, pc_ifo, pc_zb, pd_1, pd_2, pd_3, pd_4, pd_5, pd_6, pd_7, pd_8, pd_9, pd_10, pd_11, pd_12, pd_13, pd_14, pd_15, pd_16, pd_17, pd_19, pd_21, pd_22, pd_30, pd_34, pd_57, m_cells hs, m_riverAt hs, hs.g, if_neg]
    simp only [Bool.and_eq_false_iff, decide_eq_false_iff_not] at a3
    by_cases y : S (152 + i) - 1 = r
    · have y2 : ¬ S (296 + i) = x := by rcases a3 with q | q; exact absurd y q; exact q
      rw [if_pos y, if_neg y2]
    · rw [if_neg y]
  · simp (disch := omega) only [-Int.reduceToNat, pc_ite, if_true, if_false, pc_bv, pc_lit, pc_neg, pc_add, pc_sub, pc_mul, pc_mr, pc_ar, pc_dv, pc_lt, pc_le, pc_eq, pc_nat, pc_div, pc_emod, pc_ifz, pc_ifo, pc_zb, pd_1, pd_2, pd_3, pd_4, pd_5, pd_6, pd_7, pd_8, pd_9, pd_10, pd_11, pd_12, pd_13, pd_14, pd_15, pd_16, pd_17, pd_19, pd_21, pd_22, pd_30, pd_34, pd_57, m_cells hs, if_pos]
  · by_cases z : fi (fun k => decide (S (152 + k) - 1 = r) && decide (S (296 + k) = x)) (S 0 * S 1) = -1
    · rw [if_pos z, z]
    · rw [if_neg z]
theorem x_voyage (w : wS S) (hj : aJ stp S) {k : Int} (h1 : -2147483648 ≤ k) (h2 : k < 2147483648) : f_X8_voyage (iI (S 4)) stp (iI k) = some (iI (vyN S k)) := by
  have hC := w.C
  unfold f_X8_voyage vyN
  by_cases z : 0 ≤ k ∧ k < S 4
  · simp (disch := omega) only [-Int.reduceToNat, pc_ite, if_true, if_false, pc_bv, pc_lit, pc_neg, pc_add, pc_sub, pc_mul, pc_mr, pc_ar, pc_dv, pc_lt, pc_le, pc_eq, pc_nat, pc_div, pc_emod, pc_ifz, pc_ifo, pc_zb, pd_1, pd_2, pd_3, pd_4, pd_5, pd_6, pd_7, pd_8, pd_9, pd_10, pd_11, pd_12, pd_13, pd_14, pd_15, pd_16, pd_17, pd_19, pd_21, pd_22, pd_30, pd_34, pd_57, x_stopAt w hj, if_pos z]
  · unfold f_X4_stopAt
    by_cases y : k < 0
    · simp (disch := omega) only [-Int.reduceToNat, pc_ite, if_true, if_false, pc_bv, pc_lit, pc_neg, pc_add, pc_sub, pc_mul, pc_mr, pc_ar, pc_dv, pc_lt, pc_le, pc_eq, pc_nat, pc_div, pc_emod, pc_ifz, pc_ifo, pc_zb, pd_1, pd_2, pd_3, pd_4, pd_5, pd_6, pd_7, pd_8, pd_9, pd_10, pd_11, pd_12, pd_13, pd_14, pd_15, pd_16, pd_17, pd_19, pd_21, pd_22, pd_30, pd_34, pd_57, if_pos y, if_neg z]
    · simp (disch := omega) only [-Int.reduceToNat, pc_ite, if_true, if_false, pc_bv, pc_lit, pc_neg, pc_add, pc_sub, pc_mul, pc_mr, pc_ar, pc_dv, pc_lt, pc_le, pc_eq, pc_nat, pc_div, pc_emod, pc_ifz, pc_ifo, pc_zb, pd_1, pd_2, pd_3, pd_4, pd_5, pd_6, pd_7, pd_8, pd_9, pd_10, pd_11, pd_12, pd_13, pd_14, pd_15, pd_16, pd_17, pd_19, pd_21, pd_22, pd_30, pd_34, pd_57, if_neg y, if_neg z, if_pos]
theorem m_voyage (hs : mS s S) (w : wS S) {k : Int} (h1 : -2147483648 ≤ k) (h2 : k < 2147483648) : f_X9_voyage th s (iI k) = some (iI (vyN S k), iI 0) := by
  have hC := w.C
  unfold f_X9_voyage vyN
  simp (disch := omega) only [-Int.reduceToNat, pc_ite, if_true, if_false, pc_bv, pc_lit, pc_neg, pc_add, pc_sub, pc_mul, pc_mr, pc_ar, pc_dv, pc_lt, pc_le, pc_eq, pc_nat, pc_div, pc_emod, pc_ifz, pc_ifo, pc_zb, pd_1, pd_2, pd_3, pd_4, pd_5, pd_6, pd_7, pd_8, pd_9, pd_10, pd_11, pd_12, pd_13, pd_14, pd_15, pd_16, pd_17, pd_19, pd_21, pd_22, pd_30, pd_34, pd_57, pc_lit64, hs.g, m_isIn]
  by_cases z : 0 ≤ k ∧ k < S 4
  · have z2 : (0 ≤ k ∧ k ≤ S 4 - 1) := by omega
    simp only [decide_eq_true z2, if_true]
    simp (disch := omega) only [-Int.reduceToNat, pc_ite, if_true, if_false, pc_bv, pc_lit, pc_neg, pc_add, pc_sub, pc_mul, pc_mr, pc_ar, pc_dv, pc_lt, pc_le, pc_eq, pc_nat, pc_div, pc_emod, pc_ifz, pc_ifo, pc_zb, pd_1, pd_2, pd_3, pd_4, pd_5, pd_6, pd_7, pd_8, pd_9, pd_10, pd_11, pd_12, pd_13, pd_14, pd_15, pd_16, pd_17, pd_19, pd_21, pd_22, pd_30, pd_34, pd_57, hs.g, if_pos z]
  · have z2 : ¬ (0 ≤ k ∧ k ≤ S 4 - 1) := by omega
    simp only [z2, decide_false, Bool.false_eq_true, if_false]
    rw [if_neg z]
theorem x_why (w : wS S) (hl : aL land S) (hr : aV riv S) (hh : aH 0 hom S) (hn : aH 3 len S) (ht : aT let' S) (hN' : aN nOn S) (he : aE lOn S) {a v : Int} (h1 : 0 ≤ a) (h2 : a < S 2) (h3 : 0 ≤ v) (h4 : v < 4) : f_X8_why (iI (S 0)) (iI (S 1)) (iI (S 2)) (rM S) lOn nOn land riv hom len let' (iI a) (iI v) = some (iI (rsn S a v)) := by
  have hC := w.C
  unfold f_X8_why
  simp (disch := omega) only [-Int.reduceToNat, pc_ite, if_true, if_false, pc_bv, pc_lit, pc_neg, pc_add, pc_sub, pc_mul, pc_mr, pc_ar, pc_dv, pc_lt, pc_le, pc_eq, pc_nat, pc_div, pc_emod, pc_ifz, pc_ifo, pc_zb, pd_1, pd_2, pd_3, pd_4, pd_5, pd_6, pd_7, pd_8, pd_9, pd_10, pd_11, pd_12, pd_13, pd_14, pd_15, pd_16, pd_17, pd_19, pd_21, pd_22, pd_30, pd_34, pd_57, Int.reduceEq, x_needH, x_needD, x_reason w hl hr hh hn ht hN' he]
theorem m_why (hs : mS s S) (w : wS S) {a v : Int} (h1 : 0 ≤ a) (h2 : a < S 2) (h3 : 0 ≤ v) (h4 : v < 4) : f_X9_why th s (iI a) (iI v) = some (iI (rsn S a v), iI 0) := by
  have hC := w.C
  have ok1 : (0 ≤ a ∧ a ≤ S 2 - 1) := by omega
  have ok2 : (0 ≤ v ∧ v ≤ 3) := by omega
  unfold f_X9_why
  simp (disch := omega) only [-Int.reduceToNat, pc_ite, if_true, if_false, pc_bv, pc_lit, pc_neg, pc_add, pc_sub, pc_mul, pc_mr, pc_ar, pc_dv, pc_lt, pc_le, pc_eq, pc_nat, pc_div, pc_emod, pc_ifz, pc_ifo, pc_zb, pd_1, pd_2, pd_3, pd_4, pd_5, pd_6, pd_7, pd_8, pd_9, pd_10, pd_11, pd_12, pd_13, pd_14, pd_15, pd_16, pd_17, pd_19, pd_21, pd_22, pd_30, pd_34, pd_57, m_isHarbour hs w, m_isWay, m_passes, ok1, ok2, and_self, decide_true, Bool.and_true, m_reason hs w]
theorem x_crossed (w : wS S) (hh : aH 0 hom S) (hd : aH 2 dir S) (hl : aH 3 len S) (hn : aN nOn S) {a : Int} (h1 : 0 ≤ a) (h2 : a < S 2) : f_X8_crossed (iI (S 0)) (iI (S 1)) (iI (S 2)) nOn dir hom len (iI a) = some (xs8 S a) := by
  have hC := w.C
  unfold f_X8_crossed
  simp (disch := omega) only [-Int.reduceToNat, pc_ite, if_true, if_false, pc_bv, pc_lit, pc_neg, pc_add, pc_sub, pc_mul, pc_mr, pc_ar, pc_dv, pc_lt, pc_le, pc_eq, pc_nat, pc_div, pc_emod, pc_ifz, pc_ifo, pc_zb, pd_1, pd_2, pd_3, pd_4, pd_5, pd_6, pd_7, pd_8, pd_9, pd_10, pd_11, pd_12, pd_13, pd_14, pd_15, pd_16, pd_17, pd_19, pd_21, pd_22, pd_30, pd_34, pd_57, Int.reduceEq, x_needH, x_crossedBy w hh hd hl hn]
theorem m_crossed (hs : mS s S) (w : wS S) {a : Int} (h1 : 0 ≤ a) (h2 : a < S 2) : f_X9_crossed th s (iI a) = some (xs8 S a, iI 0) := by
  have hC := w.C
  have ok1 : (0 ≤ a ∧ a ≤ S 2 - 1) := by omega
  unfold f_X9_crossed
  simp (disch := omega) only [-Int.reduceToNat, pc_ite, if_true, if_false, pc_bv, pc_lit, pc_neg, pc_add, pc_sub, pc_mul, pc_mr, pc_ar, pc_dv, pc_lt, pc_le, pc_eq, pc_nat, pc_div, pc_emod, pc_ifz, pc_ifo, pc_zb, pd_1, pd_2, pd_3, pd_4, pd_5, pd_6, pd_7, pd_8, pd_9, pd_10, pd_11, pd_12, pd_13, pd_14, pd_15, pd_16, pd_17, pd_19, pd_21, pd_22, pd_30, pd_34, pd_57, m_mayH hs w, ok1, and_self, decide_true, m_crossedBy hs w]
theorem x_turning (w : wS S) (hd : aH 2 dir S) (hj : aJ stp S) : f_X8_turning (iI (S 4)) (iI (S 5)) dir stp = some (iI (tB (dN S) S (S 5))) := by
  have hC := w.C
  unfold f_X8_turning
  simp (disch := omega) only [-Int.reduceToNat, pc_ite, if_true, if_false, pc_bv, pc_lit, pc_neg, pc_add, pc_sub, pc_mul, pc_mr, pc_ar, pc_dv, pc_lt, pc_le, pc_eq, pc_nat, pc_div, pc_emod, pc_ifz, pc_ifo, pc_zb, pd_1, pd_2, pd_3, pd_4, pd_5, pd_6, pd_7, pd_8, pd_9, pd_10, pd_11, pd_12, pd_13, pd_14, pd_15, pd_16, pd_17, pd_19, pd_21, pd_22, pd_30, pd_34, pd_57, x_turningNow w hj hd]
theorem m_turning (hs : mS s S) (w : wS S) : f_X9_turning th s wys = some (iI (tB (dN S) S (S 5)), iI 0, tnW S wys) := by
  have hC := w.C
  unfold f_X9_turning
  simp (disch := omega) only [-Int.reduceToNat, pc_ite, if_true, if_false, pc_bv, pc_lit, pc_neg, pc_add, pc_sub, pc_mul, pc_mr, pc_ar, pc_dv, pc_lt, pc_le, pc_eq, pc_nat, pc_div, pc_emod, pc_ifz, pc_ifo, pc_zb, pd_1, pd_2, pd_3, pd_4, pd_5, pd_6, pd_7, pd_8, pd_9, pd_10, pd_11, pd_12, pd_13, pd_14, pd_15, pd_16, pd_17, pd_19, pd_21, pd_22, pd_30, pd_34, pd_57, hs.g, m_turningNow hs w]
theorem x_turningFrom (w : wS S) (hd : aH 2 dir S) (hj : aJ stp S) {t : Int} (h1 : 0 ≤ t) (h2 : t < 4) : f_X8_turningFrom (iI (S 4)) dir stp (iI t) = some (iI (tB (dN S) S t)) := by
  unfold f_X8_turningFrom
  simp (disch := omega) only [-Int.reduceToNat, pc_ite, if_true, if_false, pc_bv, pc_lit, pc_neg, pc_add, pc_sub, pc_mul, pc_mr, pc_ar, pc_dv, pc_lt, pc_le, pc_eq, pc_nat, pc_div, pc_emod, pc_ifz, pc_ifo, pc_zb, pd_1, pd_2, pd_3, pd_4, pd_5, pd_6, pd_7, pd_8, pd_9, pd_10, pd_11, pd_12, pd_13, pd_14, pd_15, pd_16, pd_17, pd_19, pd_21, pd_22, pd_30, pd_34, pd_57, x_needT, x_turningNow w hj hd]
theorem m_turningFrom (hs : mS s S) (w : wS S) {t : Int} (h1 : 0 ≤ t) (h2 : t < 4) : f_X9_turningFrom th s wys (iI t) = some (iI (tB (dN S) S t), iI 0, tnW S wys) := by
  have ok2 : (0 ≤ t ∧ t ≤ 3) := by omega
  unfold f_X9_turningFrom
  simp (disch := omega) only [-Int.reduceToNat, pc_ite, if_true, if_false, pc_bv, pc_lit, pc_neg, pc_add, pc_sub, pc_mul, pc_mr, pc_ar, pc_dv, pc_lt, pc_le, pc_eq, pc_nat, pc_div, pc_emod, pc_ifz, pc_ifo, pc_zb, pd_1, pd_2, pd_3, pd_4, pd_5, pd_6, pd_7, pd_8, pd_9, pd_10, pd_11, pd_12, pd_13, pd_14, pd_15, pd_16, pd_17, pd_19, pd_21, pd_22, pd_30, pd_34, pd_57, m_mayT, ok2, and_self, decide_true, m_turningNow hs w]
theorem x_drowns (w : wS S) (hn : aN nOn S) {c : Int} (h1 : 0 ≤ c) (h2 : c < S 0 * S 1) : f_X8_drowns (iI (S 0)) (iI (S 1)) nOn (iI c) = some (nm S c) := by
  have hN := w.N
  unfold f_X8_drowns
  simp (disch := omega) only [-Int.reduceToNat, pc_ite, if_true, if_false, pc_bv, pc_lit, pc_neg, pc_add, pc_sub, pc_mul, pc_mr, pc_ar, pc_dv, pc_lt, pc_le, pc_eq, pc_nat, pc_div, pc_emod, pc_ifz, pc_ifo, pc_zb, pd_1, pd_2, pd_3, pd_4, pd_5, pd_6, pd_7, pd_8, pd_9, pd_10, pd_11, pd_12, pd_13, pd_14, pd_15, pd_16, pd_17, pd_19, pd_21, pd_22, pd_30, pd_34, pd_57, x_needC w, x_namesIn hn]
theorem m_drowns (hs : mS s S) (w : wS S) {c : Int} (h1 : 0 ≤ c) (h2 : c < S 0 * S 1) : f_X9_drowns th s (iI c) = some (nm S c, iI 0) := by
  have hN := w.N
  have ok2 : (0 ≤ c ∧ c ≤ S 0 * S 1 - 1) := by omega
  unfold f_X9_drowns
  simp (disch := omega) only [-Int.reduceToNat, pc_ite, if_true, if_false, pc_bv, pc_lit, pc_neg, pc_add, pc_sub, pc_mul, pc_mr, pc_ar, pc_dv, pc_lt, pc_le, pc_eq, pc_nat, pc_div, pc_emod, pc_ifz, pc_ifo, pc_zb, pd_1, pd_2, pd_3, pd_4, pd_5, pd_6, pd_7, pd_8, pd_9, pd_10, pd_11, pd_12, pd_13, pd_14, pd_15, pd_16, pd_17, pd_19, pd_21, pd_22, pd_30, pd_34, pd_57, m_mayC hs w, ok2, and_self, decide_true, m_namesIn hs w]
end
