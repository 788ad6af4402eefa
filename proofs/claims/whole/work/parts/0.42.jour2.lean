section
variable {s : Nat → Int32} {S S' : Int → Int} {land riv hom dir len let' nOn lOn stp ord stp' : Nat → Int32} {th acts a' : Int32} {past p' : Nat → Int32}
theorem m_sail (hs : mS s S) (w : wS S) {h : Int} (h1 : 0 ≤ h) (h2 : h < S 2) (h4 : S 4 < 16) (hk : f_X9_keeps acts past s = some (a', p')) : ∃ s', f_X9_sail acts th past s (iI h) = some (iI (S 4 + 1), a', iI 0, p', s') ∧ mS s' (saS S h) := by
  have hC := w.C
  have n1 : 0 ≤ h ∧ h ≤ S 2 - 1 := by omega
  have e4 : s (4 : Int).toNat = iI (S 4) := hs 4 (by omega) (by omega)
  have h1' : mS (upd s (536 + S 4).toNat (iI h)) (wr1 S (536 + S 4) h) := mS_wr hs (by omega)
  have e5 : upd s (536 + S 4).toNat (iI h) (4 : Int).toNat = iI (S 4) := by rw [upd_at, if_neg (by omega)]; exact e4
  have i1 : f_X9_mayHarbour th s (iI h) = some (zB true, iI 0) := by rw [m_mayH hs w (by omega) (by omega), decide_eq_true n1, if_pos n1]
  have z : ¬ S 4 = 16 := by omega
  refine ⟨upd (upd s (536 + S 4).toNat (iI h)) (4 : Int).toNat (iI (S 4 + 1)), ?_, mS_wr h1' (by omega)⟩
  unfold f_X9_sail
  rw [i1, pd_2, if_neg (by decide)]
  simp (disch := omega) only [-Int.reduceToNat, pc_ite, if_true, if_false, pc_bv, pc_lit, pc_neg, pc_add, pc_sub, pc_mul, pc_mr, pc_ar, pc_dv, pc_lt, pc_le, pc_eq, pc_nat, pc_div, pc_emod, pc_ifz, pc_ifo, pc_zb, pd_1, pd_2, pd_3, pd_4, pd_5, pd_6, pd_7, pd_8, pd_9, pd_10, pd_11, pd_12, pd_13, pd_14, pd_15, pd_16, pd_17, pd_19, pd_21, pd_22, pd_30, pd_34, pd_57, e4, e5, z, hk, upd_at]
theorem x_addStop (w : wS S) {h : Int} (h4 : S 4 < 16) : f_X4_addStop (iI (S 4)) stp (iI h) = some (iI (S 4 + 1), upd stp (S 4).toNat (iI h)) := by
  have hC := w.C
  have z : ¬ 16 ≤ S 4 := by omega
  unfold f_X4_addStop
  simp (disch := omega) only [-Int.reduceToNat, pc_ite, if_true, if_false, pc_bv, pc_lit, pc_neg, pc_add, pc_sub, pc_mul, pc_mr, pc_ar, pc_dv, pc_lt, pc_le, pc_eq, pc_nat, pc_div, pc_emod, pc_ifz, pc_ifo, pc_zb, pd_1, pd_2, pd_3, pd_4, pd_5, pd_6, pd_7, pd_8, pd_9, pd_10, pd_11, pd_12, pd_13, pd_14, pd_15, pd_16, pd_17, pd_19, pd_21, pd_22, pd_30, pd_34, pd_57, z]
theorem sa_aJ (w : wS S) (hj : aJ stp S) {h : Int} (h4 : S 4 < 16) : aJ (upd stp (S 4).toNat (iI h)) (saS S h) := by
  have hC := w.C
  intro k k1 k2
  rw [sa_at w, if_pos rfl] at k2
  rw [sa_at w, if_neg (by omega), upd_at]
  by_cases z : k = S 4
  · rw [if_pos (by omega), if_pos (by omega)]
  · rw [if_neg (by omega), if_neg (by omega)]; exact hj k k1 (by omega)
def reH (S : Int → Int) : Int := S (536 + S 6)
def reS (S : Int → Int) : Int → Int := if isP S (reH S) = true then wr1 (tuS S (upr (hv S (reH S) 2))) 6 (goN S) else wr1 S 6 (goN S)
theorem reH_rg (w : wS S) (h : 0 < S 4) : 0 ≤ reH S ∧ reH S < S 2 := by
  have hC := w.C
  exact w.V (by omega) (by omega)
theorem re_jn (w : wS S) : JN S (reS S) := by
  unfold reS
  split
  · exact (tu_jn _).tr (jn_wr (by omega))
  · exact jn_wr (by omega)
theorem goN_tu {t : Int} : goN (tuS S t) = goN S := by
  unfold goN
  rw [tu_at, if_neg (by omega), if_neg (by omega), tu_at, if_neg (by omega), if_neg (by omega)]
theorem re_wS (w : wS S) (h : 0 < S 4) : wS (reS S) := by
  have hr := reH_rg w h
  unfold reS
  by_cases z : isP S (reH S) = true
  · have hu := upr_rg (v := hv S (reH S) 2)
    rw [if_pos z, ← goN_tu (t := upr (hv S (reH S) 2))]
    exact go_wS (tu_wS w hu.1 hu.2) (by rw [tu_at, if_neg (by omega), if_neg (by omega)]; exact h)
  · rw [if_neg z]; exact go_wS w h
theorem m_read (hs : mS s S) (w : wS S) (h : 0 < S 4) (hk : f_X9_keeps acts past s = some (a', p')) : ∃ s', f_X9_read acts th past s = some (iI (reH S), a', iI 0, p', s') ∧ mS s' (reS S) := by
  have hC := w.C
  have hr := reH_rg w h
  have e4 : s (4 : Int).toNat = iI (S 4) := hs 4 (by omega) (by omega)
  have e6 : s (6 : Int).toNat = iI (S 6) := hs 6 (by omega) (by omega)
  have eh : s (536 + S 6).toNat = iI (reH S) := hs _ (by omega) (by omega)
  have hu := upr_rg (v := hv S (reH S) 2)
  obtain ⟨s1, t1, t2⟩ := m_turns hs w hu.1 hu.2
  have f4 : s1 (4 : Int).toNat = iI (S 4) := by
    have := t2 4 (by omega) (by omega)
    rw [tu_at, if_neg (by omega), if_neg (by omega)] at this; exact this
  have f6 : s1 (6 : Int).toNat = iI (S 6) := by
    have := t2 6 (by omega) (by omega)
    rw [tu_at, if_neg (by omega), if_neg (by omega)] at this; exact this
  have z : ¬ S 4 = 0 := by omega
  have pl := m_isPlaced hs w hr.1 hr.2
  have of2 := m_of hs hr.1 (by omega : reH S < 8) (by omega : (0 : Int) ≤ 2) (by omega : (2 : Int) < 12)
  unfold reS
  cases p : isP S (reH S)
  · refine ⟨upd s (6 : Int).toNat (iI (goN S)), ?_, mS_wr hs (by omega)⟩
    unfold f_X9_read goN
    simp (disch := omega) only [-Int.reduceToNat, pc_ite, if_true, if_false, pc_bv, pc_lit, pc_neg, pc_add, pc_sub, pc_mul, pc_mr, pc_ar, pc_dv, pc_lt, pc_le, pc_eq, pc_nat, pc_div, pc_emod, pc_ifz, pc_ifo, pc_zb, pd_1, pd_2, pd_3, pd_4, pd_5, pd_6, pd_7, pd_8, pd_9, pd_10, pd_11, pd_12, pd_13, pd_14, pd_15, pd_16, pd_17, pd_19, pd_21, pd_22, pd_30, pd_34, pd_57, e4, e6, eh, z, hk, pl, p, Bool.false_eq_true]
  · have hp := isP_c w hr.1 hr.2 p
    refine ⟨upd s1 (6 : Int).toNat (iI (goN S)), ?_, mS_wr t2 (by omega)⟩
    unfold f_X9_read goN
    simp (disch := omega) only [-Int.reduceToNat, pc_ite, if_true, if_false, pc_bv, pc_lit, pc_neg, pc_add, pc_sub, pc_mul, pc_mr, pc_ar, pc_dv, pc_lt, pc_le, pc_eq, pc_nat, pc_div, pc_emod, pc_ifz, pc_ifo, pc_zb, pd_1, pd_2, pd_3, pd_4, pd_5, pd_6, pd_7, pd_8, pd_9, pd_10, pd_11, pd_12, pd_13, pd_14, pd_15, pd_16, pd_17, pd_19, pd_21, pd_22, pd_30, pd_34, pd_57, e4, e6, eh, z, hk, pl, p, of2, m_uprightBy, t1, f4, f6]
end
