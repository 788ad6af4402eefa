def szN (S : Int → Int) (n q : Int) : Int := if q = 0 then S 0 else if q = 1 then S 1 else if q = 2 then lc S else if q = 3 then S 2 else if q = 4 then S 3 else if q = 5 then su (fun k => if isP S k then 1 else 0) (S 2) else if q = 6 then su (fun k => if isP S k && isR S k then 1 else 0) (S 2) else if q = 7 then S 4 else if q = 8 then S 5 else if q = 9 then S 6 else if q = 10 then S 7 else n
section
variable {s : Nat → Int32} {S : Int → Int} {land riv hom dir len let' nOn lOn stp ord wys : Nat → Int32} {th : Int32}
theorem m_isInN {a : Int} {b c : Nat} (h1 : -2147483648 ≤ a) (h2 : a < 2147483648) (h4 : (b : Int) < 2147483648) (h6 : (c : Int) < 2147483648) : f_X9_isIn (iI a).toInt64 (jI b) (jI c) = some (zB (decide ((b : Int) ≤ a ∧ a ≤ c))) := m_isInL h1 h2 (by omega) h4 (by omega) h6
theorem x_needH {n a : Int} (h1 : 0 ≤ a) (h2 : a < n) (h3 : n < 2147483648) : f_X8_needHarbour (iI n) (iI a) = some () := by
  unfold f_X8_needHarbour
  simp (disch := omega) only [-Int.reduceToNat, pc_ite, if_true, if_false, pc_bv, pc_lit, pc_neg, pc_add, pc_sub, pc_mul, pc_mr, pc_ar, pc_dv, pc_lt, pc_le, pc_eq, pc_nat, pc_div, pc_emod, pc_ifz, pc_ifo, pc_zb, pd_1, pd_2, pd_3, pd_4, pd_5, pd_6, pd_7, pd_8, pd_9, pd_10, pd_11, pd_12, pd_13, pd_14, pd_15, pd_16, pd_17, pd_19, pd_21, pd_22, pd_30, pd_34, pd_57, if_neg, if_pos]
theorem t_needH {n a : Int} (h1 : 0 ≤ a) (h2 : a < n) (h3 : n < 2147483648) : t_X8_needHarbour (iI n) (iI a) = none := by
  unfold t_X8_needHarbour
  simp (disch := omega) only [-Int.reduceToNat, pc_ite, if_true, if_false, pc_bv, pc_lit, pc_neg, pc_add, pc_sub, pc_mul, pc_mr, pc_ar, pc_dv, pc_lt, pc_le, pc_eq, pc_nat, pc_div, pc_emod, pc_ifz, pc_ifo, pc_zb, pd_1, pd_2, pd_3, pd_4, pd_5, pd_6, pd_7, pd_8, pd_9, pd_10, pd_11, pd_12, pd_13, pd_14, pd_15, pd_16, pd_17, pd_19, pd_21, pd_22, pd_30, pd_34, pd_57, if_neg, if_pos]
theorem t_needH' {n a : Int} (h0 : ¬ (0 ≤ a ∧ a < n)) (h1 : -2147483648 ≤ a) (h2 : a < 2147483648) (h4 : 0 ≤ n) (h3 : n < 2147483648) : t_X8_needHarbour (iI n) (iI a) = some "java/lang/IndexOutOfBoundsException" := by
  unfold t_X8_needHarbour
  by_cases z : a < 0
  · simp (disch := omega) only [-Int.reduceToNat, pc_ite, if_true, if_false, pc_bv, pc_lit, pc_neg, pc_add, pc_sub, pc_mul, pc_mr, pc_ar, pc_dv, pc_lt, pc_le, pc_eq, pc_nat, pc_div, pc_emod, pc_ifz, pc_ifo, pc_zb, pd_1, pd_2, pd_3, pd_4, pd_5, pd_6, pd_7, pd_8, pd_9, pd_10, pd_11, pd_12, pd_13, pd_14, pd_15, pd_16, pd_17, pd_19, pd_21, pd_22, pd_30, pd_34, pd_57, if_pos]
  · simp (disch := omega) only [-Int.reduceToNat, pc_ite, if_true, if_false, pc_bv, pc_lit, pc_neg, pc_add, pc_sub, pc_mul, pc_mr, pc_ar, pc_dv, pc_lt, pc_le, pc_eq, pc_nat, pc_div, pc_emod, pc_ifz, pc_ifo, pc_zb, pd_1, pd_2, pd_3, pd_4, pd_5, pd_6, pd_7, pd_8, pd_9, pd_10, pd_11, pd_12, pd_13, pd_14, pd_15, pd_16, pd_17, pd_19, pd_21, pd_22, pd_30, pd_34, pd_57, if_neg]
theorem x_needR {n a : Int} (h1 : 0 ≤ a) (h2 : a < n) (h3 : n < 2147483648) : f_X8_needRiver (iI n) (iI a) = some () := by
  unfold f_X8_needRiver
  simp (disch := omega) only [-Int.reduceToNat, pc_ite, if_true, if_false, pc_bv, pc_lit, pc_neg, pc_add, pc_sub, pc_mul, pc_mr, pc_ar, pc_dv, pc_lt, pc_le, pc_eq, pc_nat, pc_div, pc_emod, pc_ifz, pc_ifo, pc_zb, pd_1, pd_2, pd_3, pd_4, pd_5, pd_6, pd_7, pd_8, pd_9, pd_10, pd_11, pd_12, pd_13, pd_14, pd_15, pd_16, pd_17, pd_19, pd_21, pd_22, pd_30, pd_34, pd_57, if_neg, if_pos]
theorem t_needR {n a : Int} (h1 : 0 ≤ a) (h2 : a < n) (h3 : n < 2147483648) : t_X8_needRiver (iI n) (iI a) = none := by
  unfold t_X8_needRiver
  simp (disch := omega) only [-Int.reduceToNat, pc_ite, if_true, if_false, pc_bv, pc_lit, pc_neg, pc_add, pc_sub, pc_mul, pc_mr, pc_ar, pc_dv, pc_lt, pc_le, pc_eq, pc_nat, pc_div, pc_emod, pc_ifz, pc_ifo, pc_zb, pd_1, pd_2, pd_3, pd_4, pd_5, pd_6, pd_7, pd_8, pd_9, pd_10, pd_11, pd_12, pd_13, pd_14, pd_15, pd_16, pd_17, pd_19, pd_21, pd_22, pd_30, pd_34, pd_57, if_neg, if_pos]
theorem t_needR' {n a : Int} (h0 : ¬ (0 ≤ a ∧ a < n)) (h1 : -2147483648 ≤ a) (h2 : a < 2147483648) (h4 : 0 ≤ n) (h3 : n < 2147483648) : t_X8_needRiver (iI n) (iI a) = some "java/lang/IndexOutOfBoundsException" := by
  unfold t_X8_needRiver
  by_cases z : a < 0
  · simp (disch := omega) only [-Int.reduceToNat, pc_ite, if_true, if_false, pc_bv, pc_lit, pc_neg, pc_add, pc_sub, pc_mul, pc_mr, pc_ar, pc_dv, pc_lt, pc_le, pc_eq, pc_nat, pc_div, pc_emod, pc_ifz, pc_ifo, pc_zb, pd_1, pd_2, pd_3, pd_4, pd_5, pd_6, pd_7, pd_8, pd_9, pd_10, pd_11, pd_12, pd_13, pd_14, pd_15, pd_16, pd_17, pd_19, pd_21, pd_22, pd_30, pd_34, pd_57, if_pos]
  · simp (disch := omega) only [-Int.reduceToNat, pc_ite, if_true, if_false, pc_bv, pc_lit, pc_neg, pc_add, pc_sub, pc_mul, pc_mr, pc_ar, pc_dv, pc_lt, pc_le, pc_eq, pc_nat, pc_div, pc_emod, pc_ifz, pc_ifo, pc_zb, pd_1, pd_2, pd_3, pd_4, pd_5, pd_6, pd_7, pd_8, pd_9, pd_10, pd_11, pd_12, pd_13, pd_14, pd_15, pd_16, pd_17, pd_19, pd_21, pd_22, pd_30, pd_34, pd_57, if_neg]
theorem x_needC (w : wS S) {a : Int} (h1 : 0 ≤ a) (h2 : a < S 0 * S 1) : f_X8_needCell (iI (S 0)) (iI (S 1)) (iI a) = some () := by
  have hN := w.N
  unfold f_X8_needCell
  simp (disch := omega) only [-Int.reduceToNat, pc_ite, if_true, if_false, pc_bv, pc_lit, pc_neg, pc_add, pc_sub, pc_mul, pc_mr, pc_ar, pc_dv, pc_lt, pc_le, pc_eq, pc_nat, pc_div, pc_emod, pc_ifz, pc_ifo, pc_zb, pd_1, pd_2, pd_3, pd_4, pd_5, pd_6, pd_7, pd_8, pd_9, pd_10, pd_11, pd_12, pd_13, pd_14, pd_15, pd_16, pd_17, pd_19, pd_21, pd_22, pd_30, pd_34, pd_57, x_cells, if_neg, if_pos]
theorem t_needC (w : wS S) {a : Int} (h1 : 0 ≤ a) (h2 : a < S 0 * S 1) : t_X8_needCell (iI (S 0)) (iI (S 1)) (iI a) = none := by
  have hN := w.N
  unfold t_X8_needCell
  simp (disch := omega) only [-Int.reduceToNat, pc_ite, if_true, if_false, pc_bv, pc_lit, pc_neg, pc_add, pc_sub, pc_mul, pc_mr, pc_ar, pc_dv, pc_lt, pc_le, pc_eq, pc_nat, pc_div, pc_emod, pc_ifz, pc_ifo, pc_zb, pd_1, pd_2, pd_3, pd_4, pd_5, pd_6, pd_7, pd_8, pd_9, pd_10, pd_11, pd_12, pd_13, pd_14, pd_15, pd_16, pd_17, pd_19, pd_21, pd_22, pd_30, pd_34, pd_57, x_cells, if_neg, if_pos]
theorem t_needC' (w : wS S) {a : Int} (h0 : ¬ (0 ≤ a ∧ a < S 0 * S 1)) (h1 : -2147483648 ≤ a) (h2 : a < 2147483648) : t_X8_needCell (iI (S 0)) (iI (S 1)) (iI a) = some "java/lang/IndexOutOfBoundsException" := by
  have hN := w.N
  unfold t_X8_needCell
  by_cases z : a < 0
  · simp (disch := omega) only [-Int.reduceToNat, pc_ite, if_true, if_false, pc_bv, pc_lit, pc_neg, pc_add, pc_sub, pc_mul, pc_mr, pc_ar, pc_dv, pc_lt, pc_le, pc_eq, pc_nat, pc_div, pc_emod, pc_ifz, pc_ifo, pc_zb, pd_1, pd_2, pd_3, pd_4, pd_5, pd_6, pd_7, pd_8, pd_9, pd_10, pd_11, pd_12, pd_13, pd_14, pd_15, pd_16, pd_17, pd_19, pd_21, pd_22, pd_30, pd_34, pd_57, if_pos]
  · simp (disch := omega) only [-Int.reduceToNat, pc_ite, if_true, if_false, pc_bv, pc_lit, pc_neg, pc_add, pc_sub, pc_mul, pc_mr, pc_ar, pc_dv, pc_lt, pc_le, pc_eq, pc_nat, pc_div, pc_emod, pc_ifz, pc_ifo, pc_zb, pd_1, pd_2, pd_3, pd_4, pd_5, pd_6, pd_7, pd_8, pd_9, pd_10, pd_11, pd_12, pd_13, pd_14, pd_15, pd_16, pd_17, pd_19, pd_21, pd_22, pd_30, pd_34, pd_57, x_cells, if_neg]
theorem x_needD {a : Int} (h1 : 0 ≤ a) (h2 : a < 4) : f_X8_needDirection (iI a) = some () := by
  unfold f_X8_needDirection
  simp (disch := omega) only [-Int.reduceToNat, pc_ite, if_true, if_false, pc_bv, pc_lit, pc_neg, pc_add, pc_sub, pc_mul, pc_mr, pc_ar, pc_dv, pc_lt, pc_le, pc_eq, pc_nat, pc_div, pc_emod, pc_ifz, pc_ifo, pc_zb, pd_1, pd_2, pd_3, pd_4, pd_5, pd_6, pd_7, pd_8, pd_9, pd_10, pd_11, pd_12, pd_13, pd_14, pd_15, pd_16, pd_17, pd_19, pd_21, pd_22, pd_30, pd_34, pd_57, if_neg, if_pos]
theorem t_needD {a : Int} (h1 : 0 ≤ a) (h2 : a < 4) : t_X8_needDirection (iI a) = none := by
  unfold t_X8_needDirection
  simp (disch := omega) only [-Int.reduceToNat, pc_ite, if_true, if_false, pc_bv, pc_lit, pc_neg, pc_add, pc_sub, pc_mul, pc_mr, pc_ar, pc_dv, pc_lt, pc_le, pc_eq, pc_nat, pc_div, pc_emod, pc_ifz, pc_ifo, pc_zb, pd_1, pd_2, pd_3, pd_4, pd_5, pd_6, pd_7, pd_8, pd_9, pd_10, pd_11, pd_12, pd_13, pd_14, pd_15, pd_16, pd_17, pd_19, pd_21, pd_22, pd_30, pd_34, pd_57, if_neg, if_pos]
theorem t_needD' {a : Int} (h0 : ¬ (0 ≤ a ∧ a < 4)) (h1 : -2147483648 ≤ a) (h2 : a < 2147483648) : t_X8_needDirection (iI a) = some "java/lang/IllegalArgumentException" := by
  unfold t_X8_needDirection
  by_cases z : a < 0
  · simp (disch := omega) only [-Int.reduceToNat, pc_ite, if_true, if_false, pc_bv, pc_lit, pc_neg, pc_add, pc_sub, pc_mul, pc_mr, pc_ar, pc_dv, pc_lt, pc_le, pc_eq, pc_nat, pc_div, pc_emod, pc_ifz, pc_ifo, pc_zb, pd_1, pd_2, pd_3, pd_4, pd_5, pd_6, pd_7, pd_8, pd_9, pd_10, pd_11, pd_12, pd_13, pd_14, pd_15, pd_16, pd_17, pd_19, pd_21, pd_22, pd_30, pd_34, pd_57, if_pos]
  · simp (disch := omega) only [-Int.reduceToNat, pc_ite, if_true, if_false, pc_bv, pc_lit, pc_neg, pc_add, pc_sub, pc_mul, pc_mr, pc_ar, pc_dv, pc_lt, pc_le, pc_eq, pc_nat, pc_div, pc_emod, pc_ifz, pc_ifo, pc_zb, pd_1, pd_2, pd_3, pd_4, pd_5, pd_6, pd_7, pd_8, pd_9, pd_10, pd_11, pd_12, pd_13, pd_14, pd_15, pd_16, pd_17, pd_19, pd_21, pd_22, pd_30, pd_34, pd_57, if_neg]
theorem x_needT {a : Int} (h1 : 0 ≤ a) (h2 : a < 4) : f_X8_needTurn (iI a) = some () := by
  unfold f_X8_needTurn
  simp (disch := omega) only [-Int.reduceToNat, pc_ite, if_true, if_false, pc_bv, pc_lit, pc_neg, pc_add, pc_sub, pc_mul, pc_mr, pc_ar, pc_dv, pc_lt, pc_le, pc_eq, pc_nat, pc_div, pc_emod, pc_ifz, pc_ifo, pc_zb, pd_1, pd_2, pd_3, pd_4, pd_5, pd_6, pd_7, pd_8, pd_9, pd_10, pd_11, pd_12, pd_13, pd_14, pd_15, pd_16, pd_17, pd_19, pd_21, pd_22, pd_30, pd_34, pd_57, if_neg, if_pos]
theorem t_needT {a : Int} (h1 : 0 ≤ a) (h2 : a < 4) : t_X8_needTurn (iI a) = none := by
  unfold t_X8_needTurn
  simp (disch := omega) only [-Int.reduceToNat, pc_ite, if_true, if_false, pc_bv, pc_lit, pc_neg, pc_add, pc_sub, pc_mul, pc_mr, pc_ar, pc_dv, pc_lt, pc_le, pc_eq, pc_nat, pc_div, pc_emod, pc_ifz, pc_ifo, pc_zb, pd_1, pd_2, pd_3, pd_4, pd_5, pd_6, pd_7, pd_8, pd_9, pd_10, pd_11, pd_12, pd_13, pd_14, pd_15, pd_16, pd_17, pd_19, pd_21, pd_22, pd_30, pd_34, pd_57, if_neg, if_pos]
theorem t_needT' {a : Int} (h0 : ¬ (0 ≤ a ∧ a < 4)) (h1 : -2147483648 ≤ a) (h2 : a < 2147483648) : t_X8_needTurn (iI a) = some "java/lang/IllegalArgumentException" := by
  unfold t_X8_needTurn
  by_cases z : a < 0
  · simp (disch := omega) only [-Int.reduceToNat, pc_ite, if_true, if_false, pc_bv, pc_lit, pc_neg, pc_add, pc_sub, pc_mul, pc_mr, pc_ar, pc_dv, pc_lt, pc_le, pc_eq, pc_nat, pc_div, pc_emod, pc_ifz, pc_ifo, pc_zb, pd_1, pd_2, pd_3, pd_4, pd_5, pd_6, pd_7, pd_8, pd_9, pd_10, pd_11, pd_12, pd_13, pd_14, pd_15, pd_16, pd_17, pd_19, pd_21, pd_22, pd_30, pd_34, pd_57, if_pos]
  · simp (disch := omega) only [-Int.reduceToNat, pc_ite, if_true, if_false, pc_bv, pc_lit, pc_neg, pc_add, pc_sub, pc_mul, pc_mr, pc_ar, pc_dv, pc_lt, pc_le, pc_eq, pc_nat, pc_div, pc_emod, pc_ifz, pc_ifo, pc_zb, pd_1, pd_2, pd_3, pd_4, pd_5, pd_6, pd_7, pd_8, pd_9, pd_10, pd_11, pd_12, pd_13, pd_14, pd_15, pd_16, pd_17, pd_19, pd_21, pd_22, pd_30, pd_34, pd_57, if_neg]
theorem x_placed (w : wS S) (hd : aH 2 dir S) : f_X2_placedNames (iI (S 2)) dir = some (pN S) := by
  have hC := w.C
  unfold f_X2_placedNames
  simp only [pc_bv]
  refine pc_b1t (pc_fold id (fun h b => if isP S h = true then b ||| sB h else b) (fun _ _ => True) id (S 2) (by omega) (b0 := iI 0) rfl rfl trivial (fun i b a1 a2 _ => ⟨?_, trivial⟩) (fun b _ => ?_)).1 rfl
  · have hH := w.H a1 a2
    simp (disch := omega) only [-Int.reduceToNat, pc_ite, if_true, if_false, pc_bv, pc_lit, pc_neg, pc_add, pc_sub, pc_mul, pc_mr, pc_ar, pc_dv, pc_lt, pc_le, pc_eq, pc_nat, pc_div, pc_emod, pc_ifz, pc_ifo, pc_zb, pd_1, pd_2, pd_3, pd_4, pd_5, pd_6, pd_7, pd_8, pd_9, pd_10, pd_11, pd_12, pd_13, pd_14, pd_15, pd_16, pd_17, pd_19, pd_21, pd_22, pd_30, pd_34, pd_57, x_directionOf w hd, if_neg, pc_sB, id]
    unfold isP
    by_cases z : hv S i 2 = -1 <;> simp [z]
  · simp (disch := omega) only [-Int.reduceToNat, pc_ite, if_true, if_false, pc_bv, pc_lit, pc_neg, pc_add, pc_sub, pc_mul, pc_mr, pc_ar, pc_dv, pc_lt, pc_le, pc_eq, pc_nat, pc_div, pc_emod, pc_ifz, pc_ifo, pc_zb, pd_1, pd_2, pd_3, pd_4, pd_5, pd_6, pd_7, pd_8, pd_9, pd_10, pd_11, pd_12, pd_13, pd_14, pd_15, pd_16, pd_17, pd_19, pd_21, pd_22, pd_30, pd_34, pd_57, if_pos]
theorem m_placedNow (hs : mS s S) (w : wS S) (r : Bool) : f_X9_placedNow s (zB r) = some (iI (su (fun k => if isP S k && (!r || isR S k) then 1 else 0) (S 2))) := by
  have hC := w.C
  unfold f_X9_placedNow su
  simp only [pc_bv]
  refine pc_b1t (pc_fold iI (fun i b => b + if (isP S i && (!r || isR S i)) = true then 1 else 0) (fun i b => 0 ≤ b ∧ b ≤ i) iI (S 2) (by omega) (b0 := 0) rfl rfl (by omega) (fun i b a1 a2 hb => ?_) (fun b _ => ?_)).1 rfl
  · simp (disch := omega) only [-Int.reduceToNat, pc_ite, if_true, if_false, pc_bv, pc_lit, pc_neg, pc_add, pc_sub, pc_mul, pc_mr, pc_ar, pc_dv, pc_lt, pc_le, pc_eq, pc_nat, pc_div, pc_emod, pc_ifz, pc_ifo, pc_zb, pd_1, pd_2, pd_3, pd_4, pd_5, pd_6, pd_7, pd_8, pd_9, pd_10, pd_11, pd_12, pd_13, pd_14, pd_15, pd_16, pd_17, pd_19, pd_21, pd_22, pd_30, pd_34, pd_57, hs.g, m_isPlaced hs w, m_isRed hs w, if_neg]
    cases isP S i <;> cases r <;> cases isR S i <;> simp <;> omega
  · simp (disch := omega) only [-Int.reduceToNat, pc_ite, if_true, if_false, pc_bv, pc_lit, pc_neg, pc_add, pc_sub, pc_mul, pc_mr, pc_ar, pc_dv, pc_lt, pc_le, pc_eq, pc_nat, pc_div, pc_emod, pc_ifz, pc_ifo, pc_zb, pd_1, pd_2, pd_3, pd_4, pd_5, pd_6, pd_7, pd_8, pd_9, pd_10, pd_11, pd_12, pd_13, pd_14, pd_15, pd_16, pd_17, pd_19, pd_21, pd_22, pd_30, pd_34, pd_57, hs.g, if_pos]
theorem oc_pN (w : wS S) : f_J6_bitCount_0f7a4 (pN S) = some (iI (su (fun k => if isP S k then 1 else 0) (S 2))) := by
  have hC := w.C
  unfold pN
  rw [x_bits, oc_mk (by omega) (by omega)]
  intro k h1 h2
  rw [bt_mk (by omega) (by omega) h2]
  have : ¬ k < S 2 := by omega
  simp [this]
theorem oc_pR (w : wS S) : f_J6_bitCount_0f7a4 (pN S &&& rM S) = some (iI (su (fun k => if isP S k && isR S k then 1 else 0) (S 2))) := by
  have hC := w.C
  have e : pN S &&& rM S = mk (fun k => isP S k && isR S k) (S 2) := by
    refine (mk_eq (by omega) (fun k h1 h2 => ?_)).symm
    unfold pN rM
    rw [bt_and, bt_mk (by omega) h1 h2, bt_mk (by omega) h1 h2]
    cases decide (k < S 2) <;> cases isP S k <;> rfl
  rw [e, x_bits, oc_mk (by omega) (by omega)]
  intro k h1 h2
  rw [bt_mk (by omega) (by omega) h2]
  have : ¬ k < S 2 := by omega
  simp [this]
theorem x_size (w : wS S) (hl : aL land S) (hd : aH 2 dir S) {n q : Int} (h1 : 0 ≤ q) (h2 : q < 12) : f_X8_size (iI n) (iI (S 0)) (iI (S 1)) (iI (S 3)) (iI (S 2)) (rM S) (iI (S 4)) (iI (S 6)) (iI (S 5)) (iI (S 7)) land dir (iI q) = some (iI (szN S n q)) := by
  have e : q = 0 ∨ q = 1 ∨ q = 2 ∨ q = 3 ∨ q = 4 ∨ q = 5 ∨ q = 6 ∨ q = 7 ∨ q = 8 ∨ q = 9 ∨ q = 10 ∨ q = 11 := by omega
  unfold f_X8_size szN
  rcases e with rfl | rfl | rfl | rfl | rfl | rfl | rfl | rfl | rfl | rfl | rfl | rfl <;> simp (disch := omega) only [-Int.reduceToNat, pc_ite, if_true, if_false, pc_bv, pc_lit, pc_neg, pc_add, pc_sub, pc_mul, pc_mr, pc_ar, pc_dv, pc_lt, pc_le, pc_eq, pc_nat, pc_div, pc_emod, pc_ifz, pc_ifo, pc_zb, pd_1, pd_2, pd_3, pd_4, pd_5, pd_6, pd_7, pd_8, pd_9, pd_10, pd_11, pd_12, pd_13, pd_14, pd_15, pd_16, pd_17, pd_19, pd_21, pd_22, pd_30, pd_34, pd_57, x_landCells w hl, x_placed w hd, oc_pN w, oc_pR w, Int.reduceEq]
theorem m_size (hs : mS s S) (w : wS S) {n q : Int} (h1 : 0 ≤ q) (h2 : q < 12) : f_X9_size (iI n) th s (iI q) = some (iI (szN S n q), iI 0) := by
  have e : q = 0 ∨ q = 1 ∨ q = 2 ∨ q = 3 ∨ q = 4 ∨ q = 5 ∨ q = 6 ∨ q = 7 ∨ q = 8 ∨ q = 9 ∨ q = 10 ∨ q = 11 := by omega
  have ok : (0 ≤ q ∧ q ≤ 11) := by omega
  have i1 : f_X9_isIn (iI q).toInt64 0 11 = some (zB true) := by
    simp (disch := omega) only [pc_lit64, m_isInL, ok, and_self, decide_true]
  have i2 : f_X9_passes th (zB true) 1 = some (iI 1, iI 0) := m_passes1 th true
  unfold f_X9_size
  rw [i1, pd_1, i2, pd_2, if_neg (by decide)]
  have p0 := m_placedNow hs w false
  have p1 := m_placedNow hs w true
  simp only [Bool.not_false, Bool.not_true, Bool.true_or, Bool.false_or, Bool.and_true] at p0 p1
  rw [show zB false = iI 0 from rfl] at p0
  rw [show zB true = iI 1 from rfl] at p1
  unfold szN
  rcases e with rfl | rfl | rfl | rfl | rfl | rfl | rfl | rfl | rfl | rfl | rfl | rfl <;> simp (disch := omega) only [-Int.reduceToNat, pc_ite, if_true, if_false, pc_bv, pc_lit, pc_neg, pc_add, pc_sub, pc_mul, pc_mr, pc_ar, pc_dv, pc_lt, pc_le, pc_eq, pc_nat, pc_div, pc_emod, pc_ifz, pc_ifo, pc_zb, pd_1, pd_2, pd_3, pd_4, pd_5, pd_6, pd_7, pd_8, pd_9, pd_10, pd_11, pd_12, pd_13, pd_14, pd_15, pd_16, pd_17, pd_19, pd_21, pd_22, pd_30, pd_34, pd_57, m_landCells hs w, p0, p1, hs.g, Int.reduceEq]
theorem m_size' {n q : Int} (h1 : -2147483648 ≤ q) (h2 : q < 2147483648) (h0 : ¬ (0 ≤ q ∧ q < 12)) : f_X9_size (iI n) th s (iI q) = some (iI 0, iI 1) := by
  have ok : ¬ (0 ≤ q ∧ q ≤ 11) := by omega
  have i1 : f_X9_isIn (iI q).toInt64 0 11 = some (zB false) := by
    simp (disch := omega) only [pc_lit64, m_isInL, ok, decide_false]
  have i2 : f_X9_passes th (zB false) 1 = some (iI 0, iI 1) := m_passes1 th false
  unfold f_X9_size
  rw [i1, pd_1, i2, pd_2, if_pos (by decide)]
  rfl
def clN (S : Int → Int) (c q : Int) : Int := if q = 0 then (if isV S c then 2 else S (8 + c)) else if q = 1 then hA S c (-1) else if q = 2 then S (152 + c) - 1 else if q = 3 then lAt S c else if q = 5 then dep S c else 0
theorem x_cell (w : wS S) (hl : aL land S) (hr : aV riv S) (hh : aH 0 hom S) (hn : aN nOn S) (he : aE lOn S) {c q : Int} (g1 : 0 ≤ c) (g2 : c < S 0 * S 1) (h1 : 0 ≤ q) (h2 : q < 6) : f_X8_cell (iI (S 0)) (iI (S 1)) (iI (S 2)) lOn nOn land riv hom (iI c) (iI q) = some (if q = 4 then nm S c else iI (clN S c q)) := by
  have hN := w.N
  have hL := w.L (c := c) g1 (by omega)
  have e : q = 0 ∨ q = 1 ∨ q = 2 ∨ q = 3 ∨ q = 4 ∨ q = 5 := by omega
  unfold f_X8_cell clN
  rcases e with rfl | rfl | rfl | rfl | rfl | rfl
  · simp (disch := omega) only [-Int.reduceToNat, pc_ite, if_true, if_false, pc_bv, pc_lit, pc_neg, pc_add, pc_sub, pc_mul, pc_mr, pc_ar, pc_dv, pc_lt, pc_le, pc_eq, pc_nat, pc_div, pc_emod, pc_ifz, pc_ifo, pc_zb, pd_1, pd_2, pd_3, pd_4, pd_5, pd_6, pd_7, pd_8, pd_9, pd_10, pd_11, pd_12, pd_13, pd_14, pd_15, pd_16, pd_17, pd_19, pd_21, pd_22, pd_30, pd_34, pd_57, Int.reduceEq, x_needC w, x_isRiver w hr, x_isLand w hl]
    have hc : c ≠ -1 := by omega
    cases isV S c
    · unfold isL
      by_cases z : S (8 + c) = 1
      · simp [z, hc]
      · have z2 : S (8 + c) = 0 := by omega
        simp [z2]
    · rfl
  · simp (disch := omega) only [-Int.reduceToNat, pc_ite, if_true, if_false, pc_bv, pc_lit, pc_neg, pc_add, pc_sub, pc_mul, pc_mr, pc_ar, pc_dv, pc_lt, pc_le, pc_eq, pc_nat, pc_div, pc_emod, pc_ifz, pc_ifo, pc_zb, pd_1, pd_2, pd_3, pd_4, pd_5, pd_6, pd_7, pd_8, pd_9, pd_10, pd_11, pd_12, pd_13, pd_14, pd_15, pd_16, pd_17, pd_19, pd_21, pd_22, pd_30, pd_34, pd_57, Int.reduceEq, x_needC w, x_inCell w hh]
  · simp (disch := omega) only [-Int.reduceToNat, pc_ite, if_true, if_false, pc_bv, pc_lit, pc_neg, pc_add, pc_sub, pc_mul, pc_mr, pc_ar, pc_dv, pc_lt, pc_le, pc_eq, pc_nat, pc_div, pc_emod, pc_ifz, pc_ifo, pc_zb, pd_1, pd_2, pd_3, pd_4, pd_5, pd_6, pd_7, pd_8, pd_9, pd_10, pd_11, pd_12, pd_13, pd_14, pd_15, pd_16, pd_17, pd_19, pd_21, pd_22, pd_30, pd_34, pd_57, Int.reduceEq, x_needC w, x_riverIn w hr]
  · simp (disch := omega) only [-Int.reduceToNat, pc_ite, if_true, if_false, pc_bv, pc_lit, pc_neg, pc_add, pc_sub, pc_mul, pc_mr, pc_ar, pc_dv, pc_lt, pc_le, pc_eq, pc_nat, pc_div, pc_emod, pc_ifz, pc_ifo, pc_zb, pd_1, pd_2, pd_3, pd_4, pd_5, pd_6, pd_7, pd_8, pd_9, pd_10, pd_11, pd_12, pd_13, pd_14, pd_15, pd_16, pd_17, pd_19, pd_21, pd_22, pd_30, pd_34, pd_57, Int.reduceEq, x_needC w, x_letterIn w hn he]
  · simp (disch := omega) only [-Int.reduceToNat, pc_ite, if_true, if_false, pc_bv, pc_lit, pc_neg, pc_add, pc_sub, pc_mul, pc_mr, pc_ar, pc_dv, pc_lt, pc_le, pc_eq, pc_nat, pc_div, pc_emod, pc_ifz, pc_ifo, pc_zb, pd_1, pd_2, pd_3, pd_4, pd_5, pd_6, pd_7, pd_8, pd_9, pd_10, pd_11, pd_12, pd_13, pd_14, pd_15, pd_16, pd_17, pd_19, pd_21, pd_22, pd_30, pd_34, pd_57, Int.reduceEq, x_needC w, x_namesIn hn]
  · simp (disch := omega) only [-Int.reduceToNat, pc_ite, if_true, if_false, pc_bv, pc_lit, pc_neg, pc_add, pc_sub, pc_mul, pc_mr, pc_ar, pc_dv, pc_lt, pc_le, pc_eq, pc_nat, pc_div, pc_emod, pc_ifz, pc_ifo, pc_zb, pd_1, pd_2, pd_3, pd_4, pd_5, pd_6, pd_7, pd_8, pd_9, pd_10, pd_11, pd_12, pd_13, pd_14, pd_15, pd_16, pd_17, pd_19, pd_21, pd_22, pd_30, pd_34, pd_57, Int.reduceEq, x_needC w, x_depthOf w hl]
theorem m_riverAt (hs : mS s S) {c : Int} (h1 : 0 ≤ c) (h2 : c < 144) : f_X9_riverAt s (iI c) = some (iI (S (152 + c) - 1)) := by
  unfold f_X9_riverAt
  simp (disch := omega) only [-Int.reduceToNat, pc_ite, if_true, if_false, pc_bv, pc_lit, pc_neg, pc_add, pc_sub, pc_mul, pc_mr, pc_ar, pc_dv, pc_lt, pc_le, pc_eq, pc_nat, pc_div, pc_emod, pc_ifz, pc_ifo, pc_zb, pd_1, pd_2, pd_3, pd_4, pd_5, pd_6, pd_7, pd_8, pd_9, pd_10, pd_11, pd_12, pd_13, pd_14, pd_15, pd_16, pd_17, pd_19, pd_21, pd_22, pd_30, pd_34, pd_57, hs.g]
theorem m_cell (hs : mS s S) (w : wS S) {c q : Int} (g1 : 0 ≤ c) (g2 : c < S 0 * S 1) (h1 : 0 ≤ q) (h2 : q < 6) : f_X9_cell th s (iI c) (iI q) = some (if q = 4 then nm S c else iI (clN S c q), iI 0) := by
  have hN := w.N
  have hL := w.L (c := c) g1 (by omega)
  have hd := m_depthOf hs w g1 g2
  have e : q = 0 ∨ q = 1 ∨ q = 2 ∨ q = 3 ∨ q = 4 ∨ q = 5 := by omega
  have ok : (0 ≤ q ∧ q ≤ 5) := by omega
  have ok2 : (0 ≤ c ∧ c ≤ S 0 * S 1 - 1) := by omega
  unfold f_X9_cell
  simp (disch := omega) only [-Int.reduceToNat, pc_ite, if_true, if_false, pc_bv, pc_lit, pc_neg, pc_add, pc_sub, pc_mul, pc_mr, pc_ar, pc_dv, pc_lt, pc_le, pc_eq, pc_nat, pc_div, pc_emod, pc_ifz, pc_ifo, pc_zb, pd_1, pd_2, pd_3, pd_4, pd_5, pd_6, pd_7, pd_8, pd_9, pd_10, pd_11, pd_12, pd_13, pd_14, pd_15, pd_16, pd_17, pd_19, pd_21, pd_22, pd_30, pd_34, pd_57, pc_lit64, m_isInL, m_isCell hs w, m_passes, ok, ok2, and_self, decide_true, Bool.and_true]
  unfold clN
  rcases e with rfl | rfl | rfl | rfl | rfl | rfl
  · simp (disch := omega) only [-Int.reduceToNat, pc_ite, if_true, if_false, pc_bv, pc_lit, pc_neg, pc_add, pc_sub, pc_mul, pc_mr, pc_ar, pc_dv, pc_lt, pc_le, pc_eq, pc_nat, pc_div, pc_emod, pc_ifz, pc_ifo, pc_zb, pd_1, pd_2, pd_3, pd_4, pd_5, pd_6, pd_7, pd_8, pd_9, pd_10, pd_11, pd_12, pd_13, pd_14, pd_15, pd_16, pd_17, pd_19, pd_21, pd_22, pd_30, pd_34, pd_57, Int.reduceEq, m_isRiver hs w, hs.g]
    cases isV S c <;> rfl
  · simp (disch := omega) only [-Int.reduceToNat, pc_ite, if_true, if_false, pc_bv, pc_lit, pc_neg, pc_add, pc_sub, pc_mul, pc_mr, pc_ar, pc_dv, pc_lt, pc_le, pc_eq, pc_nat, pc_div, pc_emod, pc_ifz, pc_ifo, pc_zb, pd_1, pd_2, pd_3, pd_4, pd_5, pd_6, pd_7, pd_8, pd_9, pd_10, pd_11, pd_12, pd_13, pd_14, pd_15, pd_16, pd_17, pd_19, pd_21, pd_22, pd_30, pd_34, pd_57, Int.reduceEq, m_harbourAt hs w]
  · simp (disch := omega) only [-Int.reduceToNat, pc_ite, if_true, if_false, pc_bv, pc_lit, pc_neg, pc_add, pc_sub, pc_mul, pc_mr, pc_ar, pc_dv, pc_lt, pc_le, pc_eq, pc_nat, pc_div, pc_emod, pc_ifz, pc_ifo, pc_zb, pd_1, pd_2, pd_3, pd_4, pd_5, pd_6, pd_7, pd_8, pd_9, pd_10, pd_11, pd_12, pd_13, pd_14, pd_15, pd_16, pd_17, pd_19, pd_21, pd_22, pd_30, pd_34, pd_57, Int.reduceEq, m_riverAt hs]
  · simp (disch := omega) only [-Int.reduceToNat, pc_ite, if_true, if_false, pc_bv, pc_lit, pc_neg, pc_add, pc_sub, pc_mul, pc_mr, pc_ar, pc_dv, pc_lt, pc_le, pc_eq, pc_nat, pc_div, pc_emod, pc_ifz, pc_ifo, pc_zb, pd_1, pd_2, pd_3, pd_4, pd_5, pd_6, pd_7, pd_8, pd_9, pd_10, pd_11, pd_12, pd_13, pd_14, pd_15, pd_16, pd_17, pd_19, pd_21, pd_22, pd_30, pd_34, pd_57, Int.reduceEq, m_letterAt hs w]
  · simp (disch := omega) only [-Int.reduceToNat, pc_ite, if_true, if_false, pc_bv, pc_lit, pc_neg, pc_add, pc_sub, pc_mul, pc_mr, pc_ar, pc_dv, pc_lt, pc_le, pc_eq, pc_nat, pc_div, pc_emod, pc_ifz, pc_ifo, pc_zb, pd_1, pd_2, pd_3, pd_4, pd_5, pd_6, pd_7, pd_8, pd_9, pd_10, pd_11, pd_12, pd_13, pd_14, pd_15, pd_16, pd_17, pd_19, pd_21, pd_22, pd_30, pd_34, pd_57, Int.reduceEq, m_namesIn hs w]
  · simp (disch := omega) only [-Int.reduceToNat, pc_ite, if_true, if_false, pc_bv, pc_lit, pc_neg, pc_add, pc_sub, pc_mul, pc_mr, pc_ar, pc_dv, pc_lt, pc_le, pc_eq, pc_nat, pc_div, pc_emod, pc_ifz, pc_ifo, pc_zb, pd_1, pd_2, pd_3, pd_4, pd_5, pd_6, pd_7, pd_8, pd_9, pd_10, pd_11, pd_12, pd_13, pd_14, pd_15, pd_16, pd_17, pd_19, pd_21, pd_22, pd_30, pd_34, pd_57, Int.reduceEq, hd.1]
theorem m_cell1 (hs : mS s S) (w : wS S) {c q : Int} (g1 : -2147483648 ≤ c) (g2 : c < 2147483648) (h1 : -2147483648 ≤ q) (h2 : q < 2147483648) (h0 : ¬ (0 ≤ c ∧ c < S 0 * S 1)) : f_X9_cell th s (iI c) (iI q) = some (iI 0, iI 1) := by
  have ok2 : ¬ (0 ≤ c ∧ c ≤ S 0 * S 1 - 1) := by omega
  unfold f_X9_cell
  simp (disch := omega) only [-Int.reduceToNat, pc_ite, if_true, if_false, pc_bv, pc_lit, pc_neg, pc_add, pc_sub, pc_mul, pc_mr, pc_ar, pc_dv, pc_lt, pc_le, pc_eq, pc_nat, pc_div, pc_emod, pc_ifz, pc_ifo, pc_zb, pd_1, pd_2, pd_3, pd_4, pd_5, pd_6, pd_7, pd_8, pd_9, pd_10, pd_11, pd_12, pd_13, pd_14, pd_15, pd_16, pd_17, pd_19, pd_21, pd_22, pd_30, pd_34, pd_57, pc_lit64, m_isInL, m_isCell hs w, m_passes, ok2, decide_false, Bool.false_and, Bool.false_eq_true]
theorem m_cell2 (hs : mS s S) (w : wS S) {c q : Int} (g1 : 0 ≤ c) (g2 : c < S 0 * S 1) (h1 : -2147483648 ≤ q) (h2 : q < 2147483648) (h0 : ¬ (0 ≤ q ∧ q < 6)) : f_X9_cell th s (iI c) (iI q) = some (iI 0, iI 2) := by
  have hN := w.N
  have ok2 : (0 ≤ c ∧ c ≤ S 0 * S 1 - 1) := by omega
  have ok : ¬ (0 ≤ q ∧ q ≤ 5) := by omega
  unfold f_X9_cell
  simp (disch := omega) only [-Int.reduceToNat, pc_ite, if_true, if_false, pc_bv, pc_lit, pc_neg, pc_add, pc_sub, pc_mul, pc_mr, pc_ar, pc_dv, pc_lt, pc_le, pc_eq, pc_nat, pc_div, pc_emod, pc_ifz, pc_ifo, pc_zb, pd_1, pd_2, pd_3, pd_4, pd_5, pd_6, pd_7, pd_8, pd_9, pd_10, pd_11, pd_12, pd_13, pd_14, pd_15, pd_16, pd_17, pd_19, pd_21, pd_22, pd_30, pd_34, pd_57, pc_lit64, m_isInL, m_isCell hs w, m_passes, ok, ok2, and_self, decide_true, decide_false, Bool.and_false, Bool.false_eq_true]
end
