def wQ (S : Int → Int) : Prop := gD S ∧ gC S ∧ gL S ∧ gR S ∧ gH S ∧ gT S ∧ gV S
theorem wS.q {S : Int → Int} (w : wS S) : wQ S := ⟨w.1, w.2.1, w.2.2.1, w.2.2.2.1, w.2.2.2.2.1, w.2.2.2.2.2.1, w.2.2.2.2.2.2.1⟩
theorem wQ.D {S : Int → Int} (w : wQ S) : 3 ≤ S 0 ∧ S 0 ≤ 12 ∧ 3 ≤ S 1 ∧ S 1 ≤ 12 := w.1
theorem wQ.C {S : Int → Int} (w : wQ S) : 0 ≤ S 2 ∧ S 2 ≤ 8 ∧ 0 ≤ S 3 ∧ S 3 ≤ 8 ∧ 0 ≤ S 4 ∧ S 4 ≤ 16 ∧ 0 ≤ S 5 ∧ S 5 ≤ 3 ∧ 0 ≤ S 6 ∧ (S 6 < S 4 ∨ S 6 = 0) ∧ -2147483648 ≤ S 7 ∧ S 7 < 2147483648 := w.2.1
theorem wQ.L {S : Int → Int} (w : wQ S) {c : Int} (h1 : 0 ≤ c) (h2 : c < 144) : 0 ≤ S (8 + c) ∧ S (8 + c) ≤ 1 ∧ (S 0 * S 1 ≤ c → S (8 + c) = 0) := w.2.2.1 c h1 h2
theorem wQ.R {S : Int → Int} (w : wQ S) {c : Int} (h1 : 0 ≤ c) (h2 : c < 144) : 0 ≤ S (152 + c) ∧ S (152 + c) ≤ S 3 ∧ (S 0 * S 1 ≤ c → S (152 + c) = 0) ∧ 0 ≤ S (296 + c) ∧ S (296 + c) < 144 := w.2.2.2.1 c h1 h2
theorem wQ.H {S : Int → Int} (w : wQ S) {h : Int} (h1 : 0 ≤ h) (h2 : h < S 2) : 0 ≤ hv S h 0 ∧ hv S h 0 < S 0 * S 1 ∧ isL S (hv S h 0) = true ∧ 0 ≤ hv S h 1 ∧ hv S h 1 ≤ 1 ∧ -1 ≤ hv S h 2 ∧ hv S h 2 ≤ 3 ∧ 1 ≤ hv S h 3 ∧ hv S h 3 ≤ 8 := w.2.2.2.2.1 h h1 h2
theorem wQ.T {S : Int → Int} (w : wQ S) {h k : Int} (h1 : 0 ≤ h) (h2 : h < S 2) (h3 : 0 ≤ k) (h4 : k < hv S h 3) : 97 ≤ hv S h (4 + k) ∧ hv S h (4 + k) ≤ 122 := w.2.2.2.2.2.1 h k h1 h2 h3 h4
theorem wQ.V {S : Int → Int} (w : wQ S) {k : Int} (h1 : 0 ≤ k) (h2 : k < S 4) : 0 ≤ S (536 + k) ∧ S (536 + k) < S 2 := w.2.2.2.2.2.2 k h1 h2
theorem wQ.N {S : Int → Int} (w : wQ S) : 9 ≤ S 0 * S 1 ∧ S 0 * S 1 ≤ 144 := gN w.1
section
variable {s : Nat → Int32} {S : Int → Int}
theorem isP_cQ (w : wQ S) {h : Int} (h1 : 0 ≤ h) (h2 : h < S 2) (hp : isP S h = true) : 0 ≤ hv S h 2 ∧ hv S h 2 ≤ 3 := by
  have := w.H h1 h2
  unfold isP at hp
  rw [decide_eq_true_iff] at hp
  omega
theorem lIn_rgQ (w : wQ S) {h v c : Int} (h1 : 0 ≤ h) (h2 : h < S 2) : lIn S h v c = -1 ∨ (97 ≤ lIn S h v c ∧ lIn S h v c ≤ 122) := by
  unfold lIn
  by_cases z : c = -1
  · rw [if_pos z]; exact .inl rfl
  · rw [if_neg z]
    unfold lIx
    rcases fi_rg (fun k => decide (aw S (hv S h 0) v (k + 1) = c)) (hv S h 3) with e | ⟨e1, e2, e3⟩
    · rw [if_pos e]; exact .inl rfl
    · rw [if_neg (by omega)]; exact .inr (w.T h1 h2 e1 e2)
theorem lOf_rgQ (w : wQ S) {h c : Int} (h1 : 0 ≤ h) (h2 : h < S 2) : lOf S h c = -1 ∨ (97 ≤ lOf S h c ∧ lOf S h c ≤ 122) := by
  unfold lOf
  by_cases z : isP S h = true
  · rw [if_pos z]; exact lIn_rgQ w h1 h2
  · rw [if_neg z]; exact .inl rfl
theorem m_isLandQ (hs : mS s S) (w : wQ S) {c : Int} (h1 : -1 ≤ c) (h2 : c < 144) : f_X9_isLand s (iI c) = some (zB (isL S c)) := by
  have hN := w.2.2.1 c
  unfold f_X9_isLand isL
  simp (disch := omega) only [-Int.reduceToNat, pc_ite, if_true, if_false, pc_bv, pc_lit, pc_neg, pc_add, pc_sub, pc_mul, pc_mr, pc_ar, pc_dv, pc_lt, pc_le, pc_eq, pc_nat, pc_div, pc_emod, pc_ifz, pc_ifo, pc_zb, pd_1, pd_2, pd_3, pd_4, pd_5, pd_6, pd_7, pd_8, pd_9, pd_10, pd_11, pd_12, pd_13, pd_14, pd_15, pd_16, pd_17, pd_19, pd_21, pd_22, pd_30, pd_34, pd_57, hs.g]
  by_cases z : c = -1
  · subst z; rfl
  · have hN := hN (by omega) (by omega)
    simp (disch := omega) only [-Int.reduceToNat, pc_ite, if_true, if_false, pc_bv, pc_lit, pc_neg, pc_add, pc_sub, pc_mul, pc_mr, pc_ar, pc_dv, pc_lt, pc_le, pc_eq, pc_nat, pc_div, pc_emod, pc_ifz, pc_ifo, pc_zb, pd_1, pd_2, pd_3, pd_4, pd_5, pd_6, pd_7, pd_8, pd_9, pd_10, pd_11, pd_12, pd_13, pd_14, pd_15, pd_16, pd_17, pd_19, pd_21, pd_22, pd_30, pd_34, pd_57, hs.g, if_neg z]
    by_cases y : S (8 + c) = 1
    · simp [y, z, zB]
    · simp [y, z, zB]
theorem m_awayQ (hs : mS s S) (w : wQ S) {c v d : Int} (h1 : 0 ≤ c) (h2 : c < S 0 * S 1) (h3 : 0 ≤ v) (h4 : v < 4) (h5 : 0 ≤ d) (h6 : d ≤ 100) : f_X9_away s (iI c) (iI v) (iI d) = some (iI (aw S c v d)) := by
  have hN := gN w.1
  have hD := w.1
  unfold gD at hD
  have hR := g_rc w.1 h1 h2
  have e : v = 0 ∨ v = 1 ∨ v = 2 ∨ v = 3 := by omega
  unfold aw
  have fin : ∀ a b : Int, -200 ≤ a → a ≤ 200 → -200 ≤ b → b ≤ 200 → (if decide (0 ≤ a ∧ a ≤ S 0 - 1) = true then if decide (0 ≤ b ∧ b ≤ S 1 - 1) = true then some (iI (S 1 * a + b)) else some (iI (-1)) else some (iI (-1))) = some (iI (if 0 ≤ a ∧ a < S 0 ∧ 0 ≤ b ∧ b < S 1 then S 1 * a + b else -1)) := by
    intro a b g1 g2 g3 g4
    by_cases z : 0 ≤ a ∧ a ≤ S 0 - 1
    · by_cases y : 0 ≤ b ∧ b ≤ S 1 - 1
      · rw [if_pos (decide_eq_true z), if_pos (decide_eq_true y), if_pos (by omega)]
      · rw [if_pos (decide_eq_true z), if_neg (by rw [decide_eq_true_iff]; exact y), if_neg (by omega)]
    · rw [if_neg (by rw [decide_eq_true_iff]; exact z), if_neg (by omega)]
  unfold f_X9_away
  simp only [pc_bv]
  rcases e with rfl | rfl | rfl | rfl
  · simp (disch := omega) only [-Int.reduceToNat, pc_ite, if_true, if_false, pc_bv, pc_lit, pc_neg, pc_add, pc_sub, pc_mul, pc_mr, pc_ar, pc_dv, pc_lt, pc_le, pc_eq, pc_nat, pc_div, pc_emod, pc_ifz, pc_ifo, pc_zb, pd_1, pd_2, pd_3, pd_4, pd_5, pd_6, pd_7, pd_8, pd_9, pd_10, pd_11, pd_12, pd_13, pd_14, pd_15, pd_16, pd_17, pd_19, pd_21, pd_22, pd_30, pd_34, pd_57, pc_lit64, hs.g, m_isIn, if_pos, if_neg]
    refine fin _ _ ?_ ?_ ?_ ?_ <;> omega
  · simp (disch := omega) only [-Int.reduceToNat, pc_ite, if_true, if_false, pc_bv, pc_lit, pc_neg, pc_add, pc_sub, pc_mul, pc_mr, pc_ar, pc_dv, pc_lt, pc_le, pc_eq, pc_nat, pc_div, pc_emod, pc_ifz, pc_ifo, pc_zb, pd_1, pd_2, pd_3, pd_4, pd_5, pd_6, pd_7, pd_8, pd_9, pd_10, pd_11, pd_12, pd_13, pd_14, pd_15, pd_16, pd_17, pd_19, pd_21, pd_22, pd_30, pd_34, pd_57, pc_lit64, hs.g, m_isIn, if_pos, if_neg]
    refine fin _ _ ?_ ?_ ?_ ?_ <;> omega
  · simp (disch := omega) only [-Int.reduceToNat, pc_ite, if_true, if_false, pc_bv, pc_lit, pc_neg, pc_add, pc_sub, pc_mul, pc_mr, pc_ar, pc_dv, pc_lt, pc_le, pc_eq, pc_nat, pc_div, pc_emod, pc_ifz, pc_ifo, pc_zb, pd_1, pd_2, pd_3, pd_4, pd_5, pd_6, pd_7, pd_8, pd_9, pd_10, pd_11, pd_12, pd_13, pd_14, pd_15, pd_16, pd_17, pd_19, pd_21, pd_22, pd_30, pd_34, pd_57, pc_lit64, hs.g, m_isIn, if_pos, if_neg]
    refine fin _ _ ?_ ?_ ?_ ?_ <;> omega
  · simp (disch := omega) only [-Int.reduceToNat, pc_ite, if_true, if_false, pc_bv, pc_lit, pc_neg, pc_add, pc_sub, pc_mul, pc_mr, pc_ar, pc_dv, pc_lt, pc_le, pc_eq, pc_nat, pc_div, pc_emod, pc_ifz, pc_ifo, pc_zb, pd_1, pd_2, pd_3, pd_4, pd_5, pd_6, pd_7, pd_8, pd_9, pd_10, pd_11, pd_12, pd_13, pd_14, pd_15, pd_16, pd_17, pd_19, pd_21, pd_22, pd_30, pd_34, pd_57, pc_lit64, hs.g, m_isIn, if_pos, if_neg]
    refine fin _ _ ?_ ?_ ?_ ?_ <;> omega
theorem m_isPlacedQ (hs : mS s S) (w : wQ S) {h : Int} (h1 : 0 ≤ h) (h2 : h < S 2) : f_X9_isPlaced s (iI h) = some (zB (isP S h)) := by
  have hC := w.C
  have hH := w.H h1 h2
  unfold f_X9_isPlaced isP
  simp (disch := omega) only [-Int.reduceToNat, pc_ite, if_true, if_false, pc_bv, pc_lit, pc_neg, pc_add, pc_sub, pc_mul, pc_mr, pc_ar, pc_dv, pc_lt, pc_le, pc_eq, pc_nat, pc_div, pc_emod, pc_ifz, pc_ifo, pc_zb, pd_1, pd_2, pd_3, pd_4, pd_5, pd_6, pd_7, pd_8, pd_9, pd_10, pd_11, pd_12, pd_13, pd_14, pd_15, pd_16, pd_17, pd_19, pd_21, pd_22, pd_30, pd_34, pd_57, m_of hs]
  by_cases z : hv S h 2 = -1
  · simp [z, zB]
  · simp [z, zB]
theorem m_letterInQ (hs : mS s S) (w : wQ S) {h v c : Int} (h1 : 0 ≤ h) (h2 : h < S 2) (h3 : 0 ≤ v) (h4 : v < 4) (h5 : -1 ≤ c) (h6 : c < 144) : f_X9_letterIn s (iI h) (iI v) (iI c) = some (iI (lIn S h v c)) := by
  have hC := w.C
  have hN := w.N
  have hH := w.H h1 h2
  unfold f_X9_letterIn
  simp only [pc_bv]
  by_cases z : c = -1
  · refine (pc_srch (fun _ => true) (fun _ => iI (-1)) (iI (-1)) (hv S h 3) (by omega) rfl (fun i a1 a2 a3 => ?_) (fun i a1 a2 a3 => by cases a3) ?_).trans ?_
    · simp (disch := omega) only [-Int.reduceToNat, pc_ite, if_true, if_false, pc_bv, pc_lit, pc_neg, pc_add, pc_sub, pc_mul, pc_mr, pc_ar, pc_dv, pc_lt, pc_le, pc_eq, pc_nat, pc_div, pc_emod, pc_ifz, pc_ifo, pc_zb, pd_1, pd_2, pd_3, pd_4, pd_5, pd_6, pd_7, pd_8, pd_9, pd_10, pd_11, pd_12, pd_13, pd_14, pd_15, pd_16, pd_17, pd_19, pd_21, pd_22, pd_30, pd_34, pd_57, m_of hs, if_neg, if_pos z]
    · simp (disch := omega) only [-Int.reduceToNat, pc_ite, if_true, if_false, pc_bv, pc_lit, pc_neg, pc_add, pc_sub, pc_mul, pc_mr, pc_ar, pc_dv, pc_lt, pc_le, pc_eq, pc_nat, pc_div, pc_emod, pc_ifz, pc_ifo, pc_zb, pd_1, pd_2, pd_3, pd_4, pd_5, pd_6, pd_7, pd_8, pd_9, pd_10, pd_11, pd_12, pd_13, pd_14, pd_15, pd_16, pd_17, pd_19, pd_21, pd_22, pd_30, pd_34, pd_57, m_of hs, if_pos]
    · unfold lIn
      rw [if_pos z, ite_self]
  · refine (pc_srch (fun k => decide (aw S (hv S h 0) v (k + 1) = c)) (fun k => iI (hv S h (4 + k))) (iI (-1)) (hv S h 3) (by omega) rfl (fun i a1 a2 a3 => ?_) (fun i a1 a2 a3 => ?_) ?_).trans ?_
    · have hA := g_aw w.1 (hv S h 0) v (i + 1)
      rw [decide_eq_true_iff] at a3
      simp (disch := omega) only [-Int.reduceToNat, pc_ite, if_true, if_false, pc_bv, pc_lit, pc_neg, pc_add, pc_sub, pc_mul, pc_mr, pc_ar, pc_dv, pc_lt, pc_le, pc_eq, pc_nat, pc_div, pc_emod, pc_ifz, pc_ifo, pc_zb, pd_1, pd_2, pd_3, pd_4, pd_5, pd_6, pd_7, pd_8, pd_9, pd_10, pd_11, pd_12, pd_13, pd_14, pd_15, pd_16, pd_17, pd_19, pd_21, pd_22, pd_30, pd_34, pd_57, m_of hs, m_awayQ hs w, if_neg, if_neg z, if_pos a3]
    · have hA := g_aw w.1 (hv S h 0) v (i + 1)
      rw [decide_eq_false_iff_not] at a3
      simp (disch := omega) only [-Int.reduceToNat, pc_ite, if_true, if_false, pc_bv, pc_lit, pc_neg, pc_add, pc_sub, pc_mul, pc_mr, pc_ar, pc_dv, pc_lt, pc_le, pc_eq, pc_nat, pc_div, pc_emod, pc_ifz, pc_ifo, pc_zb, pd_1, pd_2, pd_3, pd_4, pd_5, pd_6, pd_7, pd_8, pd_9, pd_10, pd_11, pd_12, pd_13, pd_14, pd_15, pd_16, pd_17, pd_19, pd_21, pd_22, pd_30, pd_34, pd_57, m_of hs, m_awayQ hs w, if_neg, if_neg z, if_neg a3]
    · simp (disch := omega) only [-Int.reduceToNat, pc_ite, if_true, if_false, pc_bv, pc_lit, pc_neg, pc_add, pc_sub, pc_mul, pc_mr, pc_ar, pc_dv, pc_lt, pc_le, pc_eq, pc_nat, pc_div, pc_emod, pc_ifz, pc_ifo, pc_zb, pd_1, pd_2, pd_3, pd_4, pd_5, pd_6, pd_7, pd_8, pd_9, pd_10, pd_11, pd_12, pd_13, pd_14, pd_15, pd_16, pd_17, pd_19, pd_21, pd_22, pd_30, pd_34, pd_57, m_of hs, if_pos]
    · unfold lIn
      rw [if_neg z, show fi _ _ = lIx S h v c from rfl]
      by_cases y : lIx S h v c = -1
      · rw [if_pos y, if_pos y]
      · rw [if_neg y, if_neg y]
theorem m_letterOfQ (hs : mS s S) (w : wQ S) {h c : Int} (h1 : 0 ≤ h) (h2 : h < S 2) (h5 : -1 ≤ c) (h6 : c < 144) : f_X9_letterOf s (iI h) (iI c) = some (iI (lOf S h c)) := by
  have hC := w.C
  have hH := w.H h1 h2
  unfold f_X9_letterOf lOf
  simp (disch := omega) only [-Int.reduceToNat, pc_ite, if_true, if_false, pc_bv, pc_lit, pc_neg, pc_add, pc_sub, pc_mul, pc_mr, pc_ar, pc_dv, pc_lt, pc_le, pc_eq, pc_nat, pc_div, pc_emod, pc_ifz, pc_ifo, pc_zb, pd_1, pd_2, pd_3, pd_4, pd_5, pd_6, pd_7, pd_8, pd_9, pd_10, pd_11, pd_12, pd_13, pd_14, pd_15, pd_16, pd_17, pd_19, pd_21, pd_22, pd_30, pd_34, pd_57, m_isPlacedQ hs w]
  by_cases z : isP S h = true
  · have hp := isP_cQ w h1 h2 z
    simp (disch := omega) only [-Int.reduceToNat, pc_ite, if_true, if_false, pc_bv, pc_lit, pc_neg, pc_add, pc_sub, pc_mul, pc_mr, pc_ar, pc_dv, pc_lt, pc_le, pc_eq, pc_nat, pc_div, pc_emod, pc_ifz, pc_ifo, pc_zb, pd_1, pd_2, pd_3, pd_4, pd_5, pd_6, pd_7, pd_8, pd_9, pd_10, pd_11, pd_12, pd_13, pd_14, pd_15, pd_16, pd_17, pd_19, pd_21, pd_22, pd_30, pd_34, pd_57, m_of hs, m_letterInQ hs w, if_pos z]
  · rw [if_neg z, if_neg z]
theorem m_isCoastQ (hs : mS s S) (w : wQ S) {c : Int} (h5 : 0 ≤ c) (h6 : c < S 0 * S 1) : f_X9_isCoast s (iI c) = some (zB (coB S c)) := by
  have hN := w.N
  unfold f_X9_isCoast coB
  simp (disch := omega) only [-Int.reduceToNat, pc_ite, if_true, if_false, pc_bv, pc_lit, pc_neg, pc_add, pc_sub, pc_mul, pc_mr, pc_ar, pc_dv, pc_lt, pc_le, pc_eq, pc_nat, pc_div, pc_emod, pc_ifz, pc_ifo, pc_zb, pd_1, pd_2, pd_3, pd_4, pd_5, pd_6, pd_7, pd_8, pd_9, pd_10, pd_11, pd_12, pd_13, pd_14, pd_15, pd_16, pd_17, pd_19, pd_21, pd_22, pd_30, pd_34, pd_57, m_isLandQ hs w]
  cases e1 : isL S c
  · rfl
  · rw [if_pos rfl]
    refine pc_b1t (pc_any (fun w => !isL S (aw S c w 1)) zB 4 (by omega) rfl rfl (fun i a1 a2 => ?_) (fun i a1 a2 => ?_) (fun b => ?_)) ?_
    · simp (disch := omega) only [-Int.reduceToNat, pc_ite, if_true, if_false, pc_bv, pc_lit, pc_neg, pc_add, pc_sub, pc_mul, pc_mr, pc_ar, pc_dv, pc_lt, pc_le, pc_eq, pc_nat, pc_div, pc_emod, pc_ifz, pc_ifo, pc_zb, pd_1, pd_2, pd_3, pd_4, pd_5, pd_6, pd_7, pd_8, pd_9, pd_10, pd_11, pd_12, pd_13, pd_14, pd_15, pd_16, pd_17, pd_19, pd_21, pd_22, pd_30, pd_34, pd_57, if_neg]
    · have hA := g_aw w.1 c i 1
      simp (disch := omega) only [-Int.reduceToNat, pc_ite, if_true, if_false, pc_bv, pc_lit, pc_neg, pc_add, pc_sub, pc_mul, pc_mr, pc_ar, pc_dv, pc_lt, pc_le, pc_eq, pc_nat, pc_div, pc_emod, pc_ifz, pc_ifo, pc_zb, pd_1, pd_2, pd_3, pd_4, pd_5, pd_6, pd_7, pd_8, pd_9, pd_10, pd_11, pd_12, pd_13, pd_14, pd_15, pd_16, pd_17, pd_19, pd_21, pd_22, pd_30, pd_34, pd_57, if_neg, m_awayQ hs w, m_isLandQ hs w, if_pos]
      cases isL S (aw S c i 1) <;> rfl
    · simp (disch := omega) only [-Int.reduceToNat, pc_ite, if_true, if_false, pc_bv, pc_lit, pc_neg, pc_add, pc_sub, pc_mul, pc_mr, pc_ar, pc_dv, pc_lt, pc_le, pc_eq, pc_nat, pc_div, pc_emod, pc_ifz, pc_ifo, pc_zb, pd_1, pd_2, pd_3, pd_4, pd_5, pd_6, pd_7, pd_8, pd_9, pd_10, pd_11, pd_12, pd_13, pd_14, pd_15, pd_16, pd_17, pd_19, pd_21, pd_22, pd_30, pd_34, pd_57, if_pos]
    · rw [pc_zb]; rfl
theorem m_doCrossQ (hs : mS s S) (w : wQ S) {a b : Int} (h1 : 0 ≤ a) (h2 : a < S 2) (g1 : 0 ≤ b) (g2 : b < S 2) : f_X9_doCross s (iI a) (iI b) = some (zB (dxB S a b)) := by
  have hC := w.C
  have hN := w.N
  have hH := w.H h1 h2
  unfold f_X9_doCross dxB
  simp only [pc_bv]
  cases e : isP S a
  · refine pc_b1t (pc_run2 (fun _ => iI 0) (fun _ => iI 0) 0 rfl rfl (fun i h => by omega) (r := iI 0) ?_) rfl
    simp (disch := omega) only [-Int.reduceToNat, pc_ite, if_true, if_false, pc_bv, pc_lit, pc_neg, pc_add, pc_sub, pc_mul, pc_mr, pc_ar, pc_dv, pc_lt, pc_le, pc_eq, pc_nat, pc_div, pc_emod, pc_ifz, pc_ifo, pc_zb, pd_1, pd_2, pd_3, pd_4, pd_5, pd_6, pd_7, pd_8, pd_9, pd_10, pd_11, pd_12, pd_13, pd_14, pd_15, pd_16, pd_17, pd_19, pd_21, pd_22, pd_30, pd_34, pd_57, m_of hs, m_isPlacedQ hs w, e, if_neg]
    rfl
  · have hp := isP_cQ w h1 h2 e
    refine pc_b1t (pc_any (fun k => decide (lOf S b (aw S (hv S a 0) (hv S a 2) (k + 1)) ≠ -1)) zB (hv S a 3) (by omega) rfl rfl (fun i a1 a2 => ?_) (fun i a1 a2 => ?_) (fun x => ?_)) (by rw [pc_zb]; rfl)
    · simp (disch := omega) only [-Int.reduceToNat, pc_ite, if_true, if_false, pc_bv, pc_lit, pc_neg, pc_add, pc_sub, pc_mul, pc_mr, pc_ar, pc_dv, pc_lt, pc_le, pc_eq, pc_nat, pc_div, pc_emod, pc_ifz, pc_ifo, pc_zb, pd_1, pd_2, pd_3, pd_4, pd_5, pd_6, pd_7, pd_8, pd_9, pd_10, pd_11, pd_12, pd_13, pd_14, pd_15, pd_16, pd_17, pd_19, pd_21, pd_22, pd_30, pd_34, pd_57, m_of hs, m_isPlacedQ hs w, e, if_neg]
    · have hA := g_aw w.1 (hv S a 0) (hv S a 2) (i + 1)
      have hl := lOf_rgQ w (c := aw S (hv S a 0) (hv S a 2) (i + 1)) g1 g2
      simp (disch := omega) only [-Int.reduceToNat, pc_ite, if_true, if_false, pc_bv, pc_lit, pc_neg, pc_add, pc_sub, pc_mul, pc_mr, pc_ar, pc_dv, pc_lt, pc_le, pc_eq, pc_nat, pc_div, pc_emod, pc_ifz, pc_ifo, pc_zb, pd_1, pd_2, pd_3, pd_4, pd_5, pd_6, pd_7, pd_8, pd_9, pd_10, pd_11, pd_12, pd_13, pd_14, pd_15, pd_16, pd_17, pd_19, pd_21, pd_22, pd_30, pd_34, pd_57, m_of hs, m_isPlacedQ hs w, e, if_neg, m_awayQ hs w, m_letterOfQ hs w]
      by_cases z : lOf S b (aw S (hv S a 0) (hv S a 2) (i + 1)) = -1 <;> simp [z, zB]
    · simp (disch := omega) only [-Int.reduceToNat, pc_ite, if_true, if_false, pc_bv, pc_lit, pc_neg, pc_add, pc_sub, pc_mul, pc_mr, pc_ar, pc_dv, pc_lt, pc_le, pc_eq, pc_nat, pc_div, pc_emod, pc_ifz, pc_ifo, pc_zb, pd_1, pd_2, pd_3, pd_4, pd_5, pd_6, pd_7, pd_8, pd_9, pd_10, pd_11, pd_12, pd_13, pd_14, pd_15, pd_16, pd_17, pd_19, pd_21, pd_22, pd_30, pd_34, pd_57, m_of hs, if_pos]
theorem m_crossedByQ (hs : mS s S) (w : wQ S) {a : Int} (h1 : 0 ≤ a) (h2 : a < S 2) : f_X9_crossedBy s (iI a) = some (xs8 S a) := by
  have hC := w.C
  unfold f_X9_crossedBy
  simp only [pc_bv]
  refine pc_b1t (pc_fold id (fun h b => if (decide (h ≠ a) && dxB S a h) = true then b ||| sB h else b) (fun _ _ => True) id (S 2) (by omega) (b0 := iI 0) rfl rfl trivial (fun i b a1 a2 _ => ⟨?_, trivial⟩) (fun b _ => ?_)).1 rfl
  · simp (disch := omega) only [-Int.reduceToNat, pc_ite, if_true, if_false, pc_bv, pc_lit, pc_neg, pc_add, pc_sub, pc_mul, pc_mr, pc_ar, pc_dv, pc_lt, pc_le, pc_eq, pc_nat, pc_div, pc_emod, pc_ifz, pc_ifo, pc_zb, pd_1, pd_2, pd_3, pd_4, pd_5, pd_6, pd_7, pd_8, pd_9, pd_10, pd_11, pd_12, pd_13, pd_14, pd_15, pd_16, pd_17, pd_19, pd_21, pd_22, pd_30, pd_34, pd_57, hs.g, m_doCrossQ hs w, if_neg, pc_sB, pc_or0, id]
    by_cases z : i = a <;> cases dxB S a i <;> simp [z]
  · simp (disch := omega) only [-Int.reduceToNat, pc_ite, if_true, if_false, pc_bv, pc_lit, pc_neg, pc_add, pc_sub, pc_mul, pc_mr, pc_ar, pc_dv, pc_lt, pc_le, pc_eq, pc_nat, pc_div, pc_emod, pc_ifz, pc_ifo, pc_zb, pd_1, pd_2, pd_3, pd_4, pd_5, pd_6, pd_7, pd_8, pd_9, pd_10, pd_11, pd_12, pd_13, pd_14, pd_15, pd_16, pd_17, pd_19, pd_21, pd_22, pd_30, pd_34, pd_57, hs.g, if_pos]
end
theorem wy_wr {S D : Int → Int} {j v : Int} (h : j < 442 ∨ (j - 442) % 12 ≠ 0) (h2 : j ≠ 2) : wyS (wr1 S j v) D = wr1 (wyS S D) j v := by
  have e : wr1 S j v 2 = S 2 := wr1_no (by omega)
  funext k
  by_cases z : 442 ≤ k ∧ k < 442 + 12 * S 2 ∧ (k - 442) % 12 = 0
  · have a : wyS (wr1 S j v) D k = D ((k - 442) / 12) := by unfold wyS; rw [e, if_pos z]
    rw [a, wr1_no (by omega)]
    unfold wyS; rw [if_pos z]
  · have a : wyS (wr1 S j v) D k = wr1 S j v k := by unfold wyS; rw [e, if_neg z]
    rw [a]
    by_cases y : k = j
    · rw [y, wr1_at, wr1_at]
    · rw [wr1_no y, wr1_no y]; unfold wyS; rw [if_neg z]
section
variable {s : Nat → Int32} {S : Int → Int}
theorem m_put2Q (hs : mS s S) (w2 : S 2 ≤ 8) {h v : Int} (h1 : 0 ≤ h) (h2 : h < S 2) : mS (upd s (440 + 12 * h + 2).toNat (iI v)) (wyS S (pt1 S h v)) := by
  intro k k1 k2
  rw [upd_at]
  unfold wyS pt1
  by_cases z : k = 440 + 12 * h + 2
  · rw [if_pos (by omega), if_pos (by omega), if_pos (by omega)]
  · rw [if_neg (by omega), hs k k1 k2]
    by_cases y : 442 ≤ k ∧ k < 442 + 12 * S 2 ∧ (k - 442) % 12 = 0
    · rw [if_pos y, if_neg (by omega)]
      unfold hv
      congr 2; omega
    · rw [if_neg y]
theorem pc_e1s {α β γ : Type} {o : Option α} {Q : α → Prop} {k : α → Option (β × γ)} {x : β} {R : γ → Prop} (h : ∃ r, o = some r ∧ Q r) (e : ∀ a, Q a → ∃ y, k a = some (x, y) ∧ R y) : ∃ y, bd1 o k = some (x, y) ∧ R y := by
  obtain ⟨a, h1, h2⟩ := h
  obtain ⟨y, h3, h4⟩ := e a h2
  exact ⟨y, by rw [h1, pd_1, h3], h4⟩
theorem m_liftsQ (hs : mS s S) (w0 : 0 ≤ S 2) (w2 : S 2 ≤ 8) (m : Int32) : ∃ s', f_X9_lifts s m = some (iI (oc m), s') ∧ mS s' (wyS S (lfM S m)) := by
  unfold f_X9_lifts
  simp only [pc_bv]
  refine pc_e1s (Q := fun s' => mS s' (wyS S (lfM S m))) (pc_iv2 (fun i y => mS y (wyS S (fun g => if g < i ∧ bt m g = true then -1 else hv S g 2))) _ (S 2) (by omega) (by omega) rfl ?_ (fun i b a1 a2 hb => ?_) (fun b hb => ?_)) (fun a ha => ?_)
  · rw [wy_congr (E := fun g => hv S g 2) (fun g g1 g2 => if_neg (by omega)), wy_id]; exact hs
  · have e2 := hb 2 (by omega) (by omega)
    rw [wy_2] at e2
    have e4 : b (2 : Int).toNat = iI (S 2) := e2
    have p2 := m_put2Q (v := -1) hb (by rw [wy_2]; exact w2) a1 (by rw [wy_2]; exact a2)
    have p3 := m_puts (x := -1) hb a1 (by omega) (by omega : (0 : Int) ≤ 2) (by omega : (2 : Int) < 12)
    have tb := pc_bt (m := m) a1 (by omega : i < 32)
    rw [wy_wy] at p2
    cases q : bt m i
    · refine ⟨b, ?_, ?_⟩
      · simp (disch := omega) only [-Int.reduceToNat, pc_ite, if_true, if_false, pc_bv, pc_lit, pc_neg, pc_add, pc_sub, pc_mul, pc_mr, pc_ar, pc_dv, pc_lt, pc_le, pc_eq, pc_nat, pc_div, pc_emod, pc_ifz, pc_ifo, pc_zb, pd_1, pd_2, pd_3, pd_4, pd_5, pd_6, pd_7, pd_8, pd_9, pd_10, pd_11, pd_12, pd_13, pd_14, pd_15, pd_16, pd_17, pd_19, pd_21, pd_22, pd_30, pd_34, pd_57, e4, if_neg, tb, q, Bool.false_eq_true]
      · rw [wy_congr (E := fun g => if g < i ∧ bt m g = true then -1 else hv S g 2)]
        · exact hb
        · intro g g1 g2
          by_cases y : g = i
          · subst y; rw [if_neg (by simp [q]), if_neg (by simp [q])]
          · by_cases y2 : g < i ∧ bt m g = true
            · rw [if_pos y2, if_pos ⟨by omega, y2.2⟩]
            · rw [if_neg y2, if_neg (fun t => y2 ⟨by omega, t.2⟩)]
    · refine ⟨upd b (440 + 12 * i + 2).toNat (iI (-1)), ?_, ?_⟩
      · simp (disch := omega) only [-Int.reduceToNat, pc_ite, if_true, if_false, pc_bv, pc_lit, pc_neg, pc_add, pc_sub, pc_mul, pc_mr, pc_ar, pc_dv, pc_lt, pc_le, pc_eq, pc_nat, pc_div, pc_emod, pc_ifz, pc_ifo, pc_zb, pd_1, pd_2, pd_3, pd_4, pd_5, pd_6, pd_7, pd_8, pd_9, pd_10, pd_11, pd_12, pd_13, pd_14, pd_15, pd_16, pd_17, pd_19, pd_21, pd_22, pd_30, pd_34, pd_57, e4, if_neg, tb, q, p3]
      · rw [wy_congr (E := fun g => if g < i + 1 ∧ bt m g = true then -1 else hv S g 2)] at p2
        · exact p2
        · intro g g1 g2
          unfold pt1
          by_cases y : g = i
          · subst y; rw [if_pos rfl, if_pos ⟨by omega, q⟩]
          · rw [if_neg y, wy_hv g1 g2]
            by_cases y2 : g < i ∧ bt m g = true
            · rw [if_pos y2, if_pos ⟨by omega, y2.2⟩]
            · rw [if_neg y2, if_neg (fun t => y2 ⟨by omega, t.2⟩)]
  · have e2 := hb 2 (by omega) (by omega)
    rw [wy_2] at e2
    have e4 : b (2 : Int).toNat = iI (S 2) := e2
    refine ⟨b, ?_, ?_⟩
    · simp (disch := omega) only [-Int.reduceToNat, pc_ite, if_true, if_false, pc_bv, pc_lit, pc_neg, pc_add, pc_sub, pc_mul, pc_mr, pc_ar, pc_dv, pc_lt, pc_le, pc_eq, pc_nat, pc_div, pc_emod, pc_ifz, pc_ifo, pc_zb, pd_1, pd_2, pd_3, pd_4, pd_5, pd_6, pd_7, pd_8, pd_9, pd_10, pd_11, pd_12, pd_13, pd_14, pd_15, pd_16, pd_17, pd_19, pd_21, pd_22, pd_30, pd_34, pd_57, e4, if_pos]
    · rw [wy_congr (E := lfM S m)] at hb
      · exact hb
      · intro g g1 g2
        unfold lfM
        by_cases y : bt m g = true
        · rw [if_pos ⟨g2, y⟩, if_pos y]
        · rw [if_neg (fun q => y q.2), if_neg y]
  · exact ⟨a, by rw [m_ones, pd_1], ha⟩
theorem ag_mono {a v b u : Int} {r q r' q' : Bool} (hr : r' = true → r = true) (hq : q' = true → q = true) (h : ag S a v r b u q = false) : ag S a v r' b u q' = false := by
  unfold ag at h ⊢
  rw [an_false] at h ⊢
  intro k k1 k2
  have := h k k1 k2
  unfold agP at this ⊢
  revert hr hq this
  generalize decide (lIn S b u (aw S (hv S a 0) v (k + 1)) ≠ -1) = A
  generalize decide (lIn S b u (aw S (hv S a 0) v (k + 1)) ≠ hv S a (4 + k)) = B
  cases r <;> cases q <;> cases r' <;> cases q' <;> cases A <;> cases B <;> simp
end
