theorem mS.g {s : Nat → Int32} {S : Int → Int} (h : mS s S) {k : Int} (h1 : 0 ≤ k) (h2 : k < 552) : s k.toNat = iI (S k) := h k h1 h2
theorem i64 {a : Int} (h1 : -2147483648 ≤ a) (h2 : a < 2147483648) : (iI a).toInt64 = jI a := by
  rw [← Int64.toInt_inj]
  show (iI a).toInt64.toInt = (Int64.ofInt a).toInt
  rw [Int32.toInt_toInt64, pc_toInt h1 h2, Int64.toInt_ofInt_of_le (by omega) (by omega)]
theorem j_lt {a b : Int} (h1 : -2147483649 ≤ a) (h2 : a ≤ 2147483648) (h3 : -2147483649 ≤ b) (h4 : b ≤ 2147483648) : (jI a < jI b) = (a < b) := by
  rw [Int64.lt_iff_toInt_lt]
  show ((Int64.ofInt a).toInt < (Int64.ofInt b).toInt) = _
  rw [Int64.toInt_ofInt_of_le (by omega) (by omega), Int64.toInt_ofInt_of_le (by omega) (by omega)]
theorem lg_lt {x y : Int64} : (lg_cmp x y < 0) = (x < y) := by
  unfold lg_cmp
  by_cases h : x > y
  · rw [if_pos h]
    have h2 : ¬ x < y := by have := Int64.lt_iff_toInt_lt.mp h; intro z; have := Int64.lt_iff_toInt_lt.mp z; omega
    simp only [h2]; decide
  · rw [if_neg h]
    by_cases e : x = y
    · rw [if_pos e]
      have h2 : ¬ x < y := by subst e; exact h
      simp only [h2]; decide
    · rw [if_neg e]
      have h2 : x < y := by
        rw [Int64.lt_iff_toInt_lt]
        have h3 : ¬ y.toInt < x.toInt := fun z => h (Int64.lt_iff_toInt_lt.mpr z)
        have h4 : ¬ x.toInt = y.toInt := fun z => e (Int64.toInt_inj.mp z)
        omega
      simp only [h2]; decide
theorem lg_gt {x y : Int64} : (0 < lg_cmp x y) = (y < x) := by
  unfold lg_cmp
  by_cases h : x > y
  · rw [if_pos h]
    have h2 : y < x := h
    simp only [h2]; decide
  · rw [if_neg h]
    have h2 : ¬ y < x := h
    simp only [h2]
    by_cases e : x = y
    · rw [if_pos e]; decide
    · rw [if_neg e]; decide
theorem m_isIn {a b c : Int} (h1 : -2147483648 ≤ a) (h2 : a < 2147483648) (h3 : -2147483648 ≤ b) (h4 : b < 2147483648) (h5 : -2147483648 ≤ c) (h6 : c < 2147483648) : f_X9_isIn (iI a).toInt64 (jI b) (iI c).toInt64 = some (zB (decide (b ≤ a ∧ a ≤ c))) := by
  rw [i64 h1 h2, i64 h5 h6]
  unfold f_X9_isIn
  simp only [pc_bv, lg_lt, lg_gt]
  simp (disch := omega) only [j_lt]
  by_cases z : a < b
  · rw [if_pos z]; have : ¬ (b ≤ a ∧ a ≤ c) := by omega
    simp only [this]; rfl
  · rw [if_neg z]
    by_cases y : c < a
    · rw [if_pos y]; have : ¬ (b ≤ a ∧ a ≤ c) := by omega
      simp only [this]; rfl
    · rw [if_neg y]; have : (b ≤ a ∧ a ≤ c) := by omega
      simp only [this]; rfl
theorem m_isInL {a : Int} {b c : Int} (h1 : -2147483648 ≤ a) (h2 : a < 2147483648) (h3 : -2147483648 ≤ b) (h4 : b < 2147483648) (h5 : -2147483648 ≤ c) (h6 : c < 2147483648) : f_X9_isIn (iI a).toInt64 (jI b) (jI c) = some (zB (decide (b ≤ a ∧ a ≤ c))) := by
  rw [← i64 h5 h6]; exact m_isIn h1 h2 h3 h4 h5 h6
section
variable {s : Nat → Int32} {S : Int → Int}
theorem m_cells (hs : mS s S) : f_X9_cells s = some (iI (S 0 * S 1)) := by
  unfold f_X9_cells
  simp (disch := omega) only [-Int.reduceToNat, pc_ite, if_true, if_false, pc_bv, pc_lit, pc_neg, pc_add, pc_sub, pc_mul, pc_mr, pc_ar, pc_dv, pc_lt, pc_le, pc_eq, pc_nat, pc_div, pc_emod, pc_ifz, pc_ifo, pc_zb, pc_bd1, pc_bd2, pc_bd3, pc_bd4, pc_bd5, pc_bd6, pc_bd7, pc_bd8, pc_bd9, pc_bd10, pc_bd11, pc_bd12, pc_bd13, pc_bd14, pc_bd15, pc_bd16, pc_bd17, pc_bd19, pc_bd21, pc_bd22, pc_bd30, pc_bd34, pc_bd57, hs.g]
theorem m_of (hs : mS s S) {h v : Int} (h1 : 0 ≤ h) (h2 : h < 8) (h3 : 0 ≤ v) (h4 : v < 12) : f_X9_of s (iI h) (iI v) = some (iI (hv S h v)) := by
  unfold f_X9_of
  simp (disch := omega) only [-Int.reduceToNat, pc_ite, if_true, if_false, pc_bv, pc_lit, pc_neg, pc_add, pc_sub, pc_mul, pc_mr, pc_ar, pc_dv, pc_lt, pc_le, pc_eq, pc_nat, pc_div, pc_emod, pc_ifz, pc_ifo, pc_zb, pc_bd1, pc_bd2, pc_bd3, pc_bd4, pc_bd5, pc_bd6, pc_bd7, pc_bd8, pc_bd9, pc_bd10, pc_bd11, pc_bd12, pc_bd13, pc_bd14, pc_bd15, pc_bd16, pc_bd17, pc_bd19, pc_bd21, pc_bd22, pc_bd30, pc_bd34, pc_bd57, hs.g, hv]
theorem m_isCell (hs : mS s S) (w : wS S) {c : Int} (h1 : -2147483648 ≤ c) (h2 : c < 2147483648) : f_X9_isCell s (iI c) = some (zB (decide (0 ≤ c ∧ c ≤ S 0 * S 1 - 1))) := by
  have hN := gN w.1
  unfold f_X9_isCell
  simp (disch := omega) only [-Int.reduceToNat, pc_ite, if_true, if_false, pc_bv, pc_lit, pc_neg, pc_add, pc_sub, pc_mul, pc_mr, pc_ar, pc_dv, pc_lt, pc_le, pc_eq, pc_nat, pc_div, pc_emod, pc_ifz, pc_ifo, pc_zb, pc_bd1, pc_bd2, pc_bd3, pc_bd4, pc_bd5, pc_bd6, pc_bd7, pc_bd8, pc_bd9, pc_bd10, pc_bd11, pc_bd12, pc_bd13, pc_bd14, pc_bd15, pc_bd16, pc_bd17, pc_bd19, pc_bd21, pc_bd22, pc_bd30, pc_bd34, pc_bd57, pc_lit64, hs.g, m_isIn, m_cells hs]
theorem m_isHarbour (hs : mS s S) (w : wS S) {c : Int} (h1 : -2147483648 ≤ c) (h2 : c < 2147483648) : f_X9_isHarbour s (iI c) = some (zB (decide (0 ≤ c ∧ c ≤ S 2 - 1))) := by
  have hN := w.2.1
  unfold gC at hN
  unfold f_X9_isHarbour
  simp (disch := omega) only [-Int.reduceToNat, pc_ite, if_true, if_false, pc_bv, pc_lit, pc_neg, pc_add, pc_sub, pc_mul, pc_mr, pc_ar, pc_dv, pc_lt, pc_le, pc_eq, pc_nat, pc_div, pc_emod, pc_ifz, pc_ifo, pc_zb, pc_bd1, pc_bd2, pc_bd3, pc_bd4, pc_bd5, pc_bd6, pc_bd7, pc_bd8, pc_bd9, pc_bd10, pc_bd11, pc_bd12, pc_bd13, pc_bd14, pc_bd15, pc_bd16, pc_bd17, pc_bd19, pc_bd21, pc_bd22, pc_bd30, pc_bd34, pc_bd57, pc_lit64, hs.g, m_isIn]
theorem m_isLand (hs : mS s S) (w : wS S) {c : Int} (h1 : -1 ≤ c) (h2 : c < 144) : f_X9_isLand s (iI c) = some (zB (isL S c)) := by
  have hN := w.2.2.1 c
  unfold f_X9_isLand isL
  simp (disch := omega) only [-Int.reduceToNat, pc_ite, if_true, if_false, pc_bv, pc_lit, pc_neg, pc_add, pc_sub, pc_mul, pc_mr, pc_ar, pc_dv, pc_lt, pc_le, pc_eq, pc_nat, pc_div, pc_emod, pc_ifz, pc_ifo, pc_zb, pc_bd1, pc_bd2, pc_bd3, pc_bd4, pc_bd5, pc_bd6, pc_bd7, pc_bd8, pc_bd9, pc_bd10, pc_bd11, pc_bd12, pc_bd13, pc_bd14, pc_bd15, pc_bd16, pc_bd17, pc_bd19, pc_bd21, pc_bd22, pc_bd30, pc_bd34, pc_bd57, hs.g]
  by_cases z : c = -1
  · subst z; rfl
  · have hN := hN (by omega) (by omega)
    simp (disch := omega) only [-Int.reduceToNat, pc_ite, if_true, if_false, pc_bv, pc_lit, pc_neg, pc_add, pc_sub, pc_mul, pc_mr, pc_ar, pc_dv, pc_lt, pc_le, pc_eq, pc_nat, pc_div, pc_emod, pc_ifz, pc_ifo, pc_zb, pc_bd1, pc_bd2, pc_bd3, pc_bd4, pc_bd5, pc_bd6, pc_bd7, pc_bd8, pc_bd9, pc_bd10, pc_bd11, pc_bd12, pc_bd13, pc_bd14, pc_bd15, pc_bd16, pc_bd17, pc_bd19, pc_bd21, pc_bd22, pc_bd30, pc_bd34, pc_bd57, hs.g, if_neg z]
    by_cases y : S (8 + c) = 1
    · simp [y, z, zB]
    · simp [y, z, zB]
theorem m_isRiver (hs : mS s S) (w : wS S) {c : Int} (h1 : -1 ≤ c) (h2 : c < 144) : f_X9_isRiver s (iI c) = some (zB (isV S c)) := by
  have hN := w.2.2.2.1 c
  have hC := w.2.1
  unfold gC at hC
  unfold f_X9_isRiver isV
  simp (disch := omega) only [-Int.reduceToNat, pc_ite, if_true, if_false, pc_bv, pc_lit, pc_neg, pc_add, pc_sub, pc_mul, pc_mr, pc_ar, pc_dv, pc_lt, pc_le, pc_eq, pc_nat, pc_div, pc_emod, pc_ifz, pc_ifo, pc_zb, pc_bd1, pc_bd2, pc_bd3, pc_bd4, pc_bd5, pc_bd6, pc_bd7, pc_bd8, pc_bd9, pc_bd10, pc_bd11, pc_bd12, pc_bd13, pc_bd14, pc_bd15, pc_bd16, pc_bd17, pc_bd19, pc_bd21, pc_bd22, pc_bd30, pc_bd34, pc_bd57, hs.g]
  by_cases z : c = -1
  · subst z; rfl
  · have hN := hN (by omega) (by omega)
    simp (disch := omega) only [-Int.reduceToNat, pc_ite, if_true, if_false, pc_bv, pc_lit, pc_neg, pc_add, pc_sub, pc_mul, pc_mr, pc_ar, pc_dv, pc_lt, pc_le, pc_eq, pc_nat, pc_div, pc_emod, pc_ifz, pc_ifo, pc_zb, pc_bd1, pc_bd2, pc_bd3, pc_bd4, pc_bd5, pc_bd6, pc_bd7, pc_bd8, pc_bd9, pc_bd10, pc_bd11, pc_bd12, pc_bd13, pc_bd14, pc_bd15, pc_bd16, pc_bd17, pc_bd19, pc_bd21, pc_bd22, pc_bd30, pc_bd34, pc_bd57, hs.g, if_neg z]
    by_cases y : S (152 + c) ≤ 0
    · have : ¬ 0 < S (152 + c) := by omega
      simp [y, z, this, zB]
    · have : 0 < S (152 + c) := by omega
      simp [y, z, this, zB]
theorem m_away (hs : mS s S) (w : wS S) {c v d : Int} (h1 : 0 ≤ c) (h2 : c < S 0 * S 1) (h3 : 0 ≤ v) (h4 : v < 4) (h5 : 0 ≤ d) (h6 : d ≤ 100) : f_X9_away s (iI c) (iI v) (iI d) = some (iI (aw S c v d)) := by
  have hN := gN w.1
  have hD := w.1
  unfold gD at hD
  have hR := g_rc w.1 h1 h2
  have e : v = 0 ∨ v = 1 ∨ v = 2 ∨ v = 3 := by omega
  unfold aw
  have fin : ∀ a b : Int, -200 ≤ a → a ≤ 200 → -200 ≤ b → b ≤ 200 → (if decide (0 ≤ a ∧ a ≤ S 0 - 1) = true then if decide (0 ≤ b ∧ b ≤ S 1 - 1) = true then some (iI (S 1 * a + b)) else some (iI (-1)) else some (iI (-1))) = some (iI (if 0 ≤ a ∧ a < S 0 ∧ 0 ≤ b ∧ b < S 1 then S 1 * a + b else -1)) := by
    intro a b g1 g2 g3 g4
    by_cases z : 0 ≤ a ∧ a ≤ S 0 - 1
    · by_cases y : 0 ≤ b ∧ b ≤ S 1 - 1
      · rw [if_pos (decide_eq_true z), if_pos (decide_eq_true y), if_pos (by omega)]
      · rw [if_pos (decide_eq_true z), if_neg (by rw [decide_eq_true_iff]; exact y), if_neg (by omega)]
    · rw [if_neg (by rw [decide_eq_true_iff]; exact z), if_neg (by omega)]
  unfold f_X9_away
  simp only [pc_bv]
  rcases e with rfl | rfl | rfl | rfl
  · simp (disch := omega) only [-Int.reduceToNat, pc_ite, if_true, if_false, pc_bv, pc_lit, pc_neg, pc_add, pc_sub, pc_mul, pc_mr, pc_ar, pc_dv, pc_lt, pc_le, pc_eq, pc_nat, pc_div, pc_emod, pc_ifz, pc_ifo, pc_zb, pc_bd1, pc_bd2, pc_bd3, pc_bd4, pc_bd5, pc_bd6, pc_bd7, pc_bd8, pc_bd9, pc_bd10, pc_bd11, pc_bd12, pc_bd13, pc_bd14, pc_bd15, pc_bd16, pc_bd17, pc_bd19, pc_bd21, pc_bd22, pc_bd30, pc_bd34, pc_bd57, pc_lit64, hs.g, m_isIn, if_pos, if_neg]
    refine fin _ _ ?_ ?_ ?_ ?_ <;> omega
  · simp (disch := omega) only [-Int.reduceToNat, pc_ite, if_true, if_false, pc_bv, pc_lit, pc_neg, pc_add, pc_sub, pc_mul, pc_mr, pc_ar, pc_dv, pc_lt, pc_le, pc_eq, pc_nat, pc_div, pc_emod, pc_ifz, pc_ifo, pc_zb, pc_bd1, pc_bd2, pc_bd3, pc_bd4, pc_bd5, pc_bd6, pc_bd7, pc_bd8, pc_bd9, pc_bd10, pc_bd11, pc_bd12, pc_bd13, pc_bd14, pc_bd15, pc_bd16, pc_bd17, pc_bd19, pc_bd21, pc_bd22, pc_bd30, pc_bd34, pc_bd57, pc_lit64, hs.g, m_isIn, if_pos, if_neg]
    refine fin _ _ ?_ ?_ ?_ ?_ <;> omega
  · simp (disch := omega) only [-Int.reduceToNat, pc_ite, if_true, if_false, pc_bv, pc_lit, pc_neg, pc_add, pc_sub, pc_mul, pc_mr, pc_ar, pc_dv, pc_lt, pc_le, pc_eq, pc_nat, pc_div, pc_emod, pc_ifz, pc_ifo, pc_zb, pc_bd1, pc_bd2, pc_bd3, pc_bd4, pc_bd5, pc_bd6, pc_bd7, pc_bd8, pc_bd9, pc_bd10, pc_bd11, pc_bd12, pc_bd13, pc_bd14, pc_bd15, pc_bd16, pc_bd17, pc_bd19, pc_bd21, pc_bd22, pc_bd30, pc_bd34, pc_bd57, pc_lit64, hs.g, m_isIn, if_pos, if_neg]
    refine fin _ _ ?_ ?_ ?_ ?_ <;> omega
  · simp (disch := omega) only [-Int.reduceToNat, pc_ite, if_true, if_false, pc_bv, pc_lit, pc_neg, pc_add, pc_sub, pc_mul, pc_mr, pc_ar, pc_dv, pc_lt, pc_le, pc_eq, pc_nat, pc_div, pc_emod, pc_ifz, pc_ifo, pc_zb, pc_bd1, pc_bd2, pc_bd3, pc_bd4, pc_bd5, pc_bd6, pc_bd7, pc_bd8, pc_bd9, pc_bd10, pc_bd11, pc_bd12, pc_bd13, pc_bd14, pc_bd15, pc_bd16, pc_bd17, pc_bd19, pc_bd21, pc_bd22, pc_bd30, pc_bd34, pc_bd57, pc_lit64, hs.g, m_isIn, if_pos, if_neg]
    refine fin _ _ ?_ ?_ ?_ ?_ <;> omega
end
