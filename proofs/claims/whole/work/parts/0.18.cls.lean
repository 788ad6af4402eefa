def orF (f : Int → Int32) (n : Int) : Int32 := fol (fun i b => b ||| f i) (iI 0) n.toNat
theorem bt_orF (f : Int → Int32) (n h : Int) : bt (orF f n) h = an (fun i => bt (f i) h) n := by
  unfold orF an
  induction n.toNat with
  | zero => exact bt_0 h
  | succ k ih => rw [fol_s, fol_s, bt_or, ih]
section
variable {S : Int → Int} {land riv hom dir len let' nOn lOn stp ord : Nat → Int32}
theorem x_cells : f_X1_cells (iI (S 0)) (iI (S 1)) = some (iI (S 0 * S 1)) := by unfold f_X1_cells; rw [pc_mul]
theorem pc_fin {A B : Prop} [Decidable A] [Decidable B] {x y : Int} (h : A ↔ ¬ B) (e : x = y) : (if A then some (iI (-1)) else some (iI x)) = some (iI (if B then y else -1)) := by
  by_cases z : B
  · rw [if_pos z, if_neg (fun q => h.mp q z), e]
  · rw [if_neg z, if_pos (h.mpr z)]
theorem x_aheadN {v d : Int32} : f_X1_ahead (iI (S 0)) (iI (S 1)) (iI (-1)) v d = some (iI (-1)) := rfl
theorem x_ahead (w : wS S) {c v d : Int} (h1 : 0 ≤ c) (h2 : c < S 0 * S 1) (h3 : 0 ≤ v) (h4 : v < 4) (h5 : 0 ≤ d) (h6 : d ≤ 100) : f_X1_ahead (iI (S 0)) (iI (S 1)) (iI c) (iI v) (iI d) = some (iI (aw S c v d)) := by
  have hN := w.N
  have hD := w.D
  have hR := g_rc w.1 h1 h2
  have e : v = 0 ∨ v = 1 ∨ v = 2 ∨ v = 3 := by omega
  unfold f_X1_ahead aw
  simp only [pc_bv]
  have q0 : rsI (Int.toNat 0) = iI (-1) := rfl
  have q1 : rsI (Int.toNat 1) = iI 0 := rfl
  have q2 : rsI (Int.toNat 2) = iI 1 := rfl
  have q3 : rsI (Int.toNat 3) = iI 0 := rfl
  have p0 : csI (Int.toNat 0) = iI 0 := rfl
  have p1 : csI (Int.toNat 1) = iI 1 := rfl
  have p2 : csI (Int.toNat 2) = iI 0 := rfl
  have p3 : csI (Int.toNat 3) = iI (-1) := rfl
  rcases e with rfl | rfl | rfl | rfl
  · simp (disch := omega) only [-Int.reduceToNat, pc_ite, if_true, if_false, pc_bv, pc_lit, pc_neg, pc_add, pc_sub, pc_mul, pc_mr, pc_ar, pc_dv, pc_lt, pc_le, pc_eq, pc_nat, pc_div, pc_emod, pc_ifz, pc_ifo, pc_zb, pc_bd1, pc_bd2, pc_bd3, pc_bd4, pc_bd5, pc_bd6, pc_bd7, pc_bd8, pc_bd9, pc_bd10, pc_bd11, pc_bd12, pc_bd13, pc_bd14, pc_bd15, pc_bd16, pc_bd17, pc_bd19, pc_bd21, pc_bd22, pc_bd30, pc_bd34, pc_bd57, if_pos, if_neg, q0, q1, q2, q3, p0, p1, p2, p3, Int.neg_mul, Int.one_mul, Int.zero_mul]
    exact pc_fin (by omega) (by rw [Int.mul_comm])
  · simp (disch := omega) only [-Int.reduceToNat, pc_ite, if_true, if_false, pc_bv, pc_lit, pc_neg, pc_add, pc_sub, pc_mul, pc_mr, pc_ar, pc_dv, pc_lt, pc_le, pc_eq, pc_nat, pc_div, pc_emod, pc_ifz, pc_ifo, pc_zb, pc_bd1, pc_bd2, pc_bd3, pc_bd4, pc_bd5, pc_bd6, pc_bd7, pc_bd8, pc_bd9, pc_bd10, pc_bd11, pc_bd12, pc_bd13, pc_bd14, pc_bd15, pc_bd16, pc_bd17, pc_bd19, pc_bd21, pc_bd22, pc_bd30, pc_bd34, pc_bd57, if_pos, if_neg, q0, q1, q2, q3, p0, p1, p2, p3, Int.neg_mul, Int.one_mul, Int.zero_mul]
    exact pc_fin (by omega) (by rw [Int.mul_comm])
  · simp (disch := omega) only [-Int.reduceToNat, pc_ite, if_true, if_false, pc_bv, pc_lit, pc_neg, pc_add, pc_sub, pc_mul, pc_mr, pc_ar, pc_dv, pc_lt, pc_le, pc_eq, pc_nat, pc_div, pc_emod, pc_ifz, pc_ifo, pc_zb, pc_bd1, pc_bd2, pc_bd3, pc_bd4, pc_bd5, pc_bd6, pc_bd7, pc_bd8, pc_bd9, pc_bd10, pc_bd11, pc_bd12, pc_bd13, pc_bd14, pc_bd15, pc_bd16, pc_bd17, pc_bd19, pc_bd21, pc_bd22, pc_bd30, pc_bd34, pc_bd57, if_pos, if_neg, q0, q1, q2, q3, p0, p1, p2, p3, Int.neg_mul, Int.one_mul, Int.zero_mul]
    exact pc_fin (by omega) (by rw [Int.mul_comm])
  · simp (disch := omega) only [-Int.reduceToNat, pc_ite, if_true, if_false, pc_bv, pc_lit, pc_neg, pc_add, pc_sub, pc_mul, pc_mr, pc_ar, pc_dv, pc_lt, pc_le, pc_eq, pc_nat, pc_div, pc_emod, pc_ifz, pc_ifo, pc_zb, pc_bd1, pc_bd2, pc_bd3, pc_bd4, pc_bd5, pc_bd6, pc_bd7, pc_bd8, pc_bd9, pc_bd10, pc_bd11, pc_bd12, pc_bd13, pc_bd14, pc_bd15, pc_bd16, pc_bd17, pc_bd19, pc_bd21, pc_bd22, pc_bd30, pc_bd34, pc_bd57, if_pos, if_neg, q0, q1, q2, q3, p0, p1, p2, p3, Int.neg_mul, Int.one_mul, Int.zero_mul]
    exact pc_fin (by omega) (by rw [Int.mul_comm])
theorem x_isLand (w : wS S) (hl : aL land S) {c : Int} (h1 : -1 ≤ c) (h2 : c < 144) : f_X1_isLand land (iI c) = some (zB (isL S c)) := by
  have hN := w.L (c := c)
  unfold f_X1_isLand isL
  by_cases z : c = -1
  · subst z; rfl
  · have hN := hN (by omega) (by omega)
    have hg := hl c (by omega) (by omega)
    simp (disch := omega) only [-Int.reduceToNat, pc_ite, if_true, if_false, pc_bv, pc_lit, pc_neg, pc_add, pc_sub, pc_mul, pc_mr, pc_ar, pc_dv, pc_lt, pc_le, pc_eq, pc_nat, pc_div, pc_emod, pc_ifz, pc_ifo, pc_zb, pc_bd1, pc_bd2, pc_bd3, pc_bd4, pc_bd5, pc_bd6, pc_bd7, pc_bd8, pc_bd9, pc_bd10, pc_bd11, pc_bd12, pc_bd13, pc_bd14, pc_bd15, pc_bd16, pc_bd17, pc_bd19, pc_bd21, pc_bd22, pc_bd30, pc_bd34, pc_bd57, if_neg, hg]
    by_cases y : S (8 + c) = 0
    · simp [y, z, zB]
    · have y2 : S (8 + c) = 1 := by omega
      simp [y2, z, zB]
theorem x_isRiver (w : wS S) (hr : aV riv S) {c : Int} (h1 : -1 ≤ c) (h2 : c < 144) : f_X1_isRiver riv (iI c) = some (zB (isV S c)) := by
  have hN := w.R (c := c)
  have hC := w.C
  unfold f_X1_isRiver isV
  by_cases z : c = -1
  · subst z; rfl
  · have hN := hN (by omega) (by omega)
    have hg := hr c (by omega) (by omega)
    simp (disch := omega) only [-Int.reduceToNat, pc_ite, if_true, if_false, pc_bv, pc_lit, pc_neg, pc_add, pc_sub, pc_mul, pc_mr, pc_ar, pc_dv, pc_lt, pc_le, pc_eq, pc_nat, pc_div, pc_emod, pc_ifz, pc_ifo, pc_zb, pc_bd1, pc_bd2, pc_bd3, pc_bd4, pc_bd5, pc_bd6, pc_bd7, pc_bd8, pc_bd9, pc_bd10, pc_bd11, pc_bd12, pc_bd13, pc_bd14, pc_bd15, pc_bd16, pc_bd17, pc_bd19, pc_bd21, pc_bd22, pc_bd30, pc_bd34, pc_bd57, if_neg, hg]
    by_cases y : S (152 + c) - 1 = -1
    · have : ¬ 0 < S (152 + c) := by omega
      simp [y, z, zB, this]
    · have : 0 < S (152 + c) := by omega
      simp [y, z, zB, this]
theorem x_riverIn (w : wS S) (hr : aV riv S) {c : Int} (h1 : 0 ≤ c) (h2 : c < 144) : f_X1_riverIn riv (iI c) = some (iI (S (152 + c) - 1)) := by
  have hg := hr c (by omega) (by omega)
  unfold f_X1_riverIn
  simp (disch := omega) only [-Int.reduceToNat, pc_ite, if_true, if_false, pc_bv, pc_lit, pc_neg, pc_add, pc_sub, pc_mul, pc_mr, pc_ar, pc_dv, pc_lt, pc_le, pc_eq, pc_nat, pc_div, pc_emod, pc_ifz, pc_ifo, pc_zb, pc_bd1, pc_bd2, pc_bd3, pc_bd4, pc_bd5, pc_bd6, pc_bd7, pc_bd8, pc_bd9, pc_bd10, pc_bd11, pc_bd12, pc_bd13, pc_bd14, pc_bd15, pc_bd16, pc_bd17, pc_bd19, pc_bd21, pc_bd22, pc_bd30, pc_bd34, pc_bd57, if_neg, hg]
theorem x_homeOf (w : wS S) (hh : aH 0 hom S) {h : Int} (h1 : 0 ≤ h) (h2 : h < S 2) : f_X2_homeOf (iI (S 2)) hom (iI h) = some (iI (hv S h 0)) := by
  have hC := w.C
  have hg := hh h h1 h2
  unfold f_X2_homeOf
  simp (disch := omega) only [-Int.reduceToNat, pc_ite, if_true, if_false, pc_bv, pc_lit, pc_neg, pc_add, pc_sub, pc_mul, pc_mr, pc_ar, pc_dv, pc_lt, pc_le, pc_eq, pc_nat, pc_div, pc_emod, pc_ifz, pc_ifo, pc_zb, pc_bd1, pc_bd2, pc_bd3, pc_bd4, pc_bd5, pc_bd6, pc_bd7, pc_bd8, pc_bd9, pc_bd10, pc_bd11, pc_bd12, pc_bd13, pc_bd14, pc_bd15, pc_bd16, pc_bd17, pc_bd19, pc_bd21, pc_bd22, pc_bd30, pc_bd34, pc_bd57, if_neg, hg]
theorem x_directionOf (w : wS S) (hh : aH 2 dir S) {h : Int} (h1 : 0 ≤ h) (h2 : h < S 2) : f_X2_directionOf (iI (S 2)) dir (iI h) = some (iI (hv S h 2)) := by
  have hC := w.C
  have hg := hh h h1 h2
  unfold f_X2_directionOf
  simp (disch := omega) only [-Int.reduceToNat, pc_ite, if_true, if_false, pc_bv, pc_lit, pc_neg, pc_add, pc_sub, pc_mul, pc_mr, pc_ar, pc_dv, pc_lt, pc_le, pc_eq, pc_nat, pc_div, pc_emod, pc_ifz, pc_ifo, pc_zb, pc_bd1, pc_bd2, pc_bd3, pc_bd4, pc_bd5, pc_bd6, pc_bd7, pc_bd8, pc_bd9, pc_bd10, pc_bd11, pc_bd12, pc_bd13, pc_bd14, pc_bd15, pc_bd16, pc_bd17, pc_bd19, pc_bd21, pc_bd22, pc_bd30, pc_bd34, pc_bd57, if_neg, hg]
theorem x_lengthOf (w : wS S) (hh : aH 3 len S) {h : Int} (h1 : 0 ≤ h) (h2 : h < S 2) : f_X2_lengthOf (iI (S 2)) len (iI h) = some (iI (hv S h 3)) := by
  have hC := w.C
  have hg := hh h h1 h2
  unfold f_X2_lengthOf
  simp (disch := omega) only [-Int.reduceToNat, pc_ite, if_true, if_false, pc_bv, pc_lit, pc_neg, pc_add, pc_sub, pc_mul, pc_mr, pc_ar, pc_dv, pc_lt, pc_le, pc_eq, pc_nat, pc_div, pc_emod, pc_ifz, pc_ifo, pc_zb, pc_bd1, pc_bd2, pc_bd3, pc_bd4, pc_bd5, pc_bd6, pc_bd7, pc_bd8, pc_bd9, pc_bd10, pc_bd11, pc_bd12, pc_bd13, pc_bd14, pc_bd15, pc_bd16, pc_bd17, pc_bd19, pc_bd21, pc_bd22, pc_bd30, pc_bd34, pc_bd57, if_neg, hg]
theorem x_letterOf (w : wS S) (hh : aH 3 len S) (ht : aT let' S) {h k : Int} (h1 : 0 ≤ h) (h2 : h < S 2) (h3 : -2147483648 ≤ k) (h4 : k < 2147483648) : f_X2_letterOf (iI (S 2)) len let' (iI h) (iI k) = some (iI (if 0 ≤ k ∧ k < hv S h 3 then hv S h (4 + k) else -1)) := by
  have hC := w.C
  have hH := w.H h1 h2
  unfold f_X2_letterOf
  simp (disch := omega) only [-Int.reduceToNat, pc_ite, if_true, if_false, pc_bv, pc_lit, pc_neg, pc_add, pc_sub, pc_mul, pc_mr, pc_ar, pc_dv, pc_lt, pc_le, pc_eq, pc_nat, pc_div, pc_emod, pc_ifz, pc_ifo, pc_zb, pc_bd1, pc_bd2, pc_bd3, pc_bd4, pc_bd5, pc_bd6, pc_bd7, pc_bd8, pc_bd9, pc_bd10, pc_bd11, pc_bd12, pc_bd13, pc_bd14, pc_bd15, pc_bd16, pc_bd17, pc_bd19, pc_bd21, pc_bd22, pc_bd30, pc_bd34, pc_bd57, x_lengthOf w hh]
  by_cases z : 0 ≤ k ∧ k < hv S h 3
  · have hg := ht h k h1 h2 z.1 z.2
    have e8 : h * 8 + k = 8 * h + k := by omega
    simp (disch := omega) only [-Int.reduceToNat, pc_ite, if_true, if_false, pc_bv, pc_lit, pc_neg, pc_add, pc_sub, pc_mul, pc_mr, pc_ar, pc_dv, pc_lt, pc_le, pc_eq, pc_nat, pc_div, pc_emod, pc_ifz, pc_ifo, pc_zb, pc_bd1, pc_bd2, pc_bd3, pc_bd4, pc_bd5, pc_bd6, pc_bd7, pc_bd8, pc_bd9, pc_bd10, pc_bd11, pc_bd12, pc_bd13, pc_bd14, pc_bd15, pc_bd16, pc_bd17, pc_bd19, pc_bd21, pc_bd22, pc_bd30, pc_bd34, pc_bd57, if_neg, if_pos z, e8, hg]
  · rw [if_neg z]
    by_cases y : k < 0
    · rw [if_pos y]
    · rw [if_neg y, if_pos (by omega)]
theorem x_inCell (w : wS S) (hh : aH 0 hom S) {c : Int} (h1 : -1 ≤ c) (h2 : c < 144) : f_X2_inCell (iI (S 2)) hom (iI c) = some (iI (hA S c (-1))) := by
  have hC := w.C
  have hN := w.N
  unfold f_X2_inCell
  simp only [pc_bv]
  refine (pc_srch (fun h => decide (h ≠ -1) && decide (hv S h 0 = c)) (fun i => iI i) (iI (-1)) (S 2) (by omega) rfl (fun i a1 a2 a3 => ?_) (fun i a1 a2 a3 => ?_) ?_).trans ?_
  · have hH := w.H a1 a2
    have hg := hh i a1 a2
    simp only [Bool.and_eq_true, decide_eq_true_iff] at a3
    simp (disch := omega) only [-Int.reduceToNat, pc_ite, if_true, if_false, pc_bv, pc_lit, pc_neg, pc_add, pc_sub, pc_mul, pc_mr, pc_ar, pc_dv, pc_lt, pc_le, pc_eq, pc_nat, pc_div, pc_emod, pc_ifz, pc_ifo, pc_zb, pc_bd1, pc_bd2, pc_bd3, pc_bd4, pc_bd5, pc_bd6, pc_bd7, pc_bd8, pc_bd9, pc_bd10, pc_bd11, pc_bd12, pc_bd13, pc_bd14, pc_bd15, pc_bd16, pc_bd17, pc_bd19, pc_bd21, pc_bd22, pc_bd30, pc_bd34, pc_bd57, hg, if_neg, if_pos a3.2]
  · have hH := w.H a1 a2
    have hg := hh i a1 a2
    have a4 : ¬ hv S i 0 = c := by
      intro z
      have : i ≠ -1 := by omega
      simp [z, this] at a3
    simp (disch := omega) only [-Int.reduceToNat, pc_ite, if_true, if_false, pc_bv, pc_lit, pc_neg, pc_add, pc_sub, pc_mul, pc_mr, pc_ar, pc_dv, pc_lt, pc_le, pc_eq, pc_nat, pc_div, pc_emod, pc_ifz, pc_ifo, pc_zb, pc_bd1, pc_bd2, pc_bd3, pc_bd4, pc_bd5, pc_bd6, pc_bd7, pc_bd8, pc_bd9, pc_bd10, pc_bd11, pc_bd12, pc_bd13, pc_bd14, pc_bd15, pc_bd16, pc_bd17, pc_bd19, pc_bd21, pc_bd22, pc_bd30, pc_bd34, pc_bd57, hg, if_neg, if_neg a4]
  · simp (disch := omega) only [-Int.reduceToNat, pc_ite, if_true, if_false, pc_bv, pc_lit, pc_neg, pc_add, pc_sub, pc_mul, pc_mr, pc_ar, pc_dv, pc_lt, pc_le, pc_eq, pc_nat, pc_div, pc_emod, pc_ifz, pc_ifo, pc_zb, pc_bd1, pc_bd2, pc_bd3, pc_bd4, pc_bd5, pc_bd6, pc_bd7, pc_bd8, pc_bd9, pc_bd10, pc_bd11, pc_bd12, pc_bd13, pc_bd14, pc_bd15, pc_bd16, pc_bd17, pc_bd19, pc_bd21, pc_bd22, pc_bd30, pc_bd34, pc_bd57, if_pos]
  · rw [show fi _ _ = hA S c (-1) from rfl]
    by_cases z : hA S c (-1) = -1
    · rw [if_pos z, z]
    · rw [if_neg z]
theorem x_namesIn (hn : aN nOn S) {c : Int} (h1 : 0 ≤ c) (h2 : c < 144) : f_X6_namesIn nOn (iI c) = some (nm S c) := by
  have hg := hn c h1 h2
  unfold f_X6_namesIn
  simp (disch := omega) only [-Int.reduceToNat, pc_ite, if_true, if_false, pc_bv, pc_lit, pc_neg, pc_add, pc_sub, pc_mul, pc_mr, pc_ar, pc_dv, pc_lt, pc_le, pc_eq, pc_nat, pc_div, pc_emod, pc_ifz, pc_ifo, pc_zb, pc_bd1, pc_bd2, pc_bd3, pc_bd4, pc_bd5, pc_bd6, pc_bd7, pc_bd8, pc_bd9, pc_bd10, pc_bd11, pc_bd12, pc_bd13, pc_bd14, pc_bd15, pc_bd16, pc_bd17, pc_bd19, pc_bd21, pc_bd22, pc_bd30, pc_bd34, pc_bd57, if_neg, hg]
theorem nm_N (S : Int → Int) : nm S (-1) = iI 0 := by
  unfold nm
  have : ∀ h, decide (lOf S h (-1) ≠ -1) = false := by
    intro h
    unfold lOf lIn
    split <;> simp
  simp only [this]
  unfold mk
  have H : ∀ k : Nat, fol (fun (i : Int) (b : Int32) => if false = true then b ||| sB i else b) (iI 0) k = iI 0 := by
    intro k
    induction k with
    | zero => rfl
    | succ k ih => rw [fol_s, ih]; rfl
  exact H _
theorem x_namesIn' (hn : aN nOn S) {c : Int} (h1 : -1 ≤ c) (h2 : c < 144) : f_X6_namesIn nOn (iI c) = some (nm S c) := by
  by_cases z : c = -1
  · subst z; rw [nm_N]; rfl
  · exact x_namesIn hn (by omega) h2
theorem x_isOpen (w : wS S) (hl : aL land S) (hr : aV riv S) (hh : aH 0 hom S) {c : Int} (h1 : -1 ≤ c) (h2 : c < 144) : f_X6_isOpen (iI (S 2)) land riv hom (iI c) = some (zB (cB S c)) := by
  have hC := w.C
  have hh' := fi_rg (fun h => decide (h ≠ -1) && decide (hv S h 0 = c)) (S 2)
  rw [show fi _ _ = hA S c (-1) from rfl] at hh'
  unfold f_X6_isOpen cB
  simp (disch := omega) only [-Int.reduceToNat, pc_ite, if_true, if_false, pc_bv, pc_lit, pc_neg, pc_add, pc_sub, pc_mul, pc_mr, pc_ar, pc_dv, pc_lt, pc_le, pc_eq, pc_nat, pc_div, pc_emod, pc_ifz, pc_ifo, pc_zb, pc_bd1, pc_bd2, pc_bd3, pc_bd4, pc_bd5, pc_bd6, pc_bd7, pc_bd8, pc_bd9, pc_bd10, pc_bd11, pc_bd12, pc_bd13, pc_bd14, pc_bd15, pc_bd16, pc_bd17, pc_bd19, pc_bd21, pc_bd22, pc_bd30, pc_bd34, pc_bd57, x_isLand w hl, x_isRiver w hr, x_inCell w hh]
  cases e1 : isL S c <;> cases e2 : isV S c <;> by_cases e3 : hA S c (-1) = -1 <;> simp [e3, zB]
theorem x_hasSea (w : wS S) (hl : aL land S) {c r : Int} (h1 : 0 ≤ c) (h2 : c < S 0 * S 1) (h3 : -1 ≤ r) (h4 : r < 144) : f_X1_hasSeaBeside (iI (S 0)) (iI (S 1)) land (iI c) (iI r) = some (zB (an (fun w => decide (aw S c w 1 = -1) || (decide (aw S c w 1 ≠ r) && !isL S (aw S c w 1))) 4)) := by
  have hN := w.N
  unfold f_X1_hasSeaBeside
  simp only [pc_bv]
  refine pc_srchB _ 4 (by omega) rfl (fun i a1 a2 a3 => ?_) (fun i a1 a2 a3 => ?_) ?_
  · have hA := g_aw w.1 c i 1
    simp (disch := omega) only [-Int.reduceToNat, pc_ite, if_true, if_false, pc_bv, pc_lit, pc_neg, pc_add, pc_sub, pc_mul, pc_mr, pc_ar, pc_dv, pc_lt, pc_le, pc_eq, pc_nat, pc_div, pc_emod, pc_ifz, pc_ifo, pc_zb, pc_bd1, pc_bd2, pc_bd3, pc_bd4, pc_bd5, pc_bd6, pc_bd7, pc_bd8, pc_bd9, pc_bd10, pc_bd11, pc_bd12, pc_bd13, pc_bd14, pc_bd15, pc_bd16, pc_bd17, pc_bd19, pc_bd21, pc_bd22, pc_bd30, pc_bd34, pc_bd57, if_neg, x_ahead w]
    by_cases z : aw S c i 1 = -1
    · rw [if_pos z]
    · by_cases y : aw S c i 1 = r
      · simp [z, y] at a3
        omega
      · simp (disch := omega) only [-Int.reduceToNat, pc_ite, if_true, if_false, pc_bv, pc_lit, pc_neg, pc_add, pc_sub, pc_mul, pc_mr, pc_ar, pc_dv, pc_lt, pc_le, pc_eq, pc_nat, pc_div, pc_emod, pc_ifz, pc_ifo, pc_zb, pc_bd1, pc_bd2, pc_bd3, pc_bd4, pc_bd5, pc_bd6, pc_bd7, pc_bd8, pc_bd9, pc_bd10, pc_bd11, pc_bd12, pc_bd13, pc_bd14, pc_bd15, pc_bd16, pc_bd17, pc_bd19, pc_bd21, pc_bd22, pc_bd30, pc_bd34, pc_bd57, if_neg z, if_neg y, x_isLand w hl]
        simp [z, y] at a3
        simp [a3]
  · have hA := g_aw w.1 c i 1
    simp (disch := omega) only [-Int.reduceToNat, pc_ite, if_true, if_false, pc_bv, pc_lit, pc_neg, pc_add, pc_sub, pc_mul, pc_mr, pc_ar, pc_dv, pc_lt, pc_le, pc_eq, pc_nat, pc_div, pc_emod, pc_ifz, pc_ifo, pc_zb, pc_bd1, pc_bd2, pc_bd3, pc_bd4, pc_bd5, pc_bd6, pc_bd7, pc_bd8, pc_bd9, pc_bd10, pc_bd11, pc_bd12, pc_bd13, pc_bd14, pc_bd15, pc_bd16, pc_bd17, pc_bd19, pc_bd21, pc_bd22, pc_bd30, pc_bd34, pc_bd57, if_neg, x_ahead w]
    by_cases z : aw S c i 1 = -1
    · simp [z] at a3
    · by_cases y : aw S c i 1 = r
      · rw [if_neg z, if_pos y]
      · simp (disch := omega) only [-Int.reduceToNat, pc_ite, if_true, if_false, pc_bv, pc_lit, pc_neg, pc_add, pc_sub, pc_mul, pc_mr, pc_ar, pc_dv, pc_lt, pc_le, pc_eq, pc_nat, pc_div, pc_emod, pc_ifz, pc_ifo, pc_zb, pc_bd1, pc_bd2, pc_bd3, pc_bd4, pc_bd5, pc_bd6, pc_bd7, pc_bd8, pc_bd9, pc_bd10, pc_bd11, pc_bd12, pc_bd13, pc_bd14, pc_bd15, pc_bd16, pc_bd17, pc_bd19, pc_bd21, pc_bd22, pc_bd30, pc_bd34, pc_bd57, if_neg z, if_neg y, x_isLand w hl]
        simp [z, y] at a3
        simp [a3]
  · simp (disch := omega) only [-Int.reduceToNat, pc_ite, if_true, if_false, pc_bv, pc_lit, pc_neg, pc_add, pc_sub, pc_mul, pc_mr, pc_ar, pc_dv, pc_lt, pc_le, pc_eq, pc_nat, pc_div, pc_emod, pc_ifz, pc_ifo, pc_zb, pc_bd1, pc_bd2, pc_bd3, pc_bd4, pc_bd5, pc_bd6, pc_bd7, pc_bd8, pc_bd9, pc_bd10, pc_bd11, pc_bd12, pc_bd13, pc_bd14, pc_bd15, pc_bd16, pc_bd17, pc_bd19, pc_bd21, pc_bd22, pc_bd30, pc_bd34, pc_bd57, if_pos]
theorem x_endsRiver (w : wS S) (hl : aL land S) (hr : aV riv S) {c : Int} (h1 : 0 ≤ c) (h2 : c < S 0 * S 1) : f_X1_endsRiver (iI (S 0)) (iI (S 1)) land riv (iI c) = some (zB (an (fun w => !isL S (aw S c w 1) || isV S (aw S c w 1)) 4)) := by
  have hN := w.N
  unfold f_X1_endsRiver
  simp only [pc_bv]
  refine pc_srchB _ 4 (by omega) rfl (fun i a1 a2 a3 => ?_) (fun i a1 a2 a3 => ?_) ?_
  · have hA := g_aw w.1 c i 1
    simp (disch := omega) only [-Int.reduceToNat, pc_ite, if_true, if_false, pc_bv, pc_lit, pc_neg, pc_add, pc_sub, pc_mul, pc_mr, pc_ar, pc_dv, pc_lt, pc_le, pc_eq, pc_nat, pc_div, pc_emod, pc_ifz, pc_ifo, pc_zb, pc_bd1, pc_bd2, pc_bd3, pc_bd4, pc_bd5, pc_bd6, pc_bd7, pc_bd8, pc_bd9, pc_bd10, pc_bd11, pc_bd12, pc_bd13, pc_bd14, pc_bd15, pc_bd16, pc_bd17, pc_bd19, pc_bd21, pc_bd22, pc_bd30, pc_bd34, pc_bd57, if_neg, x_ahead w, x_isLand w hl, x_isRiver w hr]
    cases e1 : isL S (aw S c i 1)
    · rfl
    · rw [e1] at a3; simp at a3; rw [a3]; rfl
  · have hA := g_aw w.1 c i 1
    simp (disch := omega) only [-Int.reduceToNat, pc_ite, if_true, if_false, pc_bv, pc_lit, pc_neg, pc_add, pc_sub, pc_mul, pc_mr, pc_ar, pc_dv, pc_lt, pc_le, pc_eq, pc_nat, pc_div, pc_emod, pc_ifz, pc_ifo, pc_zb, pc_bd1, pc_bd2, pc_bd3, pc_bd4, pc_bd5, pc_bd6, pc_bd7, pc_bd8, pc_bd9, pc_bd10, pc_bd11, pc_bd12, pc_bd13, pc_bd14, pc_bd15, pc_bd16, pc_bd17, pc_bd19, pc_bd21, pc_bd22, pc_bd30, pc_bd34, pc_bd57, if_neg, x_ahead w, x_isLand w hl, x_isRiver w hr]
    simp at a3
    rw [a3.1, a3.2]; rfl
  · simp (disch := omega) only [-Int.reduceToNat, pc_ite, if_true, if_false, pc_bv, pc_lit, pc_neg, pc_add, pc_sub, pc_mul, pc_mr, pc_ar, pc_dv, pc_lt, pc_le, pc_eq, pc_nat, pc_div, pc_emod, pc_ifz, pc_ifo, pc_zb, pc_bd1, pc_bd2, pc_bd3, pc_bd4, pc_bd5, pc_bd6, pc_bd7, pc_bd8, pc_bd9, pc_bd10, pc_bd11, pc_bd12, pc_bd13, pc_bd14, pc_bd15, pc_bd16, pc_bd17, pc_bd19, pc_bd21, pc_bd22, pc_bd30, pc_bd34, pc_bd57, if_pos]
theorem eB_x {c : Int} (h : isL S c = true) : an (fun w => !isL S (aw S c w 1) || isV S (aw S c w 1)) 4 = eB S c := by
  unfold eB coB
  rw [h, Bool.true_and]
  apply Bool.eq_iff_iff.mpr
  rw [Bool.or_eq_true, an_iff, an_iff, an_iff]
  constructor
  · rintro ⟨i, a1, a2, a3⟩
    rw [Bool.or_eq_true] at a3
    rcases a3 with a3 | a3
    · exact .inl ⟨i, a1, a2, a3⟩
    · exact .inr ⟨i, a1, a2, a3⟩
  · rintro (⟨i, a1, a2, a3⟩ | ⟨i, a1, a2, a3⟩)
    · exact ⟨i, a1, a2, by rw [a3]; rfl⟩
    · exact ⟨i, a1, a2, by rw [a3, Bool.or_true]⟩
end
