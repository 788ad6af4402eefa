theorem by_sh (p : Int64) {z : Int} (h : z = 0 ∨ z = 8 ∨ z = 16 ∨ z = 24 ∨ z = 32 ∨ z = 40 ∨ z = 48 ∨ z = 56) : (lushr p (iI z)).toBitVec = p.toBitVec >>> z.toNat ∧ (lshrv p (iI z)).toBitVec = p.toBitVec.sshiftRight z.toNat := by
  rcases h with rfl | rfl | rfl | rfl | rfl | rfl | rfl | rfl <;> exact ⟨rfl, rfl⟩
theorem by_eq (p : Int64) {z : Int} (h : z = 0 ∨ z = 8 ∨ z = 16 ∨ z = 24 ∨ z = 32 ∨ z = 40 ∨ z = 48 ∨ z = 56) : (lshrv p (iI z)) &&& 255 = (lushr p (iI z)) &&& 255 := by
  have H : ∀ k : Fin 64, (255 : Int64).toBitVec.getLsbD k = decide (k.val < 8) := by decide +kernel
  apply Int64.toBitVec_inj.mp
  rw [Int64.toBitVec_and, Int64.toBitVec_and, (by_sh p h).1, (by_sh p h).2]
  apply BitVec.eq_of_getLsbD_eq
  intro i hi
  rw [BitVec.getLsbD_and, BitVec.getLsbD_and, BitVec.getLsbD_ushiftRight, BitVec.getLsbD_sshiftRight]
  have := H ⟨i, hi⟩
  simp only at this
  rw [this]
  by_cases e : i < 8
  · have e2 : z.toNat + i < 64 := by omega
    have e3 : ¬ 64 ≤ i := by omega
    simp [e2, e3]
  · simp [e]
def bY (p : Int64) (j : Int) : Int := ((lushr p (iI (56 - 8 * j)) &&& 255).toBitVec.toNat : Int)
theorem bY_rg (p : Int64) (j : Int) : 0 ≤ bY p j ∧ bY p j ≤ 255 := by
  unfold bY
  rw [Int64.toBitVec_and, BitVec.toNat_and]
  have h1 : (255 : Int64).toBitVec.toNat = 255 := by decide
  have h2 := @Nat.and_le_right (lushr p (iI (56 - 8 * j))).toBitVec.toNat (255 : Int64).toBitVec.toNat
  rw [h1] at h2 ⊢
  omega
theorem bY_int (p : Int64) (j : Int) : (lushr p (iI (56 - 8 * j)) &&& 255).toInt = bY p j := by
  have h := bY_rg p j
  unfold bY at h ⊢
  generalize lushr p (iI (56 - 8 * j)) &&& 255 = x at h ⊢
  show x.toBitVec.toInt = _
  rw [BitVec.toInt_eq_toNat_of_lt (by omega)]
theorem bY_32 (p : Int64) (j : Int) : (lushr p (iI (56 - 8 * j)) &&& 255).toInt32 = iI (bY p j) := by
  have h := bY_rg p j
  apply Int32.toInt_inj.mp
  rw [Int64.toInt_toInt32, bY_int, pc_toInt (by omega) (by omega)]
  exact Int.bmod_eq_of_le (by omega) (by omega)
theorem bY_0 (p : Int64) (j : Int) : (lushr p (iI (56 - 8 * j)) &&& 255 = 0) = (bY p j = 0) := by
  rw [← Int64.toInt_inj, bY_int]; rfl
def cN (p : Int64) (n : Int) : Int := su (fun j => if bY p j = 0 then 0 else 1) n
def apF (p : Int64) (b : Int × (Nat → Int32)) (n : Nat) : Int × (Nat → Int32) := fol (fun j (b : Int × (Nat → Int32)) => if bY p j = 0 then b else (b.1 + 1, upd b.2 b.1.toNat (iI (bY p j)))) b n
theorem apF_s (p : Int64) (b : Int × (Nat → Int32)) (n : Nat) : apF p b (n + 1) = if bY p n = 0 then apF p b n else ((apF p b n).1 + 1, upd (apF p b n).2 (apF p b n).1.toNat (iI (bY p n))) := rfl
theorem cN_s (p : Int64) (n : Nat) : cN p ((n + 1 : Nat) : Int) = cN p n + if bY p n = 0 then 0 else 1 := by
  unfold cN su
  rw [show ((n + 1 : Nat) : Int).toNat = n + 1 by omega, fol_s, show ((n : Nat) : Int).toNat = n by omega]
theorem cN_mono (p : Int64) : ∀ d n : Nat, 0 ≤ cN p n ∧ cN p n ≤ n ∧ cN p n ≤ cN p ((n + d : Nat) : Int) := by
  intro d
  induction d with
  | zero =>
    intro n
    refine ⟨?_, ?_, by rw [Nat.add_zero]; omega⟩
    · induction n with
      | zero => exact Int.le_refl 0
      | succ n ih => rw [cN_s]; split <;> omega
    · induction n with
      | zero => exact Int.le_refl 0
      | succ n ih => rw [cN_s]; split <;> omega
  | succ d ih =>
    intro n
    refine ⟨(ih n).1, (ih n).2.1, ?_⟩
    have := (ih n).2.2
    rw [show n + (d + 1) = (n + d) + 1 by omega, cN_s]
    split <;> omega
theorem apF_1 (p : Int64) (m : Int) (y : Nat → Int32) : ∀ n : Nat, (apF p (m, y) n).1 = m + cN p n := by
  intro n
  induction n with
  | zero => show m = m + 0; omega
  | succ n ih =>
    rw [apF_s, cN_s]
    by_cases e : bY p n = 0
    · rw [if_pos e, if_pos e, ih]; omega
    · rw [if_neg e, if_neg e]; show (apF p (m, y) n).1 + 1 = _; rw [ih]; omega
theorem apF_2 (p : Int64) {m : Int} (h0 : 0 ≤ m) (y my : Nat → Int32) (t : Int → Int) (h : ∀ k, 0 ≤ k → k < m → y k.toNat = iI (t k) ∧ my k.toNat = iI (t k) ∧ 1 ≤ t k ∧ t k ≤ 255) : ∀ n : Nat, ∃ t : Int → Int, ∀ k, 0 ≤ k → k < m + cN p n → (apF p (m, y) n).2 k.toNat = iI (t k) ∧ (apF p (m, my) n).2 k.toNat = iI (t k) ∧ 1 ≤ t k ∧ t k ≤ 255 := by
  intro n
  induction n with
  | zero => exact ⟨t, fun k h1 h2 => h k h1 (by have : cN p ((0 : Nat) : Int) = 0 := rfl
                                                omega)⟩
  | succ n ih =>
    obtain ⟨t', h'⟩ := ih
    have hb := bY_rg p n
    rw [apF_s, apF_s, cN_s]
    by_cases e : bY p n = 0
    · simp only [e, if_true, Int.add_zero]; exact ⟨t', h'⟩
    · simp only [e, if_false]
      have a1 := apF_1 p m y n
      have a2 := apF_1 p m my n
      have a3 := (cN_mono p 0 n).1
      refine ⟨fun k => if k = m + cN p n then bY p n else t' k, fun k h1 h2 => ?_⟩
      show (if k.toNat = (apF p (m, y) n).1.toNat then _ else _) = _ ∧ (if k.toNat = (apF p (m, my) n).1.toNat then _ else _) = _ ∧ _
      rw [a1, a2]
      by_cases z : k = m + cN p n
      · rw [if_pos (by omega), if_pos (by omega)]
        simp only [z, if_true]
        exact ⟨trivial, trivial, by omega, hb.2⟩
      · rw [if_neg (by omega), if_neg (by omega)]
        simp only [z, if_false]
        exact h' k h1 (by omega)
theorem x_byteOf (p : Int64) (j : Int) : f_X8_byteOf p (iI (56 - 8 * j)) = some (iI (bY p j)) := by
  unfold f_X8_byteOf
  rw [bY_32]
theorem x_addByte {n t : Int} {y : Nat → Int32} (h1 : 0 ≤ n) (h2 : n < 500) : f_X5_addByte (iI n) y (iI t) = some (iI (n + 1), upd y n.toNat (iI t)) := by
  unfold f_X5_addByte
  simp (disch := omega) only [-Int.reduceToNat, pc_ite, if_true, if_false, pc_bv, pc_lit, pc_neg, pc_add, pc_sub, pc_mul, pc_mr, pc_ar, pc_dv, pc_lt, pc_le, pc_eq, pc_nat, pc_div, pc_emod, pc_ifz, pc_ifo, pc_zb, pd_1, pd_2, pd_3, pd_4, pd_5, pd_6, pd_7, pd_8, pd_9, pd_10, pd_11, pd_12, pd_13, pd_14, pd_15, pd_16, pd_17, pd_19, pd_21, pd_22, pd_30, pd_34, pd_57, if_neg]
theorem x_append (p : Int64) {n : Int} {y : Nat → Int32} (h1 : 0 ≤ n) (h2 : n ≤ 500) : f_X8_append (iI n) y p = some (if n + cN p 8 ≤ 500 then (iI (n + cN p 8), iI (n + cN p 8), (apF p (n, y) 8).2) else (iI (-2), iI n, y)) := by
  unfold f_X8_append
  simp only [pc_bv]
  have c8 := cN_mono p 0 8
  rw [show (((8 + 0 : Nat)) : Int) = 8 by omega] at c8
  refine pc_b1t (a := iI (cN p 8)) ?_ ?_
  · refine pc_run2 (fun k : Nat => iI (cN p k)) (fun k : Nat => iI (56 - 8 * k)) 8 rfl rfl (fun k hk => ?_) ?_
    · have hb := bY_rg p k
      have e : 56 - 8 * (k : Int) + -8 = 56 - 8 * ((k + 1 : Nat) : Int) := by omega
      have z : ¬ 56 - 8 * (k : Int) < 0 := by omega
      simp (disch := omega) only [-Int.reduceToNat, pc_ite, if_true, if_false, pc_bv, pc_lit, pc_neg, pc_add, pc_sub, pc_mul, pc_mr, pc_ar, pc_dv, pc_lt, pc_le, pc_eq, pc_nat, pc_div, pc_emod, pc_ifz, pc_ifo, pc_zb, pd_1, pd_2, pd_3, pd_4, pd_5, pd_6, pd_7, pd_8, pd_9, pd_10, pd_11, pd_12, pd_13, pd_14, pd_15, pd_16, pd_17, pd_19, pd_21, pd_22, pd_30, pd_34, pd_57, x_byteOf, z, cN_s, e]
      by_cases q : bY p k = 0
      · rw [if_pos q, if_pos q, Int.add_zero]
      · rw [if_neg q, if_neg q]
    · simp (disch := omega) only [-Int.reduceToNat, pc_ite, if_true, if_false, pc_bv, pc_lit, pc_neg, pc_add, pc_sub, pc_mul, pc_mr, pc_ar, pc_dv, pc_lt, pc_le, pc_eq, pc_nat, pc_div, pc_emod, pc_ifz, pc_ifo, pc_zb, pd_1, pd_2, pd_3, pd_4, pd_5, pd_6, pd_7, pd_8, pd_9, pd_10, pd_11, pd_12, pd_13, pd_14, pd_15, pd_16, pd_17, pd_19, pd_21, pd_22, pd_30, pd_34, pd_57, if_pos]
      rfl
  · simp (disch := omega) only [-Int.reduceToNat, pc_ite, if_true, if_false, pc_bv, pc_lit, pc_neg, pc_add, pc_sub, pc_mul, pc_mr, pc_ar, pc_dv, pc_lt, pc_le, pc_eq, pc_nat, pc_div, pc_emod, pc_ifz, pc_ifo, pc_zb, pd_1, pd_2, pd_3, pd_4, pd_5, pd_6, pd_7, pd_8, pd_9, pd_10, pd_11, pd_12, pd_13, pd_14, pd_15, pd_16, pd_17, pd_19, pd_21, pd_22, pd_30, pd_34, pd_57]
    by_cases z : n + cN p 8 ≤ 500
    · rw [if_pos z, if_pos z]
      refine pc_b2t (x0 := iI (n + cN p 8)) (x1 := (apF p (n, y) 8).2) (pc_run3 (fun k : Nat => iI (56 - 8 * k)) (fun k : Nat => iI (apF p (n, y) k).1) (fun k : Nat => (apF p (n, y) k).2) 8 rfl rfl rfl (fun k hk => ?_) ?_) rfl
      · have hb := bY_rg p k
        have c1 := cN_mono p (8 - (k + 1)) (k + 1)
        rw [show k + 1 + (8 - (k + 1)) = 8 by omega, cN_s] at c1
        have c0 := cN_mono p 0 k
        have a1 := apF_1 p n y k
        have e : 56 - 8 * (k : Int) + -8 = 56 - 8 * ((k + 1 : Nat) : Int) := by omega
        have zz : ¬ 56 - 8 * (k : Int) < 0 := by omega
        rw [apF_s]
        by_cases q : bY p k = 0
        · simp (disch := omega) only [-Int.reduceToNat, pc_ite, if_true, if_false, pc_bv, pc_lit, pc_neg, pc_add, pc_sub, pc_mul, pc_mr, pc_ar, pc_dv, pc_lt, pc_le, pc_eq, pc_nat, pc_div, pc_emod, pc_ifz, pc_ifo, pc_zb, pd_1, pd_2, pd_3, pd_4, pd_5, pd_6, pd_7, pd_8, pd_9, pd_10, pd_11, pd_12, pd_13, pd_14, pd_15, pd_16, pd_17, pd_19, pd_21, pd_22, pd_30, pd_34, pd_57, x_byteOf, zz, e, q]
        · rw [if_neg q] at c1
          have c2 := c1.2.2
          rw [show ((8 : Nat) : Int) = 8 by omega] at c2
          simp (disch := omega) only [-Int.reduceToNat, pc_ite, if_true, if_false, pc_bv, pc_lit, pc_neg, pc_add, pc_sub, pc_mul, pc_mr, pc_ar, pc_dv, pc_lt, pc_le, pc_eq, pc_nat, pc_div, pc_emod, pc_ifz, pc_ifo, pc_zb, pd_1, pd_2, pd_3, pd_4, pd_5, pd_6, pd_7, pd_8, pd_9, pd_10, pd_11, pd_12, pd_13, pd_14, pd_15, pd_16, pd_17, pd_19, pd_21, pd_22, pd_30, pd_34, pd_57, x_byteOf, zz, e, q, x_addByte]
      · simp (disch := omega) only [-Int.reduceToNat, pc_ite, if_true, if_false, pc_bv, pc_lit, pc_neg, pc_add, pc_sub, pc_mul, pc_mr, pc_ar, pc_dv, pc_lt, pc_le, pc_eq, pc_nat, pc_div, pc_emod, pc_ifz, pc_ifo, pc_zb, pd_1, pd_2, pd_3, pd_4, pd_5, pd_6, pd_7, pd_8, pd_9, pd_10, pd_11, pd_12, pd_13, pd_14, pd_15, pd_16, pd_17, pd_19, pd_21, pd_22, pd_30, pd_34, pd_57, if_pos]
        rw [apF_1]; rfl
    · rw [if_neg z, if_neg z]
theorem m_bytesIn (p : Int64) : f_X9_bytesIn p = some (iI (cN p 8)) := by
  unfold f_X9_bytesIn
  simp only [pc_bv]
  refine pc_b1t (a := iI (cN p 8)) ?_ rfl
  refine pc_run2 (fun k : Nat => iI (cN p k)) (fun k : Nat => iI (56 - 8 * k)) 8 rfl rfl (fun k hk => ?_) ?_
  · have hb := bY_rg p k
    have e : 56 - 8 * (k : Int) + -8 = 56 - 8 * ((k + 1 : Nat) : Int) := by omega
    have z : ¬ 56 - 8 * (k : Int) < 0 := by omega
    have hq := by_eq p (z := 56 - 8 * (k : Int)) (by omega)
    have cz : (lg_cmp (lshrv p (iI (56 - 8 * (k : Int))) &&& 255) 0 = 0) = (bY p k = 0) := by
      rw [hq, ← bY_0]
      unfold lg_cmp
      generalize lushr p (iI (56 - 8 * (k : Int))) &&& 255 = x
      by_cases h : x > 0
      · rw [if_pos h]
        have : ¬ x = 0 := by rintro rfl; exact absurd (Int64.lt_iff_toInt_lt.mp h) (Int.lt_irrefl _)
        simp only [this]; decide
      · rw [if_neg h]
        by_cases h2 : x = 0
        · rw [if_pos h2]; simp [h2]
        · rw [if_neg h2]; simp only [h2]; decide
    show (if iI (56 - 8 * (k : Int)) < 0 then _ else _) = _
    have zz : ¬ iI (56 - 8 * (k : Int)) < 0 := by
      rw [show ((0 : Int32)) = iI 0 from rfl, pc_lt (by omega) (by omega) (by omega) (by omega)]; exact z
    rw [if_neg zz]
    by_cases q : bY p k = 0
    · rw [if_pos (cz.mpr q)]
      simp (disch := omega) only [-Int.reduceToNat, pc_ite, if_true, if_false, pc_bv, pc_lit, pc_neg, pc_add, pc_sub, pc_mul, pc_mr, pc_ar, pc_dv, pc_lt, pc_le, pc_eq, pc_nat, pc_div, pc_emod, pc_ifz, pc_ifo, pc_zb, pd_1, pd_2, pd_3, pd_4, pd_5, pd_6, pd_7, pd_8, pd_9, pd_10, pd_11, pd_12, pd_13, pd_14, pd_15, pd_16, pd_17, pd_19, pd_21, pd_22, pd_30, pd_34, pd_57, cN_s, e, q, Int.add_zero]
    · rw [if_neg (fun h => q (cz.mp h))]
      simp (disch := omega) only [-Int.reduceToNat, pc_ite, if_true, if_false, pc_bv, pc_lit, pc_neg, pc_add, pc_sub, pc_mul, pc_mr, pc_ar, pc_dv, pc_lt, pc_le, pc_eq, pc_nat, pc_div, pc_emod, pc_ifz, pc_ifo, pc_zb, pd_1, pd_2, pd_3, pd_4, pd_5, pd_6, pd_7, pd_8, pd_9, pd_10, pd_11, pd_12, pd_13, pd_14, pd_15, pd_16, pd_17, pd_19, pd_21, pd_22, pd_30, pd_34, pd_57, cN_s, e, q]
  · simp (disch := omega) only [-Int.reduceToNat, pc_ite, if_true, if_false, pc_bv, pc_lit, pc_neg, pc_add, pc_sub, pc_mul, pc_mr, pc_ar, pc_dv, pc_lt, pc_le, pc_eq, pc_nat, pc_div, pc_emod, pc_ifz, pc_ifo, pc_zb, pd_1, pd_2, pd_3, pd_4, pd_5, pd_6, pd_7, pd_8, pd_9, pd_10, pd_11, pd_12, pd_13, pd_14, pd_15, pd_16, pd_17, pd_19, pd_21, pd_22, pd_30, pd_34, pd_57, if_pos]
    rfl
theorem m_append (p : Int64) {th : Int32} {n : Int} {y : Nat → Int32} (h1 : 0 ≤ n) (h2 : n ≤ 500) : f_X9_append th (iI n) y p = some (if n + cN p 8 ≤ 500 then (iI (n + cN p 8), iI 0, iI (n + cN p 8), (apF p (n, y) 8).2) else (iI (-2), iI 0, iI n, y)) := by
  unfold f_X9_append
  simp only [pc_bv]
  have c8 := cN_mono p 0 8
  rw [show (((8 + 0 : Nat)) : Int) = 8 by omega] at c8
  rw [m_bytesIn, pd_1]
  simp (disch := omega) only [-Int.reduceToNat, pc_ite, if_true, if_false, pc_bv, pc_lit, pc_neg, pc_add, pc_sub, pc_mul, pc_mr, pc_ar, pc_dv, pc_lt, pc_le, pc_eq, pc_nat, pc_div, pc_emod, pc_ifz, pc_ifo, pc_zb, pd_1, pd_2, pd_3, pd_4, pd_5, pd_6, pd_7, pd_8, pd_9, pd_10, pd_11, pd_12, pd_13, pd_14, pd_15, pd_16, pd_17, pd_19, pd_21, pd_22, pd_30, pd_34, pd_57]
  by_cases z : n + cN p 8 ≤ 500
  · rw [if_pos z, if_pos z]
    refine pc_b2t (x0 := iI (n + cN p 8)) (x1 := (apF p (n, y) 8).2) (pc_run3 (fun k : Nat => iI (56 - 8 * k)) (fun k : Nat => iI (apF p (n, y) k).1) (fun k : Nat => (apF p (n, y) k).2) 8 rfl rfl rfl (fun k hk => ?_) ?_) rfl
    · have hb := bY_rg p k
      have c1 := cN_mono p (8 - (k + 1)) (k + 1)
      rw [show k + 1 + (8 - (k + 1)) = 8 by omega, cN_s] at c1
      have c0 := cN_mono p 0 k
      have a1 := apF_1 p n y k
      have e : 56 - 8 * (k : Int) + -8 = 56 - 8 * ((k + 1 : Nat) : Int) := by omega
      have zz : ¬ 56 - 8 * (k : Int) < 0 := by omega
      have hq := by_eq p (z := 56 - 8 * (k : Int)) (by omega)
      rw [pc_lit64] at hq
      have b3 := bY_32 p k
      rw [pc_lit64] at b3
      rw [apF_s]
      by_cases q : bY p k = 0
      · simp (disch := omega) only [-Int.reduceToNat, pc_ite, if_true, if_false, pc_bv, pc_lit, pc_neg, pc_add, pc_sub, pc_mul, pc_mr, pc_ar, pc_dv, pc_lt, pc_le, pc_eq, pc_nat, pc_div, pc_emod, pc_ifz, pc_ifo, pc_zb, pd_1, pd_2, pd_3, pd_4, pd_5, pd_6, pd_7, pd_8, pd_9, pd_10, pd_11, pd_12, pd_13, pd_14, pd_15, pd_16, pd_17, pd_19, pd_21, pd_22, pd_30, pd_34, pd_57, pc_lit64, hq, b3, zz, e, q]
      · rw [if_neg q] at c1
        have c2 := c1.2.2
        rw [show ((8 : Nat) : Int) = 8 by omega] at c2
        simp (disch := omega) only [-Int.reduceToNat, pc_ite, if_true, if_false, pc_bv, pc_lit, pc_neg, pc_add, pc_sub, pc_mul, pc_mr, pc_ar, pc_dv, pc_lt, pc_le, pc_eq, pc_nat, pc_div, pc_emod, pc_ifz, pc_ifo, pc_zb, pd_1, pd_2, pd_3, pd_4, pd_5, pd_6, pd_7, pd_8, pd_9, pd_10, pd_11, pd_12, pd_13, pd_14, pd_15, pd_16, pd_17, pd_19, pd_21, pd_22, pd_30, pd_34, pd_57, pc_lit64, hq, b3, zz, e, q]
    · simp (disch := omega) only [-Int.reduceToNat, pc_ite, if_true, if_false, pc_bv, pc_lit, pc_neg, pc_add, pc_sub, pc_mul, pc_mr, pc_ar, pc_dv, pc_lt, pc_le, pc_eq, pc_nat, pc_div, pc_emod, pc_ifz, pc_ifo, pc_zb, pd_1, pd_2, pd_3, pd_4, pd_5, pd_6, pd_7, pd_8, pd_9, pd_10, pd_11, pd_12, pd_13, pd_14, pd_15, pd_16, pd_17, pd_19, pd_21, pd_22, pd_30, pd_34, pd_57, if_pos]
      rw [apF_1]; rfl
  · rw [if_neg z, if_neg z]
theorem q_0 : SP_0 RR := by
  intro L xs i σ μ o hR h1 h2
  obtain ⟨S, hc, w, hm, hrh, ⟨n, t, n1, n2, n3, n4, n5⟩, hr⟩ := hR
  have key : ∃ o_x1_length o_y2_text o_x3_thrown o_x3_length o_y4_text, f_case_0 L xs i (σ.2.2.2.2.1.1) (σ.2.2.2.2.1.2.2.2.2.2.2.2.2.2.2.2) (μ.2.1) (μ.2.2.2.2.2.2.1) (μ.2.2.2.2.2.2.2.2.2.2.2.2.2.2.2.2.2.2.2.2.2.2.2.2.2.2.2.2.1) = some (o_x1_length, o_y2_text, o_x3_thrown, o_x3_length, o_y4_text) ∧ RX o_x1_length o_y2_text o_x3_length o_y4_text := by
    unfold f_case_0
    generalize (lshlv (xs (i + 1).toNatClampNeg).toInt64 32 ||| (xs (i + 2).toNatClampNeg).toInt64 &&& 4294967295) = p
    simp only [pc_vi h1, pc_vi h2, n3, n4]
    rw [x_append p n1 n2, m_append p n1 n2]
    have c8 := cN_mono p 0 8
    rw [show (((8 + 0 : Nat)) : Int) = 8 by omega] at c8
    by_cases z : n + cN p 8 ≤ 500
    · rw [if_pos z, if_pos z, pd_3, pd_4, if_pos rfl]
      obtain ⟨t', ht⟩ := apF_2 p n1 _ _ t n5 8
      exact ⟨_, _, _, _, _, rfl, n + cN p 8, t', by omega, z, rfl, rfl, ht⟩
    · rw [if_neg z, if_neg z, pd_3, pd_4, if_pos rfl]
      exact ⟨_, _, _, _, _, rfl, n, t, n1, n2, rfl, rfl, n5⟩
  obtain ⟨o_x1_length, o_y2_text, o_x3_thrown, o_x3_length, o_y4_text, e, e2⟩ := key
  exact ⟨o_x1_length, o_y2_text, o_x3_thrown, o_x3_length, o_y4_text, e, S, hc, w, hm, hrh, e2, hr⟩
