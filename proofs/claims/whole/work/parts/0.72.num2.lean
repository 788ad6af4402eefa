section
variable {n : Int} {t : Int → Int} {y : Nat → Int32}
theorem nvC_s (b : Int) {k : Int} (h : 0 ≤ k) : nvC t b (k + 1) = if 1000 < nvC t b k * 10 + t (b + k) - 48 then 1000 else nvC t b k * 10 + t (b + k) - 48 := fol_t _ _ h
theorem nvM_s (b : Int) {k : Int} (h : 0 ≤ k) : nvM t b (k + 1) = if 10 * nvM t b k + t (b + k) - 48 < 1000000 then 10 * nvM t b k + t (b + k) - 48 else 1000000 := fol_t _ _ h
theorem nv_c {b r : Int} (hd : ∀ i, 0 ≤ i → i < r → sgD (t (b + i)) = true) : ∀ k : Nat, (k : Int) ≤ r → 0 ≤ nvC t b k ∧ nvC t b k ≤ 1000 ∧ 0 ≤ nvM t b k ∧ nvM t b k ≤ 1000000 ∧ (nvC t b k = nvM t b k ∨ (nvC t b k = 1000 ∧ 1000 ≤ nvM t b k)) := by
  intro k
  induction k with
  | zero => intro _; refine ⟨?_, ?_, ?_, ?_, .inl ?_⟩ <;> simp [nvC, nvM, fol]
  | succ k ih =>
    intro hk
    have d : 48 ≤ t (b + k) ∧ t (b + k) ≤ 57 := of_decide_eq_true (hd k (by omega) (by omega))
    have := ih (by omega)
    rw [show ((k + 1 : Nat) : Int) = (k : Int) + 1 by omega, nvC_s b (by omega), nvM_s b (by omega)]
    generalize nvC t b k = p at this ⊢
    generalize nvM t b k = q at this ⊢
    (repeat' split) <;> omega
theorem tdl_d (h : tT n t) {a : Int} (a0 : 0 ≤ a) (a1 : a ≤ n) : sgD (t (tws t n a)) = decide (0 < tdl t n a) := by
  have c := tws_c h a0 a1
  obtain ⟨r1, r2, r3, r4⟩ := rl_c h sgD_n (b := tws t n a) (by omega) (by omega)
  by_cases z : 0 < tdl t n a
  · rw [decide_eq_true z]
    have := r4 0 (by omega) z
    rw [Int.add_zero] at this
    exact this
  · rw [decide_eq_false z]
    have e : rl sgD t n (tws t n a) = 0 := by unfold tdl at z; omega
    rw [e, Int.add_zero] at r3
    exact r3
theorem tnv_c (h : tT n t) {a : Int} (a0 : 0 ≤ a) (a1 : a ≤ n) : 0 ≤ tnv t n a ∧ tnv t n a ≤ 1000 ∧ 0 ≤ nvM t (tws t n a) (tdl t n a) ∧ nvM t (tws t n a) (tdl t n a) ≤ 1000000 ∧ (tnv t n a = nvM t (tws t n a) (tdl t n a) ∨ (tnv t n a = 1000 ∧ 1000 ≤ nvM t (tws t n a) (tdl t n a))) := by
  have c := tws_c h a0 a1
  obtain ⟨r1, r2, r3, r4⟩ := rl_c h sgD_n (b := tws t n a) (by omega) (by omega)
  have := nv_c (b := tws t n a) (r := tdl t n a) r4 (tdl t n a).toNat (by unfold tdl; omega)
  rw [show (((tdl t n a).toNat : Nat) : Int) = tdl t n a by unfold tdl; omega] at this
  exact this
theorem x_numL (h : tT n t) (hy : tX n t y) {b : Int} (b0 : 0 ≤ b) (b1 : b ≤ n) : ∃ r, lq3 (fun (v3 : Int32) (x0_at_2 : Int32) (x0_number_1 : Int32) => ((
    (if iI n ≤ v3 then (
      some (.inr (x0_at_2, x0_number_1))
    ) else (
      bd1 (f_X5_signAt (iI n) y x0_at_2) fun (r33 : Int32) =>
      bd1 (f_X5_isDigit r33) fun (r36 : Int32) =>
      (if r36 = 0 then (
        some (.inr (x0_at_2, x0_number_1))
      ) else (
        bd1 (f_X5_signAt (iI n) y x0_at_2) fun (r55 : Int32) =>
        some (.inl (v3 + 1, x0_at_2 + 1, if 1000 < (((x0_number_1 * 10) + r55) - 48) then 1000 else (((x0_number_1 * 10) + r55) - 48)))
      ))
    ))
    ) : Option ((Int32 × Int32 × Int32) ⊕ (Int32 × Int32)))) 0 (iI b) 0 = some r ∧ r = (iI (b + rl sgD t n b), iI (nvC t b (rl sgD t n b))) := by
  have hn := h.1
  have hn2 := h.2.1
  obtain ⟨r1, r2, r3, r4⟩ := rl_c h sgD_n b0 b1
  refine pc_iv3 (P := fun i a v => a = iI (b + i) ∧ v = iI (nvC t b i)) (Q := fun r => r = (iI (b + rl sgD t n b), iI (nvC t b (rl sgD t n b)))) (rl sgD t n b) r1 (by omega) rfl ⟨by rw [Int.add_zero], rfl⟩ (fun i a v i1 i2 e => ⟨iI (b + (i + 1)), iI (nvC t b (i + 1)), ?_, rfl, rfl⟩) (fun a v e => ⟨(iI (b + rl sgD t n b), iI (nvC t b (rl sgD t n b))), ?_, rfl⟩)
  · obtain ⟨e1, e2⟩ := e
    subst e1; subst e2
    have k := r4 i i1 i2
    have d : 48 ≤ t (b + i) ∧ t (b + i) ≤ 57 := of_decide_eq_true k
    have c := nv_c r4 i.toNat (by omega)
    rw [show ((i.toNat : Nat) : Int) = i by omega] at c
    rw [nvC_s b i1]
    simp (disch := omega) only [-Int.reduceToNat, pc_ite, if_true, if_false, pc_bv, pc_lit, pc_neg, pc_add, pc_sub, pc_mul, pc_mr, pc_ar, pc_dv, pc_lt, pc_le, pc_eq, pc_nat, pc_div, pc_emod, pc_ifz, pc_ifo, pc_zb, pd_1, pd_2, pd_3, pd_4, pd_5, pd_6, pd_7, pd_8, pd_9, pd_10, pd_11, pd_12, pd_13, pd_14, pd_15, pd_16, pd_17, pd_19, pd_21, pd_22, pd_30, pd_34, pd_57, if_neg, x_signAt h hy, x_isDigit, k, pc_zB1, show b + (i + 1) = b + i + 1 by omega]
  · obtain ⟨e1, e2⟩ := e
    subst e1; subst e2
    have g := t_rg h (k := b + rl sgD t n b) (by omega)
    by_cases z : n ≤ rl sgD t n b
    · simp (disch := omega) only [-Int.reduceToNat, pc_ite, if_true, if_false, pc_bv, pc_lit, pc_neg, pc_add, pc_sub, pc_mul, pc_mr, pc_ar, pc_dv, pc_lt, pc_le, pc_eq, pc_nat, pc_div, pc_emod, pc_ifz, pc_ifo, pc_zb, pd_1, pd_2, pd_3, pd_4, pd_5, pd_6, pd_7, pd_8, pd_9, pd_10, pd_11, pd_12, pd_13, pd_14, pd_15, pd_16, pd_17, pd_19, pd_21, pd_22, pd_30, pd_34, pd_57, if_pos]
    · simp (disch := omega) only [-Int.reduceToNat, pc_ite, if_true, if_false, pc_bv, pc_lit, pc_neg, pc_add, pc_sub, pc_mul, pc_mr, pc_ar, pc_dv, pc_lt, pc_le, pc_eq, pc_nat, pc_div, pc_emod, pc_ifz, pc_ifo, pc_zb, pd_1, pd_2, pd_3, pd_4, pd_5, pd_6, pd_7, pd_8, pd_9, pd_10, pd_11, pd_12, pd_13, pd_14, pd_15, pd_16, pd_17, pd_19, pd_21, pd_22, pd_30, pd_34, pd_57, if_neg z, x_signAt h hy, x_isDigit, r3, pc_zB0, if_true]
theorem x_num0 (h : tT n t) (hy : tX n t y) {a : Int} (a0 : 0 ≤ a) (a1 : a ≤ n) {v2 v3 e ea p1 p2 : Int32} (hd : ¬ 0 < tdl t n a) : f_X5_takeNumber (iI n) (iI a) v2 v3 e ea y p1 p2 = some (iI 0, iI (tws t n a), iI (tws t n a), iI 0, iI 1, iI (tws t n a)) := by
  have c := tws_c h a0 a1
  have hn2 := h.2.1
  have c2 := tdl_c h a0 a1
  have z : rl sgD t n (tws t n a) = 0 := by unfold tdl at hd c2; omega
  unfold f_X5_takeNumber
  simp only [pc_bv]
  rw [x_nextSign h hy a0 a1, pd_2]
  have L := x_numL h hy (b := tws t n a) (by omega) (by omega)
  rw [z, Int.add_zero] at L
  refine pc_q2 L ?_
  simp only [if_true, f_X5_fail, pd_3, pc_lit, pc_zbI0]
  rfl
theorem x_num1 (h : tT n t) (hy : tX n t y) {a : Int} (a0 : 0 ≤ a) (a1 : a ≤ n) {v2 v3 e ea : Int32} {lo hi : Int} (l0 : 0 ≤ lo) (l1 : lo < 1000) (h0 : -1 ≤ hi) (h1 : hi < 1000) (hd : 0 < tdl t n a) (hr : lo ≤ tnv t n a ∧ tnv t n a ≤ hi) : f_X5_takeNumber (iI n) (iI a) v2 v3 e ea y (iI lo) (iI hi) = some (iI 1, iI (tws t n a + tdl t n a), iI (tws t n a), iI (tnv t n a), e, ea) := by
  have c := tws_c h a0 a1
  have c2 := tdl_c h a0 a1
  have c3 := tnv_c h a0 a1
  have hn2 := h.2.1
  unfold f_X5_takeNumber
  simp only [pc_bv]
  rw [x_nextSign h hy a0 a1, pd_2]
  refine pc_q2 (x_numL h hy (b := tws t n a) (by omega) (by omega)) ?_
  have q1 : (iI (tws t n a + tdl t n a) = iI (tws t n a)) = False := (pc_eq (by omega) (by omega) (by omega) (by omega)).trans (eq_false (by omega))
  have q2 : (iI (tnv t n a) < iI lo) = False := (pc_lt (by omega) (by omega) (by omega) (by omega)).trans (eq_false (by omega))
  have q3 : (iI (tnv t n a) ≤ iI hi) = True := (pc_le (by omega) (by omega) (by omega) (by omega)).trans (eq_true hr.2)
  show (if iI (tws t n a + tdl t n a) = iI (tws t n a) then _ else if iI (tnv t n a) < iI lo then _ else if iI (tnv t n a) ≤ iI hi then _ else _) = _
  simp only [q1, q2, q3, if_true, if_false]
  rfl
theorem x_num2 (h : tT n t) (hy : tX n t y) {a : Int} (a0 : 0 ≤ a) (a1 : a ≤ n) {v2 v3 e ea : Int32} {lo hi : Int} (l0 : 0 ≤ lo) (l1 : lo < 1000) (h0 : -1 ≤ hi) (h1 : hi < 1000) (hd : 0 < tdl t n a) (hr : ¬ (lo ≤ tnv t n a ∧ tnv t n a ≤ hi)) : f_X5_takeNumber (iI n) (iI a) v2 v3 e ea y (iI lo) (iI hi) = some (iI 0, iI (tws t n a + tdl t n a), iI (tws t n a), iI (tnv t n a), iI 2, iI (tws t n a)) := by
  have c := tws_c h a0 a1
  have c2 := tdl_c h a0 a1
  have c3 := tnv_c h a0 a1
  have hn2 := h.2.1
  unfold f_X5_takeNumber
  simp only [pc_bv]
  rw [x_nextSign h hy a0 a1, pd_2]
  refine pc_q2 (x_numL h hy (b := tws t n a) (by omega) (by omega)) ?_
  have q1 : (iI (tws t n a + tdl t n a) = iI (tws t n a)) = False := (pc_eq (by omega) (by omega) (by omega) (by omega)).trans (eq_false (by omega))
  show (if iI (tws t n a + tdl t n a) = iI (tws t n a) then _ else if iI (tnv t n a) < iI lo then _ else if iI (tnv t n a) ≤ iI hi then _ else _) = _
  by_cases z : tnv t n a < lo
  · have q2 : (iI (tnv t n a) < iI lo) = True := (pc_lt (by omega) (by omega) (by omega) (by omega)).trans (eq_true z)
    simp only [q1, q2, if_true, if_false, f_X5_fail, pd_3]
    rfl
  · have q2 : (iI (tnv t n a) < iI lo) = False := (pc_lt (by omega) (by omega) (by omega) (by omega)).trans (eq_false z)
    have q3 : (iI (tnv t n a) ≤ iI hi) = False := (pc_le (by omega) (by omega) (by omega) (by omega)).trans (eq_false (by omega))
    simp only [q1, q2, q3, if_true, if_false, f_X5_fail, pd_3]
    rfl
theorem m_numE {a fr e ea p1 p2 nn : Int32} (he : ¬ e = iI 0) : f_X9_number nn a fr e ea y p1 p2 = some (p1, a, fr, e, ea) := by
  unfold f_X9_number
  simp only [pc_bv]
  rw [m_fineE he, pd_1, if_pos (by rfl)]
theorem m_num0 (h : tT n t) (hy : tX n t y) {a : Int} (a0 : 0 ≤ a) (a1 : a ≤ n) {fr ea p1 p2 : Int32} (hd : ¬ 0 < tdl t n a) : f_X9_number (iI n) (iI a) fr (iI 0) ea y p1 p2 = some (p1, iI (tws t n a), iI (tws t n a), iI 1, iI (tws t n a)) := by
  have c := tws_c h a0 a1
  have g := t_rg h (k := tws t n a) (by omega)
  have d := tdl_d h a0 a1
  rw [decide_eq_false hd] at d
  unfold f_X9_number
  simp only [pc_bv]
  rw [m_fine0, pd_1, if_neg (by decide), m_looks h hy a0 a1, pd_3, m_isDigit (by omega) (by omega), pd_1, d, if_pos (by rfl)]
  rfl
theorem m_numL (h : tT n t) (hy : tX n t y) {b : Int} (b0 : 0 ≤ b) (b1 : b ≤ n) : lq2 (fun (v3 : Int32) (x0_at_2 : Int32) => ((
        bd1 (f_X9_byteAt (iI n) y x0_at_2) fun (r37 : Int32) =>
        bd1 (f_X9_isDigit r37) fun (r40 : Int32) =>
        (if r40 = 0 then (
          some (.inr (v3, x0_at_2))
        ) else (
          bd1 (f_X9_byteAt (iI n) y x0_at_2) fun (r57 : Int32) =>
          some (.inl (if (((10 * v3) + r57) - 48) < 1000000 then (((10 * v3) + r57) - 48) else 1000000, x0_at_2 + 1))
        ))
        ) : Option ((Int32 × Int32) ⊕ (Int32 × Int32)))) 0 (iI b) = some (iI (nvM t b (rl sgD t n b)), iI (b + rl sgD t n b)) := by
  have hn := h.1
  have hn2 := h.2.1
  obtain ⟨r1, r2, r3, r4⟩ := rl_c h sgD_n b0 b1
  refine pc_run2 (fun k : Nat => iI (nvM t b k)) (fun k : Nat => iI (b + k)) (rl sgD t n b).toNat rfl (by show iI b = iI (b + ((0 : Nat) : Int)); rw [show b + ((0 : Nat) : Int) = b by omega]) (fun i hi => ?_) ?_
  · have k := r4 i (by omega) (by omega)
    have d : 48 ≤ t (b + i) ∧ t (b + i) ≤ 57 := of_decide_eq_true k
    have c := nv_c r4 i (by omega)
    show _ = some (Sum.inl (iI (nvM t b ((i + 1 : Nat) : Int)), iI (b + ((i + 1 : Nat) : Int))))
    rw [show ((i + 1 : Nat) : Int) = (i : Int) + 1 by omega, nvM_s b (by omega)]
    simp (disch := omega) only [-Int.reduceToNat, pc_ite, if_true, if_false, pc_bv, pc_lit, pc_neg, pc_add, pc_sub, pc_mul, pc_mr, pc_ar, pc_dv, pc_lt, pc_le, pc_eq, pc_nat, pc_div, pc_emod, pc_ifz, pc_ifo, pc_zb, pd_1, pd_2, pd_3, pd_4, pd_5, pd_6, pd_7, pd_8, pd_9, pd_10, pd_11, pd_12, pd_13, pd_14, pd_15, pd_16, pd_17, pd_19, pd_21, pd_22, pd_30, pd_34, pd_57, if_neg, m_byteAt h hy, m_isDigit, k, pc_zB1, show b + ((i : Int) + 1) = b + i + 1 by omega]
  · rw [show (((rl sgD t n b).toNat : Nat) : Int) = rl sgD t n b by omega]
    have g := t_rg h (k := b + rl sgD t n b) (by omega)
    simp (disch := omega) only [-Int.reduceToNat, pc_ite, if_true, if_false, pc_bv, pc_lit, pc_neg, pc_add, pc_sub, pc_mul, pc_mr, pc_ar, pc_dv, pc_lt, pc_le, pc_eq, pc_nat, pc_div, pc_emod, pc_ifz, pc_ifo, pc_zb, pd_1, pd_2, pd_3, pd_4, pd_5, pd_6, pd_7, pd_8, pd_9, pd_10, pd_11, pd_12, pd_13, pd_14, pd_15, pd_16, pd_17, pd_19, pd_21, pd_22, pd_30, pd_34, pd_57, m_byteAt h hy, m_isDigit, r3, pc_zB0, if_true]
theorem m_num1 (h : tT n t) (hy : tX n t y) {a : Int} (a0 : 0 ≤ a) (a1 : a ≤ n) {fr ea : Int32} {lo hi : Int} (l0 : 0 ≤ lo) (l1 : lo < 1000) (h0 : -1 ≤ hi) (h1 : hi < 1000) (hd : 0 < tdl t n a) (hr : lo ≤ tnv t n a ∧ tnv t n a ≤ hi) : f_X9_number (iI n) (iI a) fr (iI 0) ea y (iI lo) (iI hi) = some (iI (tnv t n a), iI (tws t n a + tdl t n a), iI (tws t n a), iI 0, ea) := by
  have c := tws_c h a0 a1
  have c3 := tnv_c h a0 a1
  have g := t_rg h (k := tws t n a) (by omega)
  have d := tdl_d h a0 a1
  rw [decide_eq_true hd] at d
  have eM : nvM t (tws t n a) (rl sgD t n (tws t n a)) = tnv t n a := by
    have : nvM t (tws t n a) (rl sgD t n (tws t n a)) = nvM t (tws t n a) (tdl t n a) := rfl
    omega
  have L := m_numL h hy (b := tws t n a) (by omega) (by omega)
  rw [eM] at L
  unfold f_X9_number
  simp only [pc_bv]
  rw [m_fine0, pd_1, if_neg (by decide), m_looks h hy a0 a1, pd_3, m_isDigit (by omega) (by omega), pd_1, d, if_neg (by decide), L, pd_2, i64 (a := lo) (by omega) (by omega), m_isIn (by omega) (by omega) (by omega) (by omega) (by omega) (by omega), pd_1, decide_eq_true hr, if_neg (by decide)]
  rfl
theorem m_num2 (h : tT n t) (hy : tX n t y) {a : Int} (a0 : 0 ≤ a) (a1 : a ≤ n) {fr ea : Int32} {lo hi : Int} (l0 : 0 ≤ lo) (l1 : lo < 1000) (h0 : -1 ≤ hi) (h1 : hi < 1000) (hd : 0 < tdl t n a) (hr : ¬ (lo ≤ tnv t n a ∧ tnv t n a ≤ hi)) : f_X9_number (iI n) (iI a) fr (iI 0) ea y (iI lo) (iI hi) = some (iI lo, iI (tws t n a + tdl t n a), iI (tws t n a), iI 2, iI (tws t n a)) := by
  have c := tws_c h a0 a1
  have c3 := tnv_c h a0 a1
  have g := t_rg h (k := tws t n a) (by omega)
  have d := tdl_d h a0 a1
  rw [decide_eq_true hd] at d
  have L := m_numL h hy (b := tws t n a) (by omega) (by omega)
  unfold f_X9_number
  simp only [pc_bv]
  have hr2 : ¬ (lo ≤ nvM t (tws t n a) (rl sgD t n (tws t n a)) ∧ nvM t (tws t n a) (rl sgD t n (tws t n a)) ≤ hi) := by
    have : nvM t (tws t n a) (rl sgD t n (tws t n a)) = nvM t (tws t n a) (tdl t n a) := rfl
    omega
  have c4 : 0 ≤ nvM t (tws t n a) (rl sgD t n (tws t n a)) ∧ nvM t (tws t n a) (rl sgD t n (tws t n a)) ≤ 1000000 := ⟨c3.2.2.1, c3.2.2.2.1⟩
  rw [m_fine0, pd_1, if_neg (by decide), m_looks h hy a0 a1, pd_3, m_isDigit (by omega) (by omega), pd_1, d, if_neg (by decide), L, pd_2, i64 (a := lo) (by omega) (by omega), m_isIn (by omega) (by omega) (by omega) (by omega) (by omega) (by omega), pd_1, decide_eq_false hr2, if_pos (by rfl)]
  rfl
end
