def cpF (n : Nat) (src dst : Nat → Int32) : Nat → Int32 := fun j => if j < n then src j else dst j
theorem cpF_0 (src dst : Nat → Int32) : dst = cpF 0 src dst := by
  funext j; unfold cpF; rw [if_neg (by omega)]
theorem cpF_s (n : Nat) (src dst : Nat → Int32) : upd (cpF n src dst) n (src n) = cpF (n + 1) src dst := by
  funext j
  show (if j = n then src n else cpF n src dst j) = _
  unfold cpF
  by_cases h : j = n
  · rw [if_pos h, if_pos (by omega), h]
  · rw [if_neg h]
    by_cases g : j < n
    · rw [if_pos g, if_pos (by omega)]
    · rw [if_neg g, if_neg (by omega)]
theorem cpF_at {n : Nat} {src dst : Nat → Int32} {k : Int} (h1 : 0 ≤ k) (h2 : k < n) : cpF n src dst k.toNat = src k.toNat := by unfold cpF; rw [if_pos (by omega)]
theorem pc_nN {k : Nat} (h : k < 2147483648) : (iI (k : Int)).toNatClampNeg = k := by rw [pc_nat (by omega) (by omega)]; omega
def naB (y : Nat → Int32) : Nat → Int32 := fun j => vp_nar .boolean (y j)
theorem naB_0 : vp_nar .boolean (iI 0) = iI 0 := by rfl
theorem naB_1 : vp_nar .boolean (iI 1) = iI 1 := by rfl
section
variable {a0 a1 a2 a3 a4 a5 b0 b1 b2 b3 : Int32} {y1 y2 y3 y4 y5 y6 z1 z2 z3 z4 z5 z6 : Nat → Int32}
theorem x_copy1 : f_X1_copyFrom a0 a1 a2 y1 y2 y3 b0 b1 b2 z1 z2 z3 = some (b0, b1, b2, cpF 144 (naB z1) y1, cpF 144 z2 y2, cpF 144 z3 y3) := by
  unfold f_X1_copyFrom
  simp only [pc_bv]
  refine pc_b3t (x0 := cpF 144 (naB z1) y1) (x1 := cpF 144 z2 y2) (x2 := cpF 144 z3 y3) (pc_run4 (fun k : Nat => iI k) (fun k => cpF k (naB z1) y1) (fun k => cpF k z2 y2) (fun k => cpF k z3 y3) 144 rfl (cpF_0 _ _) (cpF_0 _ _) (cpF_0 _ _) (fun k hk => ?_) ?_) rfl
  · have e := pc_nN (k := k) (by omega)
    have e2 : (k : Int) + 1 = ((k + 1 : Nat) : Int) := by omega
    have z : ¬ (144 : Int) ≤ k := by omega
    simp (disch := omega) only [-Int.reduceToNat, pc_ite, if_true, if_false, pc_bv, pc_lit, pc_neg, pc_add, pc_sub, pc_mul, pc_mr, pc_ar, pc_dv, pc_lt, pc_le, pc_eq, pc_nat, pc_div, pc_emod, pc_ifz, pc_ifo, pc_zb, pd_1, pd_2, pd_3, pd_4, pd_5, pd_6, pd_7, pd_8, pd_9, pd_10, pd_11, pd_12, pd_13, pd_14, pd_15, pd_16, pd_17, pd_19, pd_21, pd_22, pd_30, pd_34, pd_57, z, e2, Int.toNat_natCast]
    rw [← cpF_s, ← cpF_s, ← cpF_s]; rfl
  · simp (disch := omega) only [-Int.reduceToNat, pc_ite, if_true, if_false, pc_bv, pc_lit, pc_neg, pc_add, pc_sub, pc_mul, pc_mr, pc_ar, pc_dv, pc_lt, pc_le, pc_eq, pc_nat, pc_div, pc_emod, pc_ifz, pc_ifo, pc_zb, pd_1, pd_2, pd_3, pd_4, pd_5, pd_6, pd_7, pd_8, pd_9, pd_10, pd_11, pd_12, pd_13, pd_14, pd_15, pd_16, pd_17, pd_19, pd_21, pd_22, pd_30, pd_34, pd_57, if_pos]
theorem x_copy2 : f_X2_copyFrom a0 a1 y1 y2 y3 y4 b0 b1 z1 z2 z3 z4 = some (b0, b1, cpF 8 z1 y1, cpF 8 z2 y2, cpF 8 z3 y3, cpF 64 z4 y4) := by
  unfold f_X2_copyFrom
  simp only [pc_bv]
  refine pc_b3t (x0 := cpF 8 z1 y1) (x1 := cpF 8 z2 y2) (x2 := cpF 8 z3 y3) (pc_run4 (fun k : Nat => iI k) (fun k => cpF k z1 y1) (fun k => cpF k z2 y2) (fun k => cpF k z3 y3) 8 rfl (cpF_0 _ _) (cpF_0 _ _) (cpF_0 _ _) (fun k hk => ?_) ?_) ?_
  · have e2 : (k : Int) + 1 = ((k + 1 : Nat) : Int) := by omega
    have z : ¬ (8 : Int) ≤ k := by omega
    simp (disch := omega) only [-Int.reduceToNat, pc_ite, if_true, if_false, pc_bv, pc_lit, pc_neg, pc_add, pc_sub, pc_mul, pc_mr, pc_ar, pc_dv, pc_lt, pc_le, pc_eq, pc_nat, pc_div, pc_emod, pc_ifz, pc_ifo, pc_zb, pd_1, pd_2, pd_3, pd_4, pd_5, pd_6, pd_7, pd_8, pd_9, pd_10, pd_11, pd_12, pd_13, pd_14, pd_15, pd_16, pd_17, pd_19, pd_21, pd_22, pd_30, pd_34, pd_57, z, e2, Int.toNat_natCast]
    rw [← cpF_s, ← cpF_s, ← cpF_s]
  · simp (disch := omega) only [-Int.reduceToNat, pc_ite, if_true, if_false, pc_bv, pc_lit, pc_neg, pc_add, pc_sub, pc_mul, pc_mr, pc_ar, pc_dv, pc_lt, pc_le, pc_eq, pc_nat, pc_div, pc_emod, pc_ifz, pc_ifo, pc_zb, pd_1, pd_2, pd_3, pd_4, pd_5, pd_6, pd_7, pd_8, pd_9, pd_10, pd_11, pd_12, pd_13, pd_14, pd_15, pd_16, pd_17, pd_19, pd_21, pd_22, pd_30, pd_34, pd_57, if_pos]
  · refine pc_b1t (a := cpF 64 z4 y4) (pc_run2 (fun k : Nat => iI k) (fun k => cpF k z4 y4) 64 rfl (cpF_0 _ _) (fun k hk => ?_) ?_) rfl
    · have e2 : (k : Int) + 1 = ((k + 1 : Nat) : Int) := by omega
      have z : ¬ (64 : Int) ≤ k := by omega
      simp (disch := omega) only [-Int.reduceToNat, pc_ite, if_true, if_false, pc_bv, pc_lit, pc_neg, pc_add, pc_sub, pc_mul, pc_mr, pc_ar, pc_dv, pc_lt, pc_le, pc_eq, pc_nat, pc_div, pc_emod, pc_ifz, pc_ifo, pc_zb, pd_1, pd_2, pd_3, pd_4, pd_5, pd_6, pd_7, pd_8, pd_9, pd_10, pd_11, pd_12, pd_13, pd_14, pd_15, pd_16, pd_17, pd_19, pd_21, pd_22, pd_30, pd_34, pd_57, z, e2, Int.toNat_natCast]
      rw [← cpF_s]
    · simp (disch := omega) only [-Int.reduceToNat, pc_ite, if_true, if_false, pc_bv, pc_lit, pc_neg, pc_add, pc_sub, pc_mul, pc_mr, pc_ar, pc_dv, pc_lt, pc_le, pc_eq, pc_nat, pc_div, pc_emod, pc_ifz, pc_ifo, pc_zb, pd_1, pd_2, pd_3, pd_4, pd_5, pd_6, pd_7, pd_8, pd_9, pd_10, pd_11, pd_12, pd_13, pd_14, pd_15, pd_16, pd_17, pd_19, pd_21, pd_22, pd_30, pd_34, pd_57, if_pos]
theorem x_copy4 : f_X4_copyFrom a0 a1 a2 a3 y1 b0 b1 b2 b3 z1 = some (b0, b1, b2, b3, cpF 16 z1 y1) := by
  unfold f_X4_copyFrom
  simp only [pc_bv]
  refine pc_b1t (a := cpF 16 z1 y1) (pc_run2 (fun k : Nat => iI k) (fun k => cpF k z1 y1) 16 rfl (cpF_0 _ _) (fun k hk => ?_) ?_) rfl
  · have e2 : (k : Int) + 1 = ((k + 1 : Nat) : Int) := by omega
    have z : ¬ (16 : Int) ≤ k := by omega
    simp (disch := omega) only [-Int.reduceToNat, pc_ite, if_true, if_false, pc_bv, pc_lit, pc_neg, pc_add, pc_sub, pc_mul, pc_mr, pc_ar, pc_dv, pc_lt, pc_le, pc_eq, pc_nat, pc_div, pc_emod, pc_ifz, pc_ifo, pc_zb, pd_1, pd_2, pd_3, pd_4, pd_5, pd_6, pd_7, pd_8, pd_9, pd_10, pd_11, pd_12, pd_13, pd_14, pd_15, pd_16, pd_17, pd_19, pd_21, pd_22, pd_30, pd_34, pd_57, z, e2, Int.toNat_natCast]
    rw [← cpF_s]
  · simp (disch := omega) only [-Int.reduceToNat, pc_ite, if_true, if_false, pc_bv, pc_lit, pc_neg, pc_add, pc_sub, pc_mul, pc_mr, pc_ar, pc_dv, pc_lt, pc_le, pc_eq, pc_nat, pc_div, pc_emod, pc_ifz, pc_ifo, pc_zb, pd_1, pd_2, pd_3, pd_4, pd_5, pd_6, pd_7, pd_8, pd_9, pd_10, pd_11, pd_12, pd_13, pd_14, pd_15, pd_16, pd_17, pd_19, pd_21, pd_22, pd_30, pd_34, pd_57, if_pos]
end
def RA (lOn nOn land riv ord dir hom len let' stp : Nat → Int32) (S : Int → Int) : Prop := aE lOn S ∧ aN nOn S ∧ aL land S ∧ aV riv S ∧ aO ord S ∧ aH 2 dir S ∧ aH 0 hom S ∧ aH 3 len S ∧ aT let' S ∧ aJ stp S
theorem RA.letterOn {lOn nOn land riv ord dir hom len let' stp : Nat → Int32} {S : Int → Int} (h : RA lOn nOn land riv ord dir hom len let' stp S) : aE lOn S := h.1
theorem RA.namesOn {lOn nOn land riv ord dir hom len let' stp : Nat → Int32} {S : Int → Int} (h : RA lOn nOn land riv ord dir hom len let' stp S) : aN nOn S := h.2.1
theorem RA.land {lOn nOn land riv ord dir hom len let' stp : Nat → Int32} {S : Int → Int} (h : RA lOn nOn land riv ord dir hom len let' stp S) : aL land S := h.2.2.1
theorem RA.riverOf {lOn nOn land riv ord dir hom len let' stp : Nat → Int32} {S : Int → Int} (h : RA lOn nOn land riv ord dir hom len let' stp S) : aV riv S := h.2.2.2.1
theorem RA.riverPlace {lOn nOn land riv ord dir hom len let' stp : Nat → Int32} {S : Int → Int} (h : RA lOn nOn land riv ord dir hom len let' stp S) : aO ord S := h.2.2.2.2.1
theorem RA.direction {lOn nOn land riv ord dir hom len let' stp : Nat → Int32} {S : Int → Int} (h : RA lOn nOn land riv ord dir hom len let' stp S) : aH 2 dir S := h.2.2.2.2.2.1
theorem RA.home {lOn nOn land riv ord dir hom len let' stp : Nat → Int32} {S : Int → Int} (h : RA lOn nOn land riv ord dir hom len let' stp S) : aH 0 hom S := h.2.2.2.2.2.2.1
theorem RA.length {lOn nOn land riv ord dir hom len let' stp : Nat → Int32} {S : Int → Int} (h : RA lOn nOn land riv ord dir hom len let' stp S) : aH 3 len S := h.2.2.2.2.2.2.2.1
theorem RA.letters {lOn nOn land riv ord dir hom len let' stp : Nat → Int32} {S : Int → Int} (h : RA lOn nOn land riv ord dir hom len let' stp S) : aT let' S := h.2.2.2.2.2.2.2.2.1
theorem RA.stops {lOn nOn land riv ord dir hom len let' stp : Nat → Int32} {S : Int → Int} (h : RA lOn nOn land riv ord dir hom len let' stp S) : aJ stp S := h.2.2.2.2.2.2.2.2.2
theorem RC.ra {d : ShT} {S : Int → Int} (h : RC d S) : RA d.2.2.2.2.2.2.2.2.2.1 d.2.2.2.2.2.2.2.2.2.2.1 d.2.2.2.2.2.2.2.2.2.2.2.1 d.2.2.2.2.2.2.2.2.2.2.2.2.1 d.2.2.2.2.2.2.2.2.2.2.2.2.2.1 d.2.2.2.2.2.2.2.2.2.2.2.2.2.2.1 d.2.2.2.2.2.2.2.2.2.2.2.2.2.2.2.1 d.2.2.2.2.2.2.2.2.2.2.2.2.2.2.2.2.1 d.2.2.2.2.2.2.2.2.2.2.2.2.2.2.2.2.2.1 d.2.2.2.2.2.2.2.2.2.2.2.2.2.2.2.2.2.2 S := ⟨h.letterOn, h.namesOn, h.land, h.riverOf, h.riverPlace, h.direction, h.home, h.length, h.letters, h.stops⟩
theorem RC.mk {lOn nOn land riv ord dir hom len let' stp : Nat → Int32} {c_rows c_columns c_rivers c_count c_reds c_jcount c_next c_turn c_quarters : Int32} {S : Int → Int} (q0 : c_rows = iI (S 0)) (q1 : c_columns = iI (S 1)) (q2 : c_rivers = iI (S 3)) (q3 : c_count = iI (S 2)) (q4 : c_reds = rM S) (q5 : c_jcount = iI (S 4)) (q6 : c_next = iI (S 6)) (q7 : c_turn = iI (S 5)) (q8 : c_quarters = iI (S 7)) (h : RA lOn nOn land riv ord dir hom len let' stp S) : RC (c_rows, c_columns, c_rivers, c_count, c_reds, c_jcount, c_next, c_turn, c_quarters, lOn, nOn, land, riv, ord, dir, hom, len, let', stp) S := ⟨q0, q1, q2, q3, q5, q6, q7, q8, q4, h.letterOn, h.namesOn, h.land, h.riverOf, h.riverPlace, h.direction, h.home, h.length, h.letters, h.stops⟩
theorem RA.cp {lOn nOn land riv ord dir hom len let' stp Xl Xn Xa Xr Xo Xd Xh Xe Xt Xj : Nat → Int32} {S : Int → Int} (w : wS S) (h : RA lOn nOn land riv ord dir hom len let' stp S) : RA (cpF 144 lOn Xl) (cpF 144 nOn Xn) (cpF 144 (naB land) Xa) (cpF 144 riv Xr) (cpF 144 ord Xo) (cpF 8 dir Xd) (cpF 8 hom Xh) (cpF 8 len Xe) (cpF 64 let' Xt) (cpF 16 stp Xj) S := by
  have hC := w.C
  refine ⟨fun c h1 h2 h3 => ?_, fun c h1 h2 => ?_, fun c h1 h2 => ?_, fun c h1 h2 => ?_, fun c h1 h2 h3 => ?_, fun c h1 h2 => ?_, fun c h1 h2 => ?_, fun c h1 h2 => ?_, fun c k h1 h2 h3 h4 => ?_, fun c h1 h2 => ?_⟩
  · rw [cpF_at h1 (by omega)]; exact h.letterOn c h1 h2 h3
  · rw [cpF_at h1 (by omega)]; exact h.namesOn c h1 h2
  · rw [cpF_at h1 (by omega)]
    have hL := w.L h1 h2
    show vp_nar .boolean (land c.toNat) = _
    rw [h.land c h1 h2]
    by_cases z : S (8 + c) = 0
    · rw [z]; exact naB_0
    · rw [show S (8 + c) = 1 by omega]; exact naB_1
  · rw [cpF_at h1 (by omega)]; exact h.riverOf c h1 h2
  · rw [cpF_at h1 (by omega)]; exact h.riverPlace c h1 h2 h3
  · rw [cpF_at h1 (by omega)]; exact h.direction c h1 h2
  · rw [cpF_at h1 (by omega)]; exact h.home c h1 h2
  · rw [cpF_at h1 (by omega)]; exact h.length c h1 h2
  · have hH := w.H h1 h2
    rw [cpF_at (by omega) (by omega)]; exact h.letters c k h1 h2 h3 h4
  · rw [cpF_at h1 (by omega)]; exact h.stops c h1 h2
theorem x_copy6 {c_rows c_columns c_rivers c_count c_reds c_jcount c_next c_turn c_quarters e_rows e_columns e_rivers e_count e_reds e_jcount e_next e_turn e_quarters : Int32} {lOn nOn land riv ord dir hom len let' stp Xl Xn Xa Xr Xo Xd Xh Xe Xt Xj : Nat → Int32} : f_X6_copyFrom c_rows c_columns c_rivers c_count c_reds c_jcount c_next c_turn c_quarters Xl Xn Xa Xr Xo Xd Xh Xe Xt Xj e_rows e_columns e_rivers e_count e_reds e_jcount e_next e_turn e_quarters lOn nOn land riv ord dir hom len let' stp = some (e_rows, e_columns, e_rivers, e_count, e_reds, e_jcount, e_next, e_turn, e_quarters, cpF 144 lOn Xl, cpF 144 nOn Xn, cpF 144 (naB land) Xa, cpF 144 riv Xr, cpF 144 ord Xo, cpF 8 dir Xd, cpF 8 hom Xh, cpF 8 len Xe, cpF 64 let' Xt, cpF 16 stp Xj) := by
  unfold f_X6_copyFrom
  simp only [pc_bv]
  rw [x_copy1, pd_6, x_copy2, pd_6, x_copy4, pd_5]
  refine pc_b2t (x0 := cpF 144 lOn Xl) (x1 := cpF 144 nOn Xn) (pc_run3 (fun k : Nat => iI k) (fun k => cpF k lOn Xl) (fun k => cpF k nOn Xn) 144 rfl (cpF_0 _ _) (cpF_0 _ _) (fun k hk => ?_) ?_) rfl
  · have e2 : (k : Int) + 1 = ((k + 1 : Nat) : Int) := by omega
    have z : ¬ (144 : Int) ≤ k := by omega
    simp (disch := omega) only [-Int.reduceToNat, pc_ite, if_true, if_false, pc_bv, pc_lit, pc_neg, pc_add, pc_sub, pc_mul, pc_mr, pc_ar, pc_dv, pc_lt, pc_le, pc_eq, pc_nat, pc_div, pc_emod, pc_ifz, pc_ifo, pc_zb, pd_1, pd_2, pd_3, pd_4, pd_5, pd_6, pd_7, pd_8, pd_9, pd_10, pd_11, pd_12, pd_13, pd_14, pd_15, pd_16, pd_17, pd_19, pd_21, pd_22, pd_30, pd_34, pd_57, z, e2, Int.toNat_natCast]
    rw [← cpF_s, ← cpF_s]
  · simp (disch := omega) only [-Int.reduceToNat, pc_ite, if_true, if_false, pc_bv, pc_lit, pc_neg, pc_add, pc_sub, pc_mul, pc_mr, pc_ar, pc_dv, pc_lt, pc_le, pc_eq, pc_nat, pc_div, pc_emod, pc_ifz, pc_ifo, pc_zb, pd_1, pd_2, pd_3, pd_4, pd_5, pd_6, pd_7, pd_8, pd_9, pd_10, pd_11, pd_12, pd_13, pd_14, pd_15, pd_16, pd_17, pd_19, pd_21, pd_22, pd_30, pd_34, pd_57, if_pos]
def cpM (a b k : Nat) (f t : Nat → Int32) : Nat → Int32 := fun j => if b ≤ j ∧ j < b + k then f (a + (j - b)) else t j
theorem m_copies {n0 n2 a b : Nat} (f t : Nat → Int32) (h1 : a + 552 ≤ n0) (h2 : b + 552 ≤ n2) (h3 : n0 ≤ 5000) (h4 : n2 ≤ 5000) : f_X9_copies n0 n2 f t (iI a) (iI b) = some (cpM a b 552 f t) := by
  unfold f_X9_copies
  simp only [pc_bv]
  refine pc_b1t (pc_run2 (fun k : Nat => iI k) (fun k => cpM a b k f t) 552 rfl ?_ (fun k hk => ?_) (r := cpM a b 552 f t) ?_) rfl
  · funext j; unfold cpM; rw [if_neg (by omega)]
  · have e2 : (k : Int) + 1 = ((k + 1 : Nat) : Int) := by omega
    have z : ¬ (552 : Int) ≤ k := by omega
    have t1 : ((b : Int) + (k : Int)).toNat = b + k := by omega
    have t2 : ((a : Int) + (k : Int)).toNat = a + k := by omega
    simp (disch := omega) only [-Int.reduceToNat, pc_ite, if_true, if_false, pc_bv, pc_lit, pc_neg, pc_add, pc_sub, pc_mul, pc_mr, pc_ar, pc_dv, pc_lt, pc_le, pc_eq, pc_nat, pc_div, pc_emod, pc_ifz, pc_ifo, pc_zb, pd_1, pd_2, pd_3, pd_4, pd_5, pd_6, pd_7, pd_8, pd_9, pd_10, pd_11, pd_12, pd_13, pd_14, pd_15, pd_16, pd_17, pd_19, pd_21, pd_22, pd_30, pd_34, pd_57, z, e2, t1, t2]
    have : upd (cpM a b k f t) (b + k) (f (a + k)) = cpM a b (k + 1) f t := by
      funext j
      show (if j = b + k then f (a + k) else cpM a b k f t j) = _
      unfold cpM
      by_cases h : j = b + k
      · rw [if_pos h, if_pos (by omega), h, Nat.add_sub_cancel_left]
      · rw [if_neg h]
        by_cases g : b ≤ j ∧ j < b + k
        · rw [if_pos g, if_pos (by omega)]
        · rw [if_neg g, if_neg (by omega)]
    rw [this]
  · simp (disch := omega) only [-Int.reduceToNat, pc_ite, if_true, if_false, pc_bv, pc_lit, pc_neg, pc_add, pc_sub, pc_mul, pc_mr, pc_ar, pc_dv, pc_lt, pc_le, pc_eq, pc_nat, pc_div, pc_emod, pc_ifz, pc_ifo, pc_zb, pd_1, pd_2, pd_3, pd_4, pd_5, pd_6, pd_7, pd_8, pd_9, pd_10, pd_11, pd_12, pd_13, pd_14, pd_15, pd_16, pd_17, pd_19, pd_21, pd_22, pd_30, pd_34, pd_57, if_pos]
theorem m_keeps {s past : Nat → Int32} {n : Int} (h1 : 0 ≤ n) (h2 : n ≤ 8) : f_X9_keeps (iI n) past s = some (iI (if n = 8 then 8 else n + 1), cpM 0 (552 * (if n = 8 then 7 else n)).toNat 552 s (if n = 8 then cpF 3864 (fun j => past (j + 552)) past else past)) := by
  unfold f_X9_keeps
  simp only [pc_bv]
  by_cases z : n = 8
  · subst z
    rw [if_pos (by decide)]
    simp only [if_true]
    refine pc_b1t (pc_run2 (fun k : Nat => iI k) (fun k => cpF k (fun j => past (j + 552)) past) 3864 rfl (cpF_0 _ _) (fun k hk => ?_) (r := cpF 3864 (fun j => past (j + 552)) past) ?_) ?_
    · have e2 : (k : Int) + 1 = ((k + 1 : Nat) : Int) := by omega
      have z : ¬ (3864 : Int) ≤ k := by omega
      have t1 : ((k : Int) + 552).toNat = k + 552 := by omega
      simp (disch := omega) only [-Int.reduceToNat, pc_ite, if_true, if_false, pc_bv, pc_lit, pc_neg, pc_add, pc_sub, pc_mul, pc_mr, pc_ar, pc_dv, pc_lt, pc_le, pc_eq, pc_nat, pc_div, pc_emod, pc_ifz, pc_ifo, pc_zb, pd_1, pd_2, pd_3, pd_4, pd_5, pd_6, pd_7, pd_8, pd_9, pd_10, pd_11, pd_12, pd_13, pd_14, pd_15, pd_16, pd_17, pd_19, pd_21, pd_22, pd_30, pd_34, pd_57, z, e2, t1, Int.toNat_natCast]
      have : cpF k (fun j => past (j + 552)) past (k + 552) = past (k + 552) := by unfold cpF; rw [if_neg (by omega)]
      rw [this, ← cpF_s]
    · simp (disch := omega) only [-Int.reduceToNat, pc_ite, if_true, if_false, pc_bv, pc_lit, pc_neg, pc_add, pc_sub, pc_mul, pc_mr, pc_ar, pc_dv, pc_lt, pc_le, pc_eq, pc_nat, pc_div, pc_emod, pc_ifz, pc_ifo, pc_zb, pd_1, pd_2, pd_3, pd_4, pd_5, pd_6, pd_7, pd_8, pd_9, pd_10, pd_11, pd_12, pd_13, pd_14, pd_15, pd_16, pd_17, pd_19, pd_21, pd_22, pd_30, pd_34, pd_57, if_pos]
    · have := m_copies (n0 := 552) (n2 := 4416) (a := 0) (b := 3864) s (cpF 3864 (fun j => past (j + 552)) past) (by omega) (by omega) (by omega) (by omega)
      have e : (552 : Int32) * (iI 8 - 1) = iI ((3864 : Nat) : Int) := by decide
      show bd1 (f_X9_copies 552 4416 s _ 0 (552 * (iI 8 - 1))) _ = _
      rw [e]
      show bd1 (f_X9_copies 552 4416 s _ (iI ((0 : Nat) : Int)) _) _ = _
      rw [this, pd_1]
      rfl
  · rw [if_neg (by rw [show (8 : Int32) = iI 8 from rfl, pc_eq (by omega) (by omega) (by omega) (by omega)]; exact z)]
    have := m_copies (n0 := 552) (n2 := 4416) (a := 0) (b := (552 * n).toNat) s past (by omega) (by omega) (by omega) (by omega)
    have e : (552 : Int32) * iI n = iI (((552 * n).toNat : Nat) : Int) := by
      rw [show (552 : Int32) = iI 552 from rfl, pc_mul]; congr 1; omega
    rw [e]
    show bd1 (f_X9_copies 552 4416 s _ (iI ((0 : Nat) : Int)) _) _ = _
    rw [this, pd_1, if_neg z, if_neg z, if_neg z]
    simp (disch := omega) only [-Int.reduceToNat, pc_ite, if_true, if_false, pc_bv, pc_lit, pc_neg, pc_add, pc_sub, pc_mul, pc_mr, pc_ar, pc_dv, pc_lt, pc_le, pc_eq, pc_nat, pc_div, pc_emod, pc_ifz, pc_ifo, pc_zb, pd_1, pd_2, pd_3, pd_4, pd_5, pd_6, pd_7, pd_8, pd_9, pd_10, pd_11, pd_12, pd_13, pd_14, pd_15, pd_16, pd_17, pd_19, pd_21, pd_22, pd_30, pd_34, pd_57]
theorem cpM_at {a b k : Nat} {f t : Nat → Int32} {j : Int} (h1 : (b : Int) ≤ j) (h2 : j < b + k) : cpM a b k f t j.toNat = f (a + (j - b).toNat) := by
  unfold cpM
  rw [if_pos (by omega)]
  congr 1
  omega
theorem cpM_no {a b k : Nat} {f t : Nat → Int32} {j : Int} (h0 : 0 ≤ j) (h1 : j < b ∨ (b : Int) + k ≤ j) : cpM a b k f t j.toNat = t j.toNat := by
  unfold cpM
  rw [if_neg (by omega)]
theorem x_fm {x : Int} (h1 : -1 ≤ x) (h2 : x ≤ 8) : f_J9_floorMod_7cf53 (iI x) 8 = some (iI (x % 8)) := by
  have h : x = -1 ∨ x = 0 ∨ x = 1 ∨ x = 2 ∨ x = 3 ∨ x = 4 ∨ x = 5 ∨ x = 6 ∨ x = 7 ∨ x = 8 := by omega
  rcases h with h | h | h | h | h | h | h | h | h | h <;> (subst h; rfl)
theorem h_keep {latest count acts : Int32} {D : Nat → Option ShT} {s past : Nat → Int32} {S : Int → Int} {lOn nOn land riv ord dir hom len let' stp : Nat → Int32} (w : wS S) (hm : mS s S) (ra : RA lOn nOn land riv ord dir hom len let' stp S) (hh : RH latest count D acts past) : ∃ l' c' D' a' p', f_X3_keep latest count D (iI (S 0)) (iI (S 1)) (iI (S 3)) (iI (S 2)) (rM S) (iI (S 4)) (iI (S 6)) (iI (S 5)) (iI (S 7)) lOn nOn land riv ord dir hom len let' stp = some (l', c', D') ∧ f_X9_keeps acts past s = some (a', p') ∧ RH l' c' D' a' p' := by
  obtain ⟨n, l, n1, n2, l1, l2, e1, e2, e3, hj⟩ := hh
  subst e1 e2 e3
  have hk : ∃ d, RC d S ∧ f_X3_keep (iI l) (iI n) D (iI (S 0)) (iI (S 1)) (iI (S 3)) (iI (S 2)) (rM S) (iI (S 4)) (iI (S 6)) (iI (S 5)) (iI (S 7)) lOn nOn land riv ord dir hom len let' stp = some (iI ((l + 1) % 8), iI (if n = 8 then 8 else n + 1), updD D ((l + 1) % 8).toNat d) := by
    refine ⟨_, RC.mk rfl rfl rfl rfl rfl rfl rfl rfl rfl (RA.cp w ra (Xl := ((D ((l + 1) % 8).toNat).getD shZ).2.2.2.2.2.2.2.2.2.1) (Xn := ((D ((l + 1) % 8).toNat).getD shZ).2.2.2.2.2.2.2.2.2.2.1) (Xa := ((D ((l + 1) % 8).toNat).getD shZ).2.2.2.2.2.2.2.2.2.2.2.1) (Xr := ((D ((l + 1) % 8).toNat).getD shZ).2.2.2.2.2.2.2.2.2.2.2.2.1) (Xo := ((D ((l + 1) % 8).toNat).getD shZ).2.2.2.2.2.2.2.2.2.2.2.2.2.1) (Xd := ((D ((l + 1) % 8).toNat).getD shZ).2.2.2.2.2.2.2.2.2.2.2.2.2.2.1) (Xh := ((D ((l + 1) % 8).toNat).getD shZ).2.2.2.2.2.2.2.2.2.2.2.2.2.2.2.1) (Xe := ((D ((l + 1) % 8).toNat).getD shZ).2.2.2.2.2.2.2.2.2.2.2.2.2.2.2.2.1) (Xt := ((D ((l + 1) % 8).toNat).getD shZ).2.2.2.2.2.2.2.2.2.2.2.2.2.2.2.2.2.1) (Xj := ((D ((l + 1) % 8).toNat).getD shZ).2.2.2.2.2.2.2.2.2.2.2.2.2.2.2.2.2.2)), ?_⟩
    unfold f_X3_keep
    rw [show iI l + 1 = iI (l + 1) by rw [show (1 : Int32) = iI 1 from rfl, pc_add], x_fm (by omega) (by omega), pd_1]
    simp only [pc_bv, x_copy6, pd_19]
    simp (disch := omega) only [pc_lit, pc_add, pc_sub, pc_mul, pc_div, pc_emod, pc_nat, pc_ar, pc_lt, pc_ite]
    by_cases z : n = 8
    · simp [z]
    · have z2 : ¬ 8 < n + 1 := by omega
      simp [z, z2]
  obtain ⟨d, hd, hk⟩ := hk
  refine ⟨_, _, _, _, _, hk, m_keeps n1 n2, (if n = 8 then 8 else n + 1), (l + 1) % 8, ?_, ?_, by omega, by omega, rfl, rfl, rfl, fun j j1 j2 => ?_⟩
  · split <;> omega
  · split <;> omega
  · by_cases z : j = 0
    · subst z
      refine ⟨d, S, ?_, hd, w, fun k k1 k2 => ?_⟩
      · rw [show ((l + 1) % 8 - 0) % 8 = (l + 1) % 8 by omega]
        show (if _ = _ then some d else _) = _
        rw [if_pos rfl]
      · by_cases q : n = 8
        · simp only [q, if_true]
          rw [cpM_at (by omega) (by omega)]
          rw [show 0 + (552 * (8 - 1 - 0) + k - ((552 * 7 : Int).toNat : Int)).toNat = k.toNat by omega]
          exact hm k k1 k2
        · simp only [q, if_false]
          rw [cpM_at (by omega) (by omega)]
          rw [show 0 + (552 * (n + 1 - 1 - 0) + k - ((552 * n).toNat : Int)).toNat = k.toNat by omega]
          exact hm k k1 k2
    · obtain ⟨d', T, g1, g2, g3, g4⟩ := hj (j - 1) (by omega) (by split at j2 <;> omega)
      refine ⟨d', T, ?_, g2, g3, fun k k1 k2 => ?_⟩
      · show (if _ = _ then some d else _) = _
        have j3 : j ≤ 7 := by split at j2 <;> omega
        rw [if_neg (by omega), show ((l + 1) % 8 - j) % 8 = (l - (j - 1)) % 8 by omega]
        exact g1
      · rw [← g4 k k1 k2]
        by_cases q : n = 8
        · simp only [q, if_true] at j2 ⊢
          rw [cpM_no (by omega) (by omega)]
          unfold cpF
          rw [if_pos (by omega)]
          show past (_ + 552) = _
          congr 1
          omega
        · simp only [q, if_false] at j2 ⊢
          rw [cpM_no (by omega) (by omega)]
          congr 2
          omega
