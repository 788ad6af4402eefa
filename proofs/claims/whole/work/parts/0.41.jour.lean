def JN (S S' : Int → Int) : Prop := ∀ j, j < 4 ∨ (8 ≤ j ∧ j < 536) → S' j = S j
section
variable {s : Nat → Int32} {S S' : Int → Int} {land riv hom dir len let' nOn lOn stp ord stp' : Nat → Int32} {th : Int32}
theorem JN.sn (jn : JN S S') : SameN S S' := ⟨jn 0 (by omega), jn 1 (by omega), jn 2 (by omega), fun j j1 j2 _ => jn j (by omega)⟩
theorem jn_wS (w : wS S) (jn : JN S S') (h4 : 0 ≤ S' 4 ∧ S' 4 ≤ 16) (h5 : 0 ≤ S' 5 ∧ S' 5 ≤ 3) (h6 : 0 ≤ S' 6 ∧ (S' 6 < S' 4 ∨ S' 6 = 0)) (h7 : -2147483648 ≤ S' 7 ∧ S' 7 < 2147483648) (hV : ∀ k, 0 ≤ k → k < S' 4 → 0 ≤ S' (536 + k) ∧ S' (536 + k) < S 2) : wS S' := by
  have hC := w.C
  refine sn_wS w jn.sn ?_ (fun c c1 c2 => ?_) (fun c c1 c2 => ?_) (fun k k1 k2 => ?_) (fun h a1 a2 => ?_) (sn_P w (fun c c0 c1 c2 => ?_)) (sn_X w (fun h a1 a2 => ?_))
  · unfold gC; rw [jn 2 (by omega), jn 3 (by omega)]; exact ⟨hC.1, hC.2.1, hC.2.2.1, hC.2.2.2.1, h4.1, h4.2, h5.1, h5.2, h6.1, h6.2, h7.1, h7.2⟩
  · rw [jn 0 (by omega), jn 1 (by omega), jn (8 + c) (by omega)]; exact w.L c1 c2
  · rw [jn 0 (by omega), jn 1 (by omega), jn 3 (by omega), jn (152 + c) (by omega), jn (296 + c) (by omega)]; exact w.R c1 c2
  · rw [jn 2 (by omega)]; exact hV k k1 k2
  · have hN := w.N
    have hH := w.H a1 a2
    rw [show isL S' (hv S h 0) = isL S (hv S h 0) from by unfold isL; rw [jn _ (by omega)], show hv S' h 1 = hv S h 1 from jn _ (by omega)]
    exact ⟨hH.2.2.1, hH.2.2.2.1, hH.2.2.2.2.1⟩
  · unfold isL at c2 ⊢
    rw [jn _ (by omega)] at c2; exact c2
  · unfold isR hv; rw [jn _ (by omega)]
theorem jn_RA (w : wS S) (ra : RA lOn nOn land riv ord dir hom len let' stp S) (jn : JN S S') (hj : aJ stp' S') : RA lOn nOn land riv ord dir hom len let' stp' S' := by
  refine sn_RA w ra jn.sn (fun c c1 c2 => ?_) (fun c c1 c2 => ?_) (fun c c1 c2 c3 => ?_) hj
  · rw [jn _ (by omega)]; exact ra.land c c1 c2
  · rw [jn _ (by omega)]; exact ra.riverOf c c1 c2
  · rw [jn _ (by omega)] at c3; rw [jn _ (by omega)]; exact ra.riverPlace c c1 c2 c3
theorem jn_rM (w : wS S) (jn : JN S S') : rM S' = rM S := by
  have hC := w.C
  unfold rM
  rw [jn 2 (by omega)]
  exact mk_congr (fun h h1 h2 => by unfold isR hv; rw [jn _ (by omega)])
theorem jn_wr {j v : Int} (h : 4 ≤ j ∧ j < 8 ∨ 536 ≤ j) : JN S (wr1 S j v) := fun k hk => wr1_no (by omega)
theorem JN.tr {T U : Int → Int} (a : JN S T) (b : JN T U) : JN S U := fun j hj => (b j hj).trans (a j hj)
def saS (S : Int → Int) (h : Int) : Int → Int := wr1 (wr1 S (536 + S 4) h) 4 (S 4 + 1)
theorem sa_jn (w : wS S) (h : Int) : JN S (saS S h) := by
  have hC := w.C
  exact (jn_wr (by omega)).tr (jn_wr (by omega))
theorem sa_at (w : wS S) {h k : Int} : saS S h k = if k = 4 then S 4 + 1 else if k = 536 + S 4 then h else S k := by
  unfold saS wr1
  rfl
theorem sa_wS (w : wS S) {h : Int} (h1 : 0 ≤ h) (h2 : h < S 2) (h4 : S 4 < 16) : wS (saS S h) := by
  have hC := w.C
  refine jn_wS w (sa_jn w h) ?_ ?_ ?_ ?_ (fun k k1 k2 => ?_)
  · rw [sa_at w, if_pos rfl]; omega
  · rw [sa_at w, if_neg (by omega), if_neg (by omega)]; omega
  · rw [sa_at w, if_neg (by omega), if_neg (by omega), sa_at w, if_pos rfl]; omega
  · rw [sa_at w, if_neg (by omega), if_neg (by omega)]; omega
  · rw [sa_at w, if_pos rfl] at k2
    rw [sa_at w, if_neg (by omega)]
    by_cases z : k = S 4
    · rw [if_pos (by omega)]; omega
    · rw [if_neg (by omega)]; exact w.V k1 (by omega)
def ctN (S : Int → Int) (i : Int) : Int := if (if i < S 6 then S 6 - 1 else S 6) < S 4 - 1 then (if i < S 6 then S 6 - 1 else S 6) else 0
def ctS (S : Int → Int) (i : Int) : Int → Int := fun j => if j = 4 then S 4 - 1 else if j = 6 then ctN S i else if 536 + i ≤ j ∧ j < 536 + (S 4 - 1) then S (j + 1) else if j = 536 + (S 4 - 1) then 0 else S j
theorem ct_jn (w : wS S) {i : Int} (i1 : 0 ≤ i) (i2 : i < S 4) : JN S (ctS S i) := by
  intro j hj
  unfold ctS
  rw [if_neg (by omega), if_neg (by omega), if_neg (by omega), if_neg (by omega)]
theorem ct_wS (w : wS S) {i : Int} (i1 : 0 ≤ i) (i2 : i < S 4) : wS (ctS S i) := by
  have hC := w.C
  have e4 : ctS S i 4 = S 4 - 1 := by unfold ctS; rw [if_pos rfl]
  have e6 : ctS S i 6 = ctN S i := by unfold ctS; rw [if_neg (by omega), if_pos rfl]
  have e5 : ctS S i 5 = S 5 := by unfold ctS; rw [if_neg (by omega), if_neg (by omega), if_neg (by omega), if_neg (by omega)]
  have e7 : ctS S i 7 = S 7 := by unfold ctS; rw [if_neg (by omega), if_neg (by omega), if_neg (by omega), if_neg (by omega)]
  refine jn_wS w (ct_jn w i1 i2) ?_ ?_ ?_ ?_ (fun k k1 k2 => ?_)
  · rw [e4]; omega
  · rw [e5]; omega
  · rw [e6, e4]; unfold ctN; split <;> split <;> omega
  · rw [e7]; omega
  · rw [e4] at k2
    unfold ctS
    rw [if_neg (by omega), if_neg (by omega)]
    by_cases z : 536 + i ≤ 536 + k ∧ 536 + k < 536 + (S 4 - 1)
    · rw [if_pos z]
      have := w.V (k := k + 1) (by omega) (by omega)
      rw [show 536 + (k + 1) = 536 + k + 1 by omega] at this
      exact this
    · rw [if_neg z, if_neg (by omega)]; exact w.V k1 (by omega)
def tuS (S : Int → Int) (t : Int) : Int → Int := wr1 (wr1 S 5 t) 7 (iI (S 7 + qd (S 5) t)).toInt
theorem tu_at {t k : Int} : tuS S t k = if k = 7 then (iI (S 7 + qd (S 5) t)).toInt else if k = 5 then t else S k := rfl
theorem tu_jn (t : Int) : JN S (tuS S t) := (jn_wr (by omega)).tr (jn_wr (by omega))
theorem tu_wS (w : wS S) {t : Int} (t1 : 0 ≤ t) (t2 : t < 4) : wS (tuS S t) := by
  have hC := w.C
  refine jn_wS w (tu_jn t) ?_ ?_ ?_ ?_ (fun k k1 k2 => ?_)
  · rw [tu_at, if_neg (by omega), if_neg (by omega)]; omega
  · rw [tu_at, if_neg (by omega), if_pos rfl]; omega
  · rw [tu_at, if_neg (by omega), if_neg (by omega), tu_at, if_neg (by omega), if_neg (by omega)]; omega
  · rw [tu_at, if_pos rfl]; exact ⟨Int32.le_toInt _, Int32.toInt_lt _⟩
  · rw [tu_at, if_neg (by omega), if_neg (by omega)] at k2
    rw [tu_at, if_neg (by omega), if_neg (by omega)]; exact w.V k1 k2
theorem m_turns (hs : mS s S) (w : wS S) {t : Int} (t1 : 0 ≤ t) (t2 : t < 4) : ∃ s', f_X9_turns s (iI t) = some (iI (qd (S 5) t), s') ∧ mS s' (tuS S t) := by
  have hC := w.C
  have hq := qd_rg (a := S 5) (b := t) (by omega) (by omega) t1 t2
  have e5 : s (5 : Int).toNat = iI (S 5) := hs 5 (by omega) (by omega)
  have h1 : mS (upd s (5 : Int).toNat (iI t)) (wr1 S 5 t) := mS_wr hs (by omega)
  have e7 : upd s (5 : Int).toNat (iI t) (7 : Int).toNat = iI (S 7) := by
    have := h1 7 (by omega) (by omega)
    rw [wr1_no (by omega)] at this; exact this
  refine ⟨upd (upd s (5 : Int).toNat (iI t)) (7 : Int).toNat (iI (S 7 + qd (S 5) t)), ?_, ?_⟩
  · unfold f_X9_turns
    simp (disch := omega) only [-Int.reduceToNat, pc_ite, if_true, if_false, pc_bv, pc_lit, pc_neg, pc_add, pc_sub, pc_mul, pc_mr, pc_ar, pc_dv, pc_lt, pc_le, pc_eq, pc_nat, pc_div, pc_emod, pc_ifz, pc_ifo, pc_zb, pd_1, pd_2, pd_3, pd_4, pd_5, pd_6, pd_7, pd_8, pd_9, pd_10, pd_11, pd_12, pd_13, pd_14, pd_15, pd_16, pd_17, pd_19, pd_21, pd_22, pd_30, pd_34, pd_57, e5, e7, m_quarters]
  · have := mS_wr (v := (iI (S 7 + qd (S 5) t)).toInt) h1 (by omega : (0 : Int) ≤ 7)
    rw [pc_of] at this
    exact this
theorem x_turnTo {t a c : Int} (a1 : 0 ≤ a) (a2 : a < 4) (t1 : 0 ≤ t) (t2 : t < 4) : f_X4_turnTo (iI a) (iI c) (iI t) = some (iI (qd a t), iI t, iI (iI (c + qd a t)).toInt) := by
  unfold f_X4_turnTo
  simp (disch := omega) only [-Int.reduceToNat, pc_ite, if_true, if_false, pc_bv, pc_lit, pc_neg, pc_add, pc_sub, pc_mul, pc_mr, pc_ar, pc_dv, pc_lt, pc_le, pc_eq, pc_nat, pc_div, pc_emod, pc_ifz, pc_ifo, pc_zb, pd_1, pd_2, pd_3, pd_4, pd_5, pd_6, pd_7, pd_8, pd_9, pd_10, pd_11, pd_12, pd_13, pd_14, pd_15, pd_16, pd_17, pd_19, pd_21, pd_22, pd_30, pd_34, pd_57, x_quarters, pc_of]
def goN (S : Int → Int) : Int := (S 6 + 1) % S 4
theorem go_wS (w : wS S) (h : 0 < S 4) : wS (wr1 S 6 (goN S)) := by
  have hC := w.C
  have g1 : 0 ≤ goN S := Int.emod_nonneg _ (by omega)
  have g2 : goN S < S 4 := Int.emod_lt_of_pos _ h
  have n : ∀ k, k ≠ 6 → wr1 S 6 (goN S) k = S k := fun k hk => wr1_no hk
  refine jn_wS w (jn_wr (by omega)) ?_ ?_ ?_ ?_ (fun k k1 k2 => ?_)
  · rw [n 4 (by omega)]; omega
  · rw [n 5 (by omega)]; omega
  · rw [wr1_at, n 4 (by omega)]; omega
  · rw [n 7 (by omega)]; omega
  · rw [n 4 (by omega)] at k2; rw [n _ (by omega)]; exact w.V k1 k2
theorem x_goOn (w : wS S) (h : 0 < S 4) : f_X4_goOn (iI (S 4)) (iI (S 6)) = some (iI (goN S)) := by
  have hC := w.C
  unfold f_X4_goOn goN
  by_cases z : S 4 ≤ S 6 + 1
  · have e : S 6 + 1 = S 4 := by omega
    rw [e, Int.emod_self]
    simp (disch := omega) only [-Int.reduceToNat, pc_ite, if_true, if_false, pc_bv, pc_lit, pc_neg, pc_add, pc_sub, pc_mul, pc_mr, pc_ar, pc_dv, pc_lt, pc_le, pc_eq, pc_nat, pc_div, pc_emod, pc_ifz, pc_ifo, pc_zb, pd_1, pd_2, pd_3, pd_4, pd_5, pd_6, pd_7, pd_8, pd_9, pd_10, pd_11, pd_12, pd_13, pd_14, pd_15, pd_16, pd_17, pd_19, pd_21, pd_22, pd_30, pd_34, pd_57, e, Int.le_refl]
  · rw [Int.emod_eq_of_lt (by omega) (by omega)]
    simp (disch := omega) only [-Int.reduceToNat, pc_ite, if_true, if_false, pc_bv, pc_lit, pc_neg, pc_add, pc_sub, pc_mul, pc_mr, pc_ar, pc_dv, pc_lt, pc_le, pc_eq, pc_nat, pc_div, pc_emod, pc_ifz, pc_ifo, pc_zb, pd_1, pd_2, pd_3, pd_4, pd_5, pd_6, pd_7, pd_8, pd_9, pd_10, pd_11, pd_12, pd_13, pd_14, pd_15, pd_16, pd_17, pd_19, pd_21, pd_22, pd_30, pd_34, pd_57, z]
def shF (b k : Nat) (y : Nat → Int32) : Nat → Int32 := fun j => if b ≤ j ∧ j < b + k then y (j + 1) else y j
theorem shF_0 (b : Nat) (y : Nat → Int32) : y = shF b 0 y := by
  funext j; unfold shF; rw [if_neg (by omega)]
theorem shF_s (b k : Nat) (y : Nat → Int32) : upd (shF b k y) (b + k) (shF b k y (b + k + 1)) = shF b (k + 1) y := by
  funext j
  rw [upd_at]
  have e : shF b k y (b + k + 1) = y (b + k + 1) := by unfold shF; rw [if_neg (by omega)]
  rw [e]
  unfold shF
  by_cases h : j = b + k
  · rw [if_pos h, if_pos (by omega), h]
  · rw [if_neg h]
    by_cases g : b ≤ j ∧ j < b + k
    · rw [if_pos g, if_pos (by omega)]
    · rw [if_neg g, if_neg (by omega)]
theorem x_dropStop (w : wS S) (hj : aJ stp S) {i : Int} (i1 : 0 ≤ i) (i2 : i < S 4) : f_X4_dropStop (iI (S 4)) (iI (S 6)) stp (iI i) = some (iI (S 4 - 1), iI (ctN S i), shF i.toNat (S 4 - 1 - i).toNat stp) := by
  have hC := w.C
  unfold f_X4_dropStop
  simp only [pc_bv]
  have z1 : ¬ i < 0 := by omega
  simp (disch := omega) only [pc_lit, pc_lt, z1, i2, if_true, if_false]
  refine pc_b1t (pc_run2 (fun k : Nat => iI (i + 1 + k)) (fun k => shF i.toNat k stp) (S 4 - 1 - i).toNat ?_ (shF_0 _ _) (fun k hk => ?_) (r := shF i.toNat (S 4 - 1 - i).toNat stp) ?_) ?_
  · rw [pc_add, pc_c0, Int.add_zero]
  · have q1 : ¬ S 4 ≤ i + 1 + (k : Int) := by omega
    have q2 : ¬ 16 ≤ i + 1 + (k : Int) := by omega
    have q3 : (i + 1 + (k : Int)).toNat = i.toNat + k + 1 := by omega
    have q4 : (i + 1 + (k : Int) - 1).toNat = i.toNat + k := by omega
    have q5 : i + 1 + (k : Int) + 1 = i + 1 + ((k + 1 : Nat) : Int) := by omega
    simp (disch := omega) only [-Int.reduceToNat, pc_ite, if_true, if_false, pc_bv, pc_lit, pc_neg, pc_add, pc_sub, pc_mul, pc_mr, pc_ar, pc_dv, pc_lt, pc_le, pc_eq, pc_nat, pc_div, pc_emod, pc_ifz, pc_ifo, pc_zb, pd_1, pd_2, pd_3, pd_4, pd_5, pd_6, pd_7, pd_8, pd_9, pd_10, pd_11, pd_12, pd_13, pd_14, pd_15, pd_16, pd_17, pd_19, pd_21, pd_22, pd_30, pd_34, pd_57, q1, q2, q3, q4, q5]
    rw [← shF_s]
  · have q1 : S 4 ≤ i + 1 + ((S 4 - 1 - i).toNat : Int) := by omega
    simp (disch := omega) only [-Int.reduceToNat, pc_ite, if_true, if_false, pc_bv, pc_lit, pc_neg, pc_add, pc_sub, pc_mul, pc_mr, pc_ar, pc_dv, pc_lt, pc_le, pc_eq, pc_nat, pc_div, pc_emod, pc_ifz, pc_ifo, pc_zb, pd_1, pd_2, pd_3, pd_4, pd_5, pd_6, pd_7, pd_8, pd_9, pd_10, pd_11, pd_12, pd_13, pd_14, pd_15, pd_16, pd_17, pd_19, pd_21, pd_22, pd_30, pd_34, pd_57, q1]
  · unfold ctN
    by_cases y : i < S 6
    · have y2 : ¬ S 6 ≤ i := by omega
      by_cases x : S 6 - 1 < S 4 - 1
      · simp (disch := omega) only [-Int.reduceToNat, pc_ite, if_true, if_false, pc_bv, pc_lit, pc_neg, pc_add, pc_sub, pc_mul, pc_mr, pc_ar, pc_dv, pc_lt, pc_le, pc_eq, pc_nat, pc_div, pc_emod, pc_ifz, pc_ifo, pc_zb, pd_1, pd_2, pd_3, pd_4, pd_5, pd_6, pd_7, pd_8, pd_9, pd_10, pd_11, pd_12, pd_13, pd_14, pd_15, pd_16, pd_17, pd_19, pd_21, pd_22, pd_30, pd_34, pd_57, y, y2, x]
      · simp (disch := omega) only [-Int.reduceToNat, pc_ite, if_true, if_false, pc_bv, pc_lit, pc_neg, pc_add, pc_sub, pc_mul, pc_mr, pc_ar, pc_dv, pc_lt, pc_le, pc_eq, pc_nat, pc_div, pc_emod, pc_ifz, pc_ifo, pc_zb, pd_1, pd_2, pd_3, pd_4, pd_5, pd_6, pd_7, pd_8, pd_9, pd_10, pd_11, pd_12, pd_13, pd_14, pd_15, pd_16, pd_17, pd_19, pd_21, pd_22, pd_30, pd_34, pd_57, y, y2, x]
    · have y2 : S 6 ≤ i := by omega
      by_cases x : S 6 < S 4 - 1
      · simp (disch := omega) only [-Int.reduceToNat, pc_ite, if_true, if_false, pc_bv, pc_lit, pc_neg, pc_add, pc_sub, pc_mul, pc_mr, pc_ar, pc_dv, pc_lt, pc_le, pc_eq, pc_nat, pc_div, pc_emod, pc_ifz, pc_ifo, pc_zb, pd_1, pd_2, pd_3, pd_4, pd_5, pd_6, pd_7, pd_8, pd_9, pd_10, pd_11, pd_12, pd_13, pd_14, pd_15, pd_16, pd_17, pd_19, pd_21, pd_22, pd_30, pd_34, pd_57, y, y2, x]
      · simp (disch := omega) only [-Int.reduceToNat, pc_ite, if_true, if_false, pc_bv, pc_lit, pc_neg, pc_add, pc_sub, pc_mul, pc_mr, pc_ar, pc_dv, pc_lt, pc_le, pc_eq, pc_nat, pc_div, pc_emod, pc_ifz, pc_ifo, pc_zb, pd_1, pd_2, pd_3, pd_4, pd_5, pd_6, pd_7, pd_8, pd_9, pd_10, pd_11, pd_12, pd_13, pd_14, pd_15, pd_16, pd_17, pd_19, pd_21, pd_22, pd_30, pd_34, pd_57, y, y2, x]
theorem ct_aJ (w : wS S) (hj : aJ stp S) {i : Int} (i1 : 0 ≤ i) (i2 : i < S 4) : aJ (shF i.toNat (S 4 - 1 - i).toNat stp) (ctS S i) := by
  have hC := w.C
  intro k k1 k2
  have e4 : ctS S i 4 = S 4 - 1 := by unfold ctS; rw [if_pos rfl]
  rw [e4] at k2
  unfold shF ctS
  rw [if_neg (show ¬ 536 + k = 4 by omega), if_neg (show ¬ 536 + k = 6 by omega)]
  by_cases z : i ≤ k
  · rw [if_pos (by omega), if_pos (by omega), show k.toNat + 1 = (k + 1).toNat by omega, hj (k + 1) (by omega) (by omega)]
    congr 2; omega
  · rw [if_neg (by omega), if_neg (by omega), if_neg (by omega)]
    exact hj k k1 (by omega)
theorem m_cut {acts a' : Int32} {past p' : Nat → Int32} (hs : mS s S) (w : wS S) {i : Int} (i1 : 0 ≤ i) (i2 : i < S 4) (hk : f_X9_keeps acts past s = some (a', p')) : ∃ s', f_X9_cut acts th past s (iI i) = some (iI (S (536 + i)), a', iI 0, p', s') ∧ mS s' (ctS S i) := by
  have hC := w.C
  have e4 : s (4 : Int).toNat = iI (S 4) := hs 4 (by omega) (by omega)
  have ei : s (536 + i).toNat = iI (S (536 + i)) := hs _ (by omega) (by omega)
  have ok : f_X9_isIn (iI i).toInt64 (jI 0) (iI (S 4 - 1)).toInt64 = some (zB true) := by
    rw [m_isIn (by omega) (by omega) (by omega) (by omega) (by omega) (by omega), decide_eq_true (by omega)]
  have hp : f_X9_passes th (zB true) (iI 1) = some (zB true, iI 0) := m_passes1 th true
  have h1 : mS (upd s (4 : Int).toNat (iI (S 4 - 1))) (wr1 S 4 (S 4 - 1)) := mS_wr hs (by omega)
  refine ⟨upd (upd (upd (shF (536 + i.toNat) (S 4 - 1 - i).toNat (upd s (4 : Int).toNat (iI (S 4 - 1)))) (536 + (S 4 - 1)).toNat (iI 0)) (6 : Int).toNat (iI (if i < S 6 then S 6 - 1 else S 6))) (6 : Int).toNat (iI (ctN S i)), ?_, ?_⟩
  · unfold f_X9_cut
    simp only [pc_bv]
    simp (disch := omega) only [pc_lit, pc_lit64, pc_ar, pc_nat, pc_sub, pc_add, e4, ok, pd_1, hp, pd_2, hk, ei]
    rw [if_neg (by decide)]
    refine pc_b1t (pc_run2 (fun k : Nat => iI (i + k)) (fun k => shF (536 + i.toNat) k (upd s (4 : Int).toNat (iI (S 4 - 1)))) (S 4 - 1 - i).toNat ?_ (shF_0 _ _) (fun k hk => ?_) (r := shF (536 + i.toNat) (S 4 - 1 - i).toNat (upd s (4 : Int).toNat (iI (S 4 - 1)))) ?_) ?_
    · rw [pc_c0, Int.add_zero]
    · have q4 : shF (536 + i.toNat) k (upd s (4 : Int).toNat (iI (S 4 - 1))) (4 : Int).toNat = iI (S 4 - 1) := by
        unfold shF
        rw [if_neg (by omega), upd_at, if_pos rfl]
      have q1 : ¬ S 4 - 1 ≤ i + (k : Int) := by omega
      have q2 : (536 + (i + (k : Int))).toNat = 536 + i.toNat + k := by omega
      have q3 : (536 + (i + (k : Int)) + 1).toNat = 536 + i.toNat + k + 1 := by omega
      have q5 : i + (k : Int) + 1 = i + ((k + 1 : Nat) : Int) := by omega
      simp (disch := omega) only [-Int.reduceToNat, pc_ite, if_true, if_false, pc_bv, pc_lit, pc_neg, pc_add, pc_sub, pc_mul, pc_mr, pc_ar, pc_dv, pc_lt, pc_le, pc_eq, pc_nat, pc_div, pc_emod, pc_ifz, pc_ifo, pc_zb, pd_1, pd_2, pd_3, pd_4, pd_5, pd_6, pd_7, pd_8, pd_9, pd_10, pd_11, pd_12, pd_13, pd_14, pd_15, pd_16, pd_17, pd_19, pd_21, pd_22, pd_30, pd_34, pd_57, q4, q1, q2, q3, q5]
      rw [← shF_s]
    · have q4 : shF (536 + i.toNat) (S 4 - 1 - i).toNat (upd s (4 : Int).toNat (iI (S 4 - 1))) (4 : Int).toNat = iI (S 4 - 1) := by
        unfold shF
        rw [if_neg (by omega), upd_at, if_pos rfl]
      have q1 : S 4 - 1 ≤ i + ((S 4 - 1 - i).toNat : Int) := by omega
      simp (disch := omega) only [-Int.reduceToNat, pc_ite, if_true, if_false, pc_bv, pc_lit, pc_neg, pc_add, pc_sub, pc_mul, pc_mr, pc_ar, pc_dv, pc_lt, pc_le, pc_eq, pc_nat, pc_div, pc_emod, pc_ifz, pc_ifo, pc_zb, pd_1, pd_2, pd_3, pd_4, pd_5, pd_6, pd_7, pd_8, pd_9, pd_10, pd_11, pd_12, pd_13, pd_14, pd_15, pd_16, pd_17, pd_19, pd_21, pd_22, pd_30, pd_34, pd_57, q4, q1]
    · have q4 : shF (536 + i.toNat) (S 4 - 1 - i).toNat (upd s (4 : Int).toNat (iI (S 4 - 1))) (4 : Int).toNat = iI (S 4 - 1) := by
        unfold shF
        rw [if_neg (by omega), upd_at, if_pos rfl]
      have q6 : shF (536 + i.toNat) (S 4 - 1 - i).toNat (upd s (4 : Int).toNat (iI (S 4 - 1))) (6 : Int).toNat = iI (S 6) := by
        unfold shF
        rw [if_neg (by omega), upd_at, if_neg (by omega)]
        exact hs 6 (by omega) (by omega)
      generalize shF (536 + i.toNat) (S 4 - 1 - i).toNat (upd s (4 : Int).toNat (iI (S 4 - 1))) = y at q4 q6 ⊢
      have g1 : upd y (536 + (S 4 - 1)).toNat (iI 0) (6 : Int).toNat = iI (S 6) := by rw [upd_at, if_neg (by omega)]; exact q6
      have g2 : ∀ x, upd (upd y (536 + (S 4 - 1)).toNat (iI 0)) (6 : Int).toNat x (4 : Int).toNat = iI (S 4 - 1) := by
        intro x; rw [upd_at, if_neg (by decide), upd_at, if_neg (by omega)]; exact q4
      have g3 : ∀ x, upd (upd y (536 + (S 4 - 1)).toNat (iI 0)) (6 : Int).toNat x (6 : Int).toNat = x := by
        intro x; rw [upd_at, if_pos rfl]
      unfold ctN
      by_cases yy : i < S 6
      · have y2 : ¬ S 6 ≤ i := by omega
        by_cases x : S 6 - 1 < S 4 - 1
        · have x2 : ¬ S 4 - 1 ≤ S 6 - 1 := by omega
          simp (disch := omega) only [-Int.reduceToNat, pc_ite, if_true, if_false, pc_bv, pc_lit, pc_neg, pc_add, pc_sub, pc_mul, pc_mr, pc_ar, pc_dv, pc_lt, pc_le, pc_eq, pc_nat, pc_div, pc_emod, pc_ifz, pc_ifo, pc_zb, pd_1, pd_2, pd_3, pd_4, pd_5, pd_6, pd_7, pd_8, pd_9, pd_10, pd_11, pd_12, pd_13, pd_14, pd_15, pd_16, pd_17, pd_19, pd_21, pd_22, pd_30, pd_34, pd_57, q4, g1, g2, g3, yy, y2, x, x2]
        · have x2 : S 4 - 1 ≤ S 6 - 1 := by omega
          simp (disch := omega) only [-Int.reduceToNat, pc_ite, if_true, if_false, pc_bv, pc_lit, pc_neg, pc_add, pc_sub, pc_mul, pc_mr, pc_ar, pc_dv, pc_lt, pc_le, pc_eq, pc_nat, pc_div, pc_emod, pc_ifz, pc_ifo, pc_zb, pd_1, pd_2, pd_3, pd_4, pd_5, pd_6, pd_7, pd_8, pd_9, pd_10, pd_11, pd_12, pd_13, pd_14, pd_15, pd_16, pd_17, pd_19, pd_21, pd_22, pd_30, pd_34, pd_57, q4, g1, g2, g3, yy, y2, x, x2]
      · have y2 : S 6 ≤ i := by omega
        by_cases x : S 6 < S 4 - 1
        · have x2 : ¬ S 4 - 1 ≤ S 6 := by omega
          simp (disch := omega) only [-Int.reduceToNat, pc_ite, if_true, if_false, pc_bv, pc_lit, pc_neg, pc_add, pc_sub, pc_mul, pc_mr, pc_ar, pc_dv, pc_lt, pc_le, pc_eq, pc_nat, pc_div, pc_emod, pc_ifz, pc_ifo, pc_zb, pd_1, pd_2, pd_3, pd_4, pd_5, pd_6, pd_7, pd_8, pd_9, pd_10, pd_11, pd_12, pd_13, pd_14, pd_15, pd_16, pd_17, pd_19, pd_21, pd_22, pd_30, pd_34, pd_57, q4, g1, g2, g3, yy, y2, x, x2, Int.sub_zero]
        · have x2 : S 4 - 1 ≤ S 6 := by omega
          simp (disch := omega) only [-Int.reduceToNat, pc_ite, if_true, if_false, pc_bv, pc_lit, pc_neg, pc_add, pc_sub, pc_mul, pc_mr, pc_ar, pc_dv, pc_lt, pc_le, pc_eq, pc_nat, pc_div, pc_emod, pc_ifz, pc_ifo, pc_zb, pd_1, pd_2, pd_3, pd_4, pd_5, pd_6, pd_7, pd_8, pd_9, pd_10, pd_11, pd_12, pd_13, pd_14, pd_15, pd_16, pd_17, pd_19, pd_21, pd_22, pd_30, pd_34, pd_57, q4, g1, g2, g3, yy, y2, x, x2, Int.sub_zero]
  · intro k k1 k2
    have hk2 := hs k k1 k2
    rw [upd_at]
    unfold ctS
    by_cases z6 : k = 6
    · rw [if_pos (by omega), if_neg (by omega), if_pos z6]
    · rw [if_neg (by omega), upd_at, if_neg (by omega), upd_at]
      by_cases z4 : k = 4
      · rw [if_neg (by omega), if_pos z4]
        unfold shF
        rw [if_neg (by omega), upd_at, if_pos (by omega)]
      · rw [if_neg z4, if_neg z6]
        by_cases ze : k = 536 + (S 4 - 1)
        · rw [if_pos (by omega), if_neg (by omega), if_pos ze]
        · rw [if_neg (by omega)]
          unfold shF
          by_cases zr : 536 + i ≤ k ∧ k < 536 + (S 4 - 1)
          · rw [if_pos (by omega), if_pos zr, upd_at, if_neg (by omega)]
            have := hs (k + 1) (by omega) (by omega)
            rw [← this]
            congr 1; omega
          · rw [if_neg (by omega), if_neg zr, if_neg ze, upd_at, if_neg (by omega)]
            exact hk2
end
