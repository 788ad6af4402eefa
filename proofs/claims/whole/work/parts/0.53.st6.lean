section
variable {s : Nat → Int32} {S M : Int → Int} {land riv hom dir len let' nOn lOn stp ord : Nat → Int32}
theorem way_both (hs : mS s S) (w : wS S) (ra : RA lOn nOn land riv ord dir hom len let' stp S) (co0 y0 sm0 : Nat → Int32) : ∃ M co y sm, solM S M ∧ yC S co ∧ yM S (kM M) y ∧ yM S M sm ∧ f_X7_survey co0 y0 (iI (S 0)) (iI (S 1)) (iI (S 2)) nOn land riv hom = some (co, y) ∧ f_X9_laysSums s sm0 = some sm := by
  obtain ⟨sm, e1, M, h1, h2⟩ := m_sums hs w sm0
  obtain ⟨⟨co, y⟩, e2, h3, h4⟩ := x_survey w ra.land ra.riverOf ra.home ra.namesOn h2 co0 y0
  exact ⟨M, co, y, sm, h2, h3, h4, h1, e2, e1⟩
theorem x_wayFrom (w : wS S) (hM : solM S M) {co0 y0 co y : Nat → Int32} (hco : yC S co) (hy : yM S (kM M) y) (e : f_X7_survey co0 y0 (iI (S 0)) (iI (S 1)) (iI (S 2)) nOn land riv hom = some (co, y)) {ln : Int32} {wy : Nat → Int32} {v : Int} (v1 : 0 ≤ v) (v2 : v < S 0 * S 1) : f_X8_wayFrom ln (iI (S 0)) (iI (S 1)) (iI (S 2)) nOn co0 y0 wy land riv hom (iI v) = if M v < 1000000 then some (iI (fLn S M v), iI (fLn S M v), co, y, cpF (fLn S M v).toNat (flA S M v) wy) else some (iI 0, iI 0, co, y, wy) := by
  unfold f_X8_wayFrom
  rw [e, pd_2, x_trace w hM hco hy v1 v2]
  split <;> rfl
theorem m_findsFlow (hs : mS s S) (w : wS S) (hM : solM S M) {sm0 sm : Nat → Int32} (hy : yM S M sm) (e : f_X9_laysSums s sm0 = some sm) {ln : Int32} {wy : Nat → Int32} {v : Int} (v1 : 0 ≤ v) (v2 : v < S 0 * S 1) : f_X9_findsFlow ln wy s sm0 (iI v) = if M v < 1000000 then some (iI 1, iI (fLn S M v), cpF (fLn S M v).toNat (flA S M v) wy, sm) else some (iI 0, iI 0, wy, sm) := by
  unfold f_X9_findsFlow
  rw [e, pd_1, m_laysFlow hs w hM hy v1 v2]
  split <;> rfl
theorem x_namesOnWay (w : wS S) (hn : aN nOn S) (hM : solM S M) {wy : Nat → Int32} {v : Int} (v1 : 0 ≤ v) (v2 : v < S 0 * S 1) (hf : M v < 1000000) : f_X7_namesOnWay (iI (fLn S M v)) (cpF (fLn S M v).toNat (flA S M v) wy) nOn = some (wsh S M v) := by
  have hN := w.N
  have hL := fLn_c w hM v1 v2 hf
  unfold f_X7_namesOnWay wsh orF
  simp only [pc_bv]
  refine pc_b1t (pc_fold id (fun k b => b ||| nm S (fl S M v k.toNat)) (fun _ _ => True) id (fLn S M v) (by omega) (b0 := iI 0) rfl rfl trivial (fun i b a1 a2 _ => ⟨?_, trivial⟩) (fun b _ => ?_)).1 rfl
  · have ha := fl_at w hM v1 v2 hf (k := i.toNat) (by omega)
    have wa : f_X7_wayAt (iI (fLn S M v)) (cpF (fLn S M v).toNat (flA S M v) wy) (iI i) = some (iI (fl S M v i.toNat)) := by
      unfold f_X7_wayAt
      have e : cpF (fLn S M v).toNat (flA S M v) wy i.toNat = iI (fl S M v i.toNat) := by unfold cpF; rw [if_pos (by omega)]; rfl
      simp (disch := omega) only [-Int.reduceToNat, pc_ite, if_true, if_false, pc_bv, pc_lit, pc_neg, pc_add, pc_sub, pc_mul, pc_mr, pc_ar, pc_dv, pc_lt, pc_le, pc_eq, pc_nat, pc_div, pc_emod, pc_ifz, pc_ifo, pc_zb, pd_1, pd_2, pd_3, pd_4, pd_5, pd_6, pd_7, pd_8, pd_9, pd_10, pd_11, pd_12, pd_13, pd_14, pd_15, pd_16, pd_17, pd_19, pd_21, pd_22, pd_30, pd_34, pd_57, if_neg, e]
    simp (disch := omega) only [-Int.reduceToNat, pc_ite, if_true, if_false, pc_bv, pc_lit, pc_neg, pc_add, pc_sub, pc_mul, pc_mr, pc_ar, pc_dv, pc_lt, pc_le, pc_eq, pc_nat, pc_div, pc_emod, pc_ifz, pc_ifo, pc_zb, pd_1, pd_2, pd_3, pd_4, pd_5, pd_6, pd_7, pd_8, pd_9, pd_10, pd_11, pd_12, pd_13, pd_14, pd_15, pd_16, pd_17, pd_19, pd_21, pd_22, pd_30, pd_34, pd_57, wa, x_namesIn hn, if_neg, id]
  · simp (disch := omega) only [-Int.reduceToNat, pc_ite, if_true, if_false, pc_bv, pc_lit, pc_neg, pc_add, pc_sub, pc_mul, pc_mr, pc_ar, pc_dv, pc_lt, pc_le, pc_eq, pc_nat, pc_div, pc_emod, pc_ifz, pc_ifo, pc_zb, pd_1, pd_2, pd_3, pd_4, pd_5, pd_6, pd_7, pd_8, pd_9, pd_10, pd_11, pd_12, pd_13, pd_14, pd_15, pd_16, pd_17, pd_19, pd_21, pd_22, pd_30, pd_34, pd_57, if_pos, id]
theorem x_namesOnWay0 {wy : Nat → Int32} : f_X7_namesOnWay (iI 0) wy nOn = some (iI 0) := by
  unfold f_X7_namesOnWay
  simp only [pc_bv]
  exact pc_b1t (pc_run2 (fun _ => iI 0) (fun _ => iI 0) 0 rfl rfl (fun i h => by omega) (r := iI 0) (by rw [if_pos (by decide)])) rfl
theorem m_washedBy (hs : mS s S) (w : wS S) (hM : solM S M) {wy : Nat → Int32} {v : Int} (v1 : 0 ≤ v) (v2 : v < S 0 * S 1) (hf : M v < 1000000) : f_X9_washedBy (iI (fLn S M v)) (cpF (fLn S M v).toNat (flA S M v) wy) s = some (wsh S M v) := by
  have hN := w.N
  have hL := fLn_c w hM v1 v2 hf
  unfold f_X9_washedBy wsh orF
  simp only [pc_bv]
  refine pc_b1t (pc_fold id (fun k b => b ||| nm S (fl S M v k.toNat)) (fun _ _ => True) id (fLn S M v) (by omega) (b0 := iI 0) rfl rfl trivial (fun i b a1 a2 _ => ⟨?_, trivial⟩) (fun b _ => ?_)).1 rfl
  · have ha := fl_at w hM v1 v2 hf (k := i.toNat) (by omega)
    have e : cpF (fLn S M v).toNat (flA S M v) wy i.toNat = iI (fl S M v i.toNat) := by unfold cpF; rw [if_pos (by omega)]; rfl
    simp (disch := omega) only [-Int.reduceToNat, pc_ite, if_true, if_false, pc_bv, pc_lit, pc_neg, pc_add, pc_sub, pc_mul, pc_mr, pc_ar, pc_dv, pc_lt, pc_le, pc_eq, pc_nat, pc_div, pc_emod, pc_ifz, pc_ifo, pc_zb, pd_1, pd_2, pd_3, pd_4, pd_5, pd_6, pd_7, pd_8, pd_9, pd_10, pd_11, pd_12, pd_13, pd_14, pd_15, pd_16, pd_17, pd_19, pd_21, pd_22, pd_30, pd_34, pd_57, e, m_namesIn hs w, if_neg, id]
  · simp (disch := omega) only [-Int.reduceToNat, pc_ite, if_true, if_false, pc_bv, pc_lit, pc_neg, pc_add, pc_sub, pc_mul, pc_mr, pc_ar, pc_dv, pc_lt, pc_le, pc_eq, pc_nat, pc_div, pc_emod, pc_ifz, pc_ifo, pc_zb, pd_1, pd_2, pd_3, pd_4, pd_5, pd_6, pd_7, pd_8, pd_9, pd_10, pd_11, pd_12, pd_13, pd_14, pd_15, pd_16, pd_17, pd_19, pd_21, pd_22, pd_30, pd_34, pd_57, if_pos, id]
theorem wsh_hi (w : wS S) (v : Int) : ∀ k, 8 ≤ k → k < 32 → bt (wsh S M v) k = false := by
  intro k k1 k2
  have hC := w.C
  unfold wsh
  rw [bt_orF, an_false]
  intro i i1 i2
  rw [bt_nm w (by omega) k2]
  have : ¬ k < S 2 := by omega
  simp [this]
theorem x_wayAt (w : wS S) (hM : solM S M) {wy : Nat → Int32} {v x : Int} (v1 : 0 ≤ v) (v2 : v < S 0 * S 1) (hf : M v < 1000000) (x1 : -2147483648 ≤ x) (x2 : x < 2147483648) : f_X7_wayAt (iI (fLn S M v)) (cpF (fLn S M v).toNat (flA S M v) wy) (iI x) = some (iI (if 0 ≤ x ∧ x < fLn S M v then fl S M v x.toNat else -1)) := by
  have hN := w.N
  have hL := fLn_c w hM v1 v2 hf
  unfold f_X7_wayAt
  by_cases z : 0 ≤ x ∧ x < fLn S M v
  · have e : cpF (fLn S M v).toNat (flA S M v) wy x.toNat = iI (fl S M v x.toNat) := by unfold cpF; rw [if_pos (by omega)]; rfl
    rw [if_pos z]
    simp (disch := omega) only [-Int.reduceToNat, pc_ite, if_true, if_false, pc_bv, pc_lit, pc_neg, pc_add, pc_sub, pc_mul, pc_mr, pc_ar, pc_dv, pc_lt, pc_le, pc_eq, pc_nat, pc_div, pc_emod, pc_ifz, pc_ifo, pc_zb, pd_1, pd_2, pd_3, pd_4, pd_5, pd_6, pd_7, pd_8, pd_9, pd_10, pd_11, pd_12, pd_13, pd_14, pd_15, pd_16, pd_17, pd_19, pd_21, pd_22, pd_30, pd_34, pd_57, if_neg, e]
  · rw [if_neg z]
    by_cases y : x < 0
    · simp (disch := omega) only [-Int.reduceToNat, pc_ite, if_true, if_false, pc_bv, pc_lit, pc_neg, pc_add, pc_sub, pc_mul, pc_mr, pc_ar, pc_dv, pc_lt, pc_le, pc_eq, pc_nat, pc_div, pc_emod, pc_ifz, pc_ifo, pc_zb, pd_1, pd_2, pd_3, pd_4, pd_5, pd_6, pd_7, pd_8, pd_9, pd_10, pd_11, pd_12, pd_13, pd_14, pd_15, pd_16, pd_17, pd_19, pd_21, pd_22, pd_30, pd_34, pd_57, y]
    · have z2 : fLn S M v ≤ x := by omega
      simp (disch := omega) only [-Int.reduceToNat, pc_ite, if_true, if_false, pc_bv, pc_lit, pc_neg, pc_add, pc_sub, pc_mul, pc_mr, pc_ar, pc_dv, pc_lt, pc_le, pc_eq, pc_nat, pc_div, pc_emod, pc_ifz, pc_ifo, pc_zb, pd_1, pd_2, pd_3, pd_4, pd_5, pd_6, pd_7, pd_8, pd_9, pd_10, pd_11, pd_12, pd_13, pd_14, pd_15, pd_16, pd_17, pd_19, pd_21, pd_22, pd_30, pd_34, pd_57, y, z2]
theorem x_wayAt0 {wy : Nat → Int32} {x : Int} (x1 : -2147483648 ≤ x) (x2 : x < 2147483648) : f_X7_wayAt (iI 0) wy (iI x) = some (iI (-1)) := by
  unfold f_X7_wayAt
  by_cases y : x < 0
  · simp (disch := omega) only [-Int.reduceToNat, pc_ite, if_true, if_false, pc_bv, pc_lit, pc_neg, pc_add, pc_sub, pc_mul, pc_mr, pc_ar, pc_dv, pc_lt, pc_le, pc_eq, pc_nat, pc_div, pc_emod, pc_ifz, pc_ifo, pc_zb, pd_1, pd_2, pd_3, pd_4, pd_5, pd_6, pd_7, pd_8, pd_9, pd_10, pd_11, pd_12, pd_13, pd_14, pd_15, pd_16, pd_17, pd_19, pd_21, pd_22, pd_30, pd_34, pd_57, y]
  · have z2 : 0 ≤ x := by omega
    simp (disch := omega) only [-Int.reduceToNat, pc_ite, if_true, if_false, pc_bv, pc_lit, pc_neg, pc_add, pc_sub, pc_mul, pc_mr, pc_ar, pc_dv, pc_lt, pc_le, pc_eq, pc_nat, pc_div, pc_emod, pc_ifz, pc_ifo, pc_zb, pd_1, pd_2, pd_3, pd_4, pd_5, pd_6, pd_7, pd_8, pd_9, pd_10, pd_11, pd_12, pd_13, pd_14, pd_15, pd_16, pd_17, pd_19, pd_21, pd_22, pd_30, pd_34, pd_57, y, z2]
def mdT (S M : Int → Int) (k : Int) (b : Int × Int × Int) : Int × Int × Int := if M k < 1000000 ∧ (b.1 = -1 ∨ oc (wsh S M k) < b.2.1 ∨ (oc (wsh S M k) = b.2.1 ∧ b.2.2 < fLn S M k)) then (k, oc (wsh S M k), fLn S M k) else b
def mdN (S M : Int → Int) : Int := (fol (mdT S M) (-1, 0, 0) (S 0 * S 1).toNat).1
theorem mdT_1 {k : Int} {b : Int × Int × Int} (h : M k < 1000000 ∧ (b.1 = -1 ∨ oc (wsh S M k) < b.2.1 ∨ (oc (wsh S M k) = b.2.1 ∧ b.2.2 < fLn S M k))) : (mdT S M k b).1 = k ∧ (mdT S M k b).2.1 = oc (wsh S M k) ∧ (mdT S M k b).2.2 = fLn S M k := by unfold mdT; rw [if_pos h]; exact ⟨rfl, rfl, rfl⟩
theorem mdT_0 {k : Int} {b : Int × Int × Int} (h : ¬ (M k < 1000000 ∧ (b.1 = -1 ∨ oc (wsh S M k) < b.2.1 ∨ (oc (wsh S M k) = b.2.1 ∧ b.2.2 < fLn S M k)))) : mdT S M k b = b := by unfold mdT; rw [if_neg h]
def mdP (S : Int → Int) (i : Int) (b : Int × Int × Int) : Prop := -1 ≤ b.1 ∧ b.1 < 144 ∧ 0 ≤ b.2.1 ∧ b.2.1 ≤ 8 ∧ 0 ≤ b.2.2 ∧ b.2.2 ≤ 144
theorem mdT_P (w : wS S) (hM : solM S M) {i : Int} {b : Int × Int × Int} (a1 : 0 ≤ i) (a2 : i < S 0 * S 1) (hb : mdP S i b) : mdP S (i + 1) (mdT S M i b) := by
  have hN := w.N
  unfold mdP at hb ⊢
  by_cases h : M i < 1000000 ∧ (b.1 = -1 ∨ oc (wsh S M i) < b.2.1 ∨ (oc (wsh S M i) = b.2.1 ∧ b.2.2 < fLn S M i))
  · obtain ⟨q1, q2, q3⟩ := mdT_1 h
    have hL := fLn_c w hM a1 a2 h.1
    have ho := oc_rg (wsh S M i)
    rw [q1, q2, q3]
    omega
  · rw [mdT_0 h]; exact hb
end
