def nxI (S M : Int → Int) (v : Int) : Int := fi (fun x => decide (aw S v x 1 ≠ -1) && decide (M (aw S v x 1) = M v - cst S v)) 4
def nx (S M : Int → Int) (v : Int) : Int := if nxI S M v = -1 then -1 else aw S v (nxI S M v) 1
def fl (S M : Int → Int) (v : Int) : Nat → Int
  | 0 => v
  | k + 1 => nx S M (fl S M v k)
def fLn (S M : Int → Int) (v : Int) : Int := fi (fun k => eB S (fl S M v k.toNat)) (S 0 * S 1) + 1
def flA (S M : Int → Int) (v : Int) : Nat → Int32 := fun j => iI (fl S M v j)
def wsh (S M : Int → Int) (v : Int) : Int32 := orF (fun k => nm S (fl S M v k.toNat)) (fLn S M v)
section
variable {s : Nat → Int32} {S M : Int → Int} {land riv hom dir len let' nOn lOn stp ord : Nat → Int32}
theorem fin_cB (hM : solM S M) {v : Int} (v1 : 0 ≤ v) (v2 : v < S 0 * S 1) (hf : M v < 1000000) : cB S v = true := by
  cases e : cB S v
  · have := (hM.1 v v1 v2).2.2.1 e; omega
  · rfl
theorem nx_ok (w : wS S) (hM : solM S M) {v : Int} (v1 : 0 ≤ v) (v2 : v < S 0 * S 1) (hf : M v < 1000000) (he : eB S v = false) : 0 ≤ nxI S M v ∧ nxI S M v < 4 ∧ nx S M v = aw S v (nxI S M v) 1 ∧ 0 ≤ nx S M v ∧ nx S M v < S 0 * S 1 ∧ M (nx S M v) = M v - cst S v ∧ (∀ x, 0 ≤ x → x < nxI S M v → aw S v x 1 = -1 ∨ M (aw S v x 1) ≠ M v - cst S v) := by
  have e1 := fin_cB hM v1 v2 hf
  have hex : ∃ x, 0 ≤ x ∧ x < 4 ∧ aw S v x 1 ≠ -1 ∧ M (aw S v x 1) = M v - cst S v := by
    rcases (hM.1 v v1 v2).2.2.2.2 e1 he with q | ⟨x, x1, x2, x3, x4, x5⟩
    · omega
    · have := hM.2 v v1 v2 e1 he x x1 x2 x3 x4
      exact ⟨x, x1, x2, x3, by omega⟩
  obtain ⟨x, x1, x2, x3, x4⟩ := hex
  rcases fi_c (fun x => decide (aw S v x 1 ≠ -1) && decide (M (aw S v x 1) = M v - cst S v)) 4 with ⟨i, a1, a2, a3, a4, a5⟩ | ⟨a4, a5⟩
  · rw [show fi _ 4 = nxI S M v from rfl] at a4
    simp only [Bool.and_eq_true, decide_eq_true_iff] at a3
    have hn : nx S M v = aw S v i 1 := by unfold nx; rw [a4, if_neg (by omega)]
    have hA := aw_in w a3.1
    rw [hn, a4]
    refine ⟨a1, a2, rfl, hA.1, hA.2, a3.2, fun y y1 y2 => ?_⟩
    have := a5 y y1 y2
    simp only [Bool.and_eq_false_iff, decide_eq_false_iff_not, Decidable.not_not] at this
    exact this
  · have := a5 x x1 x2
    simp only [Bool.and_eq_false_iff, decide_eq_false_iff_not, Decidable.not_not] at this
    rcases this with q | q
    · exact absurd q x3
    · exact absurd x4 q
theorem fl_in (w : wS S) (hM : solM S M) {v : Int} (v1 : 0 ≤ v) (v2 : v < S 0 * S 1) (hf : M v < 1000000) : ∀ k : Nat, (∀ j : Nat, j < k → eB S (fl S M v j) = false) → 0 ≤ fl S M v k ∧ fl S M v k < S 0 * S 1 ∧ M (fl S M v k) < 1000000 ∧ rk S M (fl S M v k) + k ≤ rk S M v := by
  intro k
  induction k with
  | zero => intro _; exact ⟨v1, v2, hf, by show rk S M v + 0 ≤ _; omega⟩
  | succ k ih =>
    intro h
    obtain ⟨b1, b2, b3, b4⟩ := ih (fun j hj => h j (by omega))
    have hn := nx_ok w hM b1 b2 b3 (h k (by omega))
    have hc := cst_rg S (fl S M v k)
    have hr := rk_lt (M := M) w hn.2.2.2.1 hn.2.2.2.2.1 (v := fl S M v k) (by omega)
    show 0 ≤ nx S M (fl S M v k) ∧ nx S M (fl S M v k) < _ ∧ M (nx S M (fl S M v k)) < _ ∧ rk S M (nx S M (fl S M v k)) + _ ≤ _
    exact ⟨hn.2.2.2.1, hn.2.2.2.2.1, by omega, by omega⟩
theorem fLn_c (w : wS S) (hM : solM S M) {v : Int} (v1 : 0 ≤ v) (v2 : v < S 0 * S 1) (hf : M v < 1000000) : 1 ≤ fLn S M v ∧ fLn S M v ≤ S 0 * S 1 ∧ eB S (fl S M v (fLn S M v - 1).toNat) = true ∧ (∀ j : Nat, (j : Int) < fLn S M v - 1 → eB S (fl S M v j) = false) := by
  have hN := w.N
  unfold fLn
  rcases fi_c (fun k => eB S (fl S M v k.toNat)) (S 0 * S 1) with ⟨i, a1, a2, a3, a4, a5⟩ | ⟨a4, a5⟩
  · rw [a4]
    refine ⟨by omega, by omega, by rw [show (i + 1 - 1) = i by omega]; exact a3, fun j hj => ?_⟩
    have := a5 j (by omega) (by omega)
    rw [show ((j : Int)).toNat = j by omega] at this
    exact this
  · exfalso
    have := fl_in w hM v1 v2 hf (S 0 * S 1).toNat (fun j hj => by
      have := a5 j (by omega) (by omega)
      rw [show ((j : Int)).toNat = j by omega] at this
      exact this)
    have h1 := (rk_rg (M := M) w v1 v2).2
    have h2 := (rk_rg (M := M) w this.1 this.2.1).1
    omega
theorem fl_at (w : wS S) (hM : solM S M) {v : Int} (v1 : 0 ≤ v) (v2 : v < S 0 * S 1) (hf : M v < 1000000) {k : Nat} (hk : (k : Int) < fLn S M v) : 0 ≤ fl S M v k ∧ fl S M v k < S 0 * S 1 ∧ M (fl S M v k) < 1000000 ∧ cB S (fl S M v k) = true := by
  have hL := fLn_c w hM v1 v2 hf
  have := fl_in w hM v1 v2 hf k (fun j hj => hL.2.2.2 j (by omega))
  exact ⟨this.1, this.2.1, this.2.2.1, fin_cB hM this.1 this.2.1 this.2.2.1⟩
theorem x_beside (w : wS S) (hM : solM S M) {y : Nat → Int32} (hy : yM S (kM M) y) {v : Int} (v1 : 0 ≤ v) (v2 : v < S 0 * S 1) (hf : M v < 1000000) (he : eB S v = false) : f_X7_besideWithSum y (iI (S 0)) (iI (S 1)) (iI v) (iI (M v - cst S v)) = some (iI (nx S M v)) := by
  have hN := w.N
  have hn := nx_ok w hM v1 v2 hf he
  have hp := (hM.1 _ hn.2.2.2.1 hn.2.2.2.2.1).1
  have hmv := hM.1 v v1 v2
  have hc := cst_rg S v
  unfold f_X7_besideWithSum
  simp only [pc_bv]
  refine pc_run1 (fun k : Nat => iI k) (nxI S M v).toNat rfl (fun k hk => ?_) ?_
  · have z : ¬ (4 : Int) ≤ k := by omega
    have ahd := x_ahead w v1 v2 (by omega : (0 : Int) ≤ k) (by omega : (k : Int) < 4) (by omega : (0 : Int) ≤ 1) (by omega)
    have hA := g_aw w.1 v k 1
    have pl : (k : Int) + 1 = ((k + 1 : Nat) : Int) := by omega
    rcases hn.2.2.2.2.2.2 k (by omega) (by omega) with q | q
    · rw [q] at ahd
      have z2 : ¬ (-1 : Int) = M v - cst S v := by omega
      simp (disch := omega) only [-Int.reduceToNat, pc_ite, if_true, if_false, pc_bv, pc_lit, pc_neg, pc_add, pc_sub, pc_mul, pc_mr, pc_ar, pc_dv, pc_lt, pc_le, pc_eq, pc_nat, pc_div, pc_emod, pc_ifz, pc_ifo, pc_zb, pd_1, pd_2, pd_3, pd_4, pd_5, pd_6, pd_7, pd_8, pd_9, pd_10, pd_11, pd_12, pd_13, pd_14, pd_15, pd_16, pd_17, pd_19, pd_21, pd_22, pd_30, pd_34, pd_57, z, ahd, x_sumN, z2, pl]
    · by_cases q0 : aw S v k 1 = -1
      · rw [q0] at ahd
        have z2 : ¬ (-1 : Int) = M v - cst S v := by omega
        simp (disch := omega) only [-Int.reduceToNat, pc_ite, if_true, if_false, pc_bv, pc_lit, pc_neg, pc_add, pc_sub, pc_mul, pc_mr, pc_ar, pc_dv, pc_lt, pc_le, pc_eq, pc_nat, pc_div, pc_emod, pc_ifz, pc_ifo, pc_zb, pd_1, pd_2, pd_3, pd_4, pd_5, pd_6, pd_7, pd_8, pd_9, pd_10, pd_11, pd_12, pd_13, pd_14, pd_15, pd_16, pd_17, pd_19, pd_21, pd_22, pd_30, pd_34, pd_57, z, ahd, x_sumN, z2, pl]
      · have hA2 := aw_in w q0
        have e := hy _ hA2.1 hA2.2
        have hmu := hM.1 _ hA2.1 hA2.2
        have hmv := hM.1 v v1 v2
        have hc := cst_rg S v
        have z3 : ¬ kM M (aw S v k 1) = M v - cst S v := by unfold kM; split <;> omega
        have b1 : -1 ≤ kM M (aw S v k 1) ∧ kM M (aw S v k 1) ≤ 1000000 := by unfold kM; split <;> omega
        simp (disch := omega) only [-Int.reduceToNat, pc_ite, if_true, if_false, pc_bv, pc_lit, pc_neg, pc_add, pc_sub, pc_mul, pc_mr, pc_ar, pc_dv, pc_lt, pc_le, pc_eq, pc_nat, pc_div, pc_emod, pc_ifz, pc_ifo, pc_zb, pd_1, pd_2, pd_3, pd_4, pd_5, pd_6, pd_7, pd_8, pd_9, pd_10, pd_11, pd_12, pd_13, pd_14, pd_15, pd_16, pd_17, pd_19, pd_21, pd_22, pd_30, pd_34, pd_57, z, ahd, x_sumOf, e, z3, pl]
  · have en : (((nxI S M v).toNat : Nat) : Int) = nxI S M v := by omega
    have ahd := x_ahead w v1 v2 hn.1 hn.2.1 (by omega : (0 : Int) ≤ 1) (by omega)
    rw [← hn.2.2.1] at ahd
    have e := hy _ hn.2.2.2.1 hn.2.2.2.2.1
    have hmv := hM.1 v v1 v2
    have hc := cst_rg S v
    have e2 : kM M (nx S M v) = M v - cst S v := by unfold kM; rw [if_neg (by omega)]; exact hn.2.2.2.2.2.1
    have z : ¬ (4 : Int) ≤ nxI S M v := by omega
    rw [en]
    simp (disch := omega) only [-Int.reduceToNat, pc_ite, if_true, if_false, pc_bv, pc_lit, pc_neg, pc_add, pc_sub, pc_mul, pc_mr, pc_ar, pc_dv, pc_lt, pc_le, pc_eq, pc_nat, pc_div, pc_emod, pc_ifz, pc_ifo, pc_zb, pd_1, pd_2, pd_3, pd_4, pd_5, pd_6, pd_7, pd_8, pd_9, pd_10, pd_11, pd_12, pd_13, pd_14, pd_15, pd_16, pd_17, pd_19, pd_21, pd_22, pd_30, pd_34, pd_57, z, ahd, x_sumOf, e, e2]
theorem m_stepFrom (hs : mS s S) (w : wS S) (hM : solM S M) {y : Nat → Int32} (hy : yM S M y) {v : Int} (v1 : 0 ≤ v) (v2 : v < S 0 * S 1) (hf : M v < 1000000) (he : eB S v = false) : f_X9_stepFrom s y (iI v) = some (iI (nx S M v)) := by
  have hN := w.N
  have hn := nx_ok w hM v1 v2 hf he
  have hp := (hM.1 _ hn.2.2.2.1 hn.2.2.2.2.1).1
  have co := m_costOf hs w v1 v2
  rw [show (if nm S v = iI 0 then (1 : Int) else 11) = cst S v from rfl] at co
  have ev := hy v v1 v2
  have hmv := hM.1 v v1 v2
  have hc := cst_rg S v
  unfold f_X9_stepFrom
  simp only [pc_bv]
  rw [pc_ar v1 (by omega) (by omega), co, pd_1, pc_nat (by omega) (by omega), ev, pc_sub]
  refine pc_run1 (fun k : Nat => iI k) (nxI S M v).toNat rfl (fun k hk => ?_) ?_
  · have z : ¬ (4 : Int) ≤ k := by omega
    have pl : (k : Int) + 1 = ((k + 1 : Nat) : Int) := by omega
    have ahd := m_away hs w v1 v2 (by omega : (0 : Int) ≤ k) (by omega : (k : Int) < 4) (by omega : (0 : Int) ≤ 1) (by omega)
    by_cases q0 : aw S v k 1 = -1
    · rw [q0] at ahd
      simp (disch := omega) only [-Int.reduceToNat, pc_ite, if_true, if_false, pc_bv, pc_lit, pc_neg, pc_add, pc_sub, pc_mul, pc_mr, pc_ar, pc_dv, pc_lt, pc_le, pc_eq, pc_nat, pc_div, pc_emod, pc_ifz, pc_ifo, pc_zb, pd_1, pd_2, pd_3, pd_4, pd_5, pd_6, pd_7, pd_8, pd_9, pd_10, pd_11, pd_12, pd_13, pd_14, pd_15, pd_16, pd_17, pd_19, pd_21, pd_22, pd_30, pd_34, pd_57, z, ahd, pl]
    · have hA2 := aw_in w q0
      have e := hy _ hA2.1 hA2.2
      have hmu := hM.1 _ hA2.1 hA2.2
      have z3 : ¬ M (aw S v k 1) = M v - cst S v := by
        rcases hn.2.2.2.2.2.2 k (by omega) (by omega) with q | q
        · exact absurd q q0
        · exact q
      simp (disch := omega) only [-Int.reduceToNat, pc_ite, if_true, if_false, pc_bv, pc_lit, pc_neg, pc_add, pc_sub, pc_mul, pc_mr, pc_ar, pc_dv, pc_lt, pc_le, pc_eq, pc_nat, pc_div, pc_emod, pc_ifz, pc_ifo, pc_zb, pd_1, pd_2, pd_3, pd_4, pd_5, pd_6, pd_7, pd_8, pd_9, pd_10, pd_11, pd_12, pd_13, pd_14, pd_15, pd_16, pd_17, pd_19, pd_21, pd_22, pd_30, pd_34, pd_57, z, ahd, q0, e, z3, pl]
  · have en : (((nxI S M v).toNat : Nat) : Int) = nxI S M v := by omega
    have ahd := m_away hs w v1 v2 hn.1 hn.2.1 (by omega : (0 : Int) ≤ 1) (by omega)
    rw [← hn.2.2.1] at ahd
    have e := hy _ hn.2.2.2.1 hn.2.2.2.2.1
    have z : ¬ (4 : Int) ≤ nxI S M v := by omega
    have z0 : ¬ nx S M v = -1 := by omega
    rw [en]
    simp (disch := omega) only [-Int.reduceToNat, pc_ite, if_true, if_false, pc_bv, pc_lit, pc_neg, pc_add, pc_sub, pc_mul, pc_mr, pc_ar, pc_dv, pc_lt, pc_le, pc_eq, pc_nat, pc_div, pc_emod, pc_ifz, pc_ifo, pc_zb, pd_1, pd_2, pd_3, pd_4, pd_5, pd_6, pd_7, pd_8, pd_9, pd_10, pd_11, pd_12, pd_13, pd_14, pd_15, pd_16, pd_17, pd_19, pd_21, pd_22, pd_30, pd_34, pd_57, z, ahd, z0, e, hn.2.2.2.2.2.1]
theorem x_trace (w : wS S) (hM : solM S M) {co y : Nat → Int32} (hco : yC S co) (hy : yM S (kM M) y) {ln : Int32} {wy : Nat → Int32} {v : Int} (v1 : 0 ≤ v) (v2 : v < S 0 * S 1) : f_X7_trace ln co y wy (iI (S 0)) (iI (S 1)) (iI v) = if M v < 1000000 then some (iI (fLn S M v), iI (fLn S M v), cpF (fLn S M v).toNat (flA S M v) wy) else some (iI 0, iI 0, wy) := by
  have hN := w.N
  have hmv := hM.1 v v1 v2
  unfold f_X7_trace
  simp only [pc_bv]
  by_cases hf : M v < 1000000
  · rw [if_pos hf]
    have hL := fLn_c w hM v1 v2 hf
    refine pc_run3 (fun k : Nat => iI (fl S M v k)) (fun k : Nat => iI k) (fun k => cpF k (flA S M v) wy) (fLn S M v - 1).toNat rfl rfl (cpF_0 _ _) (fun k hk => ?_) ?_
    · have ha := fl_at w hM v1 v2 hf (k := k) (by omega)
      have he := hL.2.2.2 k (by omega)
      have e := hy _ ha.1 ha.2.1
      have ec := hco _ ha.1 ha.2.1
      rw [if_pos ha.2.2.2] at ec
      have hmu := hM.1 _ ha.1 ha.2.1
      have hc := cst_rg S (fl S M v k)
      have ek : kM M (fl S M v k) = M (fl S M v k) := by unfold kM; rw [if_neg (by omega)]
      have hn := nx_ok w hM ha.1 ha.2.1 ha.2.2.1 he
      have hp := (hM.1 _ hn.2.2.2.1 hn.2.2.2.2.1).1
      have bs := x_beside w hM hy ha.1 ha.2.1 ha.2.2.1 he
      have z : ¬ (144 : Int) ≤ k := by omega
      have z1 : ¬ M (fl S M v k) = -1 := by omega
      have z2 : ¬ M (fl S M v k) - cst S (fl S M v k) = 0 := by omega
      have pl : (k : Int) + 1 = ((k + 1 : Nat) : Int) := by omega
      have f1 : iI (fl S M v k) = flA S M v k := rfl
      simp (disch := omega) only [-Int.reduceToNat, pc_ite, if_true, if_false, pc_bv, pc_lit, pc_neg, pc_add, pc_sub, pc_mul, pc_mr, pc_ar, pc_dv, pc_lt, pc_le, pc_eq, pc_nat, pc_div, pc_emod, pc_ifz, pc_ifo, pc_zb, pd_1, pd_2, pd_3, pd_4, pd_5, pd_6, pd_7, pd_8, pd_9, pd_10, pd_11, pd_12, pd_13, pd_14, pd_15, pd_16, pd_17, pd_19, pd_21, pd_22, pd_30, pd_34, pd_57, z, x_sumOf, e, ek, z1, ec, z2, bs, pl, Int.toNat_natCast]
      rw [← cpF_s]; rfl
    · have ha := fl_at w hM v1 v2 hf (k := (fLn S M v - 1).toNat) (by omega)
      have he := hL.2.2.1
      have e := hy _ ha.1 ha.2.1
      have ec := hco _ ha.1 ha.2.1
      rw [if_pos ha.2.2.2] at ec
      have hmu := hM.1 _ ha.1 ha.2.1
      have hc := cst_rg S (fl S M v (fLn S M v - 1).toNat)
      have ek : kM M (fl S M v (fLn S M v - 1).toNat) = M (fl S M v (fLn S M v - 1).toNat) := by unfold kM; rw [if_neg (by omega)]
      have z2 := hmu.2.2.2.1 ha.2.2.2 he
      have z : ¬ (144 : Int) ≤ (((fLn S M v - 1).toNat : Nat) : Int) := by omega
      have z1 : ¬ M (fl S M v (fLn S M v - 1).toNat) = -1 := by omega
      have z3 : M (fl S M v (fLn S M v - 1).toNat) - cst S (fl S M v (fLn S M v - 1).toNat) = 0 := by omega
      have pl : (((fLn S M v - 1).toNat : Nat) : Int) + 1 = fLn S M v := by omega
      simp (disch := omega) only [-Int.reduceToNat, pc_ite, if_true, if_false, pc_bv, pc_lit, pc_neg, pc_add, pc_sub, pc_mul, pc_mr, pc_ar, pc_dv, pc_lt, pc_le, pc_eq, pc_nat, pc_div, pc_emod, pc_ifz, pc_ifo, pc_zb, pd_1, pd_2, pd_3, pd_4, pd_5, pd_6, pd_7, pd_8, pd_9, pd_10, pd_11, pd_12, pd_13, pd_14, pd_15, pd_16, pd_17, pd_19, pd_21, pd_22, pd_30, pd_34, pd_57, z, x_sumOf, e, ek, z1, ec, z3, pl, Int.toNat_natCast]
      rw [show (fLn S M v).toNat = (fLn S M v - 1).toNat + 1 by omega, ← cpF_s]; rfl
  · rw [if_neg hf]
    have e := hy _ v1 v2
    have ek : kM M v = -1 := by unfold kM; rw [if_pos (by omega)]
    refine pc_run3 (fun k : Nat => iI v) (fun k : Nat => iI k) (fun _ => wy) 0 rfl rfl rfl (fun k hk => by omega) ?_
    have z : ¬ (144 : Int) ≤ ((0 : Nat) : Int) := by omega
    simp (disch := omega) only [-Int.reduceToNat, pc_ite, if_true, if_false, pc_bv, pc_lit, pc_neg, pc_add, pc_sub, pc_mul, pc_mr, pc_ar, pc_dv, pc_lt, pc_le, pc_eq, pc_nat, pc_div, pc_emod, pc_ifz, pc_ifo, pc_zb, pd_1, pd_2, pd_3, pd_4, pd_5, pd_6, pd_7, pd_8, pd_9, pd_10, pd_11, pd_12, pd_13, pd_14, pd_15, pd_16, pd_17, pd_19, pd_21, pd_22, pd_30, pd_34, pd_57, z, x_sumOf, e, ek]
theorem m_laysFlow (hs : mS s S) (w : wS S) (hM : solM S M) {y : Nat → Int32} (hy : yM S M y) {ln : Int32} {wy : Nat → Int32} {v : Int} (v1 : 0 ≤ v) (v2 : v < S 0 * S 1) : f_X9_laysFlow ln wy s y (iI v) = if M v < 1000000 then some (iI 1, iI (fLn S M v), cpF (fLn S M v).toNat (flA S M v) wy) else some (iI 0, iI 0, wy) := by
  have hN := w.N
  have hmv := hM.1 v v1 v2
  have ev := hy v v1 v2
  unfold f_X9_laysFlow
  simp only [pc_bv]
  rw [pc_ar v1 (by omega) (by omega), pc_nat (by omega) (by omega), ev]
  by_cases hf : M v < 1000000
  · have hL := fLn_c w hM v1 v2 hf
    rw [if_pos hf, if_neg (by rw [show (1000000 : Int32) = iI 1000000 from rfl, pc_eq (by omega) (by omega) (by omega) (by omega)]; omega)]
    refine pc_b2t (x0 := iI (fLn S M v)) (x1 := cpF (fLn S M v).toNat (flA S M v) wy) (pc_run3 (fun k : Nat => iI (if (k : Int) < fLn S M v then fl S M v k else -1)) (fun k : Nat => iI k) (fun k => cpF k (flA S M v) wy) (fLn S M v).toNat ?_ rfl (cpF_0 _ _) (fun k hk => ?_) ?_) rfl
    · rw [if_pos (by omega)]; rfl
    · have ha := fl_at w hM v1 v2 hf (k := k) (by omega)
      have z : (k : Int) < fLn S M v := by omega
      have z1 : ¬ fl S M v k = -1 := by omega
      have pl : (k : Int) + 1 = ((k + 1 : Nat) : Int) := by omega
      have en := m_isEnd hs w ha.1 ha.2.1
      have eq1 : upd (cpF k (flA S M v) wy) k (iI (fl S M v k)) = cpF (k + 1) (flA S M v) wy := by rw [← cpF_s]; rfl
      rw [if_pos z]
      by_cases he : (k : Int) = fLn S M v - 1
      · have ee := hL.2.2.1
        rw [show (fLn S M v - 1).toNat = k by omega] at ee
        have z4 : ¬ ((k + 1 : Nat) : Int) < fLn S M v := by omega
        rw [ee] at en
        rw [if_neg z4]
        simp (disch := omega) only [-Int.reduceToNat, pc_ite, if_true, if_false, pc_bv, pc_lit, pc_neg, pc_add, pc_sub, pc_mul, pc_mr, pc_ar, pc_dv, pc_lt, pc_le, pc_eq, pc_nat, pc_div, pc_emod, pc_ifz, pc_ifo, pc_zb, pd_1, pd_2, pd_3, pd_4, pd_5, pd_6, pd_7, pd_8, pd_9, pd_10, pd_11, pd_12, pd_13, pd_14, pd_15, pd_16, pd_17, pd_19, pd_21, pd_22, pd_30, pd_34, pd_57, z1, en, pl, Int.toNat_natCast, eq1]
      · have ee := hL.2.2.2 k (by omega)
        have z4 : ((k + 1 : Nat) : Int) < fLn S M v := by omega
        have st := m_stepFrom hs w hM hy ha.1 ha.2.1 ha.2.2.1 ee
        rw [ee] at en
        rw [if_pos z4]
        simp (disch := omega) only [-Int.reduceToNat, pc_ite, if_true, if_false, pc_bv, pc_lit, pc_neg, pc_add, pc_sub, pc_mul, pc_mr, pc_ar, pc_dv, pc_lt, pc_le, pc_eq, pc_nat, pc_div, pc_emod, pc_ifz, pc_ifo, pc_zb, pd_1, pd_2, pd_3, pd_4, pd_5, pd_6, pd_7, pd_8, pd_9, pd_10, pd_11, pd_12, pd_13, pd_14, pd_15, pd_16, pd_17, pd_19, pd_21, pd_22, pd_30, pd_34, pd_57, z1, en, pl, Int.toNat_natCast, eq1, st, Bool.false_eq_true]
        rfl
    · have z4 : ¬ (((fLn S M v).toNat : Nat) : Int) < fLn S M v := by omega
      have z5 : (((fLn S M v).toNat : Nat) : Int) = fLn S M v := by omega
      rw [if_neg z4]
      simp (disch := omega) only [-Int.reduceToNat, pc_ite, if_true, if_false, pc_bv, pc_lit, pc_neg, pc_add, pc_sub, pc_mul, pc_mr, pc_ar, pc_dv, pc_lt, pc_le, pc_eq, pc_nat, pc_div, pc_emod, pc_ifz, pc_ifo, pc_zb, pd_1, pd_2, pd_3, pd_4, pd_5, pd_6, pd_7, pd_8, pd_9, pd_10, pd_11, pd_12, pd_13, pd_14, pd_15, pd_16, pd_17, pd_19, pd_21, pd_22, pd_30, pd_34, pd_57, z5]
  · rw [if_neg hf, if_pos (by rw [show (1000000 : Int32) = iI 1000000 from rfl, pc_eq (by omega) (by omega) (by omega) (by omega)]; omega)]
    rfl
end
