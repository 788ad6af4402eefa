def al (S : Int → Int) (o h v : Int) : Bool := decide (h < S 2) && decide (h ≠ o) && decide (chR S h v o = 0)
def fo (S : Int → Int) (R : Int → Bool) (o p q : Int) : Bool := al S o (p / 4) (p % 4) && al S o (q / 4) (q % 4) && decide (p / 4 ≠ q / 4) && ag S (p / 4) (p % 4) (R (p / 4)) (q / 4) (q % 4) (R (q / 4))
def sAs (S : Int → Int) (f v c : Int) : Int := if v = 0 then f % S 1 - c % S 1 else if v = 1 then c / S 1 - f / S 1 else if v = 2 then c % S 1 - f % S 1 else f / S 1 - c / S 1
def sDs (S : Int → Int) (f v c : Int) : Int := if v = 0 then f / S 1 - c / S 1 else if v = 1 then c % S 1 - f % S 1 else if v = 2 then c / S 1 - f / S 1 else f % S 1 - c % S 1
def stS (S : Int → Int) (f v c : Int) : Int := if sAs S f v c = 0 then if sDs S f v c ≤ 0 then -1 else sDs S f v c else -1
section
variable {S : Int → Int} {land riv hom dir len let' nOn lOn stp ord : Nat → Int32} {rk : Int32} {R : Int → Bool}
theorem pc_q1 {α β : Type} {o : Option α} {k : α → Option β} {x : α} {r : Option β} (h : ∃ a, o = some a ∧ a = x) (e : k x = r) : bd1 o k = r := by
  obtain ⟨a, e1, e2⟩ := h
  subst e2
  exact pc_b1t e1 e
theorem al_c {o h v : Int} (e : al S o h v = true) : h < S 2 ∧ h ≠ o ∧ chR S h v o = 0 := by
  unfold al at e
  simp only [Bool.and_eq_true, decide_eq_true_iff] at e
  exact ⟨e.1.1, e.1.2, e.2⟩
theorem x_stepsTo (w : wS S) {f v c : Int} (h1 : 0 ≤ f) (h2 : f < S 0 * S 1) (h3 : 0 ≤ v) (h4 : v < 4) (h5 : 0 ≤ c) (h6 : c < S 0 * S 1) : f_X1_stepsTo (iI (S 1)) (iI f) (iI v) (iI c) = some (iI (stS S f v c)) := by
  have hN := w.N
  have hD := w.D
  have hF := g_rc w.1 h1 h2
  have hC := g_rc w.1 h5 h6
  have e : v = 0 ∨ v = 1 ∨ v = 2 ∨ v = 3 := by omega
  unfold f_X1_stepsTo stS sAs sDs
  simp only [pc_bv]
  have q0 : rsI (Int.toNat 0) = iI (-1) := rfl
  have q1 : rsI (Int.toNat 1) = iI 0 := rfl
  have q2 : rsI (Int.toNat 2) = iI 1 := rfl
  have q3 : rsI (Int.toNat 3) = iI 0 := rfl
  have p0 : csI (Int.toNat 0) = iI 0 := rfl
  have p1 : csI (Int.toNat 1) = iI 1 := rfl
  have p2 : csI (Int.toNat 2) = iI 0 := rfl
  have p3 : csI (Int.toNat 3) = iI (-1) := rfl
  have fin : ∀ x y a b : Int, x = a → y = b → (if x = 0 then (if y ≤ 0 then some (iI (-1)) else some (iI y)) else some (iI (-1))) = some (iI (if a = 0 then if b ≤ 0 then -1 else b else -1)) := by
    intro x y a b e1 e2
    subst e1; subst e2
    by_cases z : x = 0
    · by_cases y2 : y ≤ 0 <;> simp only [z, y2, if_true, if_false]
    · simp only [z, if_false]
  rcases e with rfl | rfl | rfl | rfl
  · simp (disch := omega) only [-Int.reduceToNat, pc_ite, if_true, if_false, pc_bv, pc_lit, pc_neg, pc_add, pc_sub, pc_mul, pc_mr, pc_ar, pc_dv, pc_lt, pc_le, pc_eq, pc_nat, pc_div, pc_emod, pc_ifz, pc_ifo, pc_zb, pd_1, pd_2, pd_3, pd_4, pd_5, pd_6, pd_7, pd_8, pd_9, pd_10, pd_11, pd_12, pd_13, pd_14, pd_15, pd_16, pd_17, pd_19, pd_21, pd_22, pd_30, pd_34, pd_57, if_pos, if_neg, q0, q1, q2, q3, p0, p1, p2, p3, Int.mul_neg, Int.mul_one, Int.mul_zero, Int.zero_add, Int.add_zero]
    exact fin _ _ _ _ (by omega) (by omega)
  · simp (disch := omega) only [-Int.reduceToNat, pc_ite, if_true, if_false, pc_bv, pc_lit, pc_neg, pc_add, pc_sub, pc_mul, pc_mr, pc_ar, pc_dv, pc_lt, pc_le, pc_eq, pc_nat, pc_div, pc_emod, pc_ifz, pc_ifo, pc_zb, pd_1, pd_2, pd_3, pd_4, pd_5, pd_6, pd_7, pd_8, pd_9, pd_10, pd_11, pd_12, pd_13, pd_14, pd_15, pd_16, pd_17, pd_19, pd_21, pd_22, pd_30, pd_34, pd_57, if_pos, if_neg, q0, q1, q2, q3, p0, p1, p2, p3, Int.mul_neg, Int.mul_one, Int.mul_zero, Int.zero_add, Int.add_zero]
    exact fin _ _ _ _ (by omega) (by omega)
  · simp (disch := omega) only [-Int.reduceToNat, pc_ite, if_true, if_false, pc_bv, pc_lit, pc_neg, pc_add, pc_sub, pc_mul, pc_mr, pc_ar, pc_dv, pc_lt, pc_le, pc_eq, pc_nat, pc_div, pc_emod, pc_ifz, pc_ifo, pc_zb, pd_1, pd_2, pd_3, pd_4, pd_5, pd_6, pd_7, pd_8, pd_9, pd_10, pd_11, pd_12, pd_13, pd_14, pd_15, pd_16, pd_17, pd_19, pd_21, pd_22, pd_30, pd_34, pd_57, if_pos, if_neg, q0, q1, q2, q3, p0, p1, p2, p3, Int.mul_neg, Int.mul_one, Int.mul_zero, Int.zero_add, Int.add_zero]
    exact fin _ _ _ _ (by omega) (by omega)
  · simp (disch := omega) only [-Int.reduceToNat, pc_ite, if_true, if_false, pc_bv, pc_lit, pc_neg, pc_add, pc_sub, pc_mul, pc_mr, pc_ar, pc_dv, pc_lt, pc_le, pc_eq, pc_nat, pc_div, pc_emod, pc_ifz, pc_ifo, pc_zb, pd_1, pd_2, pd_3, pd_4, pd_5, pd_6, pd_7, pd_8, pd_9, pd_10, pd_11, pd_12, pd_13, pd_14, pd_15, pd_16, pd_17, pd_19, pd_21, pd_22, pd_30, pd_34, pd_57, if_pos, if_neg, q0, q1, q2, q3, p0, p1, p2, p3, Int.mul_neg, Int.mul_one, Int.mul_zero, Int.zero_add, Int.add_zero]
    exact fin _ _ _ _ (by omega) (by omega)
theorem aw_st (w : wS S) {f v c d : Int} (h3 : 0 ≤ v) (h4 : v < 4) (h5 : 0 ≤ c) (h6 : c < S 0 * S 1) (hd : 1 ≤ d) : aw S f v d = c ↔ stS S f v c = d := by
  have hC := g_rc w.1 h5 h6
  have hD := w.D
  have ec : S 1 * (c / S 1) + c % S 1 = c := Int.mul_ediv_add_emod c (S 1)
  unfold aw stS sAs sDs
  generalize hr : f / S 1 + (if v = 0 then -d else if v = 2 then d else 0) = r
  generalize hk : f % S 1 + (if v = 1 then d else if v = 3 then -d else 0) = k
  have e : v = 0 ∨ v = 1 ∨ v = 2 ∨ v = 3 := by omega
  have H : ((if 0 ≤ r ∧ r < S 0 ∧ 0 ≤ k ∧ k < S 1 then S 1 * r + k else -1) = c) ↔ (r = c / S 1 ∧ k = c % S 1) := by
    constructor
    · intro h
      by_cases z : 0 ≤ r ∧ r < S 0 ∧ 0 ≤ k ∧ k < S 1
      · rw [if_pos z] at h
        have g := g_div w (r := r) z.2.2.1 z.2.2.2
        rw [h] at g
        exact ⟨g.1.symm, g.2.symm⟩
      · rw [if_neg z] at h; omega
    · rintro ⟨h1, h2⟩
      subst h1; subst h2
      rw [if_pos ⟨hC.1, hC.2.1, hC.2.2.1, hC.2.2.2⟩, ec]
  rw [H]
  rcases e with rfl | rfl | rfl | rfl <;> simp at hr hk ⊢ <;> omega
theorem st_lIn (w : wS S) {b u c : Int} (g1 : 0 ≤ b) (g2 : b < S 2) (h3 : 0 ≤ u) (h4 : u < 4) (h5 : 0 ≤ c) (h6 : c < S 0 * S 1) : (if 0 ≤ stS S (hv S b 0) u c - 1 ∧ stS S (hv S b 0) u c - 1 < hv S b 3 then hv S b (4 + (stS S (hv S b 0) u c - 1)) else -1) = lIn S b u c := by
  have hT : ∀ k, 0 ≤ k → k < hv S b 3 → hv S b (4 + k) ≠ -1 := fun k k1 k2 => by have := w.T g1 g2 k1 k2; omega
  by_cases z : 0 ≤ stS S (hv S b 0) u c - 1 ∧ stS S (hv S b 0) u c - 1 < hv S b 3
  · rw [if_pos z]
    have a := (aw_st w (f := hv S b 0) h3 h4 h5 h6 (d := stS S (hv S b 0) u c) (by omega)).mpr rfl
    have := lIn_at w g1 g2 h3 h4 z.1 z.2 (by rw [show stS S (hv S b 0) u c - 1 + 1 = stS S (hv S b 0) u c by omega, a]; omega)
    rw [show stS S (hv S b 0) u c - 1 + 1 = stS S (hv S b 0) u c by omega, a] at this
    exact this.symm
  · rw [if_neg z]
    by_cases y : lIn S b u c = -1
    · exact y.symm
    · exfalso
      obtain ⟨c1, c2, c3, c4, c5⟩ := lIx_c w g1 g2 y
      have a := (aw_st w (f := hv S b 0) h3 h4 h5 h6 (d := lIx S b u c + 1) (by omega)).mp c4
      omega
theorem rd_eq (hR : ∀ h, 0 ≤ h → h < S 2 → bt rk h = R h) {a b : Int} (a1 : 0 ≤ a) (a2 : a < S 2) (a3 : a < 32) (b1 : 0 ≤ b) (b2 : b < S 2) (b3 : b < 32) : ((sB a ||| sB b) &&& rk = iI 0) = ((R a || R b) = false) := by
  apply propext
  constructor
  · intro h
    have h1 : bt ((sB a ||| sB b) &&& rk) a = false := by rw [h, bt_0]
    have h2 : bt ((sB a ||| sB b) &&& rk) b = false := by rw [h, bt_0]
    rw [bt_and, bt_or, bt_sB a1 a3 a1 a3, hR a a1 a2] at h1
    rw [bt_and, bt_or, bt_sB b1 b3 b1 b3, hR b b1 b2] at h2
    simp at h1 h2
    rw [h1, h2]; rfl
  · intro h
    rw [Bool.or_eq_false_iff] at h
    apply bt_ext
    intro k k1 k2
    rw [bt_and, bt_or, bt_sB a1 a3 k1 k2, bt_sB b1 b3 k1 k2, bt_0]
    by_cases e1 : a = k
    · subst e1; rw [hR a a1 a2, h.1, Bool.and_false]
    · by_cases e2 : b = k
      · subst e2; rw [hR b b1 b2, h.2, Bool.and_false]
      · rw [decide_eq_false e1, decide_eq_false e2]; rfl
theorem x_standAgainst (w : wS S) (hh : aH 0 hom S) (hn : aH 3 len S) (ht : aT let' S) (hR : ∀ h, 0 ≤ h → h < S 2 → bt rk h = R h) {p q : Int} (p1 : 0 ≤ p) (p2 : p / 4 < S 2) (q1 : 0 ≤ q) (q2 : q / 4 < S 2) (hne : ∀ k, 0 ≤ k → k < hv S (p / 4) 3 → aw S (hv S (p / 4) 0) (p % 4) (k + 1) ≠ -1) : f_X0_standAgainst rk (iI (S 0)) (iI (S 1)) (iI (S 2)) hom len let' (iI p) (iI q) = some (zB (ag S (p / 4) (p % 4) (R (p / 4)) (q / 4) (q % 4) (R (q / 4)))) := by
  have hC := w.C
  have hN := w.N
  have hH := w.H (h := p / 4) (by omega) p2
  have hG := w.H (h := q / 4) (by omega) q2
  have z := rd_eq hR (a := p / 4) (b := q / 4) (by omega) p2 (by omega) (by omega) q2 (by omega)
  have cell : ∀ i, 0 ≤ i → i < hv S (p / 4) 3 → 0 ≤ aw S (hv S (p / 4) 0) (p % 4) (i + 1) ∧ aw S (hv S (p / 4) 0) (p % 4) (i + 1) < S 0 * S 1 := by
    intro i i1 i2
    have := g_aw w.1 (hv S (p / 4) 0) (p % 4) (i + 1)
    have := hne i i1 i2
    omega
  have lt : ∀ i, 0 ≤ i → i < hv S (p / 4) 3 → -1 ≤ stS S (hv S (q / 4) 0) (q % 4) (aw S (hv S (p / 4) 0) (p % 4) (i + 1)) ∧ stS S (hv S (q / 4) 0) (q % 4) (aw S (hv S (p / 4) 0) (p % 4) (i + 1)) < 1000 := by
    intro i i1 i2
    have c := cell i i1 i2
    have g1 := g_rc w.1 c.1 c.2
    have g2 := g_rc w.1 hG.1 hG.2.1
    have hD := w.D
    have d : sDs S (hv S (q / 4) 0) (q % 4) (aw S (hv S (p / 4) 0) (p % 4) (i + 1)) < 1000 := by unfold sDs; (repeat' split) <;> omega
    unfold stS
    (repeat' split) <;> omega
  unfold f_X0_standAgainst
  simp (disch := omega) only [pc_bv, pc_lit, pc_div, pc_sB, z, pc_emod, x_homeOf w hh, pd_1]
  by_cases c : (R (p / 4) || R (q / 4)) = false
  · rw [if_pos c]
    rw [Bool.or_eq_false_iff] at c
    refine pc_srchB (agP S (p / 4) (p % 4) (R (p / 4)) (q / 4) (q % 4) (R (q / 4))) (hv S (p / 4) 3) (by omega) rfl (fun i a1 a2 a3 => ?_) (fun i a1 a2 a3 => ?_) ?_
    · have c1 := cell i a1 a2
      have l1 := lt i a1 a2
      have hl := lIn_rg w (v := q % 4) (c := aw S (hv S (p / 4) 0) (p % 4) (i + 1)) (h := q / 4) (by omega) q2
      have hT := w.T (h := p / 4) (by omega) p2 a1 a2
      unfold agP at a3
      rw [c.1, c.2] at a3
      simp only [Bool.false_or, Bool.and_eq_true, decide_eq_true_iff] at a3
      simp (disch := omega) only [-Int.reduceToNat, pc_ite, if_true, if_false, pc_bv, pc_lit, pc_neg, pc_add, pc_sub, pc_mul, pc_mr, pc_ar, pc_dv, pc_lt, pc_le, pc_eq, pc_nat, pc_div, pc_emod, pc_ifz, pc_ifo, pc_zb, pd_1, pd_2, pd_3, pd_4, pd_5, pd_6, pd_7, pd_8, pd_9, pd_10, pd_11, pd_12, pd_13, pd_14, pd_15, pd_16, pd_17, pd_19, pd_21, pd_22, pd_30, pd_34, pd_57, x_lengthOf w hn, x_ahead w, x_stepsTo w, x_letterOf w hn ht, st_lIn w, a3.1, a3.2, if_neg, if_pos (And.intro a1 a2)]
    · have c1 := cell i a1 a2
      have l1 := lt i a1 a2
      have hl := lIn_rg w (v := q % 4) (c := aw S (hv S (p / 4) 0) (p % 4) (i + 1)) (h := q / 4) (by omega) q2
      have hT := w.T (h := p / 4) (by omega) p2 a1 a2
      unfold agP at a3
      rw [c.1, c.2] at a3
      by_cases y : lIn S (q / 4) (q % 4) (aw S (hv S (p / 4) 0) (p % 4) (i + 1)) = -1
      · simp (disch := omega) only [-Int.reduceToNat, pc_ite, if_true, if_false, pc_bv, pc_lit, pc_neg, pc_add, pc_sub, pc_mul, pc_mr, pc_ar, pc_dv, pc_lt, pc_le, pc_eq, pc_nat, pc_div, pc_emod, pc_ifz, pc_ifo, pc_zb, pd_1, pd_2, pd_3, pd_4, pd_5, pd_6, pd_7, pd_8, pd_9, pd_10, pd_11, pd_12, pd_13, pd_14, pd_15, pd_16, pd_17, pd_19, pd_21, pd_22, pd_30, pd_34, pd_57, x_lengthOf w hn, x_ahead w, x_stepsTo w, x_letterOf w hn ht, st_lIn w, y, if_neg]
      · have y2 : lIn S (q / 4) (q % 4) (aw S (hv S (p / 4) 0) (p % 4) (i + 1)) = hv S (p / 4) (4 + i) := by
          simp only [Bool.false_or, Bool.and_eq_false_iff, decide_eq_false_iff_not] at a3
          rcases a3 with h | h
          · exact absurd y h
          · exact Classical.not_not.mp h
        simp (disch := omega) only [-Int.reduceToNat, pc_ite, if_true, if_false, pc_bv, pc_lit, pc_neg, pc_add, pc_sub, pc_mul, pc_mr, pc_ar, pc_dv, pc_lt, pc_le, pc_eq, pc_nat, pc_div, pc_emod, pc_ifz, pc_ifo, pc_zb, pd_1, pd_2, pd_3, pd_4, pd_5, pd_6, pd_7, pd_8, pd_9, pd_10, pd_11, pd_12, pd_13, pd_14, pd_15, pd_16, pd_17, pd_19, pd_21, pd_22, pd_30, pd_34, pd_57, x_lengthOf w hn, x_ahead w, x_stepsTo w, x_letterOf w hn ht, st_lIn w, y2, if_neg, if_pos (And.intro a1 a2)]
    · simp (disch := omega) only [-Int.reduceToNat, pc_ite, if_true, if_false, pc_bv, pc_lit, pc_neg, pc_add, pc_sub, pc_mul, pc_mr, pc_ar, pc_dv, pc_lt, pc_le, pc_eq, pc_nat, pc_div, pc_emod, pc_ifz, pc_ifo, pc_zb, pd_1, pd_2, pd_3, pd_4, pd_5, pd_6, pd_7, pd_8, pd_9, pd_10, pd_11, pd_12, pd_13, pd_14, pd_15, pd_16, pd_17, pd_19, pd_21, pd_22, pd_30, pd_34, pd_57, x_lengthOf w hn, if_pos]
  · rw [if_neg c]
    rw [Bool.not_eq_false] at c
    refine pc_srchB (agP S (p / 4) (p % 4) (R (p / 4)) (q / 4) (q % 4) (R (q / 4))) (hv S (p / 4) 3) (by omega) rfl (fun i a1 a2 a3 => ?_) (fun i a1 a2 a3 => ?_) ?_
    · have c1 := cell i a1 a2
      have l1 := lt i a1 a2
      have hl := lIn_rg w (v := q % 4) (c := aw S (hv S (p / 4) 0) (p % 4) (i + 1)) (h := q / 4) (by omega) q2
      unfold agP at a3
      simp only [Bool.and_eq_true, decide_eq_true_iff] at a3
      simp (disch := omega) only [-Int.reduceToNat, pc_ite, if_true, if_false, pc_bv, pc_lit, pc_neg, pc_add, pc_sub, pc_mul, pc_mr, pc_ar, pc_dv, pc_lt, pc_le, pc_eq, pc_nat, pc_div, pc_emod, pc_ifz, pc_ifo, pc_zb, pd_1, pd_2, pd_3, pd_4, pd_5, pd_6, pd_7, pd_8, pd_9, pd_10, pd_11, pd_12, pd_13, pd_14, pd_15, pd_16, pd_17, pd_19, pd_21, pd_22, pd_30, pd_34, pd_57, x_lengthOf w hn, x_ahead w, x_stepsTo w, x_letterOf w hn ht, st_lIn w, a3.1, if_neg]
    · have c1 := cell i a1 a2
      have l1 := lt i a1 a2
      have hl := lIn_rg w (v := q % 4) (c := aw S (hv S (p / 4) 0) (p % 4) (i + 1)) (h := q / 4) (by omega) q2
      unfold agP at a3
      rw [c] at a3
      simp only [Bool.true_or, Bool.and_true, decide_eq_false_iff_not, Classical.not_not] at a3
      simp (disch := omega) only [-Int.reduceToNat, pc_ite, if_true, if_false, pc_bv, pc_lit, pc_neg, pc_add, pc_sub, pc_mul, pc_mr, pc_ar, pc_dv, pc_lt, pc_le, pc_eq, pc_nat, pc_div, pc_emod, pc_ifz, pc_ifo, pc_zb, pd_1, pd_2, pd_3, pd_4, pd_5, pd_6, pd_7, pd_8, pd_9, pd_10, pd_11, pd_12, pd_13, pd_14, pd_15, pd_16, pd_17, pd_19, pd_21, pd_22, pd_30, pd_34, pd_57, x_lengthOf w hn, x_ahead w, x_stepsTo w, x_letterOf w hn ht, st_lIn w, a3, if_neg]
    · simp (disch := omega) only [-Int.reduceToNat, pc_ite, if_true, if_false, pc_bv, pc_lit, pc_neg, pc_add, pc_sub, pc_mul, pc_mr, pc_ar, pc_dv, pc_lt, pc_le, pc_eq, pc_nat, pc_div, pc_emod, pc_ifz, pc_ifo, pc_zb, pd_1, pd_2, pd_3, pd_4, pd_5, pd_6, pd_7, pd_8, pd_9, pd_10, pd_11, pd_12, pd_13, pd_14, pd_15, pd_16, pd_17, pd_19, pd_21, pd_22, pd_30, pd_34, pd_57, x_lengthOf w hn, if_pos]
theorem x_groundWays (w : wS S) (hl : aL land S) (hr : aV riv S) (hh : aH 0 hom S) (hn : aH 3 len S) {h o : Int} (h1 : 0 ≤ h) (h2 : h < 8) (h5 : -1 ≤ o) (h6 : o ≤ 8) (hx : h ≠ o) : f_X0_groundWays (iI (S 0)) (iI (S 1)) (iI (S 2)) land riv hom len (iI h) (iI o) = some (mk (al S o h) 4) := by
  have hC := w.C
  unfold f_X0_groundWays
  simp only [pc_bv]
  by_cases z : h < S 2
  · refine pc_q1 (pc_il2 (P := fun i a => a = mk (al S o h) i) (Q := fun r => r = mk (al S o h) 4) 4 (by omega) (by omega) (x0 := iI 0) (c := iI 0) rfl rfl
      (fun i a a1 a2 e => by
        subst e
        refine ⟨mk (al S o h) (i + 1), ?_, rfl⟩
        rw [mk_s a1]
        by_cases y : chR S h i o = 0
        · have e : al S o h i = true := by unfold al; simp [z, hx, y]
          simp (disch := omega) only [-Int.reduceToNat, pc_ite, if_true, if_false, pc_bv, pc_lit, pc_neg, pc_add, pc_sub, pc_mul, pc_mr, pc_ar, pc_dv, pc_lt, pc_le, pc_eq, pc_nat, pc_div, pc_emod, pc_ifz, pc_ifo, pc_zb, pd_1, pd_2, pd_3, pd_4, pd_5, pd_6, pd_7, pd_8, pd_9, pd_10, pd_11, pd_12, pd_13, pd_14, pd_15, pd_16, pd_17, pd_19, pd_21, pd_22, pd_30, pd_34, pd_57, x_groundReason w hl hr hh hn, y, if_pos e, pc_sB, if_neg]
        · have e : ¬ al S o h i = true := by unfold al; simp [y]
          have hrg := chR_rg S h i o
          simp (disch := omega) only [-Int.reduceToNat, pc_ite, if_true, if_false, pc_bv, pc_lit, pc_neg, pc_add, pc_sub, pc_mul, pc_mr, pc_ar, pc_dv, pc_lt, pc_le, pc_eq, pc_nat, pc_div, pc_emod, pc_ifz, pc_ifo, pc_zb, pd_1, pd_2, pd_3, pd_4, pd_5, pd_6, pd_7, pd_8, pd_9, pd_10, pd_11, pd_12, pd_13, pd_14, pd_15, pd_16, pd_17, pd_19, pd_21, pd_22, pd_30, pd_34, pd_57, x_groundReason w hl hr hh hn, if_neg y, if_neg e, pc_sB, if_neg]) (fun a e => ⟨a, by simp (disch := omega) only [-Int.reduceToNat, pc_ite, if_true, if_false, pc_bv, pc_lit, pc_neg, pc_add, pc_sub, pc_mul, pc_mr, pc_ar, pc_dv, pc_lt, pc_le, pc_eq, pc_nat, pc_div, pc_emod, pc_ifz, pc_ifo, pc_zb, pd_1, pd_2, pd_3, pd_4, pd_5, pd_6, pd_7, pd_8, pd_9, pd_10, pd_11, pd_12, pd_13, pd_14, pd_15, pd_16, pd_17, pd_19, pd_21, pd_22, pd_30, pd_34, pd_57, if_pos], e⟩)) rfl
  · have e : mk (al S o h) 4 = iI 0 := (mk_0 (by omega)).mpr (fun k k1 k2 => by unfold al; simp [z])
    rw [e]
    refine pc_b1t (pc_run2 (fun _ => iI 0) (fun k : Nat => iI k) 0 rfl rfl (fun k hk => by omega) (r := iI 0) ?_) rfl
    simp (disch := omega) only [-Int.reduceToNat, pc_ite, if_true, if_false, pc_bv, pc_lit, pc_neg, pc_add, pc_sub, pc_mul, pc_mr, pc_ar, pc_dv, pc_lt, pc_le, pc_eq, pc_nat, pc_div, pc_emod, pc_ifz, pc_ifo, pc_zb, pd_1, pd_2, pd_3, pd_4, pd_5, pd_6, pd_7, pd_8, pd_9, pd_10, pd_11, pd_12, pd_13, pd_14, pd_15, pd_16, pd_17, pd_19, pd_21, pd_22, pd_30, pd_34, pd_57, if_pos, if_neg]
theorem x_isAllowed {ya : Nat → Int32} {o : Int} (hy : ∀ h, 0 ≤ h → h < 8 → ya h.toNat = mk (al S o h) 4) {p : Int} (p1 : 0 ≤ p) (p2 : p < 32) : f_X0_isAllowed ya (iI p) = some (zB (al S o (p / 4) (p % 4))) := by
  have e := hy (p / 4) (by omega) (by omega)
  unfold f_X0_isAllowed
  simp (disch := omega) only [-Int.reduceToNat, pc_ite, if_true, if_false, pc_bv, pc_lit, pc_neg, pc_add, pc_sub, pc_mul, pc_mr, pc_ar, pc_dv, pc_lt, pc_le, pc_eq, pc_nat, pc_div, pc_emod, pc_ifz, pc_ifo, pc_zb, pd_1, pd_2, pd_3, pd_4, pd_5, pd_6, pd_7, pd_8, pd_9, pd_10, pd_11, pd_12, pd_13, pd_14, pd_15, pd_16, pd_17, pd_19, pd_21, pd_22, pd_30, pd_34, pd_57, if_neg, e, pc_bt, bt_mk]
  rw [decide_eq_true (by omega : p % 4 < 4), Bool.true_and]
  cases al S o (p / 4) (p % 4) <;> rfl
theorem al_ne (w : wS S) {o h v : Int} (h1 : 0 ≤ h) (e : al S o h v = true) : ∀ k, 0 ≤ k → k < hv S h 3 → aw S (hv S h 0) v (k + 1) ≠ -1 := by
  obtain ⟨e1, e2, e3⟩ := al_c e
  have := chR_0 w h1 e1 e3
  exact fun k k1 k2 => (cR_9 (this.2 k k1 k2)).1
theorem x_foesOf (w : wS S) (hh : aH 0 hom S) (hn : aH 3 len S) (ht : aT let' S) (hR : ∀ h, 0 ≤ h → h < S 2 → bt rk h = R h) {ya yf : Nat → Int32} {o : Int} (hy : ∀ h, 0 ≤ h → h < 8 → ya h.toNat = mk (al S o h) 4) {p : Int} (p1 : 0 ≤ p) (p2 : p < 32) (ep : al S o (p / 4) (p % 4) = true) : f_X0_foesOf rk ya yf (iI (S 0)) (iI (S 1)) (iI (S 2)) hom len let' (iI p) = some (mk (fo S R o p) 32) := by
  have hC := w.C
  unfold f_X0_foesOf
  simp only [pc_bv]
  refine pc_q1 (pc_il2 (P := fun i a => a = mk (fo S R o p) i) (Q := fun r => r = mk (fo S R o p) 32) 32 (by omega) (by omega) (x0 := iI 0) (c := iI 0) rfl rfl
    (fun i a a1 a2 e => by
      subst e
      refine ⟨mk (fo S R o p) (i + 1), ?_, rfl⟩
      rw [mk_s a1]
      by_cases y : i / 4 = p / 4
      · have e : ¬ fo S R o p i = true := by unfold fo; simp [y]
        simp (disch := omega) only [-Int.reduceToNat, pc_ite, if_true, if_false, pc_bv, pc_lit, pc_neg, pc_add, pc_sub, pc_mul, pc_mr, pc_ar, pc_dv, pc_lt, pc_le, pc_eq, pc_nat, pc_div, pc_emod, pc_ifz, pc_ifo, pc_zb, pd_1, pd_2, pd_3, pd_4, pd_5, pd_6, pd_7, pd_8, pd_9, pd_10, pd_11, pd_12, pd_13, pd_14, pd_15, pd_16, pd_17, pd_19, pd_21, pd_22, pd_30, pd_34, pd_57, if_pos y, if_neg e, if_neg]
      · cases q : al S o (i / 4) (i % 4)
        · have e : ¬ fo S R o p i = true := by unfold fo; simp [q]
          simp (disch := omega) only [-Int.reduceToNat, pc_ite, if_true, if_false, pc_bv, pc_lit, pc_neg, pc_add, pc_sub, pc_mul, pc_mr, pc_ar, pc_dv, pc_lt, pc_le, pc_eq, pc_nat, pc_div, pc_emod, pc_ifz, pc_ifo, pc_zb, pd_1, pd_2, pd_3, pd_4, pd_5, pd_6, pd_7, pd_8, pd_9, pd_10, pd_11, pd_12, pd_13, pd_14, pd_15, pd_16, pd_17, pd_19, pd_21, pd_22, pd_30, pd_34, pd_57, if_neg y, if_neg e, x_isAllowed hy, q, pc_zB0, if_neg]
        · have e : fo S R o p i = ag S (p / 4) (p % 4) (R (p / 4)) (i / 4) (i % 4) (R (i / 4)) := by unfold fo; simp [q, ep, Ne.symm y]
          have sa := x_standAgainst w hh hn ht hR (p := p) (q := i) p1 (al_c ep).1 a1 (al_c q).1 (al_ne w (by omega) ep)
          simp (disch := omega) only [-Int.reduceToNat, pc_ite, if_true, if_false, pc_bv, pc_lit, pc_neg, pc_add, pc_sub, pc_mul, pc_mr, pc_ar, pc_dv, pc_lt, pc_le, pc_eq, pc_nat, pc_div, pc_emod, pc_ifz, pc_ifo, pc_zb, pd_1, pd_2, pd_3, pd_4, pd_5, pd_6, pd_7, pd_8, pd_9, pd_10, pd_11, pd_12, pd_13, pd_14, pd_15, pd_16, pd_17, pd_19, pd_21, pd_22, pd_30, pd_34, pd_57, if_neg y, x_isAllowed hy, q, sa, e, if_neg, pc_sB]
          cases ag S (p / 4) (p % 4) (R (p / 4)) (i / 4) (i % 4) (R (i / 4)) <;> simp) (fun a e => ⟨a, by simp (disch := omega) only [-Int.reduceToNat, pc_ite, if_true, if_false, pc_bv, pc_lit, pc_neg, pc_add, pc_sub, pc_mul, pc_mr, pc_ar, pc_dv, pc_lt, pc_le, pc_eq, pc_nat, pc_div, pc_emod, pc_ifz, pc_ifo, pc_zb, pd_1, pd_2, pd_3, pd_4, pd_5, pd_6, pd_7, pd_8, pd_9, pd_10, pd_11, pd_12, pd_13, pd_14, pd_15, pd_16, pd_17, pd_19, pd_21, pd_22, pd_30, pd_34, pd_57, if_pos], e⟩)) rfl
end
