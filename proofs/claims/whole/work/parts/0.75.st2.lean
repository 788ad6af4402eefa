def nmK (t : Int → Int) (n a : Int) : Int := if 0 < twl t n a ∧ twl t n a ≤ 8 then 0 else 1
def dirW (t : Int → Int) (b l : Int) : Int := if isK t b l 8 = true then 0 else if isK t b l 9 = true then 1 else if isK t b l 10 = true then 2 else if isK t b l 11 = true then 3 else -1
theorem dirW_c (t : Int → Int) (b l : Int) : -1 ≤ dirW t b l ∧ dirW t b l < 4 := by unfold dirW; (repeat' split) <;> omega
theorem dirW_0 (t : Int → Int) (b : Int) : dirW t b 0 = -1 := by
  have k : ∀ j, j = 8 ∨ j = 9 ∨ j = 10 ∨ j = 11 → isK t b 0 j = false := by
    intro j hj
    unfold isK
    rw [decide_eq_false, Bool.false_and]
    rcases hj with rfl | rfl | rfl | rfl <;> decide
  unfold dirW
  rw [k 8 (by omega), k 9 (by omega), k 10 (by omega), k 11 (by omega)]
  rfl
section
variable {n : Int} {t : Int → Int} {y yc ym : Nat → Int32} {S : Int → Int} {s lOn nOn land riv ord dir hom len let' stp : Nat → Int32}
theorem tw_end (h : tT n t) {a : Int} (a0 : 0 ≤ a) (a1 : a ≤ n) : a ≤ tws t n a ∧ 0 ≤ twl t n a ∧ tws t n a + twl t n a ≤ n := by
  have := tws_c h a0 a1
  have := twl_c h a0 a1
  omega
theorem x_nameOk (h : tT n t) (hy : tX n t y) {a : Int} (a0 : 0 ≤ a) (a1 : a ≤ n) {v2 v3 e ea : Int32} (k : nmK t n a = 0) : f_X5_takeName (iI n) (iI a) v2 v3 e ea y = some (iI 1, iI (tws t n a + twl t n a), iI (tws t n a), iI (twl t n a), e, ea) ∧ 0 < twl t n a ∧ twl t n a ≤ 8 := by
  have hl : 0 < twl t n a ∧ twl t n a ≤ 8 := by
    unfold nmK at k
    by_cases z : 0 < twl t n a ∧ twl t n a ≤ 8
    · exact z
    · rw [if_neg z] at k; omega
  refine ⟨?_, hl⟩
  have l8 : (iI (twl t n a) ≤ iI 8) = True := (pc_le (by omega) (by omega) (by omega) (by omega)).trans (eq_true hl.2)
  unfold f_X5_takeName
  simp only [pc_bv, x_word1 h hy a0 a1 hl.1, pd_6]
  simp only [pc_lit, pc_10, if_false, l8, if_true]
theorem x_nameKo (h : tT n t) (hy : tX n t y) {a : Int} (a0 : 0 ≤ a) (a1 : a ≤ n) {v2 v3 e ea : Int32} (k : ¬ nmK t n a = 0) : ∃ z1 z2 z3, f_X5_takeName (iI n) (iI a) v2 v3 e ea y = some (iI 0, z1, z2, z3, iI 1, iI (tws t n a)) := by
  have c := tw_end h a0 a1
  have hn2 := h.2.1
  by_cases hl : 0 < twl t n a
  · have h8 : ¬ twl t n a ≤ 8 := by
      intro q
      unfold nmK at k
      rw [if_pos ⟨hl, q⟩] at k
      exact k rfl
    have l8 : (iI (twl t n a) ≤ iI 8) = False := (pc_le (by omega) (by omega) (by omega) (by omega)).trans (eq_false h8)
    refine ⟨?_, ?_, ?_, ?xx⟩
    case xx =>
      unfold f_X5_takeName
      simp only [pc_bv, x_word1 h hy a0 a1 hl, pd_6]
      simp only [pc_lit, pc_10, if_false, l8, if_true, f_X5_fail, pd_3]
      rfl
  · refine ⟨?_, ?_, ?_, ?yy⟩
    case yy =>
      unfold f_X5_takeName
      simp only [pc_bv, x_word0 h hy a0 a1 hl, pd_6]
      simp only [pc_lit, if_true]
      rfl
theorem m_name (h : tT n t) (hy : tX n t y) {a : Int} (a0 : 0 ≤ a) (a1 : a ≤ n) {fr ea : Int32} : f_X9_name (iI n) (iI a) fr (iI 0) ea y = some (iI (tws t n a + twl t n a), iI (tws t n a), iI (nmK t n a), if nmK t n a = 0 then ea else iI (tws t n a)) := by
  have c := tw_end h a0 a1
  have hn2 := h.2.1
  have e : iI (tws t n a + twl t n a) - iI (tws t n a) = iI (twl t n a) := by rw [pc_sub]; congr 1; omega
  unfold f_X9_name nmK
  simp only [pc_bv, m_word h hy a0 a1, pd_2, e]
  by_cases z : twl t n a = 0
  · have q1 : (iI (tws t n a + twl t n a) = iI (tws t n a)) = True := eq_true (by rw [z, Int.add_zero])
    have q2 : ¬ (0 < twl t n a ∧ twl t n a ≤ 8) := by omega
    simp only [q1, if_true, if_neg q2]
    rfl
  · have q1 : (iI (tws t n a + twl t n a) = iI (tws t n a)) = False := (pc_eq (by omega) (by omega) (by omega) (by omega)).trans (eq_false (by omega))
    by_cases z8 : twl t n a ≤ 8
    · have l8 : (iI (twl t n a) ≤ (8 : Int32)) = True := (pc_le (a := twl t n a) (b := 8) (by omega) (by omega) (by omega) (by omega)).trans (eq_true z8)
      have q2 : 0 < twl t n a ∧ twl t n a ≤ 8 := by omega
      simp only [q1, if_false, l8, if_true, if_pos q2]
      rfl
    · have l8 : (iI (twl t n a) ≤ (8 : Int32)) = False := (pc_le (a := twl t n a) (b := 8) (by omega) (by omega) (by omega) (by omega)).trans (eq_false z8)
      have q2 : ¬ (0 < twl t n a ∧ twl t n a ≤ 8) := by omega
      simp only [q1, if_false, l8, if_neg q2]
      rfl
theorem m_nameE {nn a fr e ea : Int32} (he : ¬ e = iI 0) : f_X9_name nn a fr e ea y = some (a, fr, e, ea) := by
  unfold f_X9_name
  simp only [pc_bv, m_wordE he, pd_2, m_failE he]
  by_cases z1 : a = fr
  · rw [if_pos z1]
  · rw [if_neg z1]
    by_cases z2 : a - fr ≤ 8
    · rw [if_pos z2]
    · rw [if_neg z2]
theorem zBc (c : Bool) : (zB c = (0 : Int32)) = (c = false) := pc_zb0 c
theorem x_dirWord (h : tT n t) (hy : tX n t y) {b l : Int} (b0 : 0 ≤ b) (l0 : 0 ≤ l) (bl : b + l ≤ n) : f_X5_directionWord (iI n) (iI b) (iI l) y = some (iI (dirW t b l)) := by
  unfold f_X5_directionWord dirW
  simp only [x_wordIs h hy b0 l0 bl, pd_1, zBc]
  cases isK t b l 8 <;> cases isK t b l 9 <;> cases isK t b l 10 <;> cases isK t b l 11 <;> rfl
theorem m_wayHere (h : tT n t) (hy : tX n t y) {b l : Int} (b0 : 0 ≤ b) (l0 : 0 ≤ l) (bl : b + l ≤ n) : f_X9_wayHere (iI (b + l)) (iI b) (iI 0) y = some (iI (dirW t b l)) := by
  unfold f_X9_wayHere dirW
  simp only [m_was h hy b0 l0 bl, pd_1, zBc]
  cases isK t b l 8 <;> cases isK t b l 9 <;> cases isK t b l 10 <;> cases isK t b l 11 <;> rfl
theorem m_wayHereE {a fr e : Int32} (he : ¬ e = iI 0) : f_X9_wayHere a fr e y = some (iI (-1)) := by
  unfold f_X9_wayHere
  simp only [m_wasE he, pd_1]
  rfl
theorem s_turn (h : tT n t) (hx : tX n t yc) (hy : tX n t ym) (w : wS S) (hm : mS s S) (ra : RA lOn nOn land riv ord dir hom len let' stp S) {b l : Int} (b0 : 0 ≤ b) (l0 : 0 ≤ l) (bl : b + l ≤ n) (k1 : isK t b l 1 = false) (k2 : isK t b l 2 = false) (k3 : isK t b l 3 = false) (k4 : isK t b l 4 = false) (k5 : isK t b l 5 = false) (k6 : isK t b l 6 = true) {ns nu hv' fl : Int32} {flow sums : Nat → Int32} :
    (∃ k p : Int, 1 ≤ k ∧ k ≤ 4 ∧ (∃ z1 z2 z3 z4, f_X5_readTurn (iI n) (iI (b + l)) ns nu (iI 0) (iI 0) yc (iI (S 5)) = some (iI 0, z1, z2, z3, iI k, iI p, z4)) ∧ ∃ u1 u2 u3 u6 u7 u8 u9, f_X9_readsOne fl (iI n) (iI (b + l)) (iI b) (iI 0) (iI 0) hv' flow s sums ym = some (u1, u2, u3, iI k, iI p, u6, u7, u8, u9)) ∨
    (∃ (a' : Int) (S' : Int → Int), b + l ≤ a' ∧ a' ≤ n ∧ wS S' ∧ S' 0 = S 0 ∧ S' 1 = S 1 ∧ S' 6 = S 6 ∧ S' 7 = S 7 ∧ (∃ z2 z3, f_X5_readTurn (iI n) (iI (b + l)) ns nu (iI 0) (iI 0) yc (iI (S 5)) = some (iI 1, iI a', z2, z3, iI 0, iI 0, iI (S' 5)) ∧ S' 2 = S 2 ∧ S' 3 = S 3 ∧ rM S' = rM S ∧ S' 4 = S 4 ∧ RA lOn nOn land riv ord dir hom len let' stp S') ∧ ∃ u1 u3 u7 u8 u9, f_X9_readsOne fl (iI n) (iI (b + l)) (iI b) (iI 0) (iI 0) hv' flow s sums ym = some (u1, iI a', u3, iI 0, iI 0, hv', u7, u8, u9) ∧ mS u8 S') := by
  have hC := w.C
  have a0 : 0 ≤ b + l := by omega
  have c1 := nE_c h a0 bl
  have MM : f_X9_readsOne fl (iI n) (iI (b + l)) (iI b) (iI 0) (iI 0) hv' flow s sums ym = bd5 (f_X9_number (iI n) (iI (b + l)) (iI b) (iI 0) (iI 0) ym (iI 0) (iI 3)) fun r a f e ea => some (fl, a, f, e, ea, hv', flow, upd s (5 : Int).toNat r, sums) := by
    unfold f_X9_readsOne
    simp only [pc_bv]
    rw [m_was h hy b0 l0 bl 1, k1, pd_1, if_pos (by rfl), m_was h hy b0 l0 bl 2, k2, pd_1, if_pos (by rfl), m_was h hy b0 l0 bl 3, k3, pd_1, if_pos (by rfl), m_was h hy b0 l0 bl 4, k4, pd_1, if_pos (by rfl), m_was h hy b0 l0 bl 5, k5, pd_1, if_pos (by rfl), m_was h hy b0 l0 bl 6, k6, pd_1, if_neg (by decide)]
    simp only [pc_ar5]
    rfl
  by_cases q : nK t n (b + l) 0 3 = 0
  · right
    have kk := nK_0 q
    have m1 := m_numOk h hy a0 bl (fr := iI b) (ea := iI 0) (lo := 0) (hi := 3) (by omega) (by omega) (by omega) (by omega) q
    have x1 := x_numOk h hx a0 bl (v2 := ns) (v3 := nu) (e := iI 0) (ea := iI 0) (lo := 0) (hi := 3) (by omega) (by omega) (by omega) (by omega) q
    have jn : JN S (wr1 S 5 (tnv t n (b + l))) := jn_wr (by omega)
    have E : ∀ j, j ≠ 5 → wr1 S 5 (tnv t n (b + l)) j = S j := fun j hj => wr1_no hj
    refine ⟨nE t n (b + l), wr1 S 5 (tnv t n (b + l)), by omega, by omega, ?_, E 0 (by omega), E 1 (by omega), E 6 (by omega), E 7 (by omega), ⟨?_, ?_, ?xx, E 2 (by omega), E 3 (by omega), jn_rM w jn, E 4 (by omega), ?_⟩, ?_, ?_, ?_, upd s (5 : Int).toNat (iI (tnv t n (b + l))), ?_, ?mm, mS_wr (j := 5) (v := tnv t n (b + l)) hm (by omega)⟩
    case xx =>
      unfold f_X5_readTurn
      simp only [pc_lit, x1, pd_6, pc_10, if_false, wr1_at]
      rfl
    case mm =>
      rw [MM, m1, pd_5]
    · refine jn_wS w jn ?_ ?_ ?_ ?_ (fun k k1 k2 => ?_)
      · rw [E 4 (by omega)]; omega
      · rw [wr1_at]; omega
      · rw [E 6 (by omega), E 4 (by omega)]; omega
      · rw [E 7 (by omega)]; omega
      · rw [E 4 (by omega)] at k2; rw [E _ (by omega)]; exact w.V k1 k2
    · have hj : aJ stp (wr1 S 5 (tnv t n (b + l))) := by
        intro k k1 k2
        rw [E 4 (by omega)] at k2
        rw [E _ (by omega)]
        exact ra.stops k k1 k2
      exact jn_RA w ra jn hj
  · left
    have kk := nK_c t n (b + l) 0 3
    obtain ⟨z1, m1, v1, v2⟩ := m_numKo h hy a0 bl (fr := iI b) (ea := iI 0) (lo := 0) (hi := 3) (by omega) (by omega) (by omega) (by omega) q
    obtain ⟨y1, y2, y3, x1⟩ := x_numKo h hx a0 bl (v2 := ns) (v3 := nu) (e := iI 0) (ea := iI 0) (lo := 0) (hi := 3) (by omega) (by omega) (by omega) (by omega) q
    refine ⟨nK t n (b + l) 0 3, tws t n (b + l), by omega, by omega, ⟨?_, ?_, ?_, ?_, ?xx⟩, ?_, ?_, ?_, ?_, ?_, ?_, ?_, ?mm⟩
    case xx =>
      unfold f_X5_readTurn
      simp only [pc_lit, x1, pd_6, if_true]
      rfl
    case mm => rw [MM, m1, pd_5]
theorem s_place (h : tT n t) (hx : tX n t yc) (hy : tX n t ym) (w : wS S) (hm : mS s S) (ra : RA lOn nOn land riv ord dir hom len let' stp S) {b l : Int} (b0 : 0 ≤ b) (l0 : 0 ≤ l) (bl : b + l ≤ n) (k1 : isK t b l 1 = false) (k2 : isK t b l 2 = false) (k3 : isK t b l 3 = false) (k4 : isK t b l 4 = true) {wl0 hv' fl : Int32} {flow sums : Nat → Int32} :
    (∃ k p : Int, 1 ≤ k ∧ k ≤ 4 ∧ (∃ z1 z2 z3 z4 z5 z6, f_X5_readPlace (iI n) (iI (b + l)) (iI b) wl0 (iI 0) (iI 0) yc (iI (S 0)) (iI (S 1)) (iI (S 2)) (rM S) lOn nOn land riv dir hom len let' = some (iI 0, z1, z2, z3, iI k, iI p, z4, z5, z6)) ∧ ∃ u1 u2 u3 u6 u7 u8 u9, f_X9_readsOne fl (iI n) (iI (b + l)) (iI b) (iI 0) (iI 0) hv' flow s sums ym = some (u1, u2, u3, iI k, iI p, u6, u7, u8, u9)) ∨
    (∃ (a' : Int) (S' : Int → Int), b + l ≤ a' ∧ a' ≤ n ∧ wS S' ∧ S' 0 = S 0 ∧ S' 1 = S 1 ∧ S' 6 = S 6 ∧ S' 7 = S 7 ∧ (∃ z2 z3 z4 z5 z6, f_X5_readPlace (iI n) (iI (b + l)) (iI b) wl0 (iI 0) (iI 0) yc (iI (S 0)) (iI (S 1)) (iI (S 2)) (rM S) lOn nOn land riv dir hom len let' = some (iI 1, iI a', z2, z3, iI 0, iI 0, z4, z5, z6) ∧ S' 2 = S 2 ∧ S' 3 = S 3 ∧ rM S' = rM S ∧ S' 4 = S 4 ∧ S' 5 = S 5 ∧ RA z4 z5 land riv ord z6 hom len let' stp S') ∧ ∃ u1 u3 u7 u8 u9, f_X9_readsOne fl (iI n) (iI (b + l)) (iI b) (iI 0) (iI 0) hv' flow s sums ym = some (u1, iI a', u3, iI 0, iI 0, hv', u7, u8, u9) ∧ mS u8 S') := by
  have hC := w.C
  have a0 : 0 ≤ b + l := by omega
  have c1 := tw_end h a0 bl
  have MM : f_X9_readsOne fl (iI n) (iI (b + l)) (iI b) (iI 0) (iI 0) hv' flow s sums ym = bd5 (f_X9_readsPlace (iI n) (iI (b + l)) (iI b) (iI 0) (iI 0) s ym) fun a f e ea s' => some (fl, a, f, e, ea, hv', flow, s', sums) := by
    unfold f_X9_readsOne
    simp only [pc_bv]
    rw [m_was h hy b0 l0 bl 1, k1, pd_1, if_pos (by rfl), m_was h hy b0 l0 bl 2, k2, pd_1, if_pos (by rfl), m_was h hy b0 l0 bl 3, k3, pd_1, if_pos (by rfl), m_was h hy b0 l0 bl 4, k4, pd_1, if_neg (by decide)]
  have mn := m_name h hy a0 bl (fr := iI b) (ea := iI 0)
  have e11 : ¬ iI 1 = iI 0 := by decide
  have e33 : ¬ iI 3 = iI 0 := by decide
  have e44 : ¬ iI 4 = iI 0 := by decide
  have nn1 : (iI (-1) = iI (-1)) = True := eq_true rfl
  by_cases q : nmK t n (b + l) = 0
  · obtain ⟨x1, x2, x3⟩ := x_nameOk h hx a0 bl (v2 := iI b) (v3 := wl0) (e := iI 0) (ea := iI 0) q
    have nx := x_named h hx w ra.length ra.letters (b := tws t n (b + l)) (l := twl t n (b + l)) (by omega) (by omega) (by omega)
    have nm' := m_named h hy hm w (b := tws t n (b + l)) (l := twl t n (b + l)) (by omega) (by omega) (by omega)
    have hr : nmH S t (tws t n (b + l)) (twl t n (b + l)) = -1 ∨ (0 ≤ nmH S t (tws t n (b + l)) (twl t n (b + l)) ∧ nmH S t (tws t n (b + l)) (twl t n (b + l)) < S 2) := by
      rcases fi_rg (nmP S t (tws t n (b + l)) (twl t n (b + l))) (S 2) with z | ⟨z1, z2, _⟩
      · exact .inl z
      · exact .inr ⟨z1, z2⟩
    rw [q, if_pos rfl] at mn
    generalize nmH S t (tws t n (b + l)) (twl t n (b + l)) = H at nx nm' hr
    have c2 := tw_end h (a := tws t n (b + l) + twl t n (b + l)) (by omega) (by omega)
    generalize ha : tws t n (b + l) + twl t n (b + l) = A at x1 nm' mn c1 c2
    have mw := m_word h hy (a := A) (by omega) (by omega) (fr := iI (tws t n (b + l)))
    by_cases qH : H = -1
    · left
      subst qH
      refine ⟨4, tws t n (b + l), by omega, by omega, ⟨?_, ?_, ?_, ?_, ?_, ?_, ?xx⟩, ?_, ?_, ?_, ?_, ?_, ?_, ?_, ?mm⟩
      case xx =>
        unfold f_X5_readPlace
        simp only [pc_bv, x1, pd_6]
        simp only [pc_lit, pc_10, if_false, nx, pd_1, pc_neg, if_true, f_X5_fail, pd_3, pc_zbI0]
        rfl
      case mm =>
        rw [MM]
        unfold f_X9_readsPlace
        simp only [pc_bv, mn, pd_4]
        simp only [pc_lit, m_fine0, pd_1, pc_10, if_false, nm', pc_neg, if_true, m_fail1, pd_2, m_wordE e44, m_wayHereE e44, m_failE e44, m_fineE e44, pd_5]
        rfl
    · have hH : 0 ≤ H ∧ H < S 2 := by omega
      have nH : (iI H = iI (-1)) = False := (pc_eq (by omega) (by omega) (by omega) (by omega)).trans (eq_false qH)
      have dw := m_wayHere h hy (b := tws t n A) (l := twl t n A) (by omega) (by omega) (by omega)
      have dc := dirW_c t (tws t n A) (twl t n A)
      by_cases qD : dirW t (tws t n A) (twl t n A) = -1
      · left
        rw [qD] at dw
        obtain ⟨y1, y2, y3, y4, y5, y6, X⟩ : ∃ z1 z2 z3 z4 z5 z6, f_X5_readPlace (iI n) (iI (b + l)) (iI b) wl0 (iI 0) (iI 0) yc (iI (S 0)) (iI (S 1)) (iI (S 2)) (rM S) lOn nOn land riv dir hom len let' = some (iI 0, z1, z2, z3, iI 1, iI (tws t n A), z4, z5, z6) := by
          by_cases hl : 0 < twl t n A
          · have xw := x_word1 h hx (a := A) (by omega) (by omega) (v2 := iI (tws t n (b + l))) (v3 := iI (twl t n (b + l))) (e := iI 0) (ea := iI 0) hl
            have xd := x_dirWord h hx (b := tws t n A) (l := twl t n A) (by omega) (by omega) (by omega)
            rw [qD] at xd
            refine ⟨?_, ?_, ?_, ?_, ?_, ?_, ?v1⟩
            case v1 =>
              unfold f_X5_readPlace
              simp only [pc_bv, x1, pd_6]
              simp only [pc_lit, pc_10, if_false, nx, pd_1, pc_neg, nH, xw, pd_6, xd, if_true, f_X5_fail, pd_3, pc_zbI0]
              rfl
          · have xw := x_word0 h hx (a := A) (by omega) (by omega) (v2 := iI (tws t n (b + l))) (v3 := iI (twl t n (b + l))) (e := iI 0) (ea := iI 0) hl
            refine ⟨?_, ?_, ?_, ?_, ?_, ?_, ?v2⟩
            case v2 =>
              unfold f_X5_readPlace
              simp only [pc_bv, x1, pd_6]
              simp only [pc_lit, pc_10, if_false, nx, pd_1, pc_neg, nH, xw, pd_6, if_true]
              rfl
        refine ⟨1, tws t n A, by omega, by omega, ⟨y1, y2, y3, y4, y5, y6, X⟩, ?_, ?_, ?_, ?_, ?_, ?_, ?_, ?mm⟩
        case mm =>
          rw [MM]
          unfold f_X9_readsPlace
          simp only [pc_bv, mn, pd_4]
          simp only [pc_lit, m_fine0, pd_1, pc_10, if_false, nm', pc_neg, nH, m_fail0, pd_2, mw, dw, if_true, m_fail1, m_fineE e11, pd_5]
          rfl
      · have hl : 0 < twl t n A := by
          by_cases z : 0 < twl t n A
          · exact z
          · have e : twl t n A = 0 := by omega
            rw [e, dirW_0] at qD
            exact absurd rfl qD
        have xw := x_word1 h hx (a := A) (by omega) (by omega) (v2 := iI (tws t n (b + l))) (v3 := iI (twl t n (b + l))) (e := iI 0) (ea := iI 0) hl
        have xd := x_dirWord h hx (b := tws t n A) (l := twl t n A) (by omega) (by omega) (by omega)
        generalize dirW t (tws t n A) (twl t n A) = D at dw dc xd qD
        have nD : (iI D = iI (-1)) = False := (pc_eq (by omega) (by omega) (by omega) (by omega)).trans (eq_false qD)
        have rx := x_reason w ra.land ra.riverOf ra.home ra.length ra.letters ra.namesOn ra.letterOn hH.1 hH.2 (v := D) (by omega) (by omega)
        have rm := m_reason hm w hH.1 hH.2 (v := D) (by omega) (by omega)
        have hq := rsn_rg S H D
        by_cases z : rsn S H D = 0
        · right
          have w' := wy_place w hH.1 hH.2 (by omega : 0 ≤ D) (by omega) z
          have c0 := chR_0 w hH.1 hH.2 (v := D) (o := -1) (by unfold rsn at z; by_cases q : chR S H D (-1) = 0; exact q; rw [if_neg q] at z; exact absurd z q)
          obtain ⟨⟨r1, r2, r3⟩, t1, t2⟩ := x_putName w ra hH.1 hH.2 (v := D) (by omega) (by omega) (fun k q1 q2 => (cR_9 (c0.2 k q1 q2)).1) w'
          obtain ⟨s', p1, p2⟩ := m_put2 (v := D) hm w hH.1 hH.2
          rw [z] at rx rm
          refine ⟨tws t n A + twl t n A, wyS S (pt1 S H D), by omega, by omega, w', wy_lo (by omega), wy_lo (by omega), wy_lo (by omega), wy_lo (by omega), ⟨?_, ?_, r1, r2, r3, ?xx, wy_lo (by omega), wy_lo (by omega), wy_rM w, wy_lo (by omega), wy_lo (by omega), t2⟩, ?_, ?_, ?_, s', ?_, ?mm, p2⟩
          case xx =>
            unfold f_X5_readPlace
            simp only [pc_bv, x1, pd_6]
            simp only [pc_lit, pc_10, if_false, nx, pd_1, pc_neg, nH, xw, pd_6, xd, nD, rx, if_true, t1, pd_3]
            rfl
          case mm =>
            rw [MM]
            unfold f_X9_readsPlace
            simp only [pc_bv, mn, pd_4]
            simp only [pc_lit, m_fine0, pd_1, pc_10, if_false, nm', pc_neg, nH, m_fail0, pd_2, mw, dw, nD, rm, if_true, p1, pd_5]
            rfl
        · left
          have z2 := (pc_eq (a := rsn S H D) (b := 0) (by omega) (by omega) (by omega) (by omega)).trans (eq_false z)
          refine ⟨3, tws t n A, by omega, by omega, ⟨?_, ?_, ?_, ?_, ?_, ?_, ?xx⟩, ?_, ?_, ?_, ?_, ?_, ?_, ?_, ?mm⟩
          case xx =>
            unfold f_X5_readPlace
            simp only [pc_bv, x1, pd_6]
            simp only [pc_lit, pc_10, if_false, nx, pd_1, pc_neg, nH, xw, pd_6, xd, nD, rx, z2, f_X5_fail, pd_3, pc_zbI0]
            rfl
          case mm =>
            rw [MM]
            unfold f_X9_readsPlace
            simp only [pc_bv, mn, pd_4]
            simp only [pc_lit, m_fine0, pd_1, pc_10, if_false, nm', pc_neg, nH, m_fail0, pd_2, mw, dw, nD, rm, z2, m_fail1, m_fineE e33, if_true, pd_5]
            rfl
  · left
    obtain ⟨y1, y2, y3, x1⟩ := x_nameKo h hx a0 bl (v2 := iI b) (v3 := wl0) (e := iI 0) (ea := iI 0) q
    have q1 : nmK t n (b + l) = 1 := by
      unfold nmK at q ⊢
      split at q
      · omega
      · rw [if_neg (by assumption)]
    rw [q1, if_neg (by omega)] at mn
    refine ⟨1, tws t n (b + l), by omega, by omega, ⟨?_, ?_, ?_, ?_, ?_, ?_, ?xx⟩, ?_, ?_, ?_, ?_, ?_, ?_, ?_, ?mm⟩
    case xx =>
      unfold f_X5_readPlace
      simp only [pc_bv, x1, pd_6]
      simp only [pc_lit, if_true]
      rfl
    case mm =>
      rw [MM]
      unfold f_X9_readsPlace
      simp only [pc_bv, mn, pd_4]
      simp only [pc_lit, m_fineE e11, pd_1, if_true, pc_neg, m_failE e11, pd_2, m_wordE e11, m_wayHereE e11, pd_5]
      rfl
end
