section
variable {n : Int} {t : Int → Int} {y yc ym : Nat → Int32} {S : Int → Int} {s lOn nOn land riv ord dir hom len let' stp : Nat → Int32}
theorem s_river (h : tT n t) (hx : tX n t yc) (hy : tX n t ym) (w : wS S) (hm : mS s S) (ra : RA lOn nOn land riv ord dir hom len let' stp S) {b l : Int} (b0 : 0 ≤ b) (l0 : 0 ≤ l) (bl : b + l ≤ n) (k1 : isK t b l 1 = false) (k2 : isK t b l 2 = false) (k3 : isK t b l 3 = true) {ns nu ce ln hv' fl : Int32} {co0 sm0 wy flow sums : Nat → Int32} :
    (∃ k p : Int, 1 ≤ k ∧ k ≤ 4 ∧ (∃ z1 z2 z3 z4 z5 z6 z7 z8 z9 z10 z11 z12 z13, f_X5_readRiver (iI n) (iI (b + l)) (iI b) ns nu ce (iI 0) (iI 0) ln yc (iI (S 0)) (iI (S 1)) (iI (S 3)) (iI (S 2)) nOn co0 sm0 wy land riv ord dir hom len = some (iI 0, z1, z2, z3, z4, iI k, iI p, z5, z6, z7, z8, z9, z10, z11, z12, z13)) ∧ ∃ u1 u2 u3 u6 u7 u8 u9, f_X9_readsOne fl (iI n) (iI (b + l)) (iI b) (iI 0) (iI 0) hv' flow s sums ym = some (u1, u2, u3, iI k, iI p, u6, u7, u8, u9)) ∨
    (∃ (a' : Int) (S' : Int → Int), b + l ≤ a' ∧ a' ≤ n ∧ wS S' ∧ S' 0 = S 0 ∧ S' 1 = S 1 ∧ S' 6 = S 6 ∧ S' 7 = S 7 ∧ (∃ z2 z3 z4 z5 z7 z8 z9 z10 z11 z12 z13, f_X5_readRiver (iI n) (iI (b + l)) (iI b) ns nu ce (iI 0) (iI 0) ln yc (iI (S 0)) (iI (S 1)) (iI (S 3)) (iI (S 2)) nOn co0 sm0 wy land riv ord dir hom len = some (iI 1, iI a', z2, z3, z4, iI 0, iI 0, z5, iI (S' 3), z7, z8, z9, z10, z11, z12, z13) ∧ S' 2 = S 2 ∧ rM S' = rM S ∧ S' 4 = S 4 ∧ S' 5 = S 5 ∧ RA lOn z7 land z11 z12 z13 hom len let' stp S') ∧ ∃ u1 u3 u7 u8 u9, f_X9_readsOne fl (iI n) (iI (b + l)) (iI b) (iI 0) (iI 0) hv' flow s sums ym = some (u1, iI a', u3, iI 0, iI 0, hv', u7, u8, u9) ∧ mS u8 S') := by
  have hC := w.C
  have hD := w.D
  have hN := w.N
  have a0 : 0 ≤ b + l := by omega
  have g0 : s (0 : Int32).toNatClampNeg = iI (S 0) := hm 0 (by omega) (by omega)
  have g1 : s (1 : Int32).toNatClampNeg = iI (S 1) := hm 1 (by omega) (by omega)
  have g3 : s (3 : Int32).toNatClampNeg = iI (S 3) := hm 3 (by omega) (by omega)
  have c1 := nE_c h a0 bl
  have c2 := nE_c h (a := nE t n (b + l)) (by omega) (by omega)
  by_cases h8 : S 3 < 8
  · have z8 : (iI (S 3) < (8 : Int32)) = True := (pc_lt (a := S 3) (b := 8) (by omega) (by omega) (by omega) (by omega)).trans (eq_true h8)
    have z9 : (iI (S 3) = (8 : Int32)) = False := (pc_eq (a := S 3) (b := 8) (by omega) (by omega) (by omega) (by omega)).trans (eq_false (by omega))
    have MM : f_X9_readsOne fl (iI n) (iI (b + l)) (iI b) (iI 0) (iI 0) hv' flow s sums ym = bd8 (f_X9_readsRiver fl (iI n) (iI (b + l)) (iI b) (iI 0) (iI 0) flow s sums ym) fun l' a f e ea fw s' sm => some (l', a, f, e, ea, hv', fw, s', sm) := by
      unfold f_X9_readsOne
      simp only [pc_bv]
      rw [m_was h hy b0 l0 bl 1, k1, pd_1, if_pos (by rfl), m_was h hy b0 l0 bl 2, k2, pd_1, if_pos (by rfl), m_was h hy b0 l0 bl 3, k3, pd_1, if_neg (by decide), pc_ar3, g3]
      simp only [z9, if_false]
      rw [show (0 : Int32) = iI 0 from rfl, m_fail0, pd_2]
    by_cases q1 : cK1 t n S (b + l) = 0
    · have n1 := m_numOk h hy a0 bl (fr := iI b) (ea := iI 0) (lo := 0) (hi := S 0 - 1) (by omega) (by omega) (by omega) (by omega) q1
      by_cases q2 : cK2 t n S (b + l) = 0
      · have cc := cC_c w q1 q2
        have n2 := m_numOk h hy (a := nE t n (b + l)) (by omega) (by omega) (fr := iI (tws t n (b + l))) (ea := iI 0) (lo := 0) (hi := S 1 - 1) (by omega) (by omega) (by omega) (by omega) q2
        have xc := x_cellOk h hx w a0 bl (v2 := ns) (v3 := nu) (v4 := ce) (e := iI 0) (ea := iI 0) q1 q2
        obtain ⟨M, co, y, sm, hM, hco, hyy, hsm, es, em⟩ := way_both hm w ra co0 sm0 sums
        have tr := x_trace w hM hco hyy (ln := ln) (wy := wy) (v := cC t n S (b + l)) cc.1 cc.2.1
        have ff := m_findsFlow hm w hM hsm em (ln := fl) (wy := flow) (v := cC t n S (b + l)) cc.1 cc.2.1
        have ecc : S 1 * tnv t n (b + l) + tnv t n (nE t n (b + l)) = cC t n S (b + l) := rfl
        generalize hcc : cC t n S (b + l) = c at cc xc tr ff ecc
        by_cases hf : M c < 1000000
        · right
          rw [if_pos hf] at tr ff
          have hL := fLn_c w hM cc.1 cc.2.1 hf
          have z : (iI (fLn S M c) = iI 0) = False := (pc_eq (a := fLn S M c) (b := 0) (by omega) (by omega) (by omega) (by omega)).trans (eq_false (by omega))
          have wT := lfM_wS w (m := wsh S M c)
          obtain ⟨⟨r1, r2⟩, t1, t2⟩ := x_takeNames w ra (wsh S M c)
          have T3 : wyS S (lfM S (wsh S M c)) 3 = S 3 := wy_lo (by omega)
          obtain ⟨⟨p1, p2⟩, l1, l2, l3⟩ := x_lay (T := wyS S (lfM S (wsh S M c))) w hM t2.riverOf t2.riverPlace (wy := wy) cc.1 cc.2.1 hf
          obtain ⟨s', m1, m2⟩ := m_flows hm w hM (wy := flow) cc.1 cc.2.1 hf
          have w' := rv_wS w wT hM T3 (wy_lo (by omega)) (wy_lo (by omega)) cc.1 cc.2.1 hf h8
          have nw := x_namesOnWay w ra.namesOn hM (wy := wy) cc.1 cc.2.1 hf
          refine ⟨nE t n (nE t n (b + l)), rvS S M (wyS S (lfM S (wsh S M c))) c (fLn S M c), by omega, by omega, w', by rw [rv_lo (by omega) (by omega), wy_lo (by omega)], by rw [rv_lo (by omega) (by omega), wy_lo (by omega)], by rw [rv_lo (by omega) (by omega), wy_lo (by omega)], by rw [rv_lo (by omega) (by omega), wy_lo (by omega)], ⟨?_, ?_, ?_, ?_, r1, ?_, ?_, ?_, p1, p2, r2, ?xx, by rw [rv_lo (by omega) (by omega), wy_lo (by omega)], ?rr, by rw [rv_lo (by omega) (by omega), wy_lo (by omega)], by rw [rv_lo (by omega) (by omega), wy_lo (by omega)], rv_RA wT t2 l2 l3⟩, ?_, ?_, ?_, s', ?_, ?mm, m2⟩
          case rr =>
            rw [← wy_rM w (D := lfM S (wsh S M c))]
            unfold rM
            rw [rv_lo (by omega) (by omega)]
            exact mk_congr (fun h g1 g2 => by unfold isR hv; rw [rv_hi (by omega)])
          case xx =>
            unfold f_X5_readRiver
            simp only [z8, if_true, xc, pd_7]
            simp only [pc_lit, pc_10, if_false, es, pd_2, tr, pd_3, z, nw, pd_1, t1, l1, rv_3]
            rfl
          case mm =>
            rw [MM]
            unfold f_X9_readsRiver
            simp only [pc_ar0, pc_ar11, g0, g1]
            simp only [pc_lit, pc_sub, n1, n2, pd_5, m_fine0, pd_1, pc_10, if_false, pc_mul, pc_add, ecc, ff, pd_4, m1, pd_8]
            rfl
        · left
          rw [if_neg hf] at tr ff
          refine ⟨3, tws t n (nE t n (b + l)), by omega, by omega, ⟨?_, ?_, ?_, ?_, ?_, ?_, ?_, ?_, ?_, ?_, ?_, ?_, ?_, ?xx⟩, ?_, ?_, ?_, ?_, ?_, ?_, ?_, ?mm⟩
          case xx =>
            unfold f_X5_readRiver
            simp only [z8, if_true, xc, pd_7]
            simp only [pc_lit, pc_10, if_false, es, pd_2, tr, pd_3, if_true, f_X5_fail, pc_zbI0]
            rfl
          case mm =>
            rw [MM]
            unfold f_X9_readsRiver
            simp only [pc_ar0, pc_ar11, g0, g1]
            simp only [pc_lit, pc_sub, n1, n2, pd_5, m_fine0, pd_1, pc_10, if_false, pc_mul, pc_add, ecc, ff, pd_4, if_true, f_X9_fails, pd_2, pd_8]
            rfl
      · left
        have kk := nK_c t n (nE t n (b + l)) 0 (S 1 - 1)
        have ck : cK2 t n S (b + l) = nK t n (nE t n (b + l)) 0 (S 1 - 1) := rfl
        obtain ⟨z1, n2, v1, v2⟩ := m_numKo h hy (a := nE t n (b + l)) (by omega) (by omega) (fr := iI (tws t n (b + l))) (ea := iI 0) (lo := 0) (hi := S 1 - 1) (by omega) (by omega) (by omega) (by omega) q2
        obtain ⟨y1, y2, y3, y4, xc⟩ := x_cellKo2 h hx w a0 bl (v2 := ns) (v3 := nu) (v4 := ce) (e := iI 0) (ea := iI 0) q1 q2
        have ne := pc_ne0 (k := nK t n (nE t n (b + l)) 0 (S 1 - 1)) q2 (by omega) (by omega)
        refine ⟨nK t n (nE t n (b + l)) 0 (S 1 - 1), tws t n (nE t n (b + l)), by omega, by omega, ⟨?_, ?_, ?_, ?_, ?_, ?_, ?_, ?_, ?_, ?_, ?_, ?_, ?_, ?xx⟩, ?_, ?_, ?_, ?_, ?_, ?_, ?_, ?mm⟩
        case xx =>
          unfold f_X5_readRiver
          simp only [z8, if_true, xc, pd_7]
          simp only [pc_lit, if_true]
          rfl
        case mm =>
          rw [MM]
          unfold f_X9_readsRiver
          simp only [pc_ar0, pc_ar11, g0, g1]
          simp only [pc_lit, pc_sub, n1, n2, pd_5, m_fineE ne, pd_1, if_true, pd_8]
          rfl
    · left
      have kk := nK_c t n (b + l) 0 (S 0 - 1)
      have ck : cK1 t n S (b + l) = nK t n (b + l) 0 (S 0 - 1) := rfl
      obtain ⟨z1, n1, v1, v2⟩ := m_numKo h hy a0 bl (fr := iI b) (ea := iI 0) (lo := 0) (hi := S 0 - 1) (by omega) (by omega) (by omega) (by omega) q1
      obtain ⟨y1, y2, y3, y4, xc⟩ := x_cellKo1 h hx w a0 bl (v2 := ns) (v3 := nu) (v4 := ce) (e := iI 0) (ea := iI 0) q1
      have ne := pc_ne0 (k := nK t n (b + l) 0 (S 0 - 1)) q1 (by omega) (by omega)
      refine ⟨nK t n (b + l) 0 (S 0 - 1), tws t n (b + l), by omega, by omega, ⟨?_, ?_, ?_, ?_, ?_, ?_, ?_, ?_, ?_, ?_, ?_, ?_, ?_, ?xx⟩, ?_, ?_, ?_, ?_, ?_, ?_, ?_, ?mm⟩
      case xx =>
        unfold f_X5_readRiver
        simp only [z8, if_true, xc, pd_7]
        simp only [pc_lit, if_true]
        rfl
      case mm =>
        rw [MM]
        unfold f_X9_readsRiver
        simp only [pc_ar0, pc_ar11, g0, g1]
        simp only [pc_lit, pc_sub, n1, pd_5, m_numE ne, m_fineE ne, pd_1, if_true, pd_8]
        rfl
  · left
    have z8 : (iI (S 3) < (8 : Int32)) = False := (pc_lt (a := S 3) (b := 8) (by omega) (by omega) (by omega) (by omega)).trans (eq_false h8)
    have z9 : (iI (S 3) = (8 : Int32)) = True := (pc_eq (a := S 3) (b := 8) (by omega) (by omega) (by omega) (by omega)).trans (eq_true (by omega))
    have e33 : ¬ iI 3 = iI 0 := by decide
    refine ⟨3, b, by omega, by omega, ⟨?_, ?_, ?_, ?_, ?_, ?_, ?_, ?_, ?_, ?_, ?_, ?_, ?_, ?xx⟩, ?_, ?_, ?_, ?_, ?_, ?_, ?_, ?mm⟩
    case xx =>
      unfold f_X5_readRiver
      simp only [z8, if_false, f_X5_fail, pd_3]
      simp only [pc_lit, pc_zbI0]
      rfl
    case mm =>
      unfold f_X9_readsOne
      simp only [pc_bv]
      rw [m_was h hy b0 l0 bl 1, k1, pd_1, if_pos (by rfl), m_was h hy b0 l0 bl 2, k2, pd_1, if_pos (by rfl), m_was h hy b0 l0 bl 3, k3, pd_1, if_neg (by decide), pc_ar3, g3]
      simp only [z9, if_true]
      unfold f_X9_readsRiver
      simp only [pc_ar0, pc_ar11, g0, g1]
      simp only [pc_lit, m_fail1, pd_2, m_numE e33, pd_5, m_fineE e33, pd_1, if_true, pd_8]
      rfl
end
