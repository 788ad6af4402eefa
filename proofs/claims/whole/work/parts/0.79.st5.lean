section
variable {n : Int} {t : Int → Int} {y yc ym : Nat → Int32} {S : Int → Int} {s lOn nOn land riv ord dir hom len let' stp : Nat → Int32}
theorem s_harbour (h : tT n t) (hx : tX n t yc) (hy : tX n t ym) (w : wS S) (hm : mS s S) (ra : RA lOn nOn land riv ord dir hom len let' stp S) {b l : Int} (b0 : 0 ≤ b) (l0 : 0 ≤ l) (bl : b + l ≤ n) (k1 : isK t b l 1 = false) (k2 : isK t b l 2 = true) {wl0 ns nu ce hv' fl : Int32} {flow sums : Nat → Int32} :
    (∃ k p : Int, 1 ≤ k ∧ k ≤ 4 ∧ (∃ z1 z2 z3 z4 z5 z6 z7 z8 z9 z10 z11 z12, f_X5_readHarbour (iI n) (iI (b + l)) (iI b) wl0 ns nu ce (iI 0) (iI 0) yc (iI (S 0)) (iI (S 1)) (iI (S 2)) (rM S) nOn land riv dir hom len let' = some (iI 0, z1, z2, z3, z4, z5, z6, iI (k), iI (p), z7, z8, z9, z10, z11, z12)) ∧ ∃ u1 u2 u3 u6 u7 u8 u9, f_X9_readsOne fl (iI n) (iI (b + l)) (iI b) (iI 0) (iI 0) hv' flow s sums ym = some (u1, u2, u3, iI (k), iI (p), u6, u7, u8, u9)) ∨
    (∃ (a' : Int) (S' : Int → Int), b + l ≤ a' ∧ a' ≤ n ∧ wS S' ∧ S' 0 = S 0 ∧ S' 1 = S 1 ∧ S' 6 = S 6 ∧ S' 7 = S 7 ∧ (∃ z2 z3 z4 z5 z6 z7 z8 z9 z10, f_X5_readHarbour (iI n) (iI (b + l)) (iI b) wl0 ns nu ce (iI 0) (iI 0) yc (iI (S 0)) (iI (S 1)) (iI (S 2)) (rM S) nOn land riv dir hom len let' = some (iI 1, iI a', z2, z3, z4, z5, z6, iI 0, iI 0, iI (S' 2), rM S', z7, z8, z9, z10) ∧ S' 3 = S 3 ∧ S' 4 = S 4 ∧ S' 5 = S 5 ∧ RA lOn nOn land riv ord z7 z8 z9 z10 stp S') ∧ ∃ u1 u3 u7 u8 u9, f_X9_readsOne fl (iI n) (iI (b + l)) (iI b) (iI 0) (iI 0) hv' flow s sums ym = some (u1, iI a', u3, iI 0, iI 0, hv', u7, u8, u9) ∧ mS u8 S') := by
  have hC := w.C
  have hD := w.D
  have hN := w.N
  have a0 : 0 ≤ b + l := by omega
  have g0 : s (0 : Int32).toNatClampNeg = iI (S 0) := hm 0 (by omega) (by omega)
  have g1 : s (1 : Int32).toNatClampNeg = iI (S 1) := hm 1 (by omega) (by omega)
  have g2 : s (2 : Int32).toNatClampNeg = iI (S 2) := hm 2 (by omega) (by omega)
  have c1 := tw_end h a0 bl
  have e11 : ¬ iI 1 = iI 0 := by decide
  have e33 : ¬ iI 3 = iI 0 := by decide
  have mn := m_name h hy a0 bl (fr := iI b) (ea := iI 0)
  by_cases h8 : S 2 < 8
  · have z8 : (iI (S 2) < (8 : Int32)) = True := (pc_lt (a := S 2) (b := 8) (by omega) (by omega) (by omega) (by omega)).trans (eq_true h8)
    have z9 : (iI (S 2) = (8 : Int32)) = False := (pc_eq (a := S 2) (b := 8) (by omega) (by omega) (by omega) (by omega)).trans (eq_false (by omega))
    have MM : f_X9_readsOne fl (iI n) (iI (b + l)) (iI b) (iI 0) (iI 0) hv' flow s sums ym = bd5 (f_X9_readsHarbour (iI n) (iI (b + l)) (iI b) (iI 0) (iI 0) s ym) fun a f e ea s' => some (fl, a, f, e, ea, hv', flow, s', sums) := by
      unfold f_X9_readsOne
      simp only [pc_bv]
      rw [m_was h hy b0 l0 bl 1, k1, pd_1, if_pos (by rfl), m_was h hy b0 l0 bl 2, k2, pd_1, if_neg (by decide), pc_ar2, g2]
      simp only [z9, if_false]
      rw [show (0 : Int32) = iI 0 from rfl, m_fail0, pd_2]
    by_cases q : nmK t n (b + l) = 0
    · obtain ⟨x1, x2, x3⟩ := x_nameOk h hx a0 bl (v2 := iI b) (v3 := wl0) (e := iI 0) (ea := iI 0) q
      have nx := x_named h hx w ra.length ra.letters (b := tws t n (b + l)) (l := twl t n (b + l)) (by omega) (by omega) (by omega)
      have nm' := m_named h hy hm w (b := tws t n (b + l)) (l := twl t n (b + l)) (by omega) (by omega) (by omega)
      have hr : -1 ≤ nmH S t (tws t n (b + l)) (twl t n (b + l)) ∧ nmH S t (tws t n (b + l)) (twl t n (b + l)) < 8 := by
        rcases fi_rg (nmP S t (tws t n (b + l)) (twl t n (b + l))) (S 2) with z | ⟨z1, z2, _⟩
        · have z : nmH S t (tws t n (b + l)) (twl t n (b + l)) = -1 := z
          omega
        · have z1 : 0 ≤ nmH S t (tws t n (b + l)) (twl t n (b + l)) := z1
          have z2 : nmH S t (tws t n (b + l)) (twl t n (b + l)) < S 2 := z2
          omega
      rw [q, if_pos rfl] at mn
      have lets : ∀ k, 0 ≤ k → k < twl t n (b + l) → 97 ≤ t (tws t n (b + l) + k) ∧ t (tws t n (b + l) + k) ≤ 122 := by
        intro k k1 k2
        have tc := tws_c h a0 bl
        exact of_decide_eq_true ((rl_c h sgL_n (b := tws t n (b + l)) (by omega) (by omega)).2.2.2 k k1 k2)
      generalize nmH S t (tws t n (b + l)) (twl t n (b + l)) = H at nx nm' hr
      have eW : iI (tws t n (b + l) + twl t n (b + l)) - iI (tws t n (b + l)) = iI (twl t n (b + l)) := by rw [pc_sub]; congr 1; omega
      generalize ha : tws t n (b + l) + twl t n (b + l) = A at x1 nm' mn c1 eW
      have c2 := nE_c h (a := A) (by omega) (by omega)
      have c3 := nE_c h (a := nE t n A) (by omega) (by omega)
      by_cases qH : H = -1
      · subst qH
        by_cases q1 : cK1 t n S A = 0
        · have n1 := m_numOk h hy (a := A) (by omega) (by omega) (fr := iI (tws t n (b + l))) (ea := iI 0) (lo := 0) (hi := S 0 - 1) (by omega) (by omega) (by omega) (by omega) q1
          by_cases q2 : cK2 t n S A = 0
          · have cc := cC_c w q1 q2
            have n2 := m_numOk h hy (a := nE t n A) (by omega) (by omega) (fr := iI (tws t n A)) (ea := iI 0) (lo := 0) (hi := S 1 - 1) (by omega) (by omega) (by omega) (by omega) q2
            have xc := x_cellOk h hx w (a := A) (by omega) (by omega) (v2 := ns) (v3 := nu) (v4 := ce) (e := iI 0) (ea := iI 0) q1 q2
            have ecc : S 1 * tnv t n A + tnv t n (nE t n A) = cC t n S A := rfl
            generalize hcc : cC t n S A = c at cc xc ecc
            have xo := x_isOpen w ra.land ra.riverOf ra.home (c := c) (by omega) (by omega)
            have xn := x_namesIn' ra.namesOn (c := c) (by omega) (by omega)
            have xs := x_hasSea w ra.land (c := c) (r := -1) cc.1 cc.2.1 (by omega) (by omega)
            have mo := m_canBegin hm w (c := c) (by omega) (by omega)
            have mc := m_isCoast hm w (c := c) cc.1 cc.2.1
            have mni := m_namesIn hm w (c := c) (by omega) (by omega)
            generalize hE : nE t n (nE t n A) = E at c3 xc n2
            have tb := tws_c h (a := E) (by omega) (by omega)
            have tg := t_rg h (k := tws t n E) (by omega)
            have nsg := x_nextSign h hx (a := E) (by omega) (by omega)
            have lk := m_looks h hy (a := E) (by omega) (by omega) (fr := iI (tws t n (nE t n A)))
            have il := x_isLetter (c := t (tws t n E)) (by omega) (by omega)
            have iml := m_isLetter (c := t (tws t n E)) (by omega) (by omega)
            by_cases ok : cB S c = true ∧ nm S c = iI 0 ∧ coB S c = true
            · obtain ⟨o1, o2, o3⟩ := ok
              have oL : isL S c = true := by
                unfold cB at o1
                simp only [Bool.and_eq_true] at o1
                exact o1.1.1
              have ce' := coast_eq w oL
              rw [ce', o3] at xs
              rw [o1] at xo mo
              rw [o3] at mc
              rw [o2] at xn mni
              obtain ⟨lt2, ad1, ad2, ad3⟩ := x_addH w h hx h8 ra.letters (dir := dir) (hom := hom) (len := len) (b := tws t n (b + l)) (l := twl t n (b + l)) (c := c) (by omega) (by omega) x3 (by omega)
              have RR' := fun rd => nh_RA (rd := rd) (t := t) (b := tws t n (b + l)) (c := c) (l := twl t n (b + l)) w ra h8 (by omega) x3 ad2 ad3
              have WW := fun rd hrd => nh_wS (rd := rd) (t := t) (b := tws t n (b + l)) (c := c) (l := twl t n (b + l)) w h8 cc.1 cc.2.1 o1 hrd (by omega) x3 lets
              have Lo := fun rd j hj hj2 => nh_lo (c := c) (rd := rd) (l := twl t n (b + l)) (b := tws t n (b + l)) (t := t) (j := j) w hj hj2
              cases sl : sgL (t (tws t n E))
              · rw [sl] at il iml
                right
                obtain ⟨s', M1, M2⟩ := m_addH hm w h hy h8 (b := tws t n (b + l)) (l := twl t n (b + l)) (c := c) (rd := 0) (by omega) (by omega) x3 (by omega) (K := fun z => some (iI (tws t n E), iI (tws t n E), iI 0, iI 0, z))
                refine ⟨tws t n E, nhS S c 0 (twl t n (b + l)) t (tws t n (b + l)), by omega, by omega, WW 0 (.inl rfl), Lo 0 0 (by omega) (by omega), Lo 0 1 (by omega) (by omega), Lo 0 6 (by omega) (by omega), Lo 0 7 (by omega) (by omega), ⟨?_, ?_, ?_, ?_, ?_, _, _, _, lt2, ?xx, Lo 0 3 (by omega) (by omega), Lo 0 4 (by omega) (by omega), Lo 0 5 (by omega) (by omega), RR' 0⟩, ?_, ?_, ?_, s', ?_, ?mm, M2⟩
                case xx =>
                  rw [nh_rM w, nh_2, if_neg (by omega)]
                  unfold f_X5_readHarbour
                  simp only [pc_bv, z8, if_true, x1, pd_6]
                  unfold f_X5_readRed
                  simp only [pc_lit, pc_10, if_false, nx, pd_1, pc_neg, if_true, xc, pd_7, xo, pc_zB1, xn, xs, ad1, pd_5, nsg, pd_2, il, pc_zB0, pc_zbI1]
                  try rfl
                case mm =>
                  rw [MM]
                  unfold f_X9_readsHarbour
                  simp only [pc_bv, mn, pd_4, pc_ar0, pc_ar11, pc_ar2, g0, g1, g2, eW]
                  simp only [pc_lit, pc_neg] at M1
                  simp only [pc_lit, m_fine0, pd_1, pc_10, if_false, nm', pc_neg, if_true, m_fail0, pd_2, pc_sub, n1, n2, pd_5, pc_mul, pc_add, ecc, mc, pc_zB1, mo, mni, lk, pd_3, iml, pc_zB0]
                  rw [M1]
                  try rfl
              · rw [sl] at il iml
                have t2 := tws_2 h (a := E) (by omega) (by omega)
                have l2 := twl_2 h (a := E) (by omega) (by omega) sl
                have e2 := tw_end h (a := tws t n E) (by omega) (by omega)
                have xw := x_word1 h hx (a := tws t n E) (by omega) (by omega) (v2 := iI (tws t n (b + l))) (v3 := iI (twl t n (b + l))) (e := iI 0) (ea := iI 0) l2
                have mw := m_word h hy (a := tws t n E) (by omega) (by omega) (fr := iI (tws t n E))
                rw [t2] at xw mw
                have xk := x_wordIs h hx (b := tws t n E) (l := twl t n (tws t n E)) (by omega) (by omega) (by omega) 7
                have mk' := m_was h hy (b := tws t n E) (l := twl t n (tws t n E)) (by omega) (by omega) (by omega) 7
                cases kr : isK t (tws t n E) (twl t n (tws t n E)) 7
                · left
                  rw [kr] at xk mk'
                  refine ⟨1, tws t n E, by omega, by omega, ⟨?_, ?_, ?_, ?_, ?_, ?_, ?_, ?_, ?_, ?_, ?_, ?_, ?xx⟩, ?_, ?_, ?_, ?_, ?_, ?_, ?_, ?mm⟩
                  case xx =>
                    unfold f_X5_readHarbour
                    simp only [pc_bv, z8, if_true, x1, pd_6]
                    unfold f_X5_readRed
                    simp only [pc_lit, pc_10, if_false, nx, pd_1, pc_neg, if_true, xc, pd_7, xo, pc_zB1, xn, xs, ad1, pd_5, nsg, pd_2, il, pc_zB0, pc_zbI0, xw, pd_6, xk, f_X5_fail, pd_3]
                    try rfl
                  case mm =>
                    rw [MM]
                    unfold f_X9_readsHarbour
                    simp only [pc_bv, mn, pd_4, pc_ar0, pc_ar11, pc_ar2, g0, g1, g2, eW]
                    simp only [pc_lit, m_fine0, pd_1, pc_10, if_false, nm', pc_neg, if_true, m_fail0, pd_2, pc_sub, n1, n2, pd_5, pc_mul, pc_add, ecc, mc, pc_zB1, mo, mni, lk, pd_3, iml, pc_zB0, mw, mk', m_fail1, m_fineE e11]
                    try rfl
                · right
                  rw [kr] at xk mk'
                  obtain ⟨s', M1, M2⟩ := m_addH hm w h hy h8 (b := tws t n (b + l)) (l := twl t n (b + l)) (c := c) (rd := 1) (by omega) (by omega) x3 (by omega) (K := fun z => some (iI (tws t n E + twl t n (tws t n E)), iI (tws t n E), iI 0, iI 0, z))
                  refine ⟨tws t n E + twl t n (tws t n E), nhS S c 1 (twl t n (b + l)) t (tws t n (b + l)), by omega, by omega, WW 1 (.inr rfl), Lo 1 0 (by omega) (by omega), Lo 1 1 (by omega) (by omega), Lo 1 6 (by omega) (by omega), Lo 1 7 (by omega) (by omega), ⟨?_, ?_, ?_, ?_, ?_, _, _, _, lt2, ?xx, Lo 1 3 (by omega) (by omega), Lo 1 4 (by omega) (by omega), Lo 1 5 (by omega) (by omega), RR' 1⟩, ?_, ?_, ?_, s', ?_, ?mm, M2⟩
                  case xx =>
                    rw [nh_rM w, nh_2, if_pos rfl]
                    unfold f_X5_readHarbour
                    simp only [pc_bv, z8, if_true, x1, pd_6]
                    unfold f_X5_readRed f_X2_redsIf
                    simp only [pc_bv, pc_lit, pc_10, if_false, nx, pd_1, pc_neg, if_true, xc, pd_7, xo, pc_zB1, xn, xs, ad1, pd_5, nsg, pd_2, il, pc_zB0, pc_zbI1, xw, pd_6, xk, pc_sub, show S 2 + 1 - 1 = S 2 by omega, pc_sB]
                    try rfl
                  case mm =>
                    rw [MM]
                    unfold f_X9_readsHarbour
                    simp only [pc_bv, mn, pd_4, pc_ar0, pc_ar11, pc_ar2, g0, g1, g2, eW]
                    simp only [pc_lit, pc_neg] at M1
                    simp only [pc_lit, m_fine0, pd_1, pc_10, if_false, nm', pc_neg, if_true, m_fail0, pd_2, pc_sub, n1, n2, pd_5, pc_mul, pc_add, ecc, mc, pc_zB1, mo, mni, lk, pd_3, iml, pc_zB0, mw, mk']
                    rw [M1]
                    try rfl
            · left
              obtain ⟨y1, y2, y3, y4, y5, y6, y7, y8, y9, y10, y11, y12, X⟩ : ∃ z1 z2 z3 z4 z5 z6 z7 z8 z9 z10 z11 z12, f_X5_readHarbour (iI n) (iI (b + l)) (iI b) wl0 ns nu ce (iI 0) (iI 0) yc (iI (S 0)) (iI (S 1)) (iI (S 2)) (rM S) nOn land riv dir hom len let' = some (iI 0, z1, z2, z3, z4, z5, z6, iI (3), iI (tws t n (nE t n A)), z7, z8, z9, z10, z11, z12) := by
                refine ⟨?_, ?_, ?_, ?_, ?_, ?_, ?_, ?_, ?_, ?_, ?_, ?_, ?x1⟩
                case x1 =>
                  unfold f_X5_readHarbour
                  simp only [pc_bv, z8, if_true, x1, pd_6]
                  simp only [pc_lit, pc_10, if_false, nx, pd_1, pc_neg, if_true, xc, pd_7, xo, xn, xs, f_X5_fail, pd_3, pc_zbI0]
                  cases o1 : cB S c
                  · simp only [pc_zB0, if_true]
                    try rfl
                  · by_cases o2 : nm S c = iI 0
                    · have oL : isL S c = true := by
                        unfold cB at o1
                        simp only [Bool.and_eq_true] at o1
                        exact o1.1.1
                      have ce' := coast_eq w oL
                      have o3 : coB S c = false := by
                        cases z : coB S c
                        · rfl
                        · exact absurd ⟨o1, o2, z⟩ ok
                      simp only [pc_zB1, pc_10, if_false, o2, if_true, ce', o3, pc_zB0]
                      try rfl
                    · simp only [pc_zB1, pc_10, if_false, o2]
                      try rfl
              obtain ⟨u1, u2, u3, u6, u7, u8, u9, M⟩ : ∃ u1 u2 u3 u6 u7 u8 u9, f_X9_readsOne fl (iI n) (iI (b + l)) (iI b) (iI 0) (iI 0) hv' flow s sums ym = some (u1, u2, u3, iI (3), iI (tws t n (nE t n A)), u6, u7, u8, u9) := by
                have lkE := m_looksE h hy (a := E) (by omega) (by omega) (fr := iI (tws t n (nE t n A))) e33
                cases sl : sgL (t (tws t n E))
                · rw [sl] at iml
                  refine ⟨?_, ?_, ?_, ?_, ?_, ?_, ?_, ?m1⟩
                  case m1 =>
                    rw [MM]
                    unfold f_X9_readsHarbour
                    simp only [pc_bv, mn, pd_4, pc_ar0, pc_ar11, pc_ar2, g0, g1, g2, eW]
                    simp only [pc_lit, m_fine0, pd_1, pc_10, if_false, nm', pc_neg, if_true, m_fail0, m_fail1, pd_2, pc_sub, n1, n2, pd_5, pc_mul, pc_add, ecc, mc, mo, mni, lkE, pd_3, iml, pc_zB0, m_fineE e33]
                    by_cases o3 : coB S c = true
                    · by_cases o1 : cB S c = true
                      · have o2 : ¬ nm S c = iI 0 := fun z => ok ⟨o1, z, o3⟩
                        simp only [o3, o1, pc_zB1, pc_10, if_false, o2, pd_5]
                        try rfl
                      · have o1 : cB S c = false := by simpa using o1
                        simp only [o3, o1, pc_zB1, pc_10, if_false, pc_zB0, if_true, pd_5]
                        try rfl
                    · have o3 : coB S c = false := by simpa using o3
                      simp only [o3, pc_zB0, if_true, pd_5]
                      try rfl
                · rw [sl] at iml
                  refine ⟨?_, ?_, ?_, ?_, ?_, ?_, ?_, ?m2⟩
                  case m2 =>
                    rw [MM]
                    unfold f_X9_readsHarbour
                    simp only [pc_bv, mn, pd_4, pc_ar0, pc_ar11, pc_ar2, g0, g1, g2, eW]
                    simp only [pc_lit, m_fine0, pd_1, pc_10, if_false, nm', pc_neg, if_true, m_fail0, m_fail1, pd_2, pc_sub, n1, n2, pd_5, pc_mul, pc_add, ecc, mc, mo, mni, lkE, pd_3, iml, pc_zB1, m_wordE e33, m_wasE e33, m_failE e33, m_fineE e33]
                    by_cases o3 : coB S c = true
                    · by_cases o1 : cB S c = true
                      · have o2 : ¬ nm S c = iI 0 := fun z => ok ⟨o1, z, o3⟩
                        simp only [o3, o1, pc_zB1, pc_10, if_false, o2, pd_5]
                        try rfl
                      · have o1 : cB S c = false := by simpa using o1
                        simp only [o3, o1, pc_zB1, pc_10, if_false, pc_zB0, if_true, pd_5]
                        try rfl
                    · have o3 : coB S c = false := by simpa using o3
                      simp only [o3, pc_zB0, if_true, pd_5]
                      try rfl
              exact ⟨3, tws t n (nE t n A), by omega, by omega, ⟨y1, y2, y3, y4, y5, y6, y7, y8, y9, y10, y11, y12, X⟩, u1, u2, u3, u6, u7, u8, u9, M⟩
          · left
            have kk := nK_c t n (nE t n A) 0 (S 1 - 1)
            have ck : cK2 t n S A = nK t n (nE t n A) 0 (S 1 - 1) := rfl
            obtain ⟨z1, n2, v1, v2⟩ := m_numKo h hy (a := nE t n A) (by omega) (by omega) (fr := iI (tws t n A)) (ea := iI 0) (lo := 0) (hi := S 1 - 1) (by omega) (by omega) (by omega) (by omega) q2
            obtain ⟨y1, y2, y3, y4, xc⟩ := x_cellKo2 h hx w (a := A) (by omega) (by omega) (v2 := ns) (v3 := nu) (v4 := ce) (e := iI 0) (ea := iI 0) q1 q2
            have ne := pc_ne0 (k := nK t n (nE t n A) 0 (S 1 - 1)) q2 (by omega) (by omega)
            refine ⟨nK t n (nE t n A) 0 (S 1 - 1), tws t n (nE t n A), by omega, by omega, ⟨?_, ?_, ?_, ?_, ?_, ?_, ?_, ?_, ?_, ?_, ?_, ?_, ?xx⟩, ?_, ?_, ?_, ?_, ?_, ?_, ?_, ?mm⟩
            case xx =>
              unfold f_X5_readHarbour
              simp only [pc_bv, z8, if_true, x1, pd_6]
              simp only [pc_lit, pc_10, if_false, nx, pd_1, pc_neg, if_true, xc, pd_7]
              try rfl
            case mm =>
              rw [MM]
              unfold f_X9_readsHarbour
              simp only [pc_bv, mn, pd_4, pc_ar0, pc_ar11, pc_ar2, g0, g1, g2, eW]
              simp only [pc_lit, m_fine0, pd_1, pc_10, if_false, nm', pc_neg, if_true, m_fail0, pd_2, pc_sub, n1, n2, pd_5, m_fineE ne]
              try rfl
        · left
          have kk := nK_c t n A 0 (S 0 - 1)
          have ck : cK1 t n S A = nK t n A 0 (S 0 - 1) := rfl
          obtain ⟨z1, n1, v1, v2⟩ := m_numKo h hy (a := A) (by omega) (by omega) (fr := iI (tws t n (b + l))) (ea := iI 0) (lo := 0) (hi := S 0 - 1) (by omega) (by omega) (by omega) (by omega) q1
          obtain ⟨y1, y2, y3, y4, xc⟩ := x_cellKo1 h hx w (a := A) (by omega) (by omega) (v2 := ns) (v3 := nu) (v4 := ce) (e := iI 0) (ea := iI 0) q1
          have ne := pc_ne0 (k := nK t n A 0 (S 0 - 1)) q1 (by omega) (by omega)
          refine ⟨nK t n A 0 (S 0 - 1), tws t n A, by omega, by omega, ⟨?_, ?_, ?_, ?_, ?_, ?_, ?_, ?_, ?_, ?_, ?_, ?_, ?xx⟩, ?_, ?_, ?_, ?_, ?_, ?_, ?_, ?mm⟩
          case xx =>
            unfold f_X5_readHarbour
            simp only [pc_bv, z8, if_true, x1, pd_6]
            simp only [pc_lit, pc_10, if_false, nx, pd_1, pc_neg, if_true, xc, pd_7]
            try rfl
          case mm =>
            rw [MM]
            unfold f_X9_readsHarbour
            simp only [pc_bv, mn, pd_4, pc_ar0, pc_ar11, pc_ar2, g0, g1, g2, eW]
            simp only [pc_lit, m_fine0, pd_1, pc_10, if_false, nm', pc_neg, if_true, m_fail0, pd_2, pc_sub, n1, m_numE ne, pd_5, m_fineE ne]
            try rfl
      · left
        have nH : (iI H = iI (-1)) = False := (pc_eq (by omega) (by omega) (by omega) (by omega)).trans (eq_false qH)
        refine ⟨3, tws t n (b + l), by omega, by omega, ⟨?_, ?_, ?_, ?_, ?_, ?_, ?_, ?_, ?_, ?_, ?_, ?_, ?xx⟩, ?_, ?_, ?_, ?_, ?_, ?_, ?_, ?mm⟩
        case xx =>
          unfold f_X5_readHarbour
          simp only [pc_bv, z8, if_true, x1, pd_6]
          simp only [pc_lit, pc_10, if_false, nx, pd_1, pc_neg, nH, f_X5_fail, pd_3, pc_zbI0]
          try rfl
        case mm =>
          rw [MM]
          unfold f_X9_readsHarbour
          simp only [pc_bv, mn, pd_4, pc_ar0, pc_ar11, pc_ar2, g0, g1, g2, eW]
          simp only [pc_lit, m_fine0, pd_1, pc_10, if_false, nm', pc_neg, nH, m_fail1, pd_2, m_numE e33, pd_5, m_fineE e33, if_true]
          try rfl
    · left
      obtain ⟨y1, y2, y3, x1⟩ := x_nameKo h hx a0 bl (v2 := iI b) (v3 := wl0) (e := iI 0) (ea := iI 0) q
      have q1 : nmK t n (b + l) = 1 := by
        unfold nmK at q ⊢
        split at q
        · omega
        · rw [if_neg (by assumption)]
      rw [q1, if_neg (by omega)] at mn
      refine ⟨1, tws t n (b + l), by omega, by omega, ⟨?_, ?_, ?_, ?_, ?_, ?_, ?_, ?_, ?_, ?_, ?_, ?_, ?xx⟩, ?_, ?_, ?_, ?_, ?_, ?_, ?_, ?mm⟩
      case xx =>
        unfold f_X5_readHarbour
        simp only [pc_bv, z8, if_true, x1, pd_6]
        simp only [pc_lit, if_true]
        try rfl
      case mm =>
        rw [MM]
        unfold f_X9_readsHarbour
        simp only [pc_bv, mn, pd_4, pc_ar0, pc_ar11, pc_ar2, g0, g1, g2]
        simp only [pc_lit, m_fineE e11, pd_1, if_true, m_fail0, pd_2, m_numE e11, pd_5]
        try rfl
  · left
    have z8 : (iI (S 2) < (8 : Int32)) = False := (pc_lt (a := S 2) (b := 8) (by omega) (by omega) (by omega) (by omega)).trans (eq_false h8)
    have z9 : (iI (S 2) = (8 : Int32)) = True := (pc_eq (a := S 2) (b := 8) (by omega) (by omega) (by omega) (by omega)).trans (eq_true (by omega))
    refine ⟨3, b, by omega, by omega, ⟨?_, ?_, ?_, ?_, ?_, ?_, ?_, ?_, ?_, ?_, ?_, ?_, ?xx⟩, ?_, ?_, ?_, ?_, ?_, ?_, ?_, ?mm⟩
    case xx =>
      unfold f_X5_readHarbour
      simp only [z8, if_false, f_X5_fail, pd_3]
      simp only [pc_lit, pc_zbI0]
      try rfl
    case mm =>
      unfold f_X9_readsOne
      simp only [pc_bv]
      rw [m_was h hy b0 l0 bl 1, k1, pd_1, if_pos (by rfl), m_was h hy b0 l0 bl 2, k2, pd_1, if_neg (by decide), pc_ar2, g2]
      simp only [z9, if_true]
      unfold f_X9_readsHarbour
      simp only [pc_bv, pc_ar0, pc_ar11, pc_ar2, g0, g1, g2]
      simp only [pc_lit, m_fail1, pd_2, m_nameE e33, pd_4, m_fineE e33, pd_1, if_true, m_fail0, m_numE e33, pd_5]
      try rfl
end
