section
variable {n : Int} {t : Int → Int} {yc ym : Nat → Int32} {S : Int → Int} {s lOn nOn land riv ord dir hom len let' stp land' : Nat → Int32}
theorem RA.lg (w : wS S) (h2 : S 2 = 0) (ra : RA lOn nOn land riv ord dir hom len let' stp S) {lo hi : Int} (l0 : 0 ≤ lo) (l1 : hi < 144) (hl : aL land' (lgF S lo hi)) : RA lOn nOn land' riv ord dir hom len let' stp (lgF S lo hi) := by
  have hC := w.C
  have E : ∀ j, j < 8 ∨ 152 ≤ j → lgF S lo hi j = S j := fun j hj => lgF_no (by omega)
  have e2 : lgF S lo hi 2 = 0 := by rw [E 2 (by omega), h2]
  have z : ∀ c, nm (lgF S lo hi) c = iI 0 := fun c => (mk_0 (by omega)).mpr (fun k k1 k2 => by omega)
  have z' : ∀ c, nm S c = iI 0 := fun c => (mk_0 (by omega)).mpr (fun k k1 k2 => by omega)
  refine ⟨fun c c1 c2 c3 => absurd (z c) c3, fun c c1 c2 => ?_, hl, fun c c1 c2 => ?_, fun c c1 c2 c3 => ?_, fun h h1 h2 => ?_, fun h h1 h2 => ?_, fun h h1 h2 => ?_, fun h k h1 h2 => ?_, fun k k1 k2 => ?_⟩
  · rw [z, ← z' c]; exact ra.namesOn c c1 c2
  · rw [E (152 + c) (by omega)]; exact ra.riverOf c c1 c2
  · rw [E (296 + c) (by omega)]
    rw [E (152 + c) (by omega)] at c3
    exact ra.riverPlace c c1 c2 c3
  · omega
  · omega
  · omega
  · omega
  · rw [E 4 (by omega)] at k2
    rw [E (536 + k) (by omega)]
    exact ra.stops k k1 k2
theorem x_landL (w : wS S) (h2 : S 2 = 0) (ra : RA lOn nOn land riv ord dir hom len let' stp S) {lo hi : Int} (l0 : 0 ≤ lo) (lh : lo ≤ hi) (l1 : hi < 144) : ∃ r, lq2 (fun (v3 : Int32) (y5_land_1 : Nat → Int32) => ((
            (if iI hi < v3 then (
              some (.inr y5_land_1)
            ) else (
              bd1 (f_X1_setLand y5_land_1 v3 1) fun (y5_land_3 : Nat → Int32) =>
              some (.inl (v3 + 1, y5_land_3))
            ))
            ) : Option ((Int32 × (Nat → Int32)) ⊕ ((Nat → Int32))))) (iI lo) land = some r ∧ RA lOn nOn r riv ord dir hom len let' stp (lgF S lo hi) := by
  refine pc_iw2 (fun i y => aL y (lgF S lo (i - 1))) _ lo (hi + 1) l0 (by omega) (by omega) rfl (fun k k1 k2 => ?_) (fun i y i1 i2 hy => ⟨upd y i.toNat (iI 1), ?_, fun k k1 k2 => ?_⟩) (fun y hy => ⟨y, ?_, ?_⟩)
  · rw [lgF_no (by omega)]; exact ra.land k k1 k2
  · have sl := x_setLand (land := y) (c := i) (v := 1) (by omega) (by omega) (.inr rfl)
    simp (disch := omega) only [-Int.reduceToNat, pc_ite, if_true, if_false, pc_bv, pc_lit, pc_neg, pc_add, pc_sub, pc_mul, pc_mr, pc_ar, pc_dv, pc_lt, pc_le, pc_eq, pc_nat, pc_div, pc_emod, pc_ifz, pc_ifo, pc_zb, pd_1, pd_2, pd_3, pd_4, pd_5, pd_6, pd_7, pd_8, pd_9, pd_10, pd_11, pd_12, pd_13, pd_14, pd_15, pd_16, pd_17, pd_19, pd_21, pd_22, pd_30, pd_34, pd_57, if_neg, sl]
  · rw [upd_at]
    by_cases z : k = i
    · rw [if_pos (by omega), z]
      unfold lgF
      rw [if_pos (by omega)]
    · rw [if_neg (by omega), hy k k1 k2]
      unfold lgF
      by_cases q : 8 + lo ≤ 8 + k ∧ 8 + k ≤ 8 + (i - 1)
      · rw [if_pos q, if_pos (by omega)]
      · rw [if_neg q, if_neg (by omega)]
  · simp (disch := omega) only [-Int.reduceToNat, pc_ite, if_true, if_false, pc_bv, pc_lit, pc_neg, pc_add, pc_sub, pc_mul, pc_mr, pc_ar, pc_dv, pc_lt, pc_le, pc_eq, pc_nat, pc_div, pc_emod, pc_ifz, pc_ifo, pc_zb, pd_1, pd_2, pd_3, pd_4, pd_5, pd_6, pd_7, pd_8, pd_9, pd_10, pd_11, pd_12, pd_13, pd_14, pd_15, pd_16, pd_17, pd_19, pd_21, pd_22, pd_30, pd_34, pd_57, if_pos]
  · rw [show hi + 1 - 1 = hi by omega] at hy
    exact RA.lg w h2 ra l0 l1 hy
theorem m_landL (hm : mS s S) (w : wS S) {row c1 c2 : Int} (r0 : 0 ≤ row) (r1 : row < S 0) (g1 : 0 ≤ c1) (g2 : c1 ≤ c2) (g3 : c2 < S 1) : ∃ r, lq2 (fun (v4 : Int32) (y1_s_1 : Nat → Int32) => ((
    (if iI c2 < v4 then (
      some (.inr y1_s_1)
    ) else (
      bd1 (f_X9_isFine (iI 0)) fun (r52 : Int32) =>
      (if r52 = 0 then (
        some (.inr y1_s_1)
      ) else (
        ar ((8 + ((y1_s_1 (1 : Int32).toNatClampNeg) * iI row)) + v4) 552 <|
        some (.inl (v4 + 1, upd y1_s_1 ((8 + ((y1_s_1 (1 : Int32).toNatClampNeg) * iI row)) + v4).toNatClampNeg 1))
      ))
    ))
    ) : Option ((Int32 × (Nat → Int32)) ⊕ ((Nat → Int32))))) (iI c1) s = some r ∧ mS r (lgF S (S 1 * row + c1) (S 1 * row + c2)) := by
  have hD := w.D
  have g := g_cell w.1 r0 r1 g1 (by omega)
  refine pc_iw2 (fun i y => mS y (lgF S (S 1 * row + c1) (S 1 * row + (i - 1)))) _ c1 (c2 + 1) g1 (by omega) (by omega) rfl (fun k k1 k2 => ?_) (fun i y i1 i2 hy => ⟨upd y (8 + S 1 * row + i).toNat (iI 1), ?_, fun k k1 k2 => ?_⟩) (fun y hy => ⟨y, ?_, ?_⟩)
  · rw [lgF_no (by omega)]; exact hm k k1 k2
  · have e1 : y (1 : Int).toNat = iI (S 1) := by rw [hy 1 (by omega) (by omega), lgF_no (by omega)]
    simp (disch := omega) only [-Int.reduceToNat, pc_ite, if_true, if_false, pc_bv, pc_lit, pc_neg, pc_add, pc_sub, pc_mul, pc_mr, pc_ar, pc_dv, pc_lt, pc_le, pc_eq, pc_nat, pc_div, pc_emod, pc_ifz, pc_ifo, pc_zb, pd_1, pd_2, pd_3, pd_4, pd_5, pd_6, pd_7, pd_8, pd_9, pd_10, pd_11, pd_12, pd_13, pd_14, pd_15, pd_16, pd_17, pd_19, pd_21, pd_22, pd_30, pd_34, pd_57, if_neg, e1, m_fine0]
  · rw [upd_at]
    by_cases z : k = 8 + S 1 * row + i
    · rw [if_pos (by omega)]
      unfold lgF
      rw [if_pos (by omega)]
    · rw [if_neg (by omega), hy k k1 k2]
      unfold lgF
      by_cases q : 8 + (S 1 * row + c1) ≤ k ∧ k ≤ 8 + (S 1 * row + (i - 1))
      · rw [if_pos q, if_pos (by omega)]
      · rw [if_neg q, if_neg (by omega)]
  · simp (disch := omega) only [-Int.reduceToNat, pc_ite, if_true, if_false, pc_bv, pc_lit, pc_neg, pc_add, pc_sub, pc_mul, pc_mr, pc_ar, pc_dv, pc_lt, pc_le, pc_eq, pc_nat, pc_div, pc_emod, pc_ifz, pc_ifo, pc_zb, pd_1, pd_2, pd_3, pd_4, pd_5, pd_6, pd_7, pd_8, pd_9, pd_10, pd_11, pd_12, pd_13, pd_14, pd_15, pd_16, pd_17, pd_19, pd_21, pd_22, pd_30, pd_34, pd_57, if_pos]
  · rw [show c2 + 1 - 1 = c2 by omega] at hy
    exact hy
theorem m_landE {e x v : Int32} (he : ¬ e = iI 0) {row : Int32} : lq2 (fun (v4 : Int32) (y1_s_1 : Nat → Int32) => ((
    (if x < v4 then (
      some (.inr y1_s_1)
    ) else (
      bd1 (f_X9_isFine e) fun (r52 : Int32) =>
      (if r52 = 0 then (
        some (.inr y1_s_1)
      ) else (
        ar ((8 + ((y1_s_1 (1 : Int32).toNatClampNeg) * row)) + v4) 552 <|
        some (.inl (v4 + 1, upd y1_s_1 ((8 + ((y1_s_1 (1 : Int32).toNatClampNeg) * row)) + v4).toNatClampNeg 1))
      ))
    ))
    ) : Option ((Int32 × (Nat → Int32)) ⊕ ((Nat → Int32))))) v s = some s := by
  refine pc_run2 (fun _ => v) (fun _ => s) 0 rfl rfl (fun k hk => by omega) ?_
  show (if x < v then _ else _) = _
  by_cases z : x < v
  · rw [if_pos z]
  · rw [if_neg z, m_fineE he, pd_1, if_pos (by rfl)]
theorem pc_ar0 {α : Type} {k : Option α} : ar 0 552 k = k := pc_ar (a := 0) (by omega) (by omega) (by omega)
theorem pc_ar11 {α : Type} {k : Option α} : ar 1 552 k = k := pc_ar (a := 1) (by omega) (by omega) (by omega)
theorem pc_ar3 {α : Type} {k : Option α} : ar 3 552 k = k := pc_ar (a := 3) (by omega) (by omega) (by omega)
theorem pc_ar4 {α : Type} {k : Option α} : ar 4 552 k = k := pc_ar (a := 4) (by omega) (by omega) (by omega)
theorem pc_ar5 {α : Type} {k : Option α} : ar 5 552 k = k := pc_ar (a := 5) (by omega) (by omega) (by omega)
theorem m_readsLandE {nn a fr e ea : Int32} (he : ¬ e = iI 0) : f_X9_readsLand nn a fr e ea s ym = some (a, fr, e, ea, s) := by
  unfold f_X9_readsLand
  simp only [pc_bv, pc_ar0, pc_ar11, m_numE he, pd_5]
  rw [m_landE he, pd_1]
theorem s_land (h : tT n t) (hx : tX n t yc) (hy : tX n t ym) (w : wS S) (hm : mS s S) (ra : RA lOn nOn land riv ord dir hom len let' stp S) {b l : Int} (b0 : 0 ≤ b) (l0 : 0 ≤ l) (bl : b + l ≤ n) (k1 : isK t b l 1 = true) {ns nu ce hv' fl : Int32} {flow sums : Nat → Int32} :
    (∃ k p : Int, 1 ≤ k ∧ k ≤ 4 ∧ (∃ z1 z2 z3 z4 z5, f_X5_readLand (iI n) (iI (b + l)) (iI b) ns nu ce (iI 0) (iI 0) yc (iI (S 0)) (iI (S 1)) (iI (S 3)) (iI (S 2)) land = some (iI 0, z1, z2, z3, z4, iI k, iI p, z5)) ∧ ∃ u1 u2 u3 u6 u7 u8 u9, f_X9_readsOne fl (iI n) (iI (b + l)) (iI b) (iI 0) (iI 0) hv' flow s sums ym = some (u1, u2, u3, iI k, iI p, u6, u7, u8, u9)) ∨
    (∃ (a' : Int) (S' : Int → Int), b + l ≤ a' ∧ a' ≤ n ∧ wS S' ∧ S' 0 = S 0 ∧ S' 1 = S 1 ∧ S' 6 = S 6 ∧ S' 7 = S 7 ∧ (∃ z2 z3 z4 z5, f_X5_readLand (iI n) (iI (b + l)) (iI b) ns nu ce (iI 0) (iI 0) yc (iI (S 0)) (iI (S 1)) (iI (S 3)) (iI (S 2)) land = some (iI 1, iI a', z2, z3, z4, iI 0, iI 0, z5) ∧ S' 2 = S 2 ∧ S' 3 = S 3 ∧ rM S' = rM S ∧ S' 4 = S 4 ∧ S' 5 = S 5 ∧ RA lOn nOn z5 riv ord dir hom len let' stp S') ∧ ∃ u1 u3 u7 u8 u9, f_X9_readsOne fl (iI n) (iI (b + l)) (iI b) (iI 0) (iI 0) hv' flow s sums ym = some (u1, iI a', u3, iI 0, iI 0, hv', u7, u8, u9) ∧ mS u8 S') := by
  have hC := w.C
  have hD := w.D
  have a0 : 0 ≤ b + l := by omega
  have g0 : s (0 : Int32).toNatClampNeg = iI (S 0) := hm 0 (by omega) (by omega)
  have g1 : s (1 : Int32).toNatClampNeg = iI (S 1) := hm 1 (by omega) (by omega)
  have g2 : s (2 : Int32).toNatClampNeg = iI (S 2) := hm 2 (by omega) (by omega)
  have g3 : s (3 : Int32).toNatClampNeg = iI (S 3) := hm 3 (by omega) (by omega)
  have wk := m_was h hy b0 l0 bl 1
  rw [k1] at wk
  have c1 := nE_c h a0 bl
  have c2 := nE_c h (a := nE t n (b + l)) (by omega) (by omega)
  have c3 := nE_c h (a := nE t n (nE t n (b + l))) (by omega) (by omega)
  by_cases z0 : S 2 = 0 ∧ S 3 = 0
  · obtain ⟨e2, e3⟩ := z0
    have p1 : ((0 : Int32) < iI (S 2)) = False := (pc_lt (a := 0) (b := S 2) (by omega) (by omega) (by omega) (by omega)).trans (eq_false (by omega))
    have p2 : (iI (S 3) ≤ (0 : Int32)) = True := (pc_le (a := S 3) (b := 0) (by omega) (by omega) (by omega) (by omega)).trans (eq_true (by omega))
    have p3 : (iI (S 2) + iI (S 3) ≤ (0 : Int32)) = True := by
      rw [pc_add]
      exact (pc_le (a := S 2 + S 3) (b := 0) (by omega) (by omega) (by omega) (by omega)).trans (eq_true (by omega))
    have MM : f_X9_readsOne fl (iI n) (iI (b + l)) (iI b) (iI 0) (iI 0) hv' flow s sums ym = bd5 (f_X9_readsLand (iI n) (iI (b + l)) (iI b) (iI 0) (iI 0) s ym) fun a f e ea s' => some (fl, a, f, e, ea, hv', flow, s', sums) := by
      unfold f_X9_readsOne
      simp only [pc_bv]
      rw [wk, pd_1, if_neg (by decide), pc_ar2, pc_ar3, g2, g3]
      simp only [p3, if_true]
      rw [show (0 : Int32) = iI 0 from rfl, m_fail0, pd_2]
    by_cases q1 : cK1 t n S (b + l) = 0
    · have n1 := m_numOk h hy a0 bl (fr := iI b) (ea := iI 0) (lo := 0) (hi := S 0 - 1) (by omega) (by omega) (by omega) (by omega) q1
      by_cases q2 : cK2 t n S (b + l) = 0
      · have cc := cC_c w q1 q2
        have n2 := m_numOk h hy (a := nE t n (b + l)) (by omega) (by omega) (fr := iI (tws t n (b + l))) (ea := iI 0) (lo := 0) (hi := S 1 - 1) (by omega) (by omega) (by omega) (by omega) q2
        have xc := x_cellOk h hx w a0 bl (v2 := ns) (v3 := nu) (v4 := ce) (e := iI 0) (ea := iI 0) q1 q2
        by_cases q3 : nK t n (nE t n (nE t n (b + l))) (tnv t n (nE t n (b + l))) (S 1 - 1) = 0
        · right
          have kk := nK_0 q3
          have n3 := m_numOk h hy (a := nE t n (nE t n (b + l))) (by omega) (by omega) (fr := iI (tws t n (nE t n (b + l)))) (ea := iI 0) (lo := tnv t n (nE t n (b + l))) (hi := S 1 - 1) (by omega) (by omega) (by omega) (by omega) q3
          have x3 := x_numOk h hx (a := nE t n (nE t n (b + l))) (by omega) (by omega) (v2 := iI (tws t n (nE t n (b + l)))) (v3 := iI (tnv t n (nE t n (b + l)))) (e := iI 0) (ea := iI 0) (lo := tnv t n (nE t n (b + l))) (hi := S 1 - 1) (by omega) (by omega) (by omega) (by omega) q3
          have hi1 : S 1 * tnv t n (b + l) + tnv t n (nE t n (nE t n (b + l))) < S 0 * S 1 := (g_cell w.1 (r := tnv t n (b + l)) (k := tnv t n (nE t n (nE t n (b + l)))) (by omega) (by omega) (by omega) (by omega)).2.2.2
          have hN := w.N
          obtain ⟨ld, xl1, xl2⟩ := x_landL w e2 ra (lo := cC t n S (b + l)) (hi := S 1 * tnv t n (b + l) + tnv t n (nE t n (nE t n (b + l)))) (by omega) (by unfold cC; omega) (by omega)
          obtain ⟨s', ml1, ml2⟩ := m_landL hm w (row := tnv t n (b + l)) (c1 := tnv t n (nE t n (b + l))) (c2 := tnv t n (nE t n (nE t n (b + l)))) (by omega) (by omega) (by omega) (by omega) (by omega)
          have E : ∀ j, j < 8 ∨ 152 ≤ j → lgF S (cC t n S (b + l)) (S 1 * tnv t n (b + l) + tnv t n (nE t n (nE t n (b + l)))) j = S j := fun j hj => lgF_no (by omega)
          refine ⟨nE t n (nE t n (nE t n (b + l))), lgF S (cC t n S (b + l)) (S 1 * tnv t n (b + l) + tnv t n (nE t n (nE t n (b + l)))), by omega, by omega, lgF_wS w e2 e3 (by omega) hi1, E 0 (by omega), E 1 (by omega), E 6 (by omega), E 7 (by omega), ⟨?_, ?_, ?_, ld, ?xx, E 2 (by omega), E 3 (by omega), ?rr, E 4 (by omega), E 5 (by omega), xl2⟩, ?_, ?_, ?_, s', ?_, ?mm, ml2⟩
          case xx =>
            have em : (if (1 : Int32) < iI (S 1) then iI (S 1) else 1) = iI (S 1) := by
              rw [if_pos]
              rw [show (1 : Int32) = iI 1 from rfl, pc_lt (by omega) (by omega) (by omega) (by omega)]
              omega
            have ed : cC t n S (b + l) - (cC t n S (b + l) - cC t n S (b + l) / S 1 * S 1) + tnv t n (nE t n (nE t n (b + l))) = S 1 * tnv t n (b + l) + tnv t n (nE t n (nE t n (b + l))) := by
              have gd := g_div w (r := tnv t n (b + l)) (k := tnv t n (nE t n (b + l))) (by omega) (by omega)
              have : cC t n S (b + l) / S 1 = tnv t n (b + l) := gd.1
              rw [this, Int.mul_comm (tnv t n (b + l))]
              omega
            have dvk : ∀ {α : Type} {k : Option α}, dv (iI (S 1)) k = k := pc_dv (by omega) (by omega) (by omega)
            have dv1 : iI (cC t n S (b + l)) / iI (S 1) = iI (cC t n S (b + l) / S 1) := pc_div (by omega) (by omega) (by omega) (by omega)
            unfold f_X5_readLand
            simp only [pc_bv, p1, p2, if_true, if_false, xc, pd_7, em]
            simp only [pc_lit, pc_10, if_false, pc_sub, x3, pd_6, dvk, dv1, pc_mul, pc_add, ed]
            simp only [pc_lit] at xl1
            rw [xl1, pd_1]
          case rr =>
            unfold rM
            rw [E 2 (by omega)]
            exact mk_congr (fun i i1 i2 => by omega)
          case mm =>
            rw [MM]
            unfold f_X9_readsLand
            simp only [pc_bv, pc_ar0, pc_ar11, g0, g1]
            simp only [pc_lit, pc_sub, n1, n2, n3, pd_5]
            simp only [pc_lit] at ml1
            rw [ml1, pd_1, pd_5]
        · left
          have kk := nK_c t n (nE t n (nE t n (b + l))) (tnv t n (nE t n (b + l))) (S 1 - 1)
          obtain ⟨z1, n3, v1, v2⟩ := m_numKo h hy (a := nE t n (nE t n (b + l))) (by omega) (by omega) (fr := iI (tws t n (nE t n (b + l)))) (ea := iI 0) (lo := tnv t n (nE t n (b + l))) (hi := S 1 - 1) (by omega) (by omega) (by omega) (by omega) q3
          obtain ⟨y1, y2, y3, x3⟩ := x_numKo h hx (a := nE t n (nE t n (b + l))) (by omega) (by omega) (v2 := iI (tws t n (nE t n (b + l)))) (v3 := iI (tnv t n (nE t n (b + l)))) (e := iI 0) (ea := iI 0) (lo := tnv t n (nE t n (b + l))) (hi := S 1 - 1) (by omega) (by omega) (by omega) (by omega) q3
          refine ⟨nK t n (nE t n (nE t n (b + l))) (tnv t n (nE t n (b + l))) (S 1 - 1), tws t n (nE t n (nE t n (b + l))), by omega, by omega, ⟨?_, ?_, ?_, ?_, ?_, ?xx⟩, ?_, ?_, ?_, ?_, ?_, ?_, ?_, ?mm⟩
          case mm =>
            rw [MM]
            unfold f_X9_readsLand
            simp only [pc_bv, pc_ar0, pc_ar11, g0, g1]
            have ml := m_landE (s := s) (x := iI (tnv t n (nE t n (b + l)))) (v := iI (tnv t n (nE t n (b + l)))) (row := iI (tnv t n (b + l))) (pc_ne0 q3 (by omega) (by omega))
            simp only [pc_lit] at ml
            simp only [pc_lit, pc_sub, n1, n2, n3, pd_5]
            rw [ml, pd_1, pd_5]
          case xx =>
            unfold f_X5_readLand
            simp only [pc_bv, p1, p2, if_true, if_false, xc, pd_7]
            simp only [pc_lit, pc_10, if_false, pc_sub, x3, pd_6, if_true]
            rfl
      · left
        have kk := nK_c t n (nE t n (b + l)) 0 (S 1 - 1)
        obtain ⟨z1, n2, v1, v2⟩ := m_numKo h hy (a := nE t n (b + l)) (by omega) (by omega) (fr := iI (tws t n (b + l))) (ea := iI 0) (lo := 0) (hi := S 1 - 1) (by omega) (by omega) (by omega) (by omega) q2
        obtain ⟨y1, y2, y3, y4, xc⟩ := x_cellKo2 h hx w a0 bl (v2 := ns) (v3 := nu) (v4 := ce) (e := iI 0) (ea := iI 0) q1 q2
        have ne := pc_ne0 (k := nK t n (nE t n (b + l)) 0 (S 1 - 1)) q2 (by omega) (by omega)
        refine ⟨nK t n (nE t n (b + l)) 0 (S 1 - 1), tws t n (nE t n (b + l)), ?k1, ?k2, ⟨?_, ?_, ?_, ?_, ?_, ?xx⟩, ?_, ?_, ?_, ?_, ?_, ?_, ?_, ?mm⟩
        case mm =>
          rw [MM]
          unfold f_X9_readsLand
          simp only [pc_bv, pc_ar0, pc_ar11, g0, g1]
          have ml := m_landE (s := s) (x := iI 0) (v := iI 0) (row := iI (tnv t n (b + l))) ne
          simp only [pc_lit] at ml
          simp only [pc_lit, pc_sub, n1, n2, m_numE ne, pd_5]
          rw [ml, pd_1, pd_5]
        case k1 => unfold cK2 at q2; omega
        case k2 => unfold cK2 at q2; omega
        case xx =>
          unfold f_X5_readLand
          simp only [pc_bv, p1, p2, if_true, if_false, xc, pd_7]
          simp only [pc_lit, if_true]
          rfl
    · left
      have kk := nK_c t n (b + l) 0 (S 0 - 1)
      obtain ⟨z1, n1, v1, v2⟩ := m_numKo h hy a0 bl (fr := iI b) (ea := iI 0) (lo := 0) (hi := S 0 - 1) (by omega) (by omega) (by omega) (by omega) q1
      obtain ⟨y1, y2, y3, y4, xc⟩ := x_cellKo1 h hx w a0 bl (v2 := ns) (v3 := nu) (v4 := ce) (e := iI 0) (ea := iI 0) q1
      have ne := pc_ne0 (k := nK t n (b + l) 0 (S 0 - 1)) q1 (by omega) (by omega)
      refine ⟨nK t n (b + l) 0 (S 0 - 1), tws t n (b + l), ?k1, ?k2, ⟨?_, ?_, ?_, ?_, ?_, ?xx⟩, ?_, ?_, ?_, ?_, ?_, ?_, ?_, ?mm⟩
      case mm =>
        rw [MM]
        unfold f_X9_readsLand
        simp only [pc_bv, pc_ar0, pc_ar11, g0, g1]
        have ml := m_landE (s := s) (x := iI 0) (v := iI 0) (row := iI 0) ne
        simp only [pc_lit] at ml
        simp only [pc_lit, pc_sub, n1, m_numE ne, pd_5]
        rw [ml, pd_1, pd_5]
      case k1 => unfold cK1 at q1; omega
      case k2 => unfold cK1 at q1; omega
      case xx =>
        unfold f_X5_readLand
        simp only [pc_bv, p1, p2, if_true, if_false, xc, pd_7]
        simp only [pc_lit, if_true]
        rfl
  · left
    refine ⟨3, b, by omega, by omega, ⟨?_, ?_, ?_, ?_, ?_, ?xx⟩, ?_, ?_, ?_, ?_, ?_, ?_, ?_, ?mm⟩
    case mm =>
      have p3 : (iI (S 2) + iI (S 3) ≤ (0 : Int32)) = False := by
        rw [pc_add]
        exact (pc_le (a := S 2 + S 3) (b := 0) (by omega) (by omega) (by omega) (by omega)).trans (eq_false (by omega))
      unfold f_X9_readsOne
      simp only [pc_bv]
      rw [wk, pd_1, if_neg (by decide), pc_ar2, pc_ar3, g2, g3]
      simp only [p3, if_false]
      rw [show (1 : Int32) = iI 1 from rfl, m_fail1, pd_2, m_readsLandE (by decide), pd_5]
      rfl
    case xx =>
      unfold f_X5_readLand
      simp only [pc_bv]
      by_cases c : 0 < S 2
      · have p1 : ((0 : Int32) < iI (S 2)) = True := (pc_lt (a := 0) (b := S 2) (by omega) (by omega) (by omega) (by omega)).trans (eq_true c)
        simp only [p1, if_true, f_X5_fail, pd_3]
        rfl
      · have p1 : ((0 : Int32) < iI (S 2)) = False := (pc_lt (a := 0) (b := S 2) (by omega) (by omega) (by omega) (by omega)).trans (eq_false c)
        have p2 : (iI (S 3) ≤ (0 : Int32)) = False := (pc_le (a := S 3) (b := 0) (by omega) (by omega) (by omega) (by omega)).trans (eq_false (by omega))
        simp only [p1, p2, if_false, f_X5_fail, pd_3]
        rfl
end
