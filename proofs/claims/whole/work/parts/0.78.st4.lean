section
variable {n : Int} {t : Int → Int} {y yc ym : Nat → Int32} {S : Int → Int} {s lOn nOn land riv ord dir hom len let' stp : Nat → Int32}
theorem tws_2 (h : tT n t) {a : Int} (a0 : 0 ≤ a) (a1 : a ≤ n) : tws t n (tws t n a) = tws t n a := by
  have c := tws_c h a0 a1
  obtain ⟨r1, r2, r3, r4⟩ := rl_c h sgP_n a0 a1
  obtain ⟨p1, p2, p3, p4⟩ := rl_c h sgP_n (b := tws t n a) (by omega) (by omega)
  have z : rl sgP t n (tws t n a) = 0 := by
    by_cases z : rl sgP t n (tws t n a) = 0
    · exact z
    · have := p4 0 (by omega) (by omega)
      rw [Int.add_zero] at this
      have r3 : sgP (t (tws t n a)) = false := r3
      rw [r3] at this; cases this
  show tws t n a + rl sgP t n (tws t n a) = tws t n a
  omega
theorem twl_2 (h : tT n t) {a : Int} (a0 : 0 ≤ a) (a1 : a ≤ n) (k : sgL (t (tws t n a)) = true) : 0 < twl t n (tws t n a) := by
  have c := tws_c h a0 a1
  have e := tws_2 h a0 a1
  obtain ⟨r1, r2, r3, r4⟩ := rl_c h sgL_n (b := tws t n a) (by omega) (by omega)
  unfold twl
  rw [e]
  by_cases z : rl sgL t n (tws t n a) = 0
  · rw [z, Int.add_zero, k] at r3; cases r3
  · omega
theorem x_addH (w : wS S) (h : tT n t) (hx : tX n t yc) (h8 : S 2 < 8) (ht' : aT let' S) {b l c : Int} (b0 : 0 ≤ b) (l1 : 1 ≤ l) (l8 : l ≤ 8) (bl : b + l ≤ n) : ∃ let'', f_X2_addHarbour (iI (S 2)) dir hom len let' yc (iI c) (iI b) (iI l) = some (iI (S 2 + 1), upd dir (S 2).toNat (iI (-1)), upd hom (S 2).toNat (iI c), upd len (S 2).toNat (iI l), let'') ∧ (∀ h k, 0 ≤ h → h < S 2 → 0 ≤ k → k < hv S h 3 → let'' (8 * h + k).toNat = iI (hv S h (4 + k))) ∧ ∀ k, 0 ≤ k → k < l → let'' (8 * S 2 + k).toNat = iI (t (b + k)) := by
  have hC := w.C
  have hn2 := h.2.1
  have z8 : (8 ≤ iI (S 2)) = False := (pc_le (a := 8) (b := S 2) (by omega) (by omega) (by omega) (by omega)).trans (eq_false (by omega))
  have zb : ((0 : Int32) ≤ iI b) = True := (pc_le (a := 0) (b := b) (by omega) (by omega) (by omega) (by omega)).trans (eq_true b0)
  have zl : ((8 : Int32) < iI l) = False := (pc_lt (a := 8) (b := l) (by omega) (by omega) (by omega) (by omega)).trans (eq_false (by omega))
  have nt : (iI (S 2)).toNatClampNeg = (S 2).toNat := pc_nat (by omega) (by omega)
  have ar8 : ∀ {α : Type} {k : Option α}, ar (iI (S 2)) 8 k = k := pc_ar hC.1 (by omega) (by omega)
  have lt : upd len (S 2).toNat (iI l) (S 2).toNat = iI l := by rw [upd_at, if_pos rfl]
  unfold f_X2_addHarbour
  simp only [pc_bv, z8, if_false, zb, if_true, zl, nt, ar8, lt]
  obtain ⟨r, e1, e2, e3⟩ := pc_iv2 (f := fun (v5 : Int32) (y4 : Nat → Int32) => (if iI l ≤ v5 then some (.inr y4) else if 500 ≤ iI b + v5 then some (.inr y4) else ar (iI b + v5) 500 (ar (iI (S 2) * 8 + v5) 64 (some (.inl (v5 + 1, upd y4 (iI (S 2) * 8 + v5).toNatClampNeg (yc (iI b + v5).toNatClampNeg))))) : Option ((Int32 × (Nat → Int32)) ⊕ (Nat → Int32))))
    (fun i y => (∀ h k, 0 ≤ h → h < S 2 → 0 ≤ k → k < hv S h 3 → y (8 * h + k).toNat = iI (hv S h (4 + k))) ∧ ∀ k, 0 ≤ k → k < i → y (8 * S 2 + k).toNat = iI (t (b + k))) (fun y => (∀ h k, 0 ≤ h → h < S 2 → 0 ≤ k → k < hv S h 3 → y (8 * h + k).toNat = iI (hv S h (4 + k))) ∧ ∀ k, 0 ≤ k → k < l → y (8 * S 2 + k).toNat = iI (t (b + k))) l (by omega) (by omega) (x0 := let') (c := iI 0) rfl ⟨fun h k h1 h2 k1 k2 => ht' h k h1 h2 k1 k2, fun k k1 k2 => by omega⟩ (fun i y i1 i2 hp => by
      have e := hx (b + i) (by omega) (by omega)
      refine ⟨upd y (8 * S 2 + i).toNat (iI (t (b + i))), ?_, fun h k h1 h2 k1 k2 => ?_, fun k k1 k2 => ?_⟩
      · have q : S 2 * 8 + i = 8 * S 2 + i := by omega
        simp (disch := omega) only [-Int.reduceToNat, pc_ite, if_true, if_false, pc_bv, pc_lit, pc_neg, pc_add, pc_sub, pc_mul, pc_mr, pc_ar, pc_dv, pc_lt, pc_le, pc_eq, pc_nat, pc_div, pc_emod, pc_ifz, pc_ifo, pc_zb, pd_1, pd_2, pd_3, pd_4, pd_5, pd_6, pd_7, pd_8, pd_9, pd_10, pd_11, pd_12, pd_13, pd_14, pd_15, pd_16, pd_17, pd_19, pd_21, pd_22, pd_30, pd_34, pd_57, if_neg, e, q]
      · have hH := w.H h1 h2
        rw [upd_at, if_neg (by omega)]
        exact hp.1 h k h1 h2 k1 k2
      · rw [upd_at]
        by_cases z : k = i
        · rw [if_pos (by omega), z]
        · rw [if_neg (by omega)]; exact hp.2 k k1 (by omega)) (fun y hp => ⟨y, by simp (disch := omega) only [-Int.reduceToNat, pc_ite, if_true, if_false, pc_bv, pc_lit, pc_neg, pc_add, pc_sub, pc_mul, pc_mr, pc_ar, pc_dv, pc_lt, pc_le, pc_eq, pc_nat, pc_div, pc_emod, pc_ifz, pc_ifo, pc_zb, pd_1, pd_2, pd_3, pd_4, pd_5, pd_6, pd_7, pd_8, pd_9, pd_10, pd_11, pd_12, pd_13, pd_14, pd_15, pd_16, pd_17, pd_19, pd_21, pd_22, pd_30, pd_34, pd_57, if_pos], hp⟩)
  refine ⟨r, ?_, e2, e3⟩
  refine pc_b1t e1 ?_
  rw [show (1 : Int32) = iI 1 from rfl, pc_add]
  rfl
theorem m_addH (hm : mS s S) (w : wS S) (h : tT n t) (hy : tX n t ym) (h8 : S 2 < 8) {b l c rd : Int} (b0 : 0 ≤ b) (l1 : 1 ≤ l) (l8 : l ≤ 8) (bl : b + l ≤ n) {α : Type} {K : (Nat → Int32) → Option α} : ∃ s', (bd1 (f_X9_puts s (iI (S 2)) 0 (iI c)) fun (y1_s_1 : Nat → Int32) =>
              bd1 (f_X9_puts y1_s_1 (iI (S 2)) 1 (iI rd)) fun (y1_s_2 : Nat → Int32) =>
              bd1 (f_X9_puts y1_s_2 (iI (S 2)) 2 (-1)) fun (y1_s_3 : Nat → Int32) =>
              bd1 (f_X9_puts y1_s_3 (iI (S 2)) 3 (iI l)) fun (y1_s_4 : Nat → Int32) =>
              bd1 (lq2 (fun (v8 : Int32) (y1_s_5 : Nat → Int32) => ((
                (if iI l ≤ v8 then (
                  some (.inr y1_s_5)
                ) else (
                  ar (iI b + v8) 500 <|
                  bd1 (f_X9_puts y1_s_5 (iI (S 2)) (4 + v8) (ym (iI b + v8).toNatClampNeg)) fun (y1_s_7 : Nat → Int32) =>
                  some (.inl (v8 + 1, y1_s_7))
                ))
                ) : Option ((Int32 × (Nat → Int32)) ⊕ ((Nat → Int32))))) 0 y1_s_4) fun (y1_s_6 : Nat → Int32) =>
              K (upd y1_s_6 (2 : Int32).toNatClampNeg ((y1_s_6 (2 : Int32).toNatClampNeg) + 1))) = K s' ∧ mS s' (nhS S c rd l t b) := by
  have hC := w.C
  have hn2 := h.2.1
  have p0 := m_puts (x := c) hm hC.1 h8 (by omega : (0 : Int) ≤ 0) (by omega : (0 : Int) < 12)
  have s0 := mS_wr (j := 440 + 12 * S 2 + 0) (v := c) hm (by omega)
  have p1 := m_puts (x := rd) s0 hC.1 h8 (by omega : (0 : Int) ≤ 1) (by omega : (1 : Int) < 12)
  have s1 := mS_wr (j := 440 + 12 * S 2 + 1) (v := rd) s0 (by omega)
  have p2 := m_puts (x := -1) s1 hC.1 h8 (by omega : (0 : Int) ≤ 2) (by omega : (2 : Int) < 12)
  have s2 := mS_wr (j := 440 + 12 * S 2 + 2) (v := -1) s1 (by omega)
  have p3 := m_puts (x := l) s2 hC.1 h8 (by omega : (0 : Int) ≤ 3) (by omega : (3 : Int) < 12)
  have s3 := mS_wr (j := 440 + 12 * S 2 + 3) (v := l) s2 (by omega)
  simp only [pc_lit, pc_neg]
  rw [p0, pd_1, p1, pd_1, p2, pd_1, p3, pd_1]
  generalize hT : wr1 (wr1 (wr1 (wr1 S (440 + 12 * S 2 + 0) c) (440 + 12 * S 2 + 1) rd) (440 + 12 * S 2 + 2) (-1)) (440 + 12 * S 2 + 3) l = T at s3
  generalize upd (upd (upd (upd s (440 + 12 * S 2 + 0).toNat (iI c)) (440 + 12 * S 2 + 1).toNat (iI rd)) (440 + 12 * S 2 + 2).toNat (iI (-1))) (440 + 12 * S 2 + 3).toNat (iI l) = s4 at s3 ⊢
  obtain ⟨r, e1, e2⟩ := pc_iv2 (f := fun (v8 : Int32) (y5 : Nat → Int32) => (if iI l ≤ v8 then some (.inr y5) else ar (iI b + v8) 500 (bd1 (f_X9_puts y5 (iI (S 2)) (iI 4 + v8) (ym (iI b + v8).toNatClampNeg)) fun (y7 : Nat → Int32) => some (.inl (v8 + iI 1, y7))) : Option ((Int32 × (Nat → Int32)) ⊕ (Nat → Int32))))
    (fun i y => mS y (fun j => if 444 + 12 * S 2 ≤ j ∧ j < 444 + 12 * S 2 + i then t (b + (j - 444 - 12 * S 2)) else T j)) (fun y => mS y (fun j => if 444 + 12 * S 2 ≤ j ∧ j < 444 + 12 * S 2 + l then t (b + (j - 444 - 12 * S 2)) else T j)) l (by omega) (by omega) (x0 := s4) (c := iI 0) rfl (fun k k1 k2 => by
      show _ = iI (if _ then _ else _)
      rw [if_neg (by omega)]; exact s3 k k1 k2) (fun i y i1 i2 hp => by
      have e := hy (b + i) (by omega) (by omega)
      have pp := m_puts (x := t (b + i)) hp hC.1 h8 (by omega : (0 : Int) ≤ 4 + i) (by omega : 4 + i < 12)
      refine ⟨upd y (440 + 12 * S 2 + (4 + i)).toNat (iI (t (b + i))), ?_, fun k k1 k2 => ?_⟩
      · simp (disch := omega) only [-Int.reduceToNat, pc_ite, if_true, if_false, pc_bv, pc_lit, pc_neg, pc_add, pc_sub, pc_mul, pc_mr, pc_ar, pc_dv, pc_lt, pc_le, pc_eq, pc_nat, pc_div, pc_emod, pc_ifz, pc_ifo, pc_zb, pd_1, pd_2, pd_3, pd_4, pd_5, pd_6, pd_7, pd_8, pd_9, pd_10, pd_11, pd_12, pd_13, pd_14, pd_15, pd_16, pd_17, pd_19, pd_21, pd_22, pd_30, pd_34, pd_57, if_neg, e, pp]
      · rw [upd_at]
        show _ = iI (if _ then _ else _)
        by_cases z : k = 444 + 12 * S 2 + i
        · rw [if_pos (by omega), if_pos (by omega)]
          congr 2
          omega
        · rw [if_neg (by omega), hp k k1 k2]
          show iI (if _ then _ else _) = _
          by_cases q : 444 + 12 * S 2 ≤ k ∧ k < 444 + 12 * S 2 + i
          · rw [if_pos q, if_pos (by omega)]
          · rw [if_neg q, if_neg (by omega)]) (fun y hp => ⟨y, by simp (disch := omega) only [-Int.reduceToNat, pc_ite, if_true, if_false, pc_bv, pc_lit, pc_neg, pc_add, pc_sub, pc_mul, pc_mr, pc_ar, pc_dv, pc_lt, pc_le, pc_eq, pc_nat, pc_div, pc_emod, pc_ifz, pc_ifo, pc_zb, pd_1, pd_2, pd_3, pd_4, pd_5, pd_6, pd_7, pd_8, pd_9, pd_10, pd_11, pd_12, pd_13, pd_14, pd_15, pd_16, pd_17, pd_19, pd_21, pd_22, pd_30, pd_34, pd_57, if_pos], hp⟩)
  have g2 : r (2 : Int).toNat = iI (S 2) := by
    rw [e2 2 (by omega) (by omega)]
    show iI (if _ then _ else _) = _
    rw [if_neg (by omega), ← hT, wr1_no (by omega), wr1_no (by omega), wr1_no (by omega), wr1_no (by omega)]
  have sf := mS_wr (j := 2) (v := S 2 + 1) e2 (by omega)
  refine ⟨upd r (2 : Int).toNat (iI (S 2 + 1)), ?_, ?_⟩
  · rw [e1, pd_1]
    have n2 : (iI 2).toNatClampNeg = (2 : Int).toNat := pc_nat (by omega) (by omega)
    rw [n2, g2, pc_add]
  · have eq : wr1 (fun j => if 444 + 12 * S 2 ≤ j ∧ j < 444 + 12 * S 2 + l then t (b + (j - 444 - 12 * S 2)) else T j) 2 (S 2 + 1) = nhS S c rd l t b := by
      funext j
      rw [← hT]
      unfold wr1 nhS
      simp only []
      (repeat' split) <;> first | rfl | (exfalso; omega)
    rw [eq] at sf
    exact sf
theorem coast_eq (w : wS S) {c : Int} (hl : isL S c = true) : an (fun v => decide (aw S c v 1 = -1) || (decide (aw S c v 1 ≠ -1) && !isL S (aw S c v 1))) 4 = coB S c := by
  unfold coB
  rw [hl, Bool.true_and]
  refine an_congr (fun v v1 v2 => ?_)
  by_cases z : aw S c v 1 = -1
  · rw [z]
    have : isL S (-1) = false := by unfold isL; simp
    rw [this]
    rfl
  · rw [decide_eq_false z, decide_eq_true z, Bool.false_or, Bool.true_and]
end
