theorem pc_im10 {α0 α1 α2 α3 α4 α5 α6 α7 α8 ρ : Type} {f : α0 → Int32 → α1 → α2 → α3 → α4 → α5 → α6 → α7 → α8 → Option ((α0 × Int32 × α1 × α2 × α3 × α4 × α5 × α6 × α7 × α8) ⊕ ρ)} (P : Int → α0 → α1 → α2 → α3 → α4 → α5 → α6 → α7 → α8 → Prop) (Q : ρ → Prop) (n : Int) (hn : 0 ≤ n) (hN : n < 2147483648) {x0 : α0} {x1 : α1} {x2 : α2} {x3 : α3} {x4 : α4} {x5 : α5} {x6 : α6} {x7 : α7} {x8 : α8} {c : Int32} (hc : c = iI 0) (h0 : P 0 x0 x1 x2 x3 x4 x5 x6 x7 x8)
    (hs : ∀ i a0 a1 a2 a3 a4 a5 a6 a7 a8, 0 ≤ i → i < n → P i a0 a1 a2 a3 a4 a5 a6 a7 a8 → ∃ b0 b1 b2 b3 b4 b5 b6 b7 b8, f a0 (iI i) a1 a2 a3 a4 a5 a6 a7 a8 = some (.inl (b0, iI (i + 1), b1, b2, b3, b4, b5, b6, b7, b8)) ∧ P (i + 1) b0 b1 b2 b3 b4 b5 b6 b7 b8) (he : ∀ a0 a1 a2 a3 a4 a5 a6 a7 a8, P n a0 a1 a2 a3 a4 a5 a6 a7 a8 → ∃ r, f a0 (iI n) a1 a2 a3 a4 a5 a6 a7 a8 = some (.inr r) ∧ Q r) : ∃ r, lq10 f x0 c x1 x2 x3 x4 x5 x6 x7 x8 = some r ∧ Q r := by
  refine pc_inv10 (fun a0 c a1 a2 a3 a4 a5 a6 a7 a8 => ∃ i : Int, c = iI i ∧ 0 ≤ i ∧ i ≤ n ∧ P i a0 a1 a2 a3 a4 a5 a6 a7 a8) (fun a0 c a1 a2 a3 a4 a5 a6 a7 a8 => (n - c.toInt).toNat) Q (fun a0 c a1 a2 a3 a4 a5 a6 a7 a8 h => ?_) x0 c x1 x2 x3 x4 x5 x6 x7 x8 ⟨0, hc, by omega, hn, h0⟩
  obtain ⟨i, e, i1, i2, hp⟩ := h
  subst e
  by_cases z : i = n
  · subst z
    exact .inr (he a0 a1 a2 a3 a4 a5 a6 a7 a8 hp)
  · obtain ⟨b0, b1, b2, b3, b4, b5, b6, b7, b8, e1, e2⟩ := hs i a0 a1 a2 a3 a4 a5 a6 a7 a8 i1 (by omega) hp
    refine .inl ⟨b0, iI (i + 1), b1, b2, b3, b4, b5, b6, b7, b8, e1, ⟨i + 1, rfl, by omega, by omega, e2⟩, ?_⟩
    show (n - (iI (i + 1)).toInt).toNat < (n - (iI i).toInt).toNat
    rw [pc_toInt (by omega) (by omega), pc_toInt (by omega) (by omega)]
    omega
theorem pc_im12 {α0 α1 α2 α3 α4 α5 α6 α7 α8 α9 α10 ρ : Type} {f : α0 → Int32 → α1 → α2 → α3 → α4 → α5 → α6 → α7 → α8 → α9 → α10 → Option ((α0 × Int32 × α1 × α2 × α3 × α4 × α5 × α6 × α7 × α8 × α9 × α10) ⊕ ρ)} (P : Int → α0 → α1 → α2 → α3 → α4 → α5 → α6 → α7 → α8 → α9 → α10 → Prop) (Q : ρ → Prop) (n : Int) (hn : 0 ≤ n) (hN : n < 2147483648) {x0 : α0} {x1 : α1} {x2 : α2} {x3 : α3} {x4 : α4} {x5 : α5} {x6 : α6} {x7 : α7} {x8 : α8} {x9 : α9} {x10 : α10} {c : Int32} (hc : c = iI 0) (h0 : P 0 x0 x1 x2 x3 x4 x5 x6 x7 x8 x9 x10)
    (hs : ∀ i a0 a1 a2 a3 a4 a5 a6 a7 a8 a9 a10, 0 ≤ i → i < n → P i a0 a1 a2 a3 a4 a5 a6 a7 a8 a9 a10 → ∃ b0 b1 b2 b3 b4 b5 b6 b7 b8 b9 b10, f a0 (iI i) a1 a2 a3 a4 a5 a6 a7 a8 a9 a10 = some (.inl (b0, iI (i + 1), b1, b2, b3, b4, b5, b6, b7, b8, b9, b10)) ∧ P (i + 1) b0 b1 b2 b3 b4 b5 b6 b7 b8 b9 b10) (he : ∀ a0 a1 a2 a3 a4 a5 a6 a7 a8 a9 a10, P n a0 a1 a2 a3 a4 a5 a6 a7 a8 a9 a10 → ∃ r, f a0 (iI n) a1 a2 a3 a4 a5 a6 a7 a8 a9 a10 = some (.inr r) ∧ Q r) : ∃ r, lq12 f x0 c x1 x2 x3 x4 x5 x6 x7 x8 x9 x10 = some r ∧ Q r := by
  refine pc_inv12 (fun a0 c a1 a2 a3 a4 a5 a6 a7 a8 a9 a10 => ∃ i : Int, c = iI i ∧ 0 ≤ i ∧ i ≤ n ∧ P i a0 a1 a2 a3 a4 a5 a6 a7 a8 a9 a10) (fun a0 c a1 a2 a3 a4 a5 a6 a7 a8 a9 a10 => (n - c.toInt).toNat) Q (fun a0 c a1 a2 a3 a4 a5 a6 a7 a8 a9 a10 h => ?_) x0 c x1 x2 x3 x4 x5 x6 x7 x8 x9 x10 ⟨0, hc, by omega, hn, h0⟩
  obtain ⟨i, e, i1, i2, hp⟩ := h
  subst e
  by_cases z : i = n
  · subst z
    exact .inr (he a0 a1 a2 a3 a4 a5 a6 a7 a8 a9 a10 hp)
  · obtain ⟨b0, b1, b2, b3, b4, b5, b6, b7, b8, b9, b10, e1, e2⟩ := hs i a0 a1 a2 a3 a4 a5 a6 a7 a8 a9 a10 i1 (by omega) hp
    refine .inl ⟨b0, iI (i + 1), b1, b2, b3, b4, b5, b6, b7, b8, b9, b10, e1, ⟨i + 1, rfl, by omega, by omega, e2⟩, ?_⟩
    show (n - (iI (i + 1)).toInt).toNat < (n - (iI i).toInt).toNat
    rw [pc_toInt (by omega) (by omega), pc_toInt (by omega) (by omega)]
    omega
theorem arB_rg {S : Int → Int} {R : Int → Bool} {o : Int} (w : wS S) : 0 ≤ (arB S R o).1 ∧ 0 ≤ (arB S R o).2.1 ∧ (arB S R o).2.1 ≤ 8 ∧ 0 ≤ (arB S R o).2.2.1 ∧ (arB S R o).2.2.1 ≤ 32 ∧ lgT S R o (arB S R o).2.2.2 (S 2) := by
  obtain ⟨h, h0⟩ := arB_ok (R := R) (o := o) w
  rcases h with h | h
  · omega
  · exact ⟨h0, h.2.2.1, h.2.2.2.1, h.2.2.2.2.1, h.2.2.2.2.2.1, h.2.2.2.2.2.2⟩
theorem q_21 : SP_21 RR := by
  intro L xs i σ μ o hR h1 h2
  obtain ⟨S, hc, w, hm, hr⟩ := hR
  obtain ⟨a, ea, a1, a2⟩ := pc_wr (xs (i + 1).toNatClampNeg)
  obtain ⟨b, eb, b1, b2⟩ := pc_wr (xs (i + 2).toNatClampNeg)
  have hC := w.C
  have hN := w.N
  have hD := w.D
  have key : ∃ o_x1_reds o_x1_bestReds o_x1_bestCount o_x1_bestTurning o_y3_allowed o_y4_best o_y5_foes o_y6_namesLeft o_y7_redsLeft o_y8_trial o_x18_thrown o_x18_bestReds o_x18_bestPlaced o_x18_bestTurning o_y19_against o_y20_best o_y21_may o_y22_redThen o_y24_ways, f_case_21 L xs i (σ.2.2.2.1.1) (σ.2.2.2.1.2.1) (σ.2.2.2.1.2.2.1) (σ.2.2.2.1.2.2.2.1) (σ.2.2.2.1.2.2.2.2.1) (σ.2.2.2.1.2.2.2.2.2.1) (σ.2.2.2.1.2.2.2.2.2.2.1) (σ.2.2.2.1.2.2.2.2.2.2.2.1) (σ.2.2.2.1.2.2.2.2.2.2.2.2.1) (σ.2.2.2.1.2.2.2.2.2.2.2.2.2) (σ.1.1) (σ.1.2.1) (σ.1.2.2.2.1) (σ.1.2.2.2.2.1) (σ.1.2.2.2.2.2.1) (σ.1.2.2.2.2.2.2.2.1) (σ.1.2.2.2.2.2.2.2.2.2.2.2.1) (σ.1.2.2.2.2.2.2.2.2.2.2.2.2.1) (σ.1.2.2.2.2.2.2.2.2.2.2.2.2.2.2.2.1) (σ.1.2.2.2.2.2.2.2.2.2.2.2.2.2.2.2.2.1) (σ.1.2.2.2.2.2.2.2.2.2.2.2.2.2.2.2.2.2.1) (σ.1.2.2.2.2.2.2.2.2.2.2.2.2.2.2.2.2.2.2) (μ.2.1) (μ.2.2.2.1) (μ.2.2.2.2.1) (μ.2.2.2.2.2.1) (μ.2.2.2.2.2.2.2.2.2.2.2.2.2.2.2.2.1) (μ.2.2.2.2.2.2.2.2.2.2.2.2.2.2.2.2.2.1) (μ.2.2.2.2.2.2.2.2.2.2.2.2.2.2.2.2.2.2.2.2.2.2.1) (μ.2.2.2.2.2.2.2.2.2.2.2.2.2.2.2.2.2.2.2.2.2.2.2.2.2.1) (μ.2.2.2.2.2.2.2.2.2.2.2.2.2.2.2.2.2.2.2.2.2.2.2.2.2.2.1) (μ.2.2.2.2.2.2.2.2.2.2.2.2.2.2.2.2.2.2.2.2.2.2.2.2.2.2.2.2.2) = some (o_x1_reds, o_x1_bestReds, o_x1_bestCount, o_x1_bestTurning, o_y3_allowed, o_y4_best, o_y5_foes, o_y6_namesLeft, o_y7_redsLeft, o_y8_trial, o_x18_thrown, o_x18_bestReds, o_x18_bestPlaced, o_x18_bestTurning, o_y19_against, o_y20_best, o_y21_may, o_y22_redThen, o_y24_ways) := by
    unfold f_case_21
    simp only [pc_vi h1, pc_vi h2, ea, eb, hc.rows, hc.columns, hc.rivers, hc.count, hc.jcount, hc.next, hc.turn, hc.quarters, hc.reds, pc_bv]
    have ra := hc.ra
    have rb := rM_bt w
    obtain ⟨⟨u1, u2, u3, u4, u5, u6⟩, k1, k2⟩ := x_findBest (a0 := (σ.2.2.2.1.1)) (a1 := (σ.2.2.2.1.2.1)) (a2 := (σ.2.2.2.1.2.2.1)) (a3 := (σ.2.2.2.1.2.2.2.1)) (ya := (σ.2.2.2.1.2.2.2.2.1)) (y := (σ.2.2.2.1.2.2.2.2.2.1)) (yf := (σ.2.2.2.1.2.2.2.2.2.2.1)) (nl := (σ.2.2.2.1.2.2.2.2.2.2.2.1)) (rl := (σ.2.2.2.1.2.2.2.2.2.2.2.2.1)) (yt := (σ.2.2.2.1.2.2.2.2.2.2.2.2.2)) w ra (rb) (o := -1) (by omega) (by omega)
    obtain ⟨⟨v1, v2, v3, v4, v5⟩, m1, m2⟩ := m_arrangesNow (x0 := (μ.2.2.2.1)) (x1 := (μ.2.2.2.2.1)) (x2 := (μ.2.2.2.2.2.1)) (agn := (μ.2.2.2.2.2.2.2.2.2.2.2.2.2.2.2.2.1)) (y := (μ.2.2.2.2.2.2.2.2.2.2.2.2.2.2.2.2.2.1)) (may := (μ.2.2.2.2.2.2.2.2.2.2.2.2.2.2.2.2.2.2.2.2.2.2.1)) (rt := (μ.2.2.2.2.2.2.2.2.2.2.2.2.2.2.2.2.2.2.2.2.2.2.2.2.2.1)) (wys := (μ.2.2.2.2.2.2.2.2.2.2.2.2.2.2.2.2.2.2.2.2.2.2.2.2.2.2.2.2.2)) hm w
    simp only [f_X8_least, f_X9_least, pc_lit, pc_neg, k1, m1, pd_8, pd_10, pd_11, if_true]
    exact ⟨_, _, _, _, _, _, _, _, _, _, _, _, _, _, _, _, _, _, _, rfl⟩
  obtain ⟨o_x1_reds, o_x1_bestReds, o_x1_bestCount, o_x1_bestTurning, o_y3_allowed, o_y4_best, o_y5_foes, o_y6_namesLeft, o_y7_redsLeft, o_y8_trial, o_x18_thrown, o_x18_bestReds, o_x18_bestPlaced, o_x18_bestTurning, o_y19_against, o_y20_best, o_y21_may, o_y22_redThen, o_y24_ways, e⟩ := key
  exact ⟨o_x1_reds, o_x1_bestReds, o_x1_bestCount, o_x1_bestTurning, o_y3_allowed, o_y4_best, o_y5_foes, o_y6_namesLeft, o_y7_redsLeft, o_y8_trial, o_x18_thrown, o_x18_bestReds, o_x18_bestPlaced, o_x18_bestTurning, o_y19_against, o_y20_best, o_y21_may, o_y22_redThen, o_y24_ways, e, S, hc, w, hm, hr⟩
theorem q_22 : SP_22 RR := by
  intro L xs i σ μ o hR h1 h2
  obtain ⟨S, hc, w, hm, hr⟩ := hR
  obtain ⟨a, ea, a1, a2⟩ := pc_wr (xs (i + 1).toNatClampNeg)
  obtain ⟨b, eb, b1, b2⟩ := pc_wr (xs (i + 2).toNatClampNeg)
  have hC := w.C
  have hN := w.N
  have hD := w.D
  have key : ∃ o_x1_reds o_x1_bestReds o_x1_bestCount o_x1_bestTurning o_y3_allowed o_y4_best o_y5_foes o_y6_namesLeft o_y7_redsLeft o_y8_trial o_x18_thrown o_x18_bestReds o_x18_bestPlaced o_x18_bestTurning o_y19_against o_y20_best o_y21_may o_y22_redThen o_y24_ways, f_case_22 L xs i (σ.2.2.2.1.1) (σ.2.2.2.1.2.1) (σ.2.2.2.1.2.2.1) (σ.2.2.2.1.2.2.2.1) (σ.2.2.2.1.2.2.2.2.1) (σ.2.2.2.1.2.2.2.2.2.1) (σ.2.2.2.1.2.2.2.2.2.2.1) (σ.2.2.2.1.2.2.2.2.2.2.2.1) (σ.2.2.2.1.2.2.2.2.2.2.2.2.1) (σ.2.2.2.1.2.2.2.2.2.2.2.2.2) (σ.1.1) (σ.1.2.1) (σ.1.2.2.2.1) (σ.1.2.2.2.2.1) (σ.1.2.2.2.2.2.1) (σ.1.2.2.2.2.2.2.2.1) (σ.1.2.2.2.2.2.2.2.2.2.2.2.1) (σ.1.2.2.2.2.2.2.2.2.2.2.2.2.1) (σ.1.2.2.2.2.2.2.2.2.2.2.2.2.2.2.2.1) (σ.1.2.2.2.2.2.2.2.2.2.2.2.2.2.2.2.2.1) (σ.1.2.2.2.2.2.2.2.2.2.2.2.2.2.2.2.2.2.1) (σ.1.2.2.2.2.2.2.2.2.2.2.2.2.2.2.2.2.2.2) (μ.2.1) (μ.2.2.2.1) (μ.2.2.2.2.1) (μ.2.2.2.2.2.1) (μ.2.2.2.2.2.2.2.2.2.2.2.2.2.2.2.2.1) (μ.2.2.2.2.2.2.2.2.2.2.2.2.2.2.2.2.2.1) (μ.2.2.2.2.2.2.2.2.2.2.2.2.2.2.2.2.2.2.2.2.2.2.1) (μ.2.2.2.2.2.2.2.2.2.2.2.2.2.2.2.2.2.2.2.2.2.2.2.2.2.1) (μ.2.2.2.2.2.2.2.2.2.2.2.2.2.2.2.2.2.2.2.2.2.2.2.2.2.2.1) (μ.2.2.2.2.2.2.2.2.2.2.2.2.2.2.2.2.2.2.2.2.2.2.2.2.2.2.2.2.2) = some (o_x1_reds, o_x1_bestReds, o_x1_bestCount, o_x1_bestTurning, o_y3_allowed, o_y4_best, o_y5_foes, o_y6_namesLeft, o_y7_redsLeft, o_y8_trial, o_x18_thrown, o_x18_bestReds, o_x18_bestPlaced, o_x18_bestTurning, o_y19_against, o_y20_best, o_y21_may, o_y22_redThen, o_y24_ways) := by
    unfold f_case_22
    simp only [pc_vi h1, pc_vi h2, ea, eb, hc.rows, hc.columns, hc.rivers, hc.count, hc.jcount, hc.next, hc.turn, hc.quarters, hc.reds, pc_bv]
    have ra := hc.ra
    have rb := rM_bt w
    obtain ⟨⟨u1, u2, u3, u4, u5, u6⟩, k1, k2⟩ := x_findBest (a0 := (σ.2.2.2.1.1)) (a1 := (σ.2.2.2.1.2.1)) (a2 := (σ.2.2.2.1.2.2.1)) (a3 := (σ.2.2.2.1.2.2.2.1)) (ya := (σ.2.2.2.1.2.2.2.2.1)) (y := (σ.2.2.2.1.2.2.2.2.2.1)) (yf := (σ.2.2.2.1.2.2.2.2.2.2.1)) (nl := (σ.2.2.2.1.2.2.2.2.2.2.2.1)) (rl := (σ.2.2.2.1.2.2.2.2.2.2.2.2.1)) (yt := (σ.2.2.2.1.2.2.2.2.2.2.2.2.2)) w ra (rb) (o := -1) (by omega) (by omega)
    obtain ⟨⟨v1, v2, v3, v4, v5⟩, m1, m2⟩ := m_arrangesNow (x0 := (μ.2.2.2.1)) (x1 := (μ.2.2.2.2.1)) (x2 := (μ.2.2.2.2.2.1)) (agn := (μ.2.2.2.2.2.2.2.2.2.2.2.2.2.2.2.2.1)) (y := (μ.2.2.2.2.2.2.2.2.2.2.2.2.2.2.2.2.2.1)) (may := (μ.2.2.2.2.2.2.2.2.2.2.2.2.2.2.2.2.2.2.2.2.2.2.1)) (rt := (μ.2.2.2.2.2.2.2.2.2.2.2.2.2.2.2.2.2.2.2.2.2.2.2.2.2.1)) (wys := (μ.2.2.2.2.2.2.2.2.2.2.2.2.2.2.2.2.2.2.2.2.2.2.2.2.2.2.2.2.2)) hm w
    simp only [f_X8_placedThen, f_X9_placedThen, pc_lit, pc_neg, k1, m1, pd_8, pd_10, pd_11, if_true]
    exact ⟨_, _, _, _, _, _, _, _, _, _, _, _, _, _, _, _, _, _, _, rfl⟩
  obtain ⟨o_x1_reds, o_x1_bestReds, o_x1_bestCount, o_x1_bestTurning, o_y3_allowed, o_y4_best, o_y5_foes, o_y6_namesLeft, o_y7_redsLeft, o_y8_trial, o_x18_thrown, o_x18_bestReds, o_x18_bestPlaced, o_x18_bestTurning, o_y19_against, o_y20_best, o_y21_may, o_y22_redThen, o_y24_ways, e⟩ := key
  exact ⟨o_x1_reds, o_x1_bestReds, o_x1_bestCount, o_x1_bestTurning, o_y3_allowed, o_y4_best, o_y5_foes, o_y6_namesLeft, o_y7_redsLeft, o_y8_trial, o_x18_thrown, o_x18_bestReds, o_x18_bestPlaced, o_x18_bestTurning, o_y19_against, o_y20_best, o_y21_may, o_y22_redThen, o_y24_ways, e, S, hc, w, hm, hr⟩
theorem q_23 : SP_23 RR := by
  intro L xs i σ μ o hR h1 h2
  obtain ⟨S, hc, w, hm, hr⟩ := hR
  obtain ⟨a, ea, a1, a2⟩ := pc_wr (xs (i + 1).toNatClampNeg)
  obtain ⟨b, eb, b1, b2⟩ := pc_wr (xs (i + 2).toNatClampNeg)
  have hC := w.C
  have hN := w.N
  have hD := w.D
  have key : ∃ o_x1_reds o_x1_bestReds o_x1_bestCount o_x1_bestTurning o_y3_allowed o_y4_best o_y5_foes o_y6_namesLeft o_y7_redsLeft o_y8_trial o_x18_thrown o_x18_bestReds o_x18_bestPlaced o_x18_bestTurning o_y19_against o_y20_best o_y21_may o_y22_redThen o_y24_ways o_y25_p, f_case_23 L xs i (σ.2.2.2.1.1) (σ.2.2.2.1.2.1) (σ.2.2.2.1.2.2.1) (σ.2.2.2.1.2.2.2.1) (σ.2.2.2.1.2.2.2.2.1) (σ.2.2.2.1.2.2.2.2.2.1) (σ.2.2.2.1.2.2.2.2.2.2.1) (σ.2.2.2.1.2.2.2.2.2.2.2.1) (σ.2.2.2.1.2.2.2.2.2.2.2.2.1) (σ.2.2.2.1.2.2.2.2.2.2.2.2.2) (σ.1.1) (σ.1.2.1) (σ.1.2.2.2.1) (σ.1.2.2.2.2.1) (σ.1.2.2.2.2.2.1) (σ.1.2.2.2.2.2.2.2.1) (σ.1.2.2.2.2.2.2.2.2.2.2.2.1) (σ.1.2.2.2.2.2.2.2.2.2.2.2.2.1) (σ.1.2.2.2.2.2.2.2.2.2.2.2.2.2.2.2.1) (σ.1.2.2.2.2.2.2.2.2.2.2.2.2.2.2.2.2.1) (σ.1.2.2.2.2.2.2.2.2.2.2.2.2.2.2.2.2.2.1) (σ.1.2.2.2.2.2.2.2.2.2.2.2.2.2.2.2.2.2.2) (μ.2.1) (μ.2.2.2.1) (μ.2.2.2.2.1) (μ.2.2.2.2.2.1) (μ.2.2.2.2.2.2.2.2.2.2.2.2.2.2.2.2.1) (μ.2.2.2.2.2.2.2.2.2.2.2.2.2.2.2.2.2.1) (μ.2.2.2.2.2.2.2.2.2.2.2.2.2.2.2.2.2.2.2.2.2.2.1) (μ.2.2.2.2.2.2.2.2.2.2.2.2.2.2.2.2.2.2.2.2.2.2.2.2.2.1) (μ.2.2.2.2.2.2.2.2.2.2.2.2.2.2.2.2.2.2.2.2.2.2.2.2.2.2.1) (μ.2.2.2.2.2.2.2.2.2.2.2.2.2.2.2.2.2.2.2.2.2.2.2.2.2.2.2.2.2) (o) = some (o_x1_reds, o_x1_bestReds, o_x1_bestCount, o_x1_bestTurning, o_y3_allowed, o_y4_best, o_y5_foes, o_y6_namesLeft, o_y7_redsLeft, o_y8_trial, o_x18_thrown, o_x18_bestReds, o_x18_bestPlaced, o_x18_bestTurning, o_y19_against, o_y20_best, o_y21_may, o_y22_redThen, o_y24_ways, o_y25_p) := by
    unfold f_case_23
    simp only [pc_vi h1, pc_vi h2, ea, eb, hc.rows, hc.columns, hc.rivers, hc.count, hc.jcount, hc.next, hc.turn, hc.quarters, hc.reds, pc_bv]
    have ra := hc.ra
    have rb := rM_bt w
    by_cases c1 : 0 ≤ a ∧ a < S 2
    · have n1 : 0 ≤ a ∧ a ≤ S 2 - 1 := by omega
      obtain ⟨⟨u1, u2, u3, u4, u5, u6⟩, k1, k2⟩ := x_findBest (a0 := (σ.2.2.2.1.1)) (a1 := (σ.2.2.2.1.2.1)) (a2 := (σ.2.2.2.1.2.2.1)) (a3 := (σ.2.2.2.1.2.2.2.1)) (ya := (σ.2.2.2.1.2.2.2.2.1)) (y := (σ.2.2.2.1.2.2.2.2.2.1)) (yf := (σ.2.2.2.1.2.2.2.2.2.2.1)) (nl := (σ.2.2.2.1.2.2.2.2.2.2.2.1)) (rl := (σ.2.2.2.1.2.2.2.2.2.2.2.2.1)) (yt := (σ.2.2.2.1.2.2.2.2.2.2.2.2.2)) w ra (rb) (o := -1) (by omega) (by omega)
      obtain ⟨⟨v1, v2, v3, v4, v5⟩, m1, m2⟩ := m_arrangesNow (x0 := (μ.2.2.2.1)) (x1 := (μ.2.2.2.2.1)) (x2 := (μ.2.2.2.2.2.1)) (agn := (μ.2.2.2.2.2.2.2.2.2.2.2.2.2.2.2.2.1)) (y := (μ.2.2.2.2.2.2.2.2.2.2.2.2.2.2.2.2.2.1)) (may := (μ.2.2.2.2.2.2.2.2.2.2.2.2.2.2.2.2.2.2.2.2.2.2.1)) (rt := (μ.2.2.2.2.2.2.2.2.2.2.2.2.2.2.2.2.2.2.2.2.2.2.2.2.2.1)) (wys := (μ.2.2.2.2.2.2.2.2.2.2.2.2.2.2.2.2.2.2.2.2.2.2.2.2.2.2.2.2.2)) hm w
      simp only at k2 m2
      have g1 := x_bestDirection (k2 a c1.1 c1.2) c1.1 (by omega)
      have g2 := m2 a c1.1 c1.2
      have x9 : f_X9_arranged (μ.2.1) (μ.2.2.2.1) (μ.2.2.2.2.1) (μ.2.2.2.2.2.1) (μ.2.2.2.2.2.2.2.2.2.2.2.2.2.2.2.2.1) (μ.2.2.2.2.2.2.2.2.2.2.2.2.2.2.2.2.2.1) (μ.2.2.2.2.2.2.2.2.2.2.2.2.2.2.2.2.2.2.2.2.2.2.1) (μ.2.2.2.2.2.2.2.2.2.2.2.2.2.2.2.2.2.2.2.2.2.2.2.2.2.1) (μ.2.2.2.2.2.2.2.2.2.2.2.2.2.2.2.2.2.2.2.2.2.2.2.2.2.2.1) (μ.2.2.2.2.2.2.2.2.2.2.2.2.2.2.2.2.2.2.2.2.2.2.2.2.2.2.2.2.2) (iI a) = some (iI ((arB S (isR S) (-1)).2.2.2 a), iI 0, iI (arB S (isR S) (-1)).1, iI (arB S (isR S) (-1)).2.1, iI (arB S (isR S) (-1)).2.2.1, v1, v2, v3, v4, v5) := by
        unfold f_X9_arranged
        rw [m_mayH hm w a1 a2, decide_eq_true n1, if_pos n1, pd_2, if_neg (by decide), m1, pd_8, pc_ar c1.1 (by omega) (by omega), pc_nat (by omega) (by omega), g2]
      have x8 : f_X8_arranged (σ.2.2.2.1.1) (σ.2.2.2.1.2.1) (σ.2.2.2.1.2.2.1) (σ.2.2.2.1.2.2.2.1) (σ.2.2.2.1.2.2.2.2.1) (σ.2.2.2.1.2.2.2.2.2.1) (σ.2.2.2.1.2.2.2.2.2.2.1) (σ.2.2.2.1.2.2.2.2.2.2.2.1) (σ.2.2.2.1.2.2.2.2.2.2.2.2.1) (σ.2.2.2.1.2.2.2.2.2.2.2.2.2) (iI (S 0)) (iI (S 1)) (iI (S 2)) (rM S) (iI (S 4)) (iI (S 5)) (σ.1.2.2.2.2.2.2.2.2.2.2.2.1) (σ.1.2.2.2.2.2.2.2.2.2.2.2.2.1) (σ.1.2.2.2.2.2.2.2.2.2.2.2.2.2.2.2.1) (σ.1.2.2.2.2.2.2.2.2.2.2.2.2.2.2.2.2.1) (σ.1.2.2.2.2.2.2.2.2.2.2.2.2.2.2.2.2.2.1) (σ.1.2.2.2.2.2.2.2.2.2.2.2.2.2.2.2.2.2.2) (iI a) = some (iI ((arB S (isR S) (-1)).2.2.2 a), rM S, iI (arB S (isR S) (-1)).1, iI (arB S (isR S) (-1)).2.1, iI (arB S (isR S) (-1)).2.2.1, u1, u2, u3, u4, u5, u6) := by
        unfold f_X8_arranged
        simp only [pc_lit, pc_neg, x_needH c1.1 c1.2 (by omega), pd_1, k1, pd_10, g1]
      simp only [t_X8_arranged, t_needH c1.1 c1.2 (by omega), x8, x9, pd_11, pd_10, pc_tx, pc_txs, pd_1, pd_2, pc_bv, pd_3, pd_4, pd_5, pd_6, pd_7, pd_8, pd_9, pc_thr, if_true, if_false, pc_lit, pc_lit64, pc_ar1, pc_upL, pc_cmp, pc_10, pc_20, pc_str, Bool.false_eq_true, Bool.false_and, Bool.true_and, Bool.and_false, Bool.and_true, and_self, decide_true, decide_false, pc_zbI0, pc_zbI1, pc_ifz, pc_zb]
      exact ⟨_, _, _, _, _, _, _, _, _, _, _, _, _, _, _, _, _, _, _, _, rfl⟩
    · have n1 : ¬ (0 ≤ a ∧ a ≤ S 2 - 1) := by omega
      simp only [t_X8_arranged, t_needH' c1 a1 a2 (by omega) (by omega), f_X9_arranged, m_mayH hm w a1 a2, n1, pd_10, pc_tx, pc_txs, pd_1, pd_2, pc_bv, pd_3, pd_4, pd_5, pd_6, pd_7, pd_8, pd_9, pc_thr, if_true, if_false, pc_lit, pc_lit64, pc_ar1, pc_upL, pc_cmp, pc_10, pc_20, pc_str, Bool.false_eq_true, Bool.false_and, Bool.true_and, Bool.and_false, Bool.and_true, and_self, decide_true, decide_false, pc_zbI0, pc_zbI1, pc_ifz, pc_zb]
      exact ⟨_, _, _, _, _, _, _, _, _, _, _, _, _, _, _, _, _, _, _, _, rfl⟩
  obtain ⟨o_x1_reds, o_x1_bestReds, o_x1_bestCount, o_x1_bestTurning, o_y3_allowed, o_y4_best, o_y5_foes, o_y6_namesLeft, o_y7_redsLeft, o_y8_trial, o_x18_thrown, o_x18_bestReds, o_x18_bestPlaced, o_x18_bestTurning, o_y19_against, o_y20_best, o_y21_may, o_y22_redThen, o_y24_ways, o_y25_p, e⟩ := key
  exact ⟨o_x1_reds, o_x1_bestReds, o_x1_bestCount, o_x1_bestTurning, o_y3_allowed, o_y4_best, o_y5_foes, o_y6_namesLeft, o_y7_redsLeft, o_y8_trial, o_x18_thrown, o_x18_bestReds, o_x18_bestPlaced, o_x18_bestTurning, o_y19_against, o_y20_best, o_y21_may, o_y22_redThen, o_y24_ways, o_y25_p, e, S, hc, w, hm, hr⟩
theorem q_24 : SP_24 RR := by
  intro L xs i σ μ o hR h1 h2
  obtain ⟨S, hc, w, hm, hr⟩ := hR
  obtain ⟨a, ea, a1, a2⟩ := pc_wr (xs (i + 1).toNatClampNeg)
  obtain ⟨b, eb, b1, b2⟩ := pc_wr (xs (i + 2).toNatClampNeg)
  have hC := w.C
  have hN := w.N
  have hD := w.D
  have key : ∃ o_x1_reds o_x1_bestReds o_x1_bestCount o_x1_bestTurning o_y3_allowed o_y4_best o_y5_foes o_y6_namesLeft o_y7_redsLeft o_y8_trial o_x18_thrown o_x18_bestReds o_x18_bestPlaced o_x18_bestTurning o_y19_against o_y20_best o_y21_may o_y22_redThen o_y24_ways o_y25_p, f_case_24 L xs i (σ.2.2.2.1.1) (σ.2.2.2.1.2.1) (σ.2.2.2.1.2.2.1) (σ.2.2.2.1.2.2.2.1) (σ.2.2.2.1.2.2.2.2.1) (σ.2.2.2.1.2.2.2.2.2.1) (σ.2.2.2.1.2.2.2.2.2.2.1) (σ.2.2.2.1.2.2.2.2.2.2.2.1) (σ.2.2.2.1.2.2.2.2.2.2.2.2.1) (σ.2.2.2.1.2.2.2.2.2.2.2.2.2) (σ.1.1) (σ.1.2.1) (σ.1.2.2.2.1) (σ.1.2.2.2.2.1) (σ.1.2.2.2.2.2.1) (σ.1.2.2.2.2.2.2.2.1) (σ.1.2.2.2.2.2.2.2.2.2.2.2.1) (σ.1.2.2.2.2.2.2.2.2.2.2.2.2.1) (σ.1.2.2.2.2.2.2.2.2.2.2.2.2.2.2.2.1) (σ.1.2.2.2.2.2.2.2.2.2.2.2.2.2.2.2.2.1) (σ.1.2.2.2.2.2.2.2.2.2.2.2.2.2.2.2.2.2.1) (σ.1.2.2.2.2.2.2.2.2.2.2.2.2.2.2.2.2.2.2) (μ.2.1) (μ.2.2.2.1) (μ.2.2.2.2.1) (μ.2.2.2.2.2.1) (μ.2.2.2.2.2.2.2.2.2.2.2.2.2.2.2.2.1) (μ.2.2.2.2.2.2.2.2.2.2.2.2.2.2.2.2.2.1) (μ.2.2.2.2.2.2.2.2.2.2.2.2.2.2.2.2.2.2.2.2.2.2.1) (μ.2.2.2.2.2.2.2.2.2.2.2.2.2.2.2.2.2.2.2.2.2.2.2.2.2.1) (μ.2.2.2.2.2.2.2.2.2.2.2.2.2.2.2.2.2.2.2.2.2.2.2.2.2.2.1) (μ.2.2.2.2.2.2.2.2.2.2.2.2.2.2.2.2.2.2.2.2.2.2.2.2.2.2.2.2.2) (o) = some (o_x1_reds, o_x1_bestReds, o_x1_bestCount, o_x1_bestTurning, o_y3_allowed, o_y4_best, o_y5_foes, o_y6_namesLeft, o_y7_redsLeft, o_y8_trial, o_x18_thrown, o_x18_bestReds, o_x18_bestPlaced, o_x18_bestTurning, o_y19_against, o_y20_best, o_y21_may, o_y22_redThen, o_y24_ways, o_y25_p) := by
    unfold f_case_24
    simp only [pc_vi h1, pc_vi h2, ea, eb, hc.rows, hc.columns, hc.rivers, hc.count, hc.jcount, hc.next, hc.turn, hc.quarters, hc.reds, pc_bv]
    have ra := hc.ra
    have rb := rM_bt w
    have i0 : (iI b = iI 0) = (b = 0) := pc_eq b1 b2 (by omega) (by omega)
    by_cases c1 : 0 ≤ a ∧ a < S 2
    · have n1 : 0 ≤ a ∧ a ≤ S 2 - 1 := by omega
      by_cases zb : b = 0
      · skip
        obtain ⟨rk, r1, r2⟩ := x_redsIf (b := false) w c1.1 c1.2
        obtain ⟨⟨u1, u2, u3, u4, u5, u6⟩, k1, k2⟩ := x_findBest (a0 := (σ.2.2.2.1.1)) (a1 := (σ.2.2.2.1.2.1)) (a2 := (σ.2.2.2.1.2.2.1)) (a3 := (σ.2.2.2.1.2.2.2.1)) (ya := (σ.2.2.2.1.2.2.2.2.1)) (y := (σ.2.2.2.1.2.2.2.2.2.1)) (yf := (σ.2.2.2.1.2.2.2.2.2.2.1)) (nl := (σ.2.2.2.1.2.2.2.2.2.2.2.1)) (rl := (σ.2.2.2.1.2.2.2.2.2.2.2.2.1)) (yt := (σ.2.2.2.1.2.2.2.2.2.2.2.2.2)) w ra (r2) (o := -1) (by omega) (by omega)
        obtain ⟨⟨v1, v2, v3, v4, v5⟩, m1, m2⟩ := m_arrangesIf (x0 := (μ.2.2.2.1)) (x1 := (μ.2.2.2.2.1)) (x2 := (μ.2.2.2.2.2.1)) (agn := (μ.2.2.2.2.2.2.2.2.2.2.2.2.2.2.2.2.1)) (y := (μ.2.2.2.2.2.2.2.2.2.2.2.2.2.2.2.2.2.1)) (may := (μ.2.2.2.2.2.2.2.2.2.2.2.2.2.2.2.2.2.2.2.2.2.2.1)) (rt := (μ.2.2.2.2.2.2.2.2.2.2.2.2.2.2.2.2.2.2.2.2.2.2.2.2.2.1)) (wys := (μ.2.2.2.2.2.2.2.2.2.2.2.2.2.2.2.2.2.2.2.2.2.2.2.2.2.2.2.2.2)) (b := false) hm w c1.1 c1.2
        rw [pc_zB0] at r1 m1
        have x9 : f_X9_leastIf (μ.2.1) (μ.2.2.2.1) (μ.2.2.2.2.1) (μ.2.2.2.2.2.1) (μ.2.2.2.2.2.2.2.2.2.2.2.2.2.2.2.2.1) (μ.2.2.2.2.2.2.2.2.2.2.2.2.2.2.2.2.2.1) (μ.2.2.2.2.2.2.2.2.2.2.2.2.2.2.2.2.2.2.2.2.2.2.1) (μ.2.2.2.2.2.2.2.2.2.2.2.2.2.2.2.2.2.2.2.2.2.2.2.2.2.1) (μ.2.2.2.2.2.2.2.2.2.2.2.2.2.2.2.2.2.2.2.2.2.2.2.2.2.2.1) (μ.2.2.2.2.2.2.2.2.2.2.2.2.2.2.2.2.2.2.2.2.2.2.2.2.2.2.2.2.2) (iI a) (iI 0) = some (iI (arB S (redIf S a false) (-1)).2.2.1, iI 0, iI (arB S (redIf S a false) (-1)).1, iI (arB S (redIf S a false) (-1)).2.1, iI (arB S (redIf S a false) (-1)).2.2.1, v1, v2, v3, v4, v5) := by
          unfold f_X9_leastIf
          rw [m_mayH hm w a1 a2, decide_eq_true n1, if_pos n1, pd_2, if_neg (by decide), m1, pd_8]
        have x8 : f_X8_leastIf (σ.2.2.2.1.1) (σ.2.2.2.1.2.1) (σ.2.2.2.1.2.2.1) (σ.2.2.2.1.2.2.2.1) (σ.2.2.2.1.2.2.2.2.1) (σ.2.2.2.1.2.2.2.2.2.1) (σ.2.2.2.1.2.2.2.2.2.2.1) (σ.2.2.2.1.2.2.2.2.2.2.2.1) (σ.2.2.2.1.2.2.2.2.2.2.2.2.1) (σ.2.2.2.1.2.2.2.2.2.2.2.2.2) (iI (S 0)) (iI (S 1)) (iI (S 2)) (rM S) (iI (S 4)) (iI (S 5)) (σ.1.2.2.2.2.2.2.2.2.2.2.2.1) (σ.1.2.2.2.2.2.2.2.2.2.2.2.2.1) (σ.1.2.2.2.2.2.2.2.2.2.2.2.2.2.2.2.1) (σ.1.2.2.2.2.2.2.2.2.2.2.2.2.2.2.2.2.1) (σ.1.2.2.2.2.2.2.2.2.2.2.2.2.2.2.2.2.2.1) (σ.1.2.2.2.2.2.2.2.2.2.2.2.2.2.2.2.2.2.2) (iI a) (iI 0) = some (iI (arB S (redIf S a false) (-1)).2.2.1, rk, iI (arB S (redIf S a false) (-1)).1, iI (arB S (redIf S a false) (-1)).2.1, iI (arB S (redIf S a false) (-1)).2.2.1, u1, u2, u3, u4, u5, u6) := by
          unfold f_X8_leastIf
          simp only [pc_lit, pc_neg, x_needH c1.1 c1.2 (by omega), pd_1, r1, k1, pd_10]
        simp only [pc_lit, i0, zb, if_true, if_false, t_X8_leastIf, t_needH c1.1 c1.2 (by omega), x8, x9, pd_11, pd_10, pc_tx, pc_txs, pd_1, pd_2, pc_bv, pd_3, pd_4, pd_5, pd_6, pd_7, pd_8, pd_9, pc_thr, if_true, if_false, pc_lit, pc_lit64, pc_ar1, pc_upL, pc_cmp, pc_10, pc_20, pc_str, Bool.false_eq_true, Bool.false_and, Bool.true_and, Bool.and_false, Bool.and_true, and_self, decide_true, decide_false, pc_zbI0, pc_zbI1, pc_ifz, pc_zb]
        exact ⟨_, _, _, _, _, _, _, _, _, _, _, _, _, _, _, _, _, _, _, _, rfl⟩
      · skip
        obtain ⟨rk, r1, r2⟩ := x_redsIf (b := true) w c1.1 c1.2
        obtain ⟨⟨u1, u2, u3, u4, u5, u6⟩, k1, k2⟩ := x_findBest (a0 := (σ.2.2.2.1.1)) (a1 := (σ.2.2.2.1.2.1)) (a2 := (σ.2.2.2.1.2.2.1)) (a3 := (σ.2.2.2.1.2.2.2.1)) (ya := (σ.2.2.2.1.2.2.2.2.1)) (y := (σ.2.2.2.1.2.2.2.2.2.1)) (yf := (σ.2.2.2.1.2.2.2.2.2.2.1)) (nl := (σ.2.2.2.1.2.2.2.2.2.2.2.1)) (rl := (σ.2.2.2.1.2.2.2.2.2.2.2.2.1)) (yt := (σ.2.2.2.1.2.2.2.2.2.2.2.2.2)) w ra (r2) (o := -1) (by omega) (by omega)
        obtain ⟨⟨v1, v2, v3, v4, v5⟩, m1, m2⟩ := m_arrangesIf (x0 := (μ.2.2.2.1)) (x1 := (μ.2.2.2.2.1)) (x2 := (μ.2.2.2.2.2.1)) (agn := (μ.2.2.2.2.2.2.2.2.2.2.2.2.2.2.2.2.1)) (y := (μ.2.2.2.2.2.2.2.2.2.2.2.2.2.2.2.2.2.1)) (may := (μ.2.2.2.2.2.2.2.2.2.2.2.2.2.2.2.2.2.2.2.2.2.2.1)) (rt := (μ.2.2.2.2.2.2.2.2.2.2.2.2.2.2.2.2.2.2.2.2.2.2.2.2.2.1)) (wys := (μ.2.2.2.2.2.2.2.2.2.2.2.2.2.2.2.2.2.2.2.2.2.2.2.2.2.2.2.2.2)) (b := true) hm w c1.1 c1.2
        rw [pc_zB1] at r1 m1
        have x9 : f_X9_leastIf (μ.2.1) (μ.2.2.2.1) (μ.2.2.2.2.1) (μ.2.2.2.2.2.1) (μ.2.2.2.2.2.2.2.2.2.2.2.2.2.2.2.2.1) (μ.2.2.2.2.2.2.2.2.2.2.2.2.2.2.2.2.2.1) (μ.2.2.2.2.2.2.2.2.2.2.2.2.2.2.2.2.2.2.2.2.2.2.1) (μ.2.2.2.2.2.2.2.2.2.2.2.2.2.2.2.2.2.2.2.2.2.2.2.2.2.1) (μ.2.2.2.2.2.2.2.2.2.2.2.2.2.2.2.2.2.2.2.2.2.2.2.2.2.2.1) (μ.2.2.2.2.2.2.2.2.2.2.2.2.2.2.2.2.2.2.2.2.2.2.2.2.2.2.2.2.2) (iI a) (iI 1) = some (iI (arB S (redIf S a true) (-1)).2.2.1, iI 0, iI (arB S (redIf S a true) (-1)).1, iI (arB S (redIf S a true) (-1)).2.1, iI (arB S (redIf S a true) (-1)).2.2.1, v1, v2, v3, v4, v5) := by
          unfold f_X9_leastIf
          rw [m_mayH hm w a1 a2, decide_eq_true n1, if_pos n1, pd_2, if_neg (by decide), m1, pd_8]
        have x8 : f_X8_leastIf (σ.2.2.2.1.1) (σ.2.2.2.1.2.1) (σ.2.2.2.1.2.2.1) (σ.2.2.2.1.2.2.2.1) (σ.2.2.2.1.2.2.2.2.1) (σ.2.2.2.1.2.2.2.2.2.1) (σ.2.2.2.1.2.2.2.2.2.2.1) (σ.2.2.2.1.2.2.2.2.2.2.2.1) (σ.2.2.2.1.2.2.2.2.2.2.2.2.1) (σ.2.2.2.1.2.2.2.2.2.2.2.2.2) (iI (S 0)) (iI (S 1)) (iI (S 2)) (rM S) (iI (S 4)) (iI (S 5)) (σ.1.2.2.2.2.2.2.2.2.2.2.2.1) (σ.1.2.2.2.2.2.2.2.2.2.2.2.2.1) (σ.1.2.2.2.2.2.2.2.2.2.2.2.2.2.2.2.1) (σ.1.2.2.2.2.2.2.2.2.2.2.2.2.2.2.2.2.1) (σ.1.2.2.2.2.2.2.2.2.2.2.2.2.2.2.2.2.2.1) (σ.1.2.2.2.2.2.2.2.2.2.2.2.2.2.2.2.2.2.2) (iI a) (iI 1) = some (iI (arB S (redIf S a true) (-1)).2.2.1, rk, iI (arB S (redIf S a true) (-1)).1, iI (arB S (redIf S a true) (-1)).2.1, iI (arB S (redIf S a true) (-1)).2.2.1, u1, u2, u3, u4, u5, u6) := by
          unfold f_X8_leastIf
          simp only [pc_lit, pc_neg, x_needH c1.1 c1.2 (by omega), pd_1, r1, k1, pd_10]
        simp only [pc_lit, i0, zb, if_true, if_false, t_X8_leastIf, t_needH c1.1 c1.2 (by omega), x8, x9, pd_11, pd_10, pc_tx, pc_txs, pd_1, pd_2, pc_bv, pd_3, pd_4, pd_5, pd_6, pd_7, pd_8, pd_9, pc_thr, if_true, if_false, pc_lit, pc_lit64, pc_ar1, pc_upL, pc_cmp, pc_10, pc_20, pc_str, Bool.false_eq_true, Bool.false_and, Bool.true_and, Bool.and_false, Bool.and_true, and_self, decide_true, decide_false, pc_zbI0, pc_zbI1, pc_ifz, pc_zb]
        exact ⟨_, _, _, _, _, _, _, _, _, _, _, _, _, _, _, _, _, _, _, _, rfl⟩
    · have n1 : ¬ (0 ≤ a ∧ a ≤ S 2 - 1) := by omega
      by_cases zb : b = 0
      · simp only [pc_lit, i0, zb, if_true, if_false, t_X8_leastIf, t_needH' c1 a1 a2 (by omega) (by omega), f_X9_leastIf, m_mayH hm w a1 a2, n1, pd_10, pc_tx, pc_txs, pd_1, pd_2, pc_bv, pd_3, pd_4, pd_5, pd_6, pd_7, pd_8, pd_9, pc_thr, if_true, if_false, pc_lit, pc_lit64, pc_ar1, pc_upL, pc_cmp, pc_10, pc_20, pc_str, Bool.false_eq_true, Bool.false_and, Bool.true_and, Bool.and_false, Bool.and_true, and_self, decide_true, decide_false, pc_zbI0, pc_zbI1, pc_ifz, pc_zb]
        exact ⟨_, _, _, _, _, _, _, _, _, _, _, _, _, _, _, _, _, _, _, _, rfl⟩
      · simp only [pc_lit, i0, zb, if_true, if_false, t_X8_leastIf, t_needH' c1 a1 a2 (by omega) (by omega), f_X9_leastIf, m_mayH hm w a1 a2, n1, pd_10, pc_tx, pc_txs, pd_1, pd_2, pc_bv, pd_3, pd_4, pd_5, pd_6, pd_7, pd_8, pd_9, pc_thr, if_true, if_false, pc_lit, pc_lit64, pc_ar1, pc_upL, pc_cmp, pc_10, pc_20, pc_str, Bool.false_eq_true, Bool.false_and, Bool.true_and, Bool.and_false, Bool.and_true, and_self, decide_true, decide_false, pc_zbI0, pc_zbI1, pc_ifz, pc_zb]
        exact ⟨_, _, _, _, _, _, _, _, _, _, _, _, _, _, _, _, _, _, _, _, rfl⟩
  obtain ⟨o_x1_reds, o_x1_bestReds, o_x1_bestCount, o_x1_bestTurning, o_y3_allowed, o_y4_best, o_y5_foes, o_y6_namesLeft, o_y7_redsLeft, o_y8_trial, o_x18_thrown, o_x18_bestReds, o_x18_bestPlaced, o_x18_bestTurning, o_y19_against, o_y20_best, o_y21_may, o_y22_redThen, o_y24_ways, o_y25_p, e⟩ := key
  exact ⟨o_x1_reds, o_x1_bestReds, o_x1_bestCount, o_x1_bestTurning, o_y3_allowed, o_y4_best, o_y5_foes, o_y6_namesLeft, o_y7_redsLeft, o_y8_trial, o_x18_thrown, o_x18_bestReds, o_x18_bestPlaced, o_x18_bestTurning, o_y19_against, o_y20_best, o_y21_may, o_y22_redThen, o_y24_ways, o_y25_p, e, S, hc, w, hm, hr⟩
theorem q_25 : SP_25 RR := by
  intro L xs i σ μ o hR h1 h2
  obtain ⟨S, hc, w, hm, hr⟩ := hR
  obtain ⟨a, ea, a1, a2⟩ := pc_wr (xs (i + 1).toNatClampNeg)
  obtain ⟨b, eb, b1, b2⟩ := pc_wr (xs (i + 2).toNatClampNeg)
  have hC := w.C
  have hN := w.N
  have hD := w.D
  have key : ∃ o_x1_reds o_x1_bestReds o_x1_bestCount o_x1_bestTurning o_y3_allowed o_y4_best o_y5_foes o_y6_namesLeft o_y7_redsLeft o_y8_trial o_x18_thrown o_x18_bestReds o_x18_bestPlaced o_x18_bestTurning o_y19_against o_y20_best o_y21_may o_y22_redThen o_y24_ways o_y25_p, f_case_25 L xs i (σ.2.2.2.1.1) (σ.2.2.2.1.2.1) (σ.2.2.2.1.2.2.1) (σ.2.2.2.1.2.2.2.1) (σ.2.2.2.1.2.2.2.2.1) (σ.2.2.2.1.2.2.2.2.2.1) (σ.2.2.2.1.2.2.2.2.2.2.1) (σ.2.2.2.1.2.2.2.2.2.2.2.1) (σ.2.2.2.1.2.2.2.2.2.2.2.2.1) (σ.2.2.2.1.2.2.2.2.2.2.2.2.2) (σ.1.1) (σ.1.2.1) (σ.1.2.2.2.1) (σ.1.2.2.2.2.1) (σ.1.2.2.2.2.2.1) (σ.1.2.2.2.2.2.2.2.1) (σ.1.2.2.2.2.2.2.2.2.2.2.2.1) (σ.1.2.2.2.2.2.2.2.2.2.2.2.2.1) (σ.1.2.2.2.2.2.2.2.2.2.2.2.2.2.2.2.1) (σ.1.2.2.2.2.2.2.2.2.2.2.2.2.2.2.2.2.1) (σ.1.2.2.2.2.2.2.2.2.2.2.2.2.2.2.2.2.2.1) (σ.1.2.2.2.2.2.2.2.2.2.2.2.2.2.2.2.2.2.2) (μ.2.1) (μ.2.2.2.1) (μ.2.2.2.2.1) (μ.2.2.2.2.2.1) (μ.2.2.2.2.2.2.2.2.2.2.2.2.2.2.2.2.1) (μ.2.2.2.2.2.2.2.2.2.2.2.2.2.2.2.2.2.1) (μ.2.2.2.2.2.2.2.2.2.2.2.2.2.2.2.2.2.2.2.2.2.2.1) (μ.2.2.2.2.2.2.2.2.2.2.2.2.2.2.2.2.2.2.2.2.2.2.2.2.2.1) (μ.2.2.2.2.2.2.2.2.2.2.2.2.2.2.2.2.2.2.2.2.2.2.2.2.2.2.1) (μ.2.2.2.2.2.2.2.2.2.2.2.2.2.2.2.2.2.2.2.2.2.2.2.2.2.2.2.2.2) (o) = some (o_x1_reds, o_x1_bestReds, o_x1_bestCount, o_x1_bestTurning, o_y3_allowed, o_y4_best, o_y5_foes, o_y6_namesLeft, o_y7_redsLeft, o_y8_trial, o_x18_thrown, o_x18_bestReds, o_x18_bestPlaced, o_x18_bestTurning, o_y19_against, o_y20_best, o_y21_may, o_y22_redThen, o_y24_ways, o_y25_p) := by
    unfold f_case_25
    simp only [pc_vi h1, pc_vi h2, ea, eb, hc.rows, hc.columns, hc.rivers, hc.count, hc.jcount, hc.next, hc.turn, hc.quarters, hc.reds, pc_bv]
    have ra := hc.ra
    have rb := rM_bt w
    have i0 : (iI b = iI 0) = (b = 0) := pc_eq b1 b2 (by omega) (by omega)
    by_cases c1 : 0 ≤ a ∧ a < S 2
    · have n1 : 0 ≤ a ∧ a ≤ S 2 - 1 := by omega
      by_cases zb : b = 0
      · skip
        obtain ⟨rk, r1, r2⟩ := x_redsIf (b := false) w c1.1 c1.2
        obtain ⟨⟨u1, u2, u3, u4, u5, u6⟩, k1, k2⟩ := x_findBest (a0 := (σ.2.2.2.1.1)) (a1 := (σ.2.2.2.1.2.1)) (a2 := (σ.2.2.2.1.2.2.1)) (a3 := (σ.2.2.2.1.2.2.2.1)) (ya := (σ.2.2.2.1.2.2.2.2.1)) (y := (σ.2.2.2.1.2.2.2.2.2.1)) (yf := (σ.2.2.2.1.2.2.2.2.2.2.1)) (nl := (σ.2.2.2.1.2.2.2.2.2.2.2.1)) (rl := (σ.2.2.2.1.2.2.2.2.2.2.2.2.1)) (yt := (σ.2.2.2.1.2.2.2.2.2.2.2.2.2)) w ra (r2) (o := -1) (by omega) (by omega)
        obtain ⟨⟨v1, v2, v3, v4, v5⟩, m1, m2⟩ := m_arrangesIf (x0 := (μ.2.2.2.1)) (x1 := (μ.2.2.2.2.1)) (x2 := (μ.2.2.2.2.2.1)) (agn := (μ.2.2.2.2.2.2.2.2.2.2.2.2.2.2.2.2.1)) (y := (μ.2.2.2.2.2.2.2.2.2.2.2.2.2.2.2.2.2.1)) (may := (μ.2.2.2.2.2.2.2.2.2.2.2.2.2.2.2.2.2.2.2.2.2.2.1)) (rt := (μ.2.2.2.2.2.2.2.2.2.2.2.2.2.2.2.2.2.2.2.2.2.2.2.2.2.1)) (wys := (μ.2.2.2.2.2.2.2.2.2.2.2.2.2.2.2.2.2.2.2.2.2.2.2.2.2.2.2.2.2)) (b := false) hm w c1.1 c1.2
        rw [pc_zB0] at r1 m1
        have x9 : f_X9_placedIf (μ.2.1) (μ.2.2.2.1) (μ.2.2.2.2.1) (μ.2.2.2.2.2.1) (μ.2.2.2.2.2.2.2.2.2.2.2.2.2.2.2.2.1) (μ.2.2.2.2.2.2.2.2.2.2.2.2.2.2.2.2.2.1) (μ.2.2.2.2.2.2.2.2.2.2.2.2.2.2.2.2.2.2.2.2.2.2.1) (μ.2.2.2.2.2.2.2.2.2.2.2.2.2.2.2.2.2.2.2.2.2.2.2.2.2.1) (μ.2.2.2.2.2.2.2.2.2.2.2.2.2.2.2.2.2.2.2.2.2.2.2.2.2.2.1) (μ.2.2.2.2.2.2.2.2.2.2.2.2.2.2.2.2.2.2.2.2.2.2.2.2.2.2.2.2.2) (iI a) (iI 0) = some (iI (arB S (redIf S a false) (-1)).2.1, iI 0, iI (arB S (redIf S a false) (-1)).1, iI (arB S (redIf S a false) (-1)).2.1, iI (arB S (redIf S a false) (-1)).2.2.1, v1, v2, v3, v4, v5) := by
          unfold f_X9_placedIf
          rw [m_mayH hm w a1 a2, decide_eq_true n1, if_pos n1, pd_2, if_neg (by decide), m1, pd_8]
        have x8 : f_X8_placedIf (σ.2.2.2.1.1) (σ.2.2.2.1.2.1) (σ.2.2.2.1.2.2.1) (σ.2.2.2.1.2.2.2.1) (σ.2.2.2.1.2.2.2.2.1) (σ.2.2.2.1.2.2.2.2.2.1) (σ.2.2.2.1.2.2.2.2.2.2.1) (σ.2.2.2.1.2.2.2.2.2.2.2.1) (σ.2.2.2.1.2.2.2.2.2.2.2.2.1) (σ.2.2.2.1.2.2.2.2.2.2.2.2.2) (iI (S 0)) (iI (S 1)) (iI (S 2)) (rM S) (iI (S 4)) (iI (S 5)) (σ.1.2.2.2.2.2.2.2.2.2.2.2.1) (σ.1.2.2.2.2.2.2.2.2.2.2.2.2.1) (σ.1.2.2.2.2.2.2.2.2.2.2.2.2.2.2.2.1) (σ.1.2.2.2.2.2.2.2.2.2.2.2.2.2.2.2.2.1) (σ.1.2.2.2.2.2.2.2.2.2.2.2.2.2.2.2.2.2.1) (σ.1.2.2.2.2.2.2.2.2.2.2.2.2.2.2.2.2.2.2) (iI a) (iI 0) = some (iI (arB S (redIf S a false) (-1)).2.1, rk, iI (arB S (redIf S a false) (-1)).1, iI (arB S (redIf S a false) (-1)).2.1, iI (arB S (redIf S a false) (-1)).2.2.1, u1, u2, u3, u4, u5, u6) := by
          unfold f_X8_placedIf
          simp only [pc_lit, pc_neg, x_needH c1.1 c1.2 (by omega), pd_1, r1, k1, pd_10]
        simp only [pc_lit, i0, zb, if_true, if_false, t_X8_placedIf, t_needH c1.1 c1.2 (by omega), x8, x9, pd_11, pd_10, pc_tx, pc_txs, pd_1, pd_2, pc_bv, pd_3, pd_4, pd_5, pd_6, pd_7, pd_8, pd_9, pc_thr, if_true, if_false, pc_lit, pc_lit64, pc_ar1, pc_upL, pc_cmp, pc_10, pc_20, pc_str, Bool.false_eq_true, Bool.false_and, Bool.true_and, Bool.and_false, Bool.and_true, and_self, decide_true, decide_false, pc_zbI0, pc_zbI1, pc_ifz, pc_zb]
        exact ⟨_, _, _, _, _, _, _, _, _, _, _, _, _, _, _, _, _, _, _, _, rfl⟩
      · skip
        obtain ⟨rk, r1, r2⟩ := x_redsIf (b := true) w c1.1 c1.2
        obtain ⟨⟨u1, u2, u3, u4, u5, u6⟩, k1, k2⟩ := x_findBest (a0 := (σ.2.2.2.1.1)) (a1 := (σ.2.2.2.1.2.1)) (a2 := (σ.2.2.2.1.2.2.1)) (a3 := (σ.2.2.2.1.2.2.2.1)) (ya := (σ.2.2.2.1.2.2.2.2.1)) (y := (σ.2.2.2.1.2.2.2.2.2.1)) (yf := (σ.2.2.2.1.2.2.2.2.2.2.1)) (nl := (σ.2.2.2.1.2.2.2.2.2.2.2.1)) (rl := (σ.2.2.2.1.2.2.2.2.2.2.2.2.1)) (yt := (σ.2.2.2.1.2.2.2.2.2.2.2.2.2)) w ra (r2) (o := -1) (by omega) (by omega)
        obtain ⟨⟨v1, v2, v3, v4, v5⟩, m1, m2⟩ := m_arrangesIf (x0 := (μ.2.2.2.1)) (x1 := (μ.2.2.2.2.1)) (x2 := (μ.2.2.2.2.2.1)) (agn := (μ.2.2.2.2.2.2.2.2.2.2.2.2.2.2.2.2.1)) (y := (μ.2.2.2.2.2.2.2.2.2.2.2.2.2.2.2.2.2.1)) (may := (μ.2.2.2.2.2.2.2.2.2.2.2.2.2.2.2.2.2.2.2.2.2.2.1)) (rt := (μ.2.2.2.2.2.2.2.2.2.2.2.2.2.2.2.2.2.2.2.2.2.2.2.2.2.1)) (wys := (μ.2.2.2.2.2.2.2.2.2.2.2.2.2.2.2.2.2.2.2.2.2.2.2.2.2.2.2.2.2)) (b := true) hm w c1.1 c1.2
        rw [pc_zB1] at r1 m1
        have x9 : f_X9_placedIf (μ.2.1) (μ.2.2.2.1) (μ.2.2.2.2.1) (μ.2.2.2.2.2.1) (μ.2.2.2.2.2.2.2.2.2.2.2.2.2.2.2.2.1) (μ.2.2.2.2.2.2.2.2.2.2.2.2.2.2.2.2.2.1) (μ.2.2.2.2.2.2.2.2.2.2.2.2.2.2.2.2.2.2.2.2.2.2.1) (μ.2.2.2.2.2.2.2.2.2.2.2.2.2.2.2.2.2.2.2.2.2.2.2.2.2.1) (μ.2.2.2.2.2.2.2.2.2.2.2.2.2.2.2.2.2.2.2.2.2.2.2.2.2.2.1) (μ.2.2.2.2.2.2.2.2.2.2.2.2.2.2.2.2.2.2.2.2.2.2.2.2.2.2.2.2.2) (iI a) (iI 1) = some (iI (arB S (redIf S a true) (-1)).2.1, iI 0, iI (arB S (redIf S a true) (-1)).1, iI (arB S (redIf S a true) (-1)).2.1, iI (arB S (redIf S a true) (-1)).2.2.1, v1, v2, v3, v4, v5) := by
          unfold f_X9_placedIf
          rw [m_mayH hm w a1 a2, decide_eq_true n1, if_pos n1, pd_2, if_neg (by decide), m1, pd_8]
        have x8 : f_X8_placedIf (σ.2.2.2.1.1) (σ.2.2.2.1.2.1) (σ.2.2.2.1.2.2.1) (σ.2.2.2.1.2.2.2.1) (σ.2.2.2.1.2.2.2.2.1) (σ.2.2.2.1.2.2.2.2.2.1) (σ.2.2.2.1.2.2.2.2.2.2.1) (σ.2.2.2.1.2.2.2.2.2.2.2.1) (σ.2.2.2.1.2.2.2.2.2.2.2.2.1) (σ.2.2.2.1.2.2.2.2.2.2.2.2.2) (iI (S 0)) (iI (S 1)) (iI (S 2)) (rM S) (iI (S 4)) (iI (S 5)) (σ.1.2.2.2.2.2.2.2.2.2.2.2.1) (σ.1.2.2.2.2.2.2.2.2.2.2.2.2.1) (σ.1.2.2.2.2.2.2.2.2.2.2.2.2.2.2.2.1) (σ.1.2.2.2.2.2.2.2.2.2.2.2.2.2.2.2.2.1) (σ.1.2.2.2.2.2.2.2.2.2.2.2.2.2.2.2.2.2.1) (σ.1.2.2.2.2.2.2.2.2.2.2.2.2.2.2.2.2.2.2) (iI a) (iI 1) = some (iI (arB S (redIf S a true) (-1)).2.1, rk, iI (arB S (redIf S a true) (-1)).1, iI (arB S (redIf S a true) (-1)).2.1, iI (arB S (redIf S a true) (-1)).2.2.1, u1, u2, u3, u4, u5, u6) := by
          unfold f_X8_placedIf
          simp only [pc_lit, pc_neg, x_needH c1.1 c1.2 (by omega), pd_1, r1, k1, pd_10]
        simp only [pc_lit, i0, zb, if_true, if_false, t_X8_placedIf, t_needH c1.1 c1.2 (by omega), x8, x9, pd_11, pd_10, pc_tx, pc_txs, pd_1, pd_2, pc_bv, pd_3, pd_4, pd_5, pd_6, pd_7, pd_8, pd_9, pc_thr, if_true, if_false, pc_lit, pc_lit64, pc_ar1, pc_upL, pc_cmp, pc_10, pc_20, pc_str, Bool.false_eq_true, Bool.false_and, Bool.true_and, Bool.and_false, Bool.and_true, and_self, decide_true, decide_false, pc_zbI0, pc_zbI1, pc_ifz, pc_zb]
        exact ⟨_, _, _, _, _, _, _, _, _, _, _, _, _, _, _, _, _, _, _, _, rfl⟩
    · have n1 : ¬ (0 ≤ a ∧ a ≤ S 2 - 1) := by omega
      by_cases zb : b = 0
      · simp only [pc_lit, i0, zb, if_true, if_false, t_X8_placedIf, t_needH' c1 a1 a2 (by omega) (by omega), f_X9_placedIf, m_mayH hm w a1 a2, n1, pd_10, pc_tx, pc_txs, pd_1, pd_2, pc_bv, pd_3, pd_4, pd_5, pd_6, pd_7, pd_8, pd_9, pc_thr, if_true, if_false, pc_lit, pc_lit64, pc_ar1, pc_upL, pc_cmp, pc_10, pc_20, pc_str, Bool.false_eq_true, Bool.false_and, Bool.true_and, Bool.and_false, Bool.and_true, and_self, decide_true, decide_false, pc_zbI0, pc_zbI1, pc_ifz, pc_zb]
        exact ⟨_, _, _, _, _, _, _, _, _, _, _, _, _, _, _, _, _, _, _, _, rfl⟩
      · simp only [pc_lit, i0, zb, if_true, if_false, t_X8_placedIf, t_needH' c1 a1 a2 (by omega) (by omega), f_X9_placedIf, m_mayH hm w a1 a2, n1, pd_10, pc_tx, pc_txs, pd_1, pd_2, pc_bv, pd_3, pd_4, pd_5, pd_6, pd_7, pd_8, pd_9, pc_thr, if_true, if_false, pc_lit, pc_lit64, pc_ar1, pc_upL, pc_cmp, pc_10, pc_20, pc_str, Bool.false_eq_true, Bool.false_and, Bool.true_and, Bool.and_false, Bool.and_true, and_self, decide_true, decide_false, pc_zbI0, pc_zbI1, pc_ifz, pc_zb]
        exact ⟨_, _, _, _, _, _, _, _, _, _, _, _, _, _, _, _, _, _, _, _, rfl⟩
  obtain ⟨o_x1_reds, o_x1_bestReds, o_x1_bestCount, o_x1_bestTurning, o_y3_allowed, o_y4_best, o_y5_foes, o_y6_namesLeft, o_y7_redsLeft, o_y8_trial, o_x18_thrown, o_x18_bestReds, o_x18_bestPlaced, o_x18_bestTurning, o_y19_against, o_y20_best, o_y21_may, o_y22_redThen, o_y24_ways, o_y25_p, e⟩ := key
  exact ⟨o_x1_reds, o_x1_bestReds, o_x1_bestCount, o_x1_bestTurning, o_y3_allowed, o_y4_best, o_y5_foes, o_y6_namesLeft, o_y7_redsLeft, o_y8_trial, o_x18_thrown, o_x18_bestReds, o_x18_bestPlaced, o_x18_bestTurning, o_y19_against, o_y20_best, o_y21_may, o_y22_redThen, o_y24_ways, o_y25_p, e, S, hc, w, hm, hr⟩
theorem pc_run11x {α0 α1 α2 α3 α4 α5 α6 α7 α8 α9 α10 β γ : Type} {o : Option (α0 × α1 × α2 × α3 × α4 × α5 × α6 × α7 × α8 × α9 × α10)} {k : α0 → α1 → α2 → α3 → α4 → α5 → α6 → α7 → α8 → α9 → α10 → Option β} {F : γ → β} {Q : α0 × α1 × α2 × α3 × α4 × α5 × α6 × α7 × α8 × α9 × α10 → Prop} (h : ∃ r, o = some r ∧ Q r) (e : ∀ r, Q r → ∃ z, k r.1 r.2.1 r.2.2.1 r.2.2.2.1 r.2.2.2.2.1 r.2.2.2.2.2.1 r.2.2.2.2.2.2.1 r.2.2.2.2.2.2.2.1 r.2.2.2.2.2.2.2.2.1 r.2.2.2.2.2.2.2.2.2.1 r.2.2.2.2.2.2.2.2.2.2 = some (F z)) : ∃ z, bd11 o k = some (F z) := by
  obtain ⟨r, h1, h2⟩ := h
  obtain ⟨z, h3⟩ := e r h2
  exact ⟨z, by rw [h1]; exact h3⟩
theorem pc_run9x {α0 α1 α2 α3 α4 α5 α6 α7 α8 β γ : Type} {o : Option (α0 × α1 × α2 × α3 × α4 × α5 × α6 × α7 × α8)} {k : α0 → α1 → α2 → α3 → α4 → α5 → α6 → α7 → α8 → Option β} {F : γ → β} {Q : α0 × α1 × α2 × α3 × α4 × α5 × α6 × α7 × α8 → Prop} (h : ∃ r, o = some r ∧ Q r) (e : ∀ r, Q r → ∃ z, k r.1 r.2.1 r.2.2.1 r.2.2.2.1 r.2.2.2.2.1 r.2.2.2.2.2.1 r.2.2.2.2.2.2.1 r.2.2.2.2.2.2.2.1 r.2.2.2.2.2.2.2.2 = some (F z)) : ∃ z, bd9 o k = some (F z) := by
  obtain ⟨r, h1, h2⟩ := h
  obtain ⟨z, h3⟩ := e r h2
  exact ⟨z, by rw [h1]; exact h3⟩
theorem x_shy {S : Int → Int} {a0 a1 a2 a3 : Int32} {ya y yf nl rl yt lOn nOn land riv ord dir hom len let' stp : Nat → Int32} (w : wS S) (ra : RA lOn nOn land riv ord dir hom len let' stp S) : ∃ z, f_X8_shy a0 a1 a2 a3 ya y yf nl rl yt (iI (S 0)) (iI (S 1)) (iI (S 2)) (rM S) (iI (S 4)) (iI (S 5)) land riv hom len let' stp = some (mk (fun h => decide ((arB S (isR S) h).2.1 = S 2 - 1)) (S 2), z) := by
  have hC := w.C
  have rb := rM_bt w
  unfold f_X8_shy
  simp only [pc_bv]
  refine pc_run11x (Q := fun r : Int32 × Int32 × Int32 × Int32 × Int32 × (Nat → Int32) × (Nat → Int32) × (Nat → Int32) × (Nat → Int32) × (Nat → Int32) × (Nat → Int32) => r.1 = mk (fun h => decide ((arB S (isR S) h).2.1 = S 2 - 1)) (S 2)) (pc_im12 (fun i v c1 c2 c3 c4 c5 c6 c7 c8 c9 c10 => v = mk (fun h => decide ((arB S (isR S) h).2.1 = S 2 - 1)) i) (fun r : Int32 × Int32 × Int32 × Int32 × Int32 × (Nat → Int32) × (Nat → Int32) × (Nat → Int32) × (Nat → Int32) × (Nat → Int32) × (Nat → Int32) => r.1 = mk (fun h => decide ((arB S (isR S) h).2.1 = S 2 - 1)) (S 2)) (S 2) (by omega) (by omega) rfl rfl
    (fun i v c1 c2 c3 c4 c5 c6 c7 c8 c9 c10 i1 i2 e => ?_)
    (fun v c1 c2 c3 c4 c5 c6 c7 c8 c9 c10 e => ?_)) (fun r e => ⟨r.2, by rw [← e]; first | done | rfl⟩)
  · obtain ⟨⟨u1, u2, u3, u4, u5, u6⟩, k1, k2⟩ := x_findBest (a0 := c1) (a1 := c2) (a2 := c3) (a3 := c4) (ya := c5) (y := c6) (yf := c7) (nl := c8) (rl := c9) (yt := c10) w ra rb (o := i) (by omega) (by omega)
    have rg := arB_rg (R := isR S) (o := i) w
    have n1 : ¬ S 2 ≤ i := by omega
    by_cases q : (arB S (isR S) i).2.1 = S 2 - 1
    · refine ⟨mk (fun h => decide ((arB S (isR S) h).2.1 = S 2 - 1)) (i + 1), rM S, iI (arB S (isR S) i).1, iI (arB S (isR S) i).2.1, iI (arB S (isR S) i).2.2.1, u1, u2, u3, u4, u5, u6, ?_, rfl⟩
      rw [mk_s i1, if_pos (decide_eq_true q), ← e]
      simp (disch := omega) only [pc_lit, pc_le, if_neg n1, k1, pd_10, pc_sub, pc_eq, if_pos q, pc_sB, pc_add]
      try rfl
    · refine ⟨mk (fun h => decide ((arB S (isR S) h).2.1 = S 2 - 1)) (i + 1), rM S, iI (arB S (isR S) i).1, iI (arB S (isR S) i).2.1, iI (arB S (isR S) i).2.2.1, u1, u2, u3, u4, u5, u6, ?_, rfl⟩
      have hms : mk (fun h => decide ((arB S (isR S) h).2.1 = S 2 - 1)) (i + 1) = mk (fun h => decide ((arB S (isR S) h).2.1 = S 2 - 1)) i := by rw [mk_s i1, if_neg (by rw [decide_eq_true_iff]; exact q)]
      rw [hms, ← e]
      simp (disch := omega) only [pc_lit, pc_le, if_neg n1, k1, pd_10, pc_sub, pc_eq, if_neg q, pc_sB, pc_add]
      try rfl
  · exact ⟨(v, c1, c2, c3, c4, c5, c6, c7, c8, c9, c10), by simp (disch := omega) only [pc_le, if_pos], e⟩
theorem m_shy {S : Int → Int} {th x0 x1 x2 : Int32} {agn y may rt s wys : Nat → Int32} (hs : mS s S) (w : wS S) : ∃ z, f_X9_shy th x0 x1 x2 agn y may rt s wys = some (mk (fun h => decide ((arB S (isR S) h).2.1 = S 2 - 1)) (S 2), iI 0, z) := by
  have hC := w.C
  have e2' : s (2 : Int).toNat = iI (S 2) := hs 2 (by omega) (by omega)
  unfold f_X9_shy
  simp only [pc_bv]
  refine pc_run9x (Q := fun r : Int32 × Int32 × Int32 × Int32 × (Nat → Int32) × (Nat → Int32) × (Nat → Int32) × (Nat → Int32) × (Nat → Int32) => r.1 = mk (fun h => decide ((arB S (isR S) h).2.1 = S 2 - 1)) (S 2)) (pc_im10 (fun i v c1 c2 c3 c4 c5 c6 c7 c8 => v = mk (fun h => decide ((arB S (isR S) h).2.1 = S 2 - 1)) i) (fun r : Int32 × Int32 × Int32 × Int32 × (Nat → Int32) × (Nat → Int32) × (Nat → Int32) × (Nat → Int32) × (Nat → Int32) => r.1 = mk (fun h => decide ((arB S (isR S) h).2.1 = S 2 - 1)) (S 2)) (S 2) (by omega) (by omega) rfl rfl
    (fun i v c1 c2 c3 c4 c5 c6 c7 c8 i1 i2 e => ?_)
    (fun v c1 c2 c3 c4 c5 c6 c7 c8 e => ⟨(v, c1, c2, c3, c4, c5, c6, c7, c8), by simp (disch := omega) only [pc_lit, pc_ar, pc_nat, e2', pc_le, if_pos], e⟩)) (fun r e => ⟨r.2, by rw [← e]; first | done | rfl⟩)
  obtain ⟨a, f1, f2⟩ := m_redNow (rt := c7) hs w
  obtain ⟨⟨v1, v2, v3, v4⟩, k1, k2⟩ := m_arranges (x0 := c1) (x1 := c2) (x2 := c3) (agn := c4) (y := c5) (may := c6) (wys := c8) (o := i) hs w f2 (by omega) (by omega)
  have rg := arB_rg (R := isR S) (o := i) w
  have n1 : ¬ S 2 ≤ i := by omega
  simp only [pc_bv] at f1
  by_cases q : (arB S (isR S) i).2.1 = S 2 - 1
  · refine ⟨mk (fun h => decide ((arB S (isR S) h).2.1 = S 2 - 1)) (i + 1), iI (arB S (isR S) i).1, iI (arB S (isR S) i).2.1, iI (arB S (isR S) i).2.2.1, v1, v2, v3, a, v4, ?_, rfl⟩
    rw [mk_s i1, if_pos (decide_eq_true q), ← e]
    rw [f1, pd_1, k1, pd_7]
    simp (disch := omega) only [pc_lit, pc_ar, pc_nat, e2', pc_le, if_neg n1, pc_sub, pc_eq, if_pos q, pc_sB, pc_add]
    try rfl
  · refine ⟨mk (fun h => decide ((arB S (isR S) h).2.1 = S 2 - 1)) (i + 1), iI (arB S (isR S) i).1, iI (arB S (isR S) i).2.1, iI (arB S (isR S) i).2.2.1, v1, v2, v3, a, v4, ?_, rfl⟩
    have hms : mk (fun h => decide ((arB S (isR S) h).2.1 = S 2 - 1)) (i + 1) = mk (fun h => decide ((arB S (isR S) h).2.1 = S 2 - 1)) i := by rw [mk_s i1, if_neg (by rw [decide_eq_true_iff]; exact q)]
    rw [hms, ← e]
    rw [f1, pd_1, k1, pd_7]
    simp (disch := omega) only [pc_lit, pc_ar, pc_nat, e2', pc_le, if_neg n1, pc_sub, pc_eq, if_neg q, pc_add, pc_or0]
    try rfl
theorem q_26 : SP_26 RR := by
  intro L xs i σ μ o hR h1 h2
  obtain ⟨S, hc, w, hm, hr⟩ := hR
  obtain ⟨a, ea, a1, a2⟩ := pc_wr (xs (i + 1).toNatClampNeg)
  obtain ⟨b, eb, b1, b2⟩ := pc_wr (xs (i + 2).toNatClampNeg)
  have hC := w.C
  have hN := w.N
  have hD := w.D
  have key : ∃ o_x1_reds o_x1_bestReds o_x1_bestCount o_x1_bestTurning o_y3_allowed o_y4_best o_y5_foes o_y6_namesLeft o_y7_redsLeft o_y8_trial o_x18_thrown o_x18_bestReds o_x18_bestPlaced o_x18_bestTurning o_y19_against o_y20_best o_y21_may o_y22_redThen o_y24_ways, f_case_26 L xs i (σ.2.2.2.1.1) (σ.2.2.2.1.2.1) (σ.2.2.2.1.2.2.1) (σ.2.2.2.1.2.2.2.1) (σ.2.2.2.1.2.2.2.2.1) (σ.2.2.2.1.2.2.2.2.2.1) (σ.2.2.2.1.2.2.2.2.2.2.1) (σ.2.2.2.1.2.2.2.2.2.2.2.1) (σ.2.2.2.1.2.2.2.2.2.2.2.2.1) (σ.2.2.2.1.2.2.2.2.2.2.2.2.2) (σ.1.1) (σ.1.2.1) (σ.1.2.2.2.1) (σ.1.2.2.2.2.1) (σ.1.2.2.2.2.2.1) (σ.1.2.2.2.2.2.2.2.1) (σ.1.2.2.2.2.2.2.2.2.2.2.2.1) (σ.1.2.2.2.2.2.2.2.2.2.2.2.2.1) (σ.1.2.2.2.2.2.2.2.2.2.2.2.2.2.2.2.1) (σ.1.2.2.2.2.2.2.2.2.2.2.2.2.2.2.2.2.1) (σ.1.2.2.2.2.2.2.2.2.2.2.2.2.2.2.2.2.2.1) (σ.1.2.2.2.2.2.2.2.2.2.2.2.2.2.2.2.2.2.2) (μ.2.1) (μ.2.2.2.1) (μ.2.2.2.2.1) (μ.2.2.2.2.2.1) (μ.2.2.2.2.2.2.2.2.2.2.2.2.2.2.2.2.1) (μ.2.2.2.2.2.2.2.2.2.2.2.2.2.2.2.2.2.1) (μ.2.2.2.2.2.2.2.2.2.2.2.2.2.2.2.2.2.2.2.2.2.2.1) (μ.2.2.2.2.2.2.2.2.2.2.2.2.2.2.2.2.2.2.2.2.2.2.2.2.2.1) (μ.2.2.2.2.2.2.2.2.2.2.2.2.2.2.2.2.2.2.2.2.2.2.2.2.2.2.1) (μ.2.2.2.2.2.2.2.2.2.2.2.2.2.2.2.2.2.2.2.2.2.2.2.2.2.2.2.2.2) = some (o_x1_reds, o_x1_bestReds, o_x1_bestCount, o_x1_bestTurning, o_y3_allowed, o_y4_best, o_y5_foes, o_y6_namesLeft, o_y7_redsLeft, o_y8_trial, o_x18_thrown, o_x18_bestReds, o_x18_bestPlaced, o_x18_bestTurning, o_y19_against, o_y20_best, o_y21_may, o_y22_redThen, o_y24_ways) := by
    unfold f_case_26
    simp only [pc_vi h1, pc_vi h2, ea, eb, hc.rows, hc.columns, hc.rivers, hc.count, hc.jcount, hc.next, hc.turn, hc.quarters, hc.reds, pc_bv]
    have ra := hc.ra
    have rb := rM_bt w
    obtain ⟨⟨u1, u2, u3, u4, u5, u6, u7, u8, u9, u10⟩, k1⟩ := x_shy (a0 := (σ.2.2.2.1.1)) (a1 := (σ.2.2.2.1.2.1)) (a2 := (σ.2.2.2.1.2.2.1)) (a3 := (σ.2.2.2.1.2.2.2.1)) (ya := (σ.2.2.2.1.2.2.2.2.1)) (y := (σ.2.2.2.1.2.2.2.2.2.1)) (yf := (σ.2.2.2.1.2.2.2.2.2.2.1)) (nl := (σ.2.2.2.1.2.2.2.2.2.2.2.1)) (rl := (σ.2.2.2.1.2.2.2.2.2.2.2.2.1)) (yt := (σ.2.2.2.1.2.2.2.2.2.2.2.2.2)) w ra
    obtain ⟨⟨v1, v2, v3, v4, v5, v6, v7, v8⟩, m1⟩ := m_shy (th := (μ.2.1)) (x0 := (μ.2.2.2.1)) (x1 := (μ.2.2.2.2.1)) (x2 := (μ.2.2.2.2.2.1)) (agn := (μ.2.2.2.2.2.2.2.2.2.2.2.2.2.2.2.2.1)) (y := (μ.2.2.2.2.2.2.2.2.2.2.2.2.2.2.2.2.2.1)) (may := (μ.2.2.2.2.2.2.2.2.2.2.2.2.2.2.2.2.2.2.2.2.2.2.1)) (rt := (μ.2.2.2.2.2.2.2.2.2.2.2.2.2.2.2.2.2.2.2.2.2.2.2.2.2.1)) (wys := (μ.2.2.2.2.2.2.2.2.2.2.2.2.2.2.2.2.2.2.2.2.2.2.2.2.2.2.2.2.2)) hm w
    simp only [k1, m1, pd_10, pd_11, if_true]
    exact ⟨_, _, _, _, _, _, _, _, _, _, _, _, _, _, _, _, _, _, _, rfl⟩
  obtain ⟨o_x1_reds, o_x1_bestReds, o_x1_bestCount, o_x1_bestTurning, o_y3_allowed, o_y4_best, o_y5_foes, o_y6_namesLeft, o_y7_redsLeft, o_y8_trial, o_x18_thrown, o_x18_bestReds, o_x18_bestPlaced, o_x18_bestTurning, o_y19_against, o_y20_best, o_y21_may, o_y22_redThen, o_y24_ways, e⟩ := key
  exact ⟨o_x1_reds, o_x1_bestReds, o_x1_bestCount, o_x1_bestTurning, o_y3_allowed, o_y4_best, o_y5_foes, o_y6_namesLeft, o_y7_redsLeft, o_y8_trial, o_x18_thrown, o_x18_bestReds, o_x18_bestPlaced, o_x18_bestTurning, o_y19_against, o_y20_best, o_y21_may, o_y22_redThen, o_y24_ways, e, S, hc, w, hm, hr⟩
