theorem pc_lay3 {α0 α1 β γ δ ε : Type} {A : Option α0} {Bq : α0 → Option (α1 × β)} {C : α1 → β → Option (γ × δ × ε)} {ρ : Type} {K : γ → δ → ε → ρ} {x : γ × δ × ε} (h : (bd1 A fun r => bd2 (Bq r) fun n d => C n d) = some x) : (bd1 A fun r => bd2 (Bq r) fun n d => bd3 (C n d) fun a b c => some (K a b c)) = some (K x.1 x.2.1 x.2.2) := by
  cases A with
  | none => cases h
  | some a =>
    rw [pd_1] at h ⊢
    cases hb : Bq a with
    | none => rw [hb] at h; cases h
    | some p =>
      obtain ⟨p1, p2⟩ := p
      rw [hb] at h
      rw [pd_2] at h ⊢
      rw [h]
      try rfl
theorem q_34 : SP_34 RR := by
  intro L xs i σ μ o hR h1 h2
  obtain ⟨S, hc, w, hm, hh, hr⟩ := hR
  obtain ⟨a, ea, a1, a2⟩ := pc_wr (xs (i + 1).toNatClampNeg)
  obtain ⟨b, eb, b1, b2⟩ := pc_wr (xs (i + 2).toNatClampNeg)
  have hC := w.C
  have hN := w.N
  have hD := w.D
  have ra := hc.ra
  have key : ∃ o_x1_reds o_x1_bestReds o_x1_bestCount o_x1_bestTurning o_x2_latest o_x2_count o_y4_allowed o_y5_best o_y6_foes o_y7_namesLeft o_y8_redsLeft o_y9_trial o_y10_past o_y14_letterOn o_y15_namesOn o_y19_direction o_x24_acts o_x24_thrown o_x24_bestReds o_x24_bestPlaced o_x24_bestTurning o_y25_against o_y26_best o_y27_may o_y28_past o_y29_redThen o_y30_s o_y31_ways, f_case_34 L xs i (σ.2.2.2.1.1) (σ.2.2.2.1.2.1) (σ.2.2.2.1.2.2.1) (σ.2.2.2.1.2.2.2.1) (σ.2.1.1) (σ.2.1.2.1) (σ.2.2.2.1.2.2.2.2.1) (σ.2.2.2.1.2.2.2.2.2.1) (σ.2.2.2.1.2.2.2.2.2.2.1) (σ.2.2.2.1.2.2.2.2.2.2.2.1) (σ.2.2.2.1.2.2.2.2.2.2.2.2.1) (σ.2.2.2.1.2.2.2.2.2.2.2.2.2) (σ.2.1.2.2) (σ.1.1) (σ.1.2.1) (σ.1.2.2.1) (σ.1.2.2.2.1) (σ.1.2.2.2.2.1) (σ.1.2.2.2.2.2.1) (σ.1.2.2.2.2.2.2.1) (σ.1.2.2.2.2.2.2.2.1) (σ.1.2.2.2.2.2.2.2.2.1) (σ.1.2.2.2.2.2.2.2.2.2.1) (σ.1.2.2.2.2.2.2.2.2.2.2.1) (σ.1.2.2.2.2.2.2.2.2.2.2.2.1) (σ.1.2.2.2.2.2.2.2.2.2.2.2.2.1) (σ.1.2.2.2.2.2.2.2.2.2.2.2.2.2.1) (σ.1.2.2.2.2.2.2.2.2.2.2.2.2.2.2.1) (σ.1.2.2.2.2.2.2.2.2.2.2.2.2.2.2.2.1) (σ.1.2.2.2.2.2.2.2.2.2.2.2.2.2.2.2.2.1) (σ.1.2.2.2.2.2.2.2.2.2.2.2.2.2.2.2.2.2.1) (σ.1.2.2.2.2.2.2.2.2.2.2.2.2.2.2.2.2.2.2) (μ.1) (μ.2.1) (μ.2.2.2.1) (μ.2.2.2.2.1) (μ.2.2.2.2.2.1) (μ.2.2.2.2.2.2.2.2.2.2.2.2.2.2.2.2.1) (μ.2.2.2.2.2.2.2.2.2.2.2.2.2.2.2.2.2.1) (μ.2.2.2.2.2.2.2.2.2.2.2.2.2.2.2.2.2.2.2.2.2.2.1) (μ.2.2.2.2.2.2.2.2.2.2.2.2.2.2.2.2.2.2.2.2.2.2.2.2.1) (μ.2.2.2.2.2.2.2.2.2.2.2.2.2.2.2.2.2.2.2.2.2.2.2.2.2.1) (μ.2.2.2.2.2.2.2.2.2.2.2.2.2.2.2.2.2.2.2.2.2.2.2.2.2.2.1) (μ.2.2.2.2.2.2.2.2.2.2.2.2.2.2.2.2.2.2.2.2.2.2.2.2.2.2.2.2.2) = some (o_x1_reds, o_x1_bestReds, o_x1_bestCount, o_x1_bestTurning, o_x2_latest, o_x2_count, o_y4_allowed, o_y5_best, o_y6_foes, o_y7_namesLeft, o_y8_redsLeft, o_y9_trial, o_y10_past, o_y14_letterOn, o_y15_namesOn, o_y19_direction, o_x24_acts, o_x24_thrown, o_x24_bestReds, o_x24_bestPlaced, o_x24_bestTurning, o_y25_against, o_y26_best, o_y27_may, o_y28_past, o_y29_redThen, o_y30_s, o_y31_ways) ∧ ∃ S', RC (σ.1.1, σ.1.2.1, σ.1.2.2.1, σ.1.2.2.2.1, σ.1.2.2.2.2.1, σ.1.2.2.2.2.2.1, σ.1.2.2.2.2.2.2.1, σ.1.2.2.2.2.2.2.2.1, σ.1.2.2.2.2.2.2.2.2.1, o_y14_letterOn, o_y15_namesOn, σ.1.2.2.2.2.2.2.2.2.2.2.2.1, σ.1.2.2.2.2.2.2.2.2.2.2.2.2.1, σ.1.2.2.2.2.2.2.2.2.2.2.2.2.2.1, o_y19_direction, σ.1.2.2.2.2.2.2.2.2.2.2.2.2.2.2.2.1, σ.1.2.2.2.2.2.2.2.2.2.2.2.2.2.2.2.2.1, σ.1.2.2.2.2.2.2.2.2.2.2.2.2.2.2.2.2.2.1, σ.1.2.2.2.2.2.2.2.2.2.2.2.2.2.2.2.2.2.2) S' ∧ wS S' ∧ mS o_y30_s S' ∧ RH o_x2_latest o_x2_count o_y10_past o_x24_acts o_y28_past := by
    unfold f_case_34
    simp only [pc_vi h1, pc_vi h2, ea, eb, hc.rows, hc.columns, hc.rivers, hc.count, hc.jcount, hc.next, hc.turn, hc.quarters, hc.reds, pc_bv]
    have rb := rM_bt w
    obtain ⟨⟨u1, u2, u3, u4, u5, u6⟩, k1, k2⟩ := x_findBest (a0 := (σ.2.2.2.1.1)) (a1 := (σ.2.2.2.1.2.1)) (a2 := (σ.2.2.2.1.2.2.1)) (a3 := (σ.2.2.2.1.2.2.2.1)) (ya := (σ.2.2.2.1.2.2.2.2.1)) (y := (σ.2.2.2.1.2.2.2.2.2.1)) (yf := (σ.2.2.2.1.2.2.2.2.2.2.1)) (nl := (σ.2.2.2.1.2.2.2.2.2.2.2.1)) (rl := (σ.2.2.2.1.2.2.2.2.2.2.2.2.1)) (yt := (σ.2.2.2.1.2.2.2.2.2.2.2.2.2)) w ra rb (o := -1) (by omega) (by omega)
    obtain ⟨⟨v1, v2, v3, v4, v5⟩, m1, m2⟩ := m_arrangesNow (x0 := (μ.2.2.2.1)) (x1 := (μ.2.2.2.2.1)) (x2 := (μ.2.2.2.2.2.1)) (agn := (μ.2.2.2.2.2.2.2.2.2.2.2.2.2.2.2.2.1)) (y := (μ.2.2.2.2.2.2.2.2.2.2.2.2.2.2.2.2.2.1)) (may := (μ.2.2.2.2.2.2.2.2.2.2.2.2.2.2.2.2.2.2.2.2.2.2.1)) (rt := (μ.2.2.2.2.2.2.2.2.2.2.2.2.2.2.2.2.2.2.2.2.2.2.2.2.2.1)) (wys := (μ.2.2.2.2.2.2.2.2.2.2.2.2.2.2.2.2.2.2.2.2.2.2.2.2.2.2.2.2.2)) hm w
    simp only at k2 m2
    obtain ⟨l', c', D', a', p', g1, g2, g3⟩ := h_keep w hm ra hh
    obtain ⟨⟨r1, r2, r3⟩, t1, t2⟩ := x_layBest w ra (yb := u2) k2
    obtain ⟨s', p1, p2⟩ := m_layBest hm w (yb := v2) m2
    have w' := bs_wS w (D := bsA S) (fun g _ _ => .inr rfl)
    have x8 : f_X8_arrange (σ.2.2.2.1.1) (σ.2.2.2.1.2.1) (σ.2.2.2.1.2.2.1) (σ.2.2.2.1.2.2.2.1) (σ.2.1.1) (σ.2.1.2.1) (σ.2.2.2.1.2.2.2.2.1) (σ.2.2.2.1.2.2.2.2.2.1) (σ.2.2.2.1.2.2.2.2.2.2.1) (σ.2.2.2.1.2.2.2.2.2.2.2.1) (σ.2.2.2.1.2.2.2.2.2.2.2.2.1) (σ.2.2.2.1.2.2.2.2.2.2.2.2.2) (σ.2.1.2.2) (iI (S 0)) (iI (S 1)) (iI (S 3)) (iI (S 2)) (rM S) (iI (S 4)) (iI (S 6)) (iI (S 5)) (iI (S 7)) (σ.1.2.2.2.2.2.2.2.2.2.1) (σ.1.2.2.2.2.2.2.2.2.2.2.1) (σ.1.2.2.2.2.2.2.2.2.2.2.2.1) (σ.1.2.2.2.2.2.2.2.2.2.2.2.2.1) (σ.1.2.2.2.2.2.2.2.2.2.2.2.2.2.1) (σ.1.2.2.2.2.2.2.2.2.2.2.2.2.2.2.1) (σ.1.2.2.2.2.2.2.2.2.2.2.2.2.2.2.2.1) (σ.1.2.2.2.2.2.2.2.2.2.2.2.2.2.2.2.2.1) (σ.1.2.2.2.2.2.2.2.2.2.2.2.2.2.2.2.2.2.1) (σ.1.2.2.2.2.2.2.2.2.2.2.2.2.2.2.2.2.2.2) = some (iI (arB S (isR S) (-1)).2.1, rM S, iI (arB S (isR S) (-1)).1, iI (arB S (isR S) (-1)).2.1, iI (arB S (isR S) (-1)).2.2.1, l', c', u1, u2, u3, u4, u5, u6, D', r1, r2, r3) := by
      unfold f_X8_arrange
      rw [show (-1 : Int32) = iI (-1) from rfl, k1, pd_10, g1, pd_3]
      exact pc_lay3 t1
    have x9 : f_X9_arrange (μ.1) (μ.2.1) (μ.2.2.2.1) (μ.2.2.2.2.1) (μ.2.2.2.2.2.1) (μ.2.2.2.2.2.2.2.2.2.2.2.2.2.2.2.2.1) (μ.2.2.2.2.2.2.2.2.2.2.2.2.2.2.2.2.2.1) (μ.2.2.2.2.2.2.2.2.2.2.2.2.2.2.2.2.2.2.2.2.2.2.1) (μ.2.2.2.2.2.2.2.2.2.2.2.2.2.2.2.2.2.2.2.2.2.2.2.2.1) (μ.2.2.2.2.2.2.2.2.2.2.2.2.2.2.2.2.2.2.2.2.2.2.2.2.2.1) (μ.2.2.2.2.2.2.2.2.2.2.2.2.2.2.2.2.2.2.2.2.2.2.2.2.2.2.1) (μ.2.2.2.2.2.2.2.2.2.2.2.2.2.2.2.2.2.2.2.2.2.2.2.2.2.2.2.2.2) = some (iI (arB S (isR S) (-1)).2.1, a', iI 0, iI (arB S (isR S) (-1)).1, iI (arB S (isR S) (-1)).2.1, iI (arB S (isR S) (-1)).2.2.1, v1, v2, v3, p', v4, s', v5) := by
      unfold f_X9_arrange
      rw [m1, pd_8, g2, pd_2]
      simp only [pc_bv]
      simp only [pc_bv] at p1
      rw [p1, pd_1]
      try rfl
    simp only [x8, x9, pd_17, pd_13, if_true]
    exact ⟨_, _, _, _, _, _, _, _, _, _, _, _, _, _, _, _, _, _, _, _, _, _, _, _, _, _, _, _, rfl, _, RC.wy w t2, w', p2, g3⟩

  obtain ⟨o_x1_reds, o_x1_bestReds, o_x1_bestCount, o_x1_bestTurning, o_x2_latest, o_x2_count, o_y4_allowed, o_y5_best, o_y6_foes, o_y7_namesLeft, o_y8_redsLeft, o_y9_trial, o_y10_past, o_y14_letterOn, o_y15_namesOn, o_y19_direction, o_x24_acts, o_x24_thrown, o_x24_bestReds, o_x24_bestPlaced, o_x24_bestTurning, o_y25_against, o_y26_best, o_y27_may, o_y28_past, o_y29_redThen, o_y30_s, o_y31_ways, e, S', hc', w', hm', hh'⟩ := key
  exact ⟨o_x1_reds, o_x1_bestReds, o_x1_bestCount, o_x1_bestTurning, o_x2_latest, o_x2_count, o_y4_allowed, o_y5_best, o_y6_foes, o_y7_namesLeft, o_y8_redsLeft, o_y9_trial, o_y10_past, o_y14_letterOn, o_y15_namesOn, o_y19_direction, o_x24_acts, o_x24_thrown, o_x24_bestReds, o_x24_bestPlaced, o_x24_bestTurning, o_y25_against, o_y26_best, o_y27_may, o_y28_past, o_y29_redThen, o_y30_s, o_y31_ways, e, S', hc', w', hm', hh', hr⟩
