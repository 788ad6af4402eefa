section
variable {s : Nat → Int32} {S M : Int → Int} {land riv hom dir len let' nOn lOn stp ord : Nat → Int32} {th : Int32}
theorem md_s (S M : Int → Int) {i : Int} (h : 0 ≤ i) : fol (mdT S M) (-1, 0, 0) (i + 1).toNat = mdT S M i (fol (mdT S M) (-1, 0, 0) i.toNat) := by
  rw [show (i + 1).toNat = i.toNat + 1 by omega, fol_s, show ((i.toNat : Nat) : Int) = i by omega]
theorem md_ch (w : wS S) (hM : solM S M) {i : Int} {b : Int × Int × Int} (a1 : 0 ≤ i) (a2 : i < S 0 * S 1) (hb : mdP S i b) (hf : M i < 1000000) {α : Type} (j : Int32 → Int32 → Int32 → α) : (if iI b.1 = -1 then j (iI i) (iI (oc (wsh S M i))) (iI (fLn S M i)) else if iI (oc (wsh S M i)) < iI b.2.1 then j (iI i) (iI (oc (wsh S M i))) (iI (fLn S M i)) else if iI (oc (wsh S M i)) = iI b.2.1 then (if iI (fLn S M i) ≤ iI b.2.2 then j (iI b.1) (iI b.2.1) (iI b.2.2) else j (iI i) (iI (oc (wsh S M i))) (iI (fLn S M i))) else j (iI b.1) (iI b.2.1) (iI b.2.2)) = j (iI (mdT S M i b).1) (iI (mdT S M i b).2.1) (iI (mdT S M i b).2.2) := by
  have hN := w.N
  have hL := fLn_c w hM a1 a2 hf
  have ho := oc_rg (wsh S M i)
  unfold mdP at hb
  have p1 := pc_eq (a := b.1) (b := -1) (by omega) (by omega) (by omega) (by omega)
  have p2 := pc_lt (a := oc (wsh S M i)) (b := b.2.1) (by omega) (by omega) (by omega) (by omega)
  have p3 := pc_eq (a := oc (wsh S M i)) (b := b.2.1) (by omega) (by omega) (by omega) (by omega)
  have p4 := pc_le (a := fLn S M i) (b := b.2.2) (by omega) (by omega) (by omega) (by omega)
  have neg : (-1 : Int32) = iI (-1) := rfl
  rw [neg]
  simp only [p1, p2, p3, p4]
  by_cases h : M i < 1000000 ∧ (b.1 = -1 ∨ oc (wsh S M i) < b.2.1 ∨ (oc (wsh S M i) = b.2.1 ∧ b.2.2 < fLn S M i))
  · obtain ⟨q1, q2, q3⟩ := mdT_1 h
    rw [q1, q2, q3]
    by_cases z1 : b.1 = -1
    · rw [if_pos z1]
    · rw [if_neg z1]
      by_cases z2 : oc (wsh S M i) < b.2.1
      · rw [if_pos z2]
      · rw [if_neg z2, if_pos (by omega), if_neg (by omega)]
  · rw [mdT_0 h, if_neg (by omega), if_neg (by omega)]
    by_cases z3 : oc (wsh S M i) = b.2.1
    · rw [if_pos z3, if_pos (by omega)]
    · rw [if_neg z3]
theorem pc_e3 {α β δ γ : Type} {o : Option (α × β × δ)} {Q : α × β × δ → Prop} {k : α → β → δ → Option γ} {R : γ → Prop} (h : ∃ r, o = some r ∧ Q r) (e : ∀ a b c, Q (a, b, c) → ∃ r, k a b c = some r ∧ R r) : ∃ r, bd3 o k = some r ∧ R r := by
  obtain ⟨⟨a, b, c⟩, h1, h2⟩ := h
  obtain ⟨r, h3, h4⟩ := e a b c h2
  exact ⟨r, by rw [h1, pd_3, h3], h4⟩
theorem x_mildest (w : wS S) (hn : aN nOn S) (hM : solM S M) {co0 y0 co y : Nat → Int32} (hco : yC S co) (hy : yM S (kM M) y) (es : f_X7_survey co0 y0 (iI (S 0)) (iI (S 1)) (iI (S 2)) nOn land riv hom = some (co, y)) (ln : Int32) (wy : Nat → Int32) : ∃ r, f_X8_mildest ln (iI (S 0)) (iI (S 1)) (iI (S 2)) nOn co0 y0 wy land riv hom = some r ∧ r.1 = iI (mdN S M) := by
  have hN := w.N
  unfold f_X8_mildest
  simp only [pc_bv]
  rw [es, pd_2, x_cells, pd_1]
  refine pc_e3 (Q := fun r : Int32 × Int32 × (Nat → Int32) => r.1 = iI (mdN S M)) (pc_inv6 (fun v2 v3 v4 v5 ln wy => ∃ i b, v2 = iI b.1 ∧ v3 = iI b.2.1 ∧ v4 = iI b.2.2 ∧ v5 = iI i ∧ 0 ≤ i ∧ i ≤ S 0 * S 1 ∧ b = fol (mdT S M) (-1, 0, 0) i.toNat ∧ mdP S i b) (fun v2 v3 v4 v5 ln wy => (S 0 * S 1 - v5.toInt).toNat) _ (fun v2 v3 v4 v5 ln wy hp => ?_) _ _ _ _ _ _ ⟨0, (-1, 0, 0), rfl, rfl, rfl, rfl, by omega, by omega, rfl, by unfold mdP; decide⟩) (fun a ln wy h => ?_)
  · obtain ⟨i, b, q1, q2, q3, q4, i1, i2, hb, hP⟩ := hp
    subst q1 q2 q3 q4
    by_cases z : i = S 0 * S 1
    · right
      refine ⟨(iI b.1, ln, wy), ?_, ?_⟩
      · rw [if_pos (by rw [pc_le (by omega) (by omega) (by omega) (by omega)]; omega)]
      · show iI b.1 = _
        rw [hb, z]; rfl
    · left
      have hle : ¬ iI (S 0 * S 1) ≤ iI i := by rw [pc_le (by omega) (by omega) (by omega) (by omega)]; omega
      have pl : iI i + 1 = iI (i + 1) := by rw [show (1 : Int32) = iI 1 from rfl, pc_add]
      have mz : (S 0 * S 1 - (iI (i + 1)).toInt).toNat < (S 0 * S 1 - (iI i).toInt).toNat := by
        rw [pc_toInt (by omega) (by omega), pc_toInt (by omega) (by omega)]; omega
      have nxt : ∃ i' b', iI (mdT S M i b).1 = iI b'.1 ∧ iI (mdT S M i b).2.1 = iI b'.2.1 ∧ iI (mdT S M i b).2.2 = iI b'.2.2 ∧ iI (i + 1) = iI i' ∧ 0 ≤ i' ∧ i' ≤ S 0 * S 1 ∧ b' = fol (mdT S M) (-1, 0, 0) i'.toNat ∧ mdP S i' b' := ⟨i + 1, mdT S M i b, rfl, rfl, rfl, rfl, by omega, by omega, by rw [md_s S M i1, ← hb], mdT_P w hM i1 (by omega) hP⟩
      rw [if_neg hle, x_trace w hM hco hy i1 (by omega)]
      by_cases hf : M i < 1000000
      · have hL := fLn_c w hM i1 (by omega) hf
        rw [if_pos hf, pd_3, if_neg (by rw [show (0 : Int32) = iI 0 from rfl, pc_eq (by omega) (by omega) (by omega) (by omega)]; omega)]
        rw [x_namesOnWay w hn hM i1 (by omega) hf, pd_1, x_bits (wsh_hi w i), pd_1, pl]
        exact ⟨_, _, _, _, _, _, md_ch w hM i1 (by omega) hP hf (fun x y z => some (Sum.inl (x, y, z, iI (i + 1), iI (fLn S M i), cpF (fLn S M i).toNat (flA S M i) wy))), nxt, mz⟩
      · have e : mdT S M i b = b := mdT_0 (fun q => hf q.1)
        rw [e] at nxt
        rw [if_neg hf, pd_3, if_pos (by decide), pl]
        exact ⟨_, _, _, _, _, _, rfl, nxt, mz⟩
  · simp only at h
    subst h
    exact ⟨_, rfl, rfl⟩
theorem m_mildest (hs : mS s S) (w : wS S) (hM : solM S M) {sm0 sm : Nat → Int32} (hy : yM S M sm) (em : f_X9_laysSums s sm0 = some sm) (ln : Int32) (wy : Nat → Int32) : ∃ r, f_X9_mildest th ln wy s sm0 = some r ∧ (r.1 = iI (mdN S M) ∧ r.2.1 = iI 0) := by
  have hN := w.N
  unfold f_X9_mildest
  simp only [pc_bv]
  rw [em, pd_1]
  refine pc_e3 (Q := fun r : Int32 × Int32 × (Nat → Int32) => r.1 = iI (mdN S M)) (pc_inv6 (fun v2 v3 v4 v5 ln wy => ∃ i b, v2 = iI b.1 ∧ v3 = iI b.2.1 ∧ v4 = iI b.2.2 ∧ v5 = iI i ∧ 0 ≤ i ∧ i ≤ S 0 * S 1 ∧ b = fol (mdT S M) (-1, 0, 0) i.toNat ∧ mdP S i b) (fun v2 v3 v4 v5 ln wy => (S 0 * S 1 - v5.toInt).toNat) _ (fun v2 v3 v4 v5 ln wy hp => ?_) _ _ _ _ _ _ ⟨0, (-1, 0, 0), rfl, rfl, rfl, rfl, by omega, by omega, rfl, by unfold mdP; decide⟩) (fun a ln wy h => ?_)
  · obtain ⟨i, b, q1, q2, q3, q4, i1, i2, hb, hP⟩ := hp
    subst q1 q2 q3 q4
    rw [m_cells hs, pd_1]
    by_cases z : i = S 0 * S 1
    · right
      refine ⟨(iI b.1, ln, wy), ?_, ?_⟩
      · rw [if_pos (by rw [pc_le (by omega) (by omega) (by omega) (by omega)]; omega)]
      · show iI b.1 = _
        rw [hb, z]; rfl
    · left
      have hle : ¬ iI (S 0 * S 1) ≤ iI i := by rw [pc_le (by omega) (by omega) (by omega) (by omega)]; omega
      have pl : iI i + 1 = iI (i + 1) := by rw [show (1 : Int32) = iI 1 from rfl, pc_add]
      have mz : (S 0 * S 1 - (iI (i + 1)).toInt).toNat < (S 0 * S 1 - (iI i).toInt).toNat := by
        rw [pc_toInt (by omega) (by omega), pc_toInt (by omega) (by omega)]; omega
      have nxt : ∃ i' b', iI (mdT S M i b).1 = iI b'.1 ∧ iI (mdT S M i b).2.1 = iI b'.2.1 ∧ iI (mdT S M i b).2.2 = iI b'.2.2 ∧ iI (i + 1) = iI i' ∧ 0 ≤ i' ∧ i' ≤ S 0 * S 1 ∧ b' = fol (mdT S M) (-1, 0, 0) i'.toNat ∧ mdP S i' b' := ⟨i + 1, mdT S M i b, rfl, rfl, rfl, rfl, by omega, by omega, by rw [md_s S M i1, ← hb], mdT_P w hM i1 (by omega) hP⟩
      rw [if_neg hle, m_laysFlow hs w hM hy i1 (by omega)]
      by_cases hf : M i < 1000000
      · have hL := fLn_c w hM i1 (by omega) hf
        rw [if_pos hf, pd_3, if_neg (by decide)]
        rw [m_washedBy hs w hM i1 (by omega) hf, pd_1, m_ones, pd_1, pl]
        exact ⟨_, _, _, _, _, _, md_ch w hM i1 (by omega) hP hf (fun x y z => some (Sum.inl (x, y, z, iI (i + 1), iI (fLn S M i), cpF (fLn S M i).toNat (flA S M i) wy))), nxt, mz⟩
      · have e : mdT S M i b = b := mdT_0 (fun q => hf q.1)
        rw [e] at nxt
        rw [if_neg hf, pd_3, if_pos (by decide), pl]
        exact ⟨_, _, _, _, _, _, rfl, nxt, mz⟩
  · simp only at h
    subst h
    exact ⟨_, rfl, ⟨rfl, rfl⟩⟩
end
theorem q_30 : SP_30 RR := by
  intro L xs i σ μ o hR h1 h2
  obtain ⟨S, hc, w, hm, hr⟩ := hR
  obtain ⟨a, ea, a1, a2⟩ := pc_wr (xs (i + 1).toNatClampNeg)
  obtain ⟨b, eb, b1, b2⟩ := pc_wr (xs (i + 2).toNatClampNeg)
  have hC := w.C
  have hN := w.N
  have hD := w.D
  have ra := hc.ra
  have key : ∃ o_x2_length o_y6_costs o_y7_sums o_y8_way o_x12_thrown o_x12_flowLong o_y13_flow o_y15_sums, f_case_30 L xs i (σ.2.2.1.1) (σ.1.1) (σ.1.2.1) (σ.1.2.2.2.1) (σ.1.2.2.2.2.2.2.2.2.2.2.1) (σ.2.2.1.2.1) (σ.2.2.1.2.2.1) (σ.2.2.1.2.2.2) (σ.1.2.2.2.2.2.2.2.2.2.2.2.1) (σ.1.2.2.2.2.2.2.2.2.2.2.2.2.1) (σ.1.2.2.2.2.2.2.2.2.2.2.2.2.2.2.2.1) (μ.2.1) (μ.2.2.1) (μ.2.2.2.2.2.2.2.2.2.2.2.2.2.2.2.2.2.2.2.1) (μ.2.2.2.2.2.2.2.2.2.2.2.2.2.2.2.2.2.2.2.2.2.2.2.2.2.2.1) (μ.2.2.2.2.2.2.2.2.2.2.2.2.2.2.2.2.2.2.2.2.2.2.2.2.2.2.2.1) = some (o_x2_length, o_y6_costs, o_y7_sums, o_y8_way, o_x12_thrown, o_x12_flowLong, o_y13_flow, o_y15_sums) := by
    unfold f_case_30
    simp only [hc.rows, hc.columns, hc.rivers, hc.count, hc.jcount, hc.next, hc.turn, hc.quarters, hc.reds, pc_bv]
    obtain ⟨M, co, y, sm, hM, hco, hy, hsm, es, em⟩ := way_both hm w ra σ.2.2.1.2.1 σ.2.2.1.2.2.1 μ.2.2.2.2.2.2.2.2.2.2.2.2.2.2.2.2.2.2.2.2.2.2.2.2.2.2.2.1
    obtain ⟨⟨x1, x2, x3, x4, x5⟩, xe, xq⟩ := x_mildest w ra.namesOn hM hco hy es σ.2.2.1.1 σ.2.2.1.2.2.2
    obtain ⟨⟨m1, m2, m3, m4, m5⟩, me, mq⟩ := m_mildest (th := μ.2.1) hm w hM hsm em μ.2.2.1 μ.2.2.2.2.2.2.2.2.2.2.2.2.2.2.2.2.2.2.2.1
    simp only at xq mq
    rw [xe, me, pd_5, pd_5, if_pos (by rw [xq, mq.1])]
    exact ⟨_, _, _, _, _, _, _, _, rfl⟩
  obtain ⟨o_x2_length, o_y6_costs, o_y7_sums, o_y8_way, o_x12_thrown, o_x12_flowLong, o_y13_flow, o_y15_sums, e⟩ := key
  exact ⟨o_x2_length, o_y6_costs, o_y7_sums, o_y8_way, o_x12_thrown, o_x12_flowLong, o_y13_flow, o_y15_sums, e, S, hc, w, hm, hr⟩
