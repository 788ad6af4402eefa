theorem pc_e2 {α β γ : Type} {o : Option (α × β)} {Q : α × β → Prop} {k : α → β → Option γ} {R : γ → Prop} (h : ∃ r, o = some r ∧ Q r) (e : ∀ a b, Q (a, b) → ∃ r, k a b = some r ∧ R r) : ∃ r, bd2 o k = some r ∧ R r := by
  obtain ⟨⟨a, b⟩, h1, h2⟩ := h
  obtain ⟨r, h3, h4⟩ := e a b h2
  exact ⟨r, by rw [h1, pd_2, h3], h4⟩
theorem pc_e1 {α γ : Type} {o : Option α} {Q : α → Prop} {k : α → Option γ} {R : γ → Prop} (h : ∃ r, o = some r ∧ Q r) (e : ∀ a, Q a → ∃ r, k a = some r ∧ R r) : ∃ r, bd1 o k = some r ∧ R r := by
  obtain ⟨a, h1, h2⟩ := h
  obtain ⟨r, h3, h4⟩ := e a h2
  exact ⟨r, by rw [h1, pd_1, h3], h4⟩
section
variable {S D : Int → Int} {s land riv hom dir len let' nOn lOn stp ord nOn' lOn' dir' : Nat → Int32}
theorem wy_rM (w : wS S) : rM (wyS S D) = rM S := by
  unfold rM
  rw [wy_2]
  exact mk_congr (fun i h1 _ => wy_isR h1)
theorem x_takeNames (w : wS S) (ra : RA lOn nOn land riv ord dir hom len let' stp S) (m : Int32) : ∃ r, f_X6_takeNames (iI (S 0)) (iI (S 1)) (iI (S 2)) nOn dir hom len m = some r ∧ RA lOn r.1 land riv ord r.2 hom len let' stp (wyS S (lfM S m)) := by
  have hC := w.C
  unfold f_X6_takeNames
  simp only [pc_bv]
  refine pc_e2 (Q := fun r => RA lOn r.1 land riv ord r.2 hom len let' stp (wyS S (lfM S m))) (pc_iv3 (fun i n d => RA lOn n land riv ord d hom len let' stp (wyS S (fun g => if g < i ∧ bt m g = true then -1 else hv S g 2))) _ (S 2) (by omega) (by omega) rfl ?_ (fun i n d a1 a2 hp => ?_) (fun n d hp => ?_)) (fun a b h => ⟨_, rfl, h⟩)
  · rw [wy_congr (E := fun g => hv S g 2) (fun g g1 g2 => if_neg (by omega)), wy_id]; exact ra
  · have wi : wS (wyS S (fun g => if g < i ∧ bt m g = true then -1 else hv S g 2)) := wy_lift w (fun g _ _ => by by_cases q : g < i ∧ bt m g = true <;> simp [q])
    obtain ⟨n', d', t1, t2⟩ := x_takeName wi hp (h := i) a1 (by rw [wy_2]; exact a2)
    rw [wy_lo (by omega), wy_lo (by omega), wy_2] at t1
    rw [wy_wy] at t2
    have tb := pc_bt (m := m) a1 (by omega : i < 32)
    cases q : bt m i
    · refine ⟨n, d, ?_, ?_⟩
      · simp (disch := omega) only [-Int.reduceToNat, pc_ite, if_true, if_false, pc_bv, pc_lit, pc_neg, pc_add, pc_sub, pc_mul, pc_mr, pc_ar, pc_dv, pc_lt, pc_le, pc_eq, pc_nat, pc_div, pc_emod, pc_ifz, pc_ifo, pc_zb, pd_1, pd_2, pd_3, pd_4, pd_5, pd_6, pd_7, pd_8, pd_9, pd_10, pd_11, pd_12, pd_13, pd_14, pd_15, pd_16, pd_17, pd_19, pd_21, pd_22, pd_30, pd_34, pd_57, if_neg, tb, q, Bool.false_eq_true]
      · rw [wy_congr (E := fun g => if g < i ∧ bt m g = true then -1 else hv S g 2)]
        · exact hp
        · intro g g1 g2
          by_cases y : g = i
          · subst y; rw [if_neg (by simp [q]), if_neg (by simp [q])]
          · by_cases y2 : g < i ∧ bt m g = true
            · rw [if_pos y2, if_pos ⟨by omega, y2.2⟩]
            · rw [if_neg y2, if_neg (fun t => y2 ⟨by omega, t.2⟩)]
    · refine ⟨n', d', ?_, ?_⟩
      · simp (disch := omega) only [-Int.reduceToNat, pc_ite, if_true, if_false, pc_bv, pc_lit, pc_neg, pc_add, pc_sub, pc_mul, pc_mr, pc_ar, pc_dv, pc_lt, pc_le, pc_eq, pc_nat, pc_div, pc_emod, pc_ifz, pc_ifo, pc_zb, pd_1, pd_2, pd_3, pd_4, pd_5, pd_6, pd_7, pd_8, pd_9, pd_10, pd_11, pd_12, pd_13, pd_14, pd_15, pd_16, pd_17, pd_19, pd_21, pd_22, pd_30, pd_34, pd_57, if_neg, tb, q, t1]
      · rw [wy_congr (E := fun g => if g < i + 1 ∧ bt m g = true then -1 else hv S g 2)] at t2
        · exact t2
        · intro g g1 g2
          unfold lf1
          by_cases y : g = i
          · subst y; rw [if_pos rfl, if_pos ⟨by omega, q⟩]
          · rw [if_neg y, wy_hv g1 g2]
            by_cases y2 : g < i ∧ bt m g = true
            · rw [if_pos y2, if_pos ⟨by omega, y2.2⟩]
            · rw [if_neg y2, if_neg (fun t => y2 ⟨by omega, t.2⟩)]
  · refine ⟨(n, d), ?_, ?_⟩
    · simp (disch := omega) only [-Int.reduceToNat, pc_ite, if_true, if_false, pc_bv, pc_lit, pc_neg, pc_add, pc_sub, pc_mul, pc_mr, pc_ar, pc_dv, pc_lt, pc_le, pc_eq, pc_nat, pc_div, pc_emod, pc_ifz, pc_ifo, pc_zb, pd_1, pd_2, pd_3, pd_4, pd_5, pd_6, pd_7, pd_8, pd_9, pd_10, pd_11, pd_12, pd_13, pd_14, pd_15, pd_16, pd_17, pd_19, pd_21, pd_22, pd_30, pd_34, pd_57, if_pos]
    · rw [wy_congr (E := lfM S m)] at hp
      · exact hp
      · intro g g1 g2
        unfold lfM
        by_cases y : bt m g = true
        · rw [if_pos ⟨g2, y⟩, if_pos y]
        · rw [if_neg (fun q => y q.2), if_neg y]
theorem x_putName (w : wS S) (ra : RA lOn nOn land riv ord dir hom len let' stp S) {h v : Int} (h1 : 0 ≤ h) (h2 : h < S 2) (h3 : 0 ≤ v) (h4 : v < 4) (hne : ∀ k, 0 ≤ k → k < hv S h 3 → aw S (hv S h 0) v (k + 1) ≠ -1) (w' : wS (wyS S (pt1 S h v))) : ∃ r, f_X6_putName (iI (S 0)) (iI (S 1)) (iI (S 2)) lOn nOn dir hom len let' (iI h) (iI v) = some r ∧ RA r.1 r.2.1 land riv ord r.2.2 hom len let' stp (wyS S (pt1 S h v)) := by
  have hC := w.C
  have hN := w.N
  have hH := w.H h1 h2
  have w1 := lf1_wS w (h := h)
  obtain ⟨n1, d1, t1, t2⟩ := x_takeName w ra h1 h2
  unfold f_X6_putName
  simp only [pc_bv]
  rw [t1, pd_2, x_homeOf w ra.home h1 h2, pd_1]
  refine pc_e2 (Q := fun r : (Nat → Int32) × (Nat → Int32) => (∀ c, 0 ≤ c → c < 144 → r.2 c.toNat = if an (fun k => decide (aw S (hv S h 0) v (k + 1) = c)) (hv S h 3) = true then nm (wyS S (lf1 S h)) c ||| sB h else nm (wyS S (lf1 S h)) c) ∧ (∀ c, 0 ≤ c → c < 144 → an (fun k => decide (aw S (hv S h 0) v (k + 1) = c)) (hv S h 3) = false → r.1 c.toNat = lOn c.toNat) ∧ (∀ k, 0 ≤ k → k < hv S h 3 → r.1 (aw S (hv S h 0) v (k + 1)).toNat = iI (hv S h (4 + k))))
    (pc_iv3 (fun i (l n : Nat → Int32) => (∀ c, 0 ≤ c → c < 144 → n c.toNat = if an (fun k => decide (aw S (hv S h 0) v (k + 1) = c)) i = true then nm (wyS S (lf1 S h)) c ||| sB h else nm (wyS S (lf1 S h)) c) ∧ (∀ c, 0 ≤ c → c < 144 → an (fun k => decide (aw S (hv S h 0) v (k + 1) = c)) i = false → l c.toNat = lOn c.toNat) ∧ (∀ k, 0 ≤ k → k < i → l (aw S (hv S h 0) v (k + 1)).toNat = iI (hv S h (4 + k)))) _ (hv S h 3) (by omega) (by omega) rfl ?_ (fun i l n a1 a2 hp => ?_) (fun l n hp => ?_)) (fun l n hq => ?_)
  · exact ⟨fun c c1 c2 => t2.namesOn c c1 c2, fun c c1 c2 _ => rfl, fun k k1 k2 => by omega⟩
  · have hA := g_aw w.1 (hv S h 0) v (i + 1)
    have hn := hne i a1 a2
    have ok : 0 ≤ i ∧ i < hv S h 3 := ⟨a1, a2⟩
    refine ⟨upd l (aw S (hv S h 0) v (i + 1)).toNat (iI (hv S h (4 + i))), upd n (aw S (hv S h 0) v (i + 1)).toNat (n (aw S (hv S h 0) v (i + 1)).toNat ||| sB h), ?_, fun c c1 c2 => ?_, fun c c1 c2 hc => ?_, fun k k1 k2 => ?_⟩
    · have hl := x_letterOf w ra.length ra.letters h1 h2 (by omega : -2147483648 ≤ i) (by omega)
      rw [if_pos ok] at hl
      simp (disch := omega) only [-Int.reduceToNat, pc_ite, if_true, if_false, pc_bv, pc_lit, pc_neg, pc_add, pc_sub, pc_mul, pc_mr, pc_ar, pc_dv, pc_lt, pc_le, pc_eq, pc_nat, pc_div, pc_emod, pc_ifz, pc_ifo, pc_zb, pd_1, pd_2, pd_3, pd_4, pd_5, pd_6, pd_7, pd_8, pd_9, pd_10, pd_11, pd_12, pd_13, pd_14, pd_15, pd_16, pd_17, pd_19, pd_21, pd_22, pd_30, pd_34, pd_57, x_lengthOf w ra.length, if_neg, x_ahead w, hl, pc_sB]
    · rw [upd_at, an_s a1]
      by_cases y : aw S (hv S h 0) v (i + 1) = c
      · rw [if_pos (by rw [y]), y]
        simp only [decide_true, Bool.or_true, if_true]
        rw [hp.1 c c1 c2]
        split
        · rw [i_or]
        · rfl
      · rw [if_neg (by omega), decide_eq_false y, Bool.or_false]
        exact hp.1 c c1 c2
    · rw [an_s a1, Bool.or_eq_false_iff, decide_eq_false_iff_not] at hc
      rw [upd_at, if_neg (by omega)]
      exact hp.2.1 c c1 c2 hc.1
    · rw [upd_at]
      by_cases y : k = i
      · subst y; rw [if_pos rfl]
      · have hn2 := hne k k1 (by omega)
        have hA2 := g_aw w.1 (hv S h 0) v (k + 1)
        have : ¬ aw S (hv S h 0) v (k + 1) = aw S (hv S h 0) v (i + 1) := by
          intro q
          have := aw_inj w h3 h4 q hn2
          omega
        rw [if_neg (by omega)]
        exact hp.2.2 k k1 (by omega)
  · refine ⟨(l, n), ?_, hp⟩
    simp (disch := omega) only [-Int.reduceToNat, pc_ite, if_true, if_false, pc_bv, pc_lit, pc_neg, pc_add, pc_sub, pc_mul, pc_mr, pc_ar, pc_dv, pc_lt, pc_le, pc_eq, pc_nat, pc_div, pc_emod, pc_ifz, pc_ifo, pc_zb, pd_1, pd_2, pd_3, pd_4, pd_5, pd_6, pd_7, pd_8, pd_9, pd_10, pd_11, pd_12, pd_13, pd_14, pd_15, pd_16, pd_17, pd_19, pd_21, pd_22, pd_30, pd_34, pd_57, x_lengthOf w ra.length, if_pos]
  · obtain ⟨q1, q2, q3⟩ := hq
    rw [x_setDir w h1 h2, pd_1]
    refine ⟨_, rfl, ?_⟩
    have nmc : ∀ c, 0 ≤ c → c < 144 → nm (wyS S (pt1 S h v)) c = n c.toNat := by
      intro c c1 c2
      rw [nm_put w h1 h2 (by omega) w']
      refine Eq.trans ?_ (q1 c c1 c2).symm
      rw [an_lIn w h1 h2 c1]
      by_cases y : lIn S h v c = -1 <;> simp [y]
    refine RA.wy w ra (fun c c1 c2 => (nmc c c1 c2).symm) (fun c c1 c2 c3 => ?_) (fun g g1 g2 => ?_)
    · by_cases y : lIn S h v c = -1
      · have e : an (fun k => decide (aw S (hv S h 0) v (k + 1) = c)) (hv S h 3) = false := by rw [an_lIn w h1 h2 c1]; simp [y]
        rw [nm_put w h1 h2 (by omega) w', if_pos y] at c3
        refine (q2 c c1 c2 e).trans ?_
        rw [t2.letterOn c c1 c2 c3]
        congr 1
        obtain ⟨k, k1, k2, k3⟩ := bt_pos c3
        rw [bt_nm w1 k1 k2, wy_2] at k3
        simp only [Bool.and_eq_true, decide_eq_true_iff] at k3
        have f1 := lf1_lOf w (h := h) (c := c) k1 k3.1
        have f2 := pt1_lOf w (h := h) (v := v) (c := c) (by omega) k1 k3.1
        have kh : ¬ k = h := by
          intro q; rw [if_pos q] at f1; exact k3.2 f1
        rw [if_neg kh] at f1 f2
        exact (lAt_same w1 w' k1 (by rw [wy_2]; exact k3.1) (by rw [wy_2, wy_2]) (by rw [f1, f2]) k3.2).symm
      · obtain ⟨g1, g2, g3, g4, g5⟩ := lIx_c w h1 h2 y
        have f := q3 (lIx S h v c) g2 g3
        rw [g4] at f
        refine f.trans ?_
        rw [← g5]
        congr 1
        have e := pt1_lOf w (h := h) (v := v) (c := c) (by omega) h1 h2
        rw [if_pos rfl] at e
        rw [← e]
        exact (lAt_at w' h1 (by rw [wy_2]; exact h2) (by rw [e]; exact y)).symm
    · show upd d1 h.toNat (iI v) g.toNat = _
      rw [upd_at]
      have := t2.direction g g1 (by rw [wy_2]; exact g2)
      rw [wy_hv g1 g2] at this
      unfold pt1
      unfold lf1 at this
      by_cases y : g = h
      · rw [if_pos (by omega), if_pos y]
      · rw [if_neg (by omega), if_neg y, this, if_neg y]
end
