def lf1 (S : Int → Int) (h : Int) : Int → Int := fun g => if g = h then -1 else hv S g 2
def pt1 (S : Int → Int) (h v : Int) : Int → Int := fun g => if g = h then v else hv S g 2
def lfM (S : Int → Int) (m : Int32) : Int → Int := fun g => if bt m g = true then -1 else hv S g 2
theorem upd_at (y : Nat → Int32) (c : Nat) (x : Int32) (j : Nat) : upd y c x j = if j = c then x else y j := rfl
section
variable {S D : Int → Int} {s land riv hom dir len let' nOn lOn stp ord nOn' lOn' dir' : Nat → Int32}
theorem lf1_wS (w : wS S) {h : Int} : wS (wyS S (lf1 S h)) := wy_lift w (fun g _ _ => by unfold lf1; by_cases z : g = h <;> simp [z])
theorem lfM_wS (w : wS S) {m : Int32} : wS (wyS S (lfM S m)) := wy_lift w (fun g _ _ => by unfold lfM; by_cases z : bt m g = true <;> simp [z])
theorem lOf_hv (S : Int → Int) (k c : Int) : lOf S k c = if hv S k 2 = -1 then -1 else lIn S k (hv S k 2) c := by
  unfold lOf isP
  by_cases z : hv S k 2 = -1 <;> simp [z]
theorem lf1_lOf (w : wS S) {h k c : Int} (k1 : 0 ≤ k) (k2 : k < S 2) : lOf (wyS S (lf1 S h)) k c = if k = h then -1 else lOf S k c := by
  rw [wy_lOf w k1 k2, lOf_hv]
  unfold lf1
  by_cases z : k = h
  · rw [if_pos z, if_pos rfl, if_pos z]
  · rw [if_neg z, if_neg z]
theorem pt1_lOf (w : wS S) {h v k c : Int} (hv1 : v ≠ -1) (k1 : 0 ≤ k) (k2 : k < S 2) : lOf (wyS S (pt1 S h v)) k c = if k = h then lIn S h v c else lOf S k c := by
  rw [wy_lOf w k1 k2, lOf_hv]
  unfold pt1
  by_cases z : k = h
  · rw [if_pos z, if_neg hv1, if_pos z, z]
  · rw [if_neg z, if_neg z]
theorem nm_lift (w : wS S) {h c : Int} (h1 : 0 ≤ h) (h2 : h < S 2) : nm (wyS S (lf1 S h)) c = nm S c &&& (sB h ^^^ iI (-1)) := by
  have hC := w.C
  apply bt_ext
  intro k k1 k2
  rw [bt_nm (lf1_wS w) k1 k2, wy_2, bt_and, bt_nm w k1 k2, bt_nB h1 (by omega) k1 k2]
  by_cases z : k < S 2
  · rw [lf1_lOf w k1 z]
    by_cases y : k = h
    · simp [y]
    · have y2 : ¬ h = k := fun e => y e.symm
      simp [y, y2]
  · simp [z]
theorem nm_put (w : wS S) {h v c : Int} (h1 : 0 ≤ h) (h2 : h < S 2) (hv1 : v ≠ -1) (w' : wS (wyS S (pt1 S h v))) : nm (wyS S (pt1 S h v)) c = if lIn S h v c = -1 then nm (wyS S (lf1 S h)) c else nm (wyS S (lf1 S h)) c ||| sB h := by
  have hC := w.C
  apply bt_ext
  intro k k1 k2
  rw [bt_nm w' k1 k2, wy_2]
  have key : (decide (k < S 2) && decide (lOf (wyS S (pt1 S h v)) k c ≠ -1)) = (bt (nm (wyS S (lf1 S h)) c) k || (decide (lIn S h v c ≠ -1) && bt (sB h) k)) := by
    rw [bt_nm (lf1_wS w) k1 k2, wy_2, bt_sB h1 (by omega) k1 k2]
    by_cases z : k < S 2
    · rw [pt1_lOf w hv1 k1 z, lf1_lOf w k1 z]
      by_cases y : k = h
      · subst y; simp [z]
      · have y2 : ¬ h = k := fun e => y e.symm
        simp [y, y2]
    · have y2 : ¬ h = k := by omega
      simp [z, y2]
  rw [key]
  by_cases z : lIn S h v c = -1
  · rw [if_pos z]; simp [z]
  · rw [if_neg z, bt_or]; simp [z]
theorem lAt_same {S' : Int → Int} (w : wS S) (w' : wS S') {g c : Int} (g1 : 0 ≤ g) (g2 : g < S 2) (e2 : S' 2 = S 2) (e : lOf S' g c = lOf S g c) (hn : lOf S g c ≠ -1) : lAt S' c = lAt S c := by
  rw [lAt_at w g1 g2 hn, lAt_at w' g1 (by omega) (by rw [e]; exact hn), e]
theorem RA.wy (w : wS S) (ra : RA lOn nOn land riv ord dir hom len let' stp S) (hn : aN nOn' (wyS S D)) (he : aE lOn' (wyS S D)) (hd : ∀ g, 0 ≤ g → g < S 2 → dir' g.toNat = iI (D g)) : RA lOn' nOn' land riv ord dir' hom len let' stp (wyS S D) := by
  have hC := w.C
  have e4 : wyS S D 4 = S 4 := wy_lo (by omega)
  refine ⟨he, hn, fun c h1 h2 => ?_, fun c h1 h2 => ?_, fun c h1 h2 h3 => ?_, fun c h1 h2 => ?_, fun c h1 h2 => ?_, fun c h1 h2 => ?_, fun c k h1 h2 h3 h4 => ?_, fun c h1 h2 => ?_⟩
  · rw [wy_lo (by omega)]; exact ra.land c h1 h2
  · rw [wy_lo (by omega)]; exact ra.riverOf c h1 h2
  · rw [wy_lo (by omega)] at h3
    rw [wy_lo (by omega)]; exact ra.riverPlace c h1 h2 h3
  · rw [wy_2] at h2; rw [wy_hv h1 h2]; exact hd c h1 h2
  · rw [wy_2] at h2; rw [wy_hn (v := 0) h1 (by omega) (by omega) (by omega)]; exact ra.home c h1 h2
  · rw [wy_2] at h2; rw [wy_hn (v := 3) h1 (by omega) (by omega) (by omega)]; exact ra.length c h1 h2
  · rw [wy_2] at h2
    have hH := w.H h1 h2
    rw [wy_hn (v := 3) h1 (by omega) (by omega) (by omega)] at h4
    rw [wy_hn (v := 4 + k) h1 (by omega) (by omega) (by omega)]; exact ra.letters c k h1 h2 h3 h4
  · rw [e4] at h2; rw [wy_hi w (by omega)]; exact ra.stops c h1 h2
theorem an_lIn (w : wS S) {h v c : Int} (h1 : 0 ≤ h) (h2 : h < S 2) (hc : 0 ≤ c) : an (fun k => decide (aw S (hv S h 0) v (k + 1) = c)) (hv S h 3) = decide (lIn S h v c ≠ -1) := by
  rw [fi_an]
  unfold lIn lIx
  rw [if_neg (by omega)]
  rcases fi_rg (fun k => decide (aw S (hv S h 0) v (k + 1) = c)) (hv S h 3) with q | ⟨q1, q2, q3⟩
  · rw [q]; rfl
  · have hT := w.T h1 h2 q1 q2
    rw [if_neg (show ¬ fi _ _ = -1 by omega)]
    have a : fi (fun k => decide (aw S (hv S h 0) v (k + 1) = c)) (hv S h 3) ≠ -1 := by omega
    have b : hv S h (4 + fi (fun k => decide (aw S (hv S h 0) v (k + 1) = c)) (hv S h 3)) ≠ -1 := by omega
    rw [decide_eq_true a, decide_eq_true b]
theorem x_setDir {h v : Int} (w : wS S) (h1 : 0 ≤ h) (h2 : h < S 2) : f_X2_setDirection (iI (S 2)) dir (iI h) (iI v) = some (upd dir h.toNat (iI v)) := by
  have hC := w.C
  unfold f_X2_setDirection
  simp (disch := omega) only [-Int.reduceToNat, pc_ite, if_true, if_false, pc_bv, pc_lit, pc_neg, pc_add, pc_sub, pc_mul, pc_mr, pc_ar, pc_dv, pc_lt, pc_le, pc_eq, pc_nat, pc_div, pc_emod, pc_ifz, pc_ifo, pc_zb, pd_1, pd_2, pd_3, pd_4, pd_5, pd_6, pd_7, pd_8, pd_9, pd_10, pd_11, pd_12, pd_13, pd_14, pd_15, pd_16, pd_17, pd_19, pd_21, pd_22, pd_30, pd_34, pd_57, if_neg]
theorem i_and (x y : Int32) : (x &&& y) &&& y = x &&& y := by rw [Int32.and_assoc, Int32.and_self]
theorem i_or (x y : Int32) : (x ||| y) ||| y = x ||| y := by rw [Int32.or_assoc, Int32.or_self]
theorem x_takeName (w : wS S) (ra : RA lOn nOn land riv ord dir hom len let' stp S) {h : Int} (h1 : 0 ≤ h) (h2 : h < S 2) : ∃ n' d', f_X6_takeName (iI (S 0)) (iI (S 1)) (iI (S 2)) nOn dir hom len (iI h) = some (n', d') ∧ RA lOn n' land riv ord d' hom len let' stp (wyS S (lf1 S h)) := by
  have hC := w.C
  have hN := w.N
  have hH := w.H h1 h2
  have fin : ∀ n', (∀ c, 0 ≤ c → c < 144 → n' c.toNat = nm S c &&& (sB h ^^^ iI (-1))) → RA lOn n' land riv ord (upd dir h.toNat (iI (-1))) hom len let' stp (wyS S (lf1 S h)) := by
    intro n' hn
    refine RA.wy w ra (fun c c1 c2 => by rw [nm_lift w h1 h2]; exact hn c c1 c2) (fun c c1 c2 c3 => ?_) (fun g g1 g2 => ?_)
    · have c4 := c3
      rw [nm_lift w h1 h2] at c3
      have c5 : ¬ nm S c = iI 0 := by
        intro e; apply c3; rw [e]; exact Int32.zero_and
      rw [ra.letterOn c c1 c2 c5]
      congr 1
      have hex : ∃ g, 0 ≤ g ∧ g < S 2 ∧ lOf (wyS S (lf1 S h)) g c ≠ -1 := by
        obtain ⟨k, k1, k2, k3⟩ := bt_pos c4
        rw [bt_nm (lf1_wS w) k1 k2, wy_2] at k3
        simp only [Bool.and_eq_true, decide_eq_true_iff] at k3
        exact ⟨k, k1, k3.1, k3.2⟩
      obtain ⟨g, g1, g2, g3⟩ := hex
      have g4 := lf1_lOf w (h := h) (c := c) g1 g2
      by_cases y : g = h
      · rw [if_pos y] at g4; exact absurd g4 g3
      · rw [if_neg y] at g4
        exact (lAt_same w (lf1_wS w) g1 g2 wy_2 g4 (by rw [← g4]; exact g3)).symm
    · rw [upd_at]
      unfold lf1
      by_cases y : g = h
      · rw [if_pos (by omega), if_pos y]
      · rw [if_neg (by omega), if_neg y]; exact ra.direction g g1 g2
  unfold f_X6_takeName
  simp only [pc_bv]
  simp (disch := omega) only [-Int.reduceToNat, pc_ite, if_true, if_false, pc_bv, pc_lit, pc_neg, pc_add, pc_sub, pc_mul, pc_mr, pc_ar, pc_dv, pc_lt, pc_le, pc_eq, pc_nat, pc_div, pc_emod, pc_ifz, pc_ifo, pc_zb, pd_1, pd_2, pd_3, pd_4, pd_5, pd_6, pd_7, pd_8, pd_9, pd_10, pd_11, pd_12, pd_13, pd_14, pd_15, pd_16, pd_17, pd_19, pd_21, pd_22, pd_30, pd_34, pd_57, x_homeOf w ra.home, x_directionOf w ra.direction]
  by_cases z : hv S h 2 = -1
  · refine ⟨nOn, upd dir h.toNat (iI (-1)), pc_b1t (pc_run2 (fun _ => iI 0) (fun _ => nOn) 0 rfl rfl (fun i hi => by omega) (r := nOn) ?_) ?_, fin nOn (fun c c1 c2 => ?_)⟩
    · simp (disch := omega) only [-Int.reduceToNat, pc_ite, if_true, if_false, pc_bv, pc_lit, pc_neg, pc_add, pc_sub, pc_mul, pc_mr, pc_ar, pc_dv, pc_lt, pc_le, pc_eq, pc_nat, pc_div, pc_emod, pc_ifz, pc_ifo, pc_zb, pd_1, pd_2, pd_3, pd_4, pd_5, pd_6, pd_7, pd_8, pd_9, pd_10, pd_11, pd_12, pd_13, pd_14, pd_15, pd_16, pd_17, pd_19, pd_21, pd_22, pd_30, pd_34, pd_57, x_lengthOf w ra.length, if_neg, z]
    · simp (disch := omega) only [-Int.reduceToNat, pc_ite, if_true, if_false, pc_bv, pc_lit, pc_neg, pc_add, pc_sub, pc_mul, pc_mr, pc_ar, pc_dv, pc_lt, pc_le, pc_eq, pc_nat, pc_div, pc_emod, pc_ifz, pc_ifo, pc_zb, pd_1, pd_2, pd_3, pd_4, pd_5, pd_6, pd_7, pd_8, pd_9, pd_10, pd_11, pd_12, pd_13, pd_14, pd_15, pd_16, pd_17, pd_19, pd_21, pd_22, pd_30, pd_34, pd_57, x_setDir w]
    · rw [← nm_lift w h1 h2, ra.namesOn c c1 c2]
      have : wyS S (lf1 S h) = S := by
        rw [wy_congr (E := fun g => hv S g 2), wy_id]
        intro g g1 g2
        unfold lf1
        by_cases y : g = h
        · rw [if_pos y, y, z]
        · rw [if_neg y]
      rw [this]
  · have pp := w.P h h1 h2 (by unfold isP; exact decide_eq_true z)
    have F := pc_ff2 (f := fun v4 y3_namesOn_1 => bd1 (f_X2_lengthOf (iI (S 2)) len (iI h)) fun r28 => if r28 ≤ v4 then some (Sum.inr y3_namesOn_1) else if hv S h 2 = -1 then some (Sum.inr y3_namesOn_1) else bd1 (f_X1_ahead (iI (S 0)) (iI (S 1)) (iI (hv S h 0)) (iI (hv S h 2)) (v4 + iI 1)) fun r49 => if r49 < iI 0 then some (Sum.inl (v4 + iI 1, y3_namesOn_1)) else if iI 144 ≤ r49 then some (Sum.inl (v4 + iI 1, y3_namesOn_1)) else ar r49 144 (ar r49 144 (some (Sum.inl (v4 + iI 1, upd y3_namesOn_1 r49.toNatClampNeg (y3_namesOn_1 r49.toNatClampNeg &&& (iI 1 <<< (iI h &&& iI 31) ^^^ iI (-1)))))))) 0 id (fun i y => upd y (aw S (hv S h 0) (hv S h 2) (i + 1)).toNat (y (aw S (hv S h 0) (hv S h 2) (i + 1)).toNat &&& (sB h ^^^ iI (-1)))) (fun i y => ∀ c, 0 ≤ c → c < 144 → y c.toNat = if an (fun k => decide (aw S (hv S h 0) (hv S h 2) (k + 1) = c)) i = true then nm S c &&& (sB h ^^^ iI (-1)) else nm S c) id (hv S h 3) (by omega) (b0 := nOn) rfl rfl (fun c c1 c2 => ra.namesOn c c1 c2) (fun i b a1 a2 hb => ?_) (fun b _ => ?_)
    · obtain ⟨F1, F2⟩ := F
      generalize fol _ _ _ = n' at F1 F2
      refine ⟨n', upd dir h.toNat (iI (-1)), pc_b1t F1 ?_, fin n' (fun c c1 c2 => ?_)⟩
      · simp (disch := omega) only [-Int.reduceToNat, pc_ite, if_true, if_false, pc_bv, pc_lit, pc_neg, pc_add, pc_sub, pc_mul, pc_mr, pc_ar, pc_dv, pc_lt, pc_le, pc_eq, pc_nat, pc_div, pc_emod, pc_ifz, pc_ifo, pc_zb, pd_1, pd_2, pd_3, pd_4, pd_5, pd_6, pd_7, pd_8, pd_9, pd_10, pd_11, pd_12, pd_13, pd_14, pd_15, pd_16, pd_17, pd_19, pd_21, pd_22, pd_30, pd_34, pd_57, x_setDir w, id]
      · refine (F2 c c1 c2).trans ?_
        rw [an_lIn w h1 h2 c1]
        by_cases y : lIn S h (hv S h 2) c = -1
        · have e : lOf S h c = -1 := by rw [lOf_hv, if_neg z, y]
          simp only [y, ne_eq, not_true, decide_false, Bool.false_eq_true, if_false]
          apply bt_ext
          intro k k1 k2
          rw [bt_and, bt_nm w k1 k2, bt_nB h1 (by omega) k1 k2]
          by_cases q : h = k
          · subst q; simp [e]
          · simp [q]
        · simp [y]
    · have hA := g_aw w.1 (hv S h 0) (hv S h 2) (i + 1)
      have hne := pp.2 i a1 a2
      refine ⟨?_, fun c c1 c2 => ?_⟩
      · simp (disch := omega) only [-Int.reduceToNat, pc_ite, if_true, if_false, pc_bv, pc_lit, pc_neg, pc_add, pc_sub, pc_mul, pc_mr, pc_ar, pc_dv, pc_lt, pc_le, pc_eq, pc_nat, pc_div, pc_emod, pc_ifz, pc_ifo, pc_zb, pd_1, pd_2, pd_3, pd_4, pd_5, pd_6, pd_7, pd_8, pd_9, pd_10, pd_11, pd_12, pd_13, pd_14, pd_15, pd_16, pd_17, pd_19, pd_21, pd_22, pd_30, pd_34, pd_57, Int.add_zero, x_lengthOf w ra.length, if_neg, x_ahead w, id, pc_sB]
      · show upd b _ _ c.toNat = _
        rw [upd_at, an_s a1]
        by_cases y : aw S (hv S h 0) (hv S h 2) (i + 1) = c
        · rw [if_pos (by rw [y]), y]
          simp only [decide_true, Bool.or_true, if_true]
          rw [hb c c1 c2]
          split
          · rw [i_and]
          · rfl
        · rw [if_neg (by omega), decide_eq_false y, Bool.or_false]
          exact hb c c1 c2
    · simp (disch := omega) only [-Int.reduceToNat, pc_ite, if_true, if_false, pc_bv, pc_lit, pc_neg, pc_add, pc_sub, pc_mul, pc_mr, pc_ar, pc_dv, pc_lt, pc_le, pc_eq, pc_nat, pc_div, pc_emod, pc_ifz, pc_ifo, pc_zb, pd_1, pd_2, pd_3, pd_4, pd_5, pd_6, pd_7, pd_8, pd_9, pd_10, pd_11, pd_12, pd_13, pd_14, pd_15, pd_16, pd_17, pd_19, pd_21, pd_22, pd_30, pd_34, pd_57, Int.add_zero, x_lengthOf w ra.length, if_pos, id]
theorem m_puts (hs : mS s S) {h v x : Int} (h1 : 0 ≤ h) (h2 : h < 8) (v1 : 0 ≤ v) (v2 : v < 12) : f_X9_puts s (iI h) (iI v) (iI x) = some (upd s (440 + 12 * h + v).toNat (iI x)) := by
  unfold f_X9_puts
  simp (disch := omega) only [-Int.reduceToNat, pc_ite, if_true, if_false, pc_bv, pc_lit, pc_neg, pc_add, pc_sub, pc_mul, pc_mr, pc_ar, pc_dv, pc_lt, pc_le, pc_eq, pc_nat, pc_div, pc_emod, pc_ifz, pc_ifo, pc_zb, pd_1, pd_2, pd_3, pd_4, pd_5, pd_6, pd_7, pd_8, pd_9, pd_10, pd_11, pd_12, pd_13, pd_14, pd_15, pd_16, pd_17, pd_19, pd_21, pd_22, pd_30, pd_34, pd_57]
theorem m_put2 (hs : mS s S) (w : wS S) {h v : Int} (h1 : 0 ≤ h) (h2 : h < S 2) : ∃ s', f_X9_puts s (iI h) (iI 2) (iI v) = some s' ∧ mS s' (wyS S (pt1 S h v)) := by
  have hC := w.C
  refine ⟨_, m_puts hs h1 (by omega) (by omega) (by omega), fun k k1 k2 => ?_⟩
  rw [upd_at]
  unfold wyS pt1
  by_cases z : k = 440 + 12 * h + 2
  · rw [if_pos (by omega), if_pos (by omega), if_pos (by omega)]
  · rw [if_neg (by omega), hs k k1 k2]
    by_cases y : 442 ≤ k ∧ k < 442 + 12 * S 2 ∧ (k - 442) % 12 = 0
    · rw [if_pos y, if_neg (by omega)]
      unfold hv
      congr 2; omega
    · rw [if_neg y]
theorem m_lifts (hs : mS s S) (w : wS S) (m : Int32) : ∃ s', f_X9_lifts s m = some (iI (oc m), s') ∧ mS s' (wyS S (lfM S m)) := by
  have hC := w.C
  unfold f_X9_lifts
  simp only [pc_bv]
  have F := pc_ff2 (f := fun v2 y1_s_1 => ar 2 552 (if y1_s_1 (2 : Int32).toNatClampNeg ≤ v2 then some (Sum.inr y1_s_1) else if m >>> (v2 &&& 31) &&& 1 = 1 then bd1 (f_X9_puts y1_s_1 v2 2 (-1)) fun y1_s_4 => some (Sum.inl (v2 + 1, y1_s_4)) else some (Sum.inl (v2 + 1, y1_s_1)))) 0 id (fun i y => if bt m i = true then upd y (440 + 12 * i + 2).toNat (iI (-1)) else y) (fun i y => mS y (wyS S (fun g => if g < i ∧ bt m g = true then -1 else hv S g 2))) id (S 2) (by omega) (b0 := s) rfl rfl (by rw [wy_congr (E := fun g => hv S g 2) (fun g g1 g2 => if_neg (by omega)), wy_id]; exact hs) (fun i b a1 a2 hb => ?_) (fun b hb => ?_)
  · obtain ⟨F1, F2⟩ := F
    generalize fol _ _ _ = n' at F1 F2
    refine ⟨n', pc_b1t F1 (by rw [m_ones]; rfl), ?_⟩
    rw [wy_congr (E := lfM S m)] at F2
    · exact F2
    · intro g g1 g2
      unfold lfM
      by_cases y : bt m g = true
      · rw [if_pos ⟨g2, y⟩, if_pos y]
      · rw [if_neg (fun q => y q.2), if_neg y]
  · have e2 := hb 2 (by omega) (by omega)
    rw [wy_2] at e2
    have hp := m_put2 (v := -1) hb (S := wyS S (fun g => if g < i ∧ bt m g = true then -1 else hv S g 2)) (wy_lift w (fun g _ _ => by by_cases q : g < i ∧ bt m g = true <;> simp [q])) a1 (by rw [wy_2]; exact a2)
    obtain ⟨s', p1, p2⟩ := hp
    have p3 := m_puts (x := -1) hb a1 (by omega) (by omega : (0 : Int) ≤ 2) (by omega : (2 : Int) < 12)
    have e3 : s' = upd b (440 + 12 * i + 2).toNat (iI (-1)) := by rw [p1] at p3; exact Option.some.inj p3
    have tb := pc_bt (m := m) a1 (by omega : i < 32)
    have e4 : b (2 : Int).toNat = iI (S 2) := e2
    refine ⟨?_, ?_⟩
    · simp (disch := omega) only [-Int.reduceToNat, pc_ite, if_true, if_false, pc_bv, pc_lit, pc_neg, pc_add, pc_sub, pc_mul, pc_mr, pc_ar, pc_dv, pc_lt, pc_le, pc_eq, pc_nat, pc_div, pc_emod, pc_ifz, pc_ifo, pc_zb, pd_1, pd_2, pd_3, pd_4, pd_5, pd_6, pd_7, pd_8, pd_9, pd_10, pd_11, pd_12, pd_13, pd_14, pd_15, pd_16, pd_17, pd_19, pd_21, pd_22, pd_30, pd_34, pd_57, Int.add_zero, e4, if_neg, tb, p1, id]
      cases q : bt m i
      · rfl
      · rw [e3]; rfl
    · rw [wy_wy] at p2
      cases q : bt m i
      · rw [if_neg (by decide)]
        rw [wy_congr (E := fun g => if g < i ∧ bt m g = true then -1 else hv S g 2)]
        · exact hb
        · intro g g1 g2
          by_cases y : g = i
          · subst y; rw [if_neg (by simp [q]), if_neg (by simp [q])]
          · by_cases y2 : g < i ∧ bt m g = true
            · rw [if_pos y2, if_pos ⟨by omega, y2.2⟩]
            · rw [if_neg y2, if_neg (fun t => y2 ⟨by omega, t.2⟩)]
      · rw [if_pos rfl, ← e3]
        rw [wy_congr (E := fun g => if g < i + 1 ∧ bt m g = true then -1 else hv S g 2)] at p2
        · exact p2
        · intro g g1 g2
          unfold pt1
          by_cases y : g = i
          · subst y; rw [if_pos rfl, if_pos ⟨by omega, q⟩]
          · rw [if_neg y, wy_hv g1 g2]
            by_cases y2 : g < i ∧ bt m g = true
            · rw [if_pos y2, if_pos ⟨by omega, y2.2⟩]
            · rw [if_neg y2, if_neg (fun t => y2 ⟨by omega, t.2⟩)]
  · have e2 := hb 2 (by omega) (by omega)
    rw [wy_2] at e2
    have e4 : b (2 : Int).toNat = iI (S 2) := e2
    simp (disch := omega) only [-Int.reduceToNat, pc_ite, if_true, if_false, pc_bv, pc_lit, pc_neg, pc_add, pc_sub, pc_mul, pc_mr, pc_ar, pc_dv, pc_lt, pc_le, pc_eq, pc_nat, pc_div, pc_emod, pc_ifz, pc_ifo, pc_zb, pd_1, pd_2, pd_3, pd_4, pd_5, pd_6, pd_7, pd_8, pd_9, pd_10, pd_11, pd_12, pd_13, pd_14, pd_15, pd_16, pd_17, pd_19, pd_21, pd_22, pd_30, pd_34, pd_57, Int.add_zero, e4, if_pos, id]
end
