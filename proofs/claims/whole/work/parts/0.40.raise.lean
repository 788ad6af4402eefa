def bkC (S : Int → Int) (h : Int) : Int := aw S (hv S h 0) ((hv S h 2 + 2) % 4) 1
def hsB (S : Int → Int) (h c : Int) : Bool := an (fun w => decide (aw S (hv S h 0) w 1 = -1) || (decide (aw S (hv S h 0) w 1 ≠ c) && !isL S (aw S (hv S h 0) w 1))) 4
def bkM (S : Int → Int) (c : Int) : Int32 := mk (fun h => isP S h && decide (bkC S h = c)) (S 2)
theorem mk_s {p : Int → Bool} {i : Int} (h : 0 ≤ i) : mk p (i + 1) = if p i = true then mk p i ||| sB i else mk p i := by
  unfold mk
  rw [show (i + 1).toNat = i.toNat + 1 by omega, fol_s, show ((i.toNat : Nat) : Int) = i by omega]
section
variable {s : Nat → Int32} {S : Int → Int} {land riv hom dir len let' nOn lOn stp ord : Nat → Int32} {th : Int32}
theorem x_shuts (w : wS S) (hl : aL land S) (hh : aH 0 hom S) {c : Int} (c1 : 0 ≤ c) (c2 : c < 144) : f_X6_shutsHarbour (iI (S 0)) (iI (S 1)) (iI (S 2)) land hom (iI c) = some (zB (an (fun h => !hsB S h c) (S 2))) := by
  have hC := w.C
  have hN := w.N
  unfold f_X6_shutsHarbour
  simp only [pc_bv]
  refine pc_srchB _ (S 2) (by omega) rfl (fun i a1 a2 a3 => ?_) (fun i a1 a2 a3 => ?_) ?_
  · have hH := w.H a1 a2
    rw [Bool.not_eq_true'] at a3
    have hx := x_hasSea w hl hH.1 hH.2.1 (by omega : -1 ≤ c) c2
    rw [show an _ 4 = hsB S i c from rfl, a3] at hx
    simp (disch := omega) only [-Int.reduceToNat, pc_ite, if_true, if_false, pc_bv, pc_lit, pc_neg, pc_add, pc_sub, pc_mul, pc_mr, pc_ar, pc_dv, pc_lt, pc_le, pc_eq, pc_nat, pc_div, pc_emod, pc_ifz, pc_ifo, pc_zb, pd_1, pd_2, pd_3, pd_4, pd_5, pd_6, pd_7, pd_8, pd_9, pd_10, pd_11, pd_12, pd_13, pd_14, pd_15, pd_16, pd_17, pd_19, pd_21, pd_22, pd_30, pd_34, pd_57, if_neg, x_homeOf w hh, hx, Bool.false_eq_true]
  · have hH := w.H a1 a2
    rw [Bool.not_eq_false'] at a3
    have hx := x_hasSea w hl hH.1 hH.2.1 (by omega : -1 ≤ c) c2
    rw [show an _ 4 = hsB S i c from rfl, a3] at hx
    simp (disch := omega) only [-Int.reduceToNat, pc_ite, if_true, if_false, pc_bv, pc_lit, pc_neg, pc_add, pc_sub, pc_mul, pc_mr, pc_ar, pc_dv, pc_lt, pc_le, pc_eq, pc_nat, pc_div, pc_emod, pc_ifz, pc_ifo, pc_zb, pd_1, pd_2, pd_3, pd_4, pd_5, pd_6, pd_7, pd_8, pd_9, pd_10, pd_11, pd_12, pd_13, pd_14, pd_15, pd_16, pd_17, pd_19, pd_21, pd_22, pd_30, pd_34, pd_57, if_neg, x_homeOf w hh, hx]
  · simp (disch := omega) only [-Int.reduceToNat, pc_ite, if_true, if_false, pc_bv, pc_lit, pc_neg, pc_add, pc_sub, pc_mul, pc_mr, pc_ar, pc_dv, pc_lt, pc_le, pc_eq, pc_nat, pc_div, pc_emod, pc_ifz, pc_ifo, pc_zb, pd_1, pd_2, pd_3, pd_4, pd_5, pd_6, pd_7, pd_8, pd_9, pd_10, pd_11, pd_12, pd_13, pd_14, pd_15, pd_16, pd_17, pd_19, pd_21, pd_22, pd_30, pd_34, pd_57, if_pos]
theorem x_backTo (w : wS S) (hd : aH 2 dir S) (hh : aH 0 hom S) {c : Int} (c1 : 0 ≤ c) (c2 : c < 144) : f_X6_namesWithBackTo (iI (S 0)) (iI (S 1)) (iI (S 2)) dir hom (iI c) = some (bkM S c) := by
  have hC := w.C
  have hN := w.N
  unfold f_X6_namesWithBackTo
  simp only [pc_bv]
  refine pc_b1t (pc_fold id (fun h b => if (isP S h && decide (bkC S h = c)) = true then b ||| sB h else b) (fun _ _ => True) id (S 2) (by omega) (b0 := iI 0) rfl rfl trivial (fun i b a1 a2 _ => ⟨?_, trivial⟩) (fun b _ => ?_)).1 rfl
  · have hH := w.H a1 a2
    have hA := g_aw w.1 (hv S i 0) ((hv S i 2 + 2) % 4) 1
    simp (disch := omega) only [-Int.reduceToNat, pc_ite, if_true, if_false, pc_bv, pc_lit, pc_neg, pc_add, pc_sub, pc_mul, pc_mr, pc_ar, pc_dv, pc_lt, pc_le, pc_eq, pc_nat, pc_div, pc_emod, pc_ifz, pc_ifo, pc_zb, pd_1, pd_2, pd_3, pd_4, pd_5, pd_6, pd_7, pd_8, pd_9, pd_10, pd_11, pd_12, pd_13, pd_14, pd_15, pd_16, pd_17, pd_19, pd_21, pd_22, pd_30, pd_34, pd_57, x_directionOf w hd, if_neg, x_homeOf w hh, x_ahead w, pc_sB, id]
    unfold isP bkC
    by_cases z : hv S i 2 = -1
    · simp [z]
    · by_cases y : aw S (hv S i 0) ((hv S i 2 + 2) % 4) 1 = c <;> simp [z, y]
  · simp (disch := omega) only [-Int.reduceToNat, pc_ite, if_true, if_false, pc_bv, pc_lit, pc_neg, pc_add, pc_sub, pc_mul, pc_mr, pc_ar, pc_dv, pc_lt, pc_le, pc_eq, pc_nat, pc_div, pc_emod, pc_ifz, pc_ifo, pc_zb, pd_1, pd_2, pd_3, pd_4, pd_5, pd_6, pd_7, pd_8, pd_9, pd_10, pd_11, pd_12, pd_13, pd_14, pd_15, pd_16, pd_17, pd_19, pd_21, pd_22, pd_30, pd_34, pd_57, if_pos]
theorem ld_wQ (w : wS S) {c v : Int} (c1 : 0 ≤ c) (c2 : c < S 0 * S 1) (v1 : v = 1) : wQ (wr1 S (8 + c) v) := by
  have hC := w.C
  have hN := w.N
  have sn := sn_wr (S := S) (j := 8 + c) (v := v) (by omega)
  obtain ⟨g1, g2, g3, g4⟩ := ld_gs w c1 c2 (by omega : 0 ≤ v) (by omega)
  refine ⟨?_, g1, g2, g3, ?_, ?_, g4⟩
  · unfold gD; rw [sn.1, sn.2.1]; exact w.1
  · intro h x1 x2
    rw [sn.2.2.1] at x2
    have hH := w.H x1 x2
    rw [sn.1, sn.2.1, sn.eHv w (k := 0) x1 x2 (by omega) (by omega) (by omega), sn.eHv w (k := 2) x1 x2 (by omega) (by omega) (by omega), sn.eHv w (k := 3) x1 x2 (by omega) (by omega) (by omega), show hv (wr1 S (8 + c) v) h 1 = hv S h 1 from wr1_no (by omega), wr_isL1 c1]
    refine ⟨hH.1, hH.2.1, ?_, hH.2.2.2⟩
    split
    · simp [v1]
    · exact hH.2.2.1
  · intro h k x1 x2 x3 x4
    rw [sn.2.2.1] at x2
    have hH := w.H x1 x2
    rw [sn.eHv w (k := 3) x1 x2 (by omega) (by omega) (by omega)] at x4
    rw [sn.eHv w (k := 4 + k) x1 x2 (by omega) (by omega) (by omega)]
    exact w.T x1 x2 x3 x4
theorem coB_ld (w : wS S) {c h : Int} (c1 : 0 ≤ c) (c2 : c < 144) (h1 : 0 ≤ h) (h2 : h < S 2) : coB (wr1 S (8 + c) 1) (hv S h 0) = hsB S h c := by
  have hC := w.C
  have hH := w.H h1 h2
  have sn := sn_wr (S := S) (j := 8 + c) (v := 1) (by omega)
  unfold coB hsB
  rw [wr_isL1 c1]
  have : (if hv S h 0 = c then decide ((1 : Int) = 1) else isL S (hv S h 0)) = true := by
    split
    · rfl
    · exact hH.2.2.1
  rw [this, Bool.true_and]
  refine an_congr (fun v v1 v2 => ?_)
  rw [sn.eAw, wr_isL1 c1]
  by_cases z : aw S (hv S h 0) v 1 = -1
  · have : ¬ (-1 : Int) = c := by omega
    rw [z, if_neg this]; simp [isL]
  · by_cases y : aw S (hv S h 0) v 1 = c
    · have y2 : ¬ c = -1 := by omega
      simp [y, y2]
    · simp [y, z]
theorem bk_ld (w : wS S) {c h : Int} (c1 : 0 ≤ c) (h1 : 0 ≤ h) (h2 : h < S 2) : (isP S h && isL (wr1 S (8 + c) 1) (bkC S h)) = (isP S h && decide (bkC S h = c)) := by
  cases e : isP S h
  · rfl
  · have hp := w.P h h1 h2 e
    rw [wr_isL1 c1]
    by_cases z : bkC S h = c
    · rw [if_pos z, decide_eq_true z]; rfl
    · rw [if_neg z, decide_eq_false z]
      exact congrArg (fun x => true && x) hp.1
theorem bkM_bits (w : wS S) (c : Int) : f_J6_bitCount_0f7a4 (bkM S c) = some (iI (oc (bkM S c))) := by
  have hC := w.C
  apply x_bits
  intro k h1 h2
  unfold bkM
  rw [bt_mk (by omega) (by omega) h2]
  have : ¬ k < S 2 := by omega
  simp [this]
theorem ld_raise (w : wS S) {c : Int} (c1 : 0 ≤ c) (c2 : c < S 0 * S 1) : wS (wr1 (wyS S (lfM S (bkM S c))) (8 + c) 1) := by
  have hC := w.C
  refine ld_wS (lfM_wS w) c1 (by rw [wy_lo (by omega), wy_lo (by omega)]; exact c2) (.inr rfl) (fun q => by omega) (fun _ h g1 g2 g3 => ?_)
  rw [wy_2] at g2
  rw [wy_hv g1 g2] at g3 ⊢
  rw [wy_hn (v := 0) g1 (by omega) (by omega) (by omega), wy_aw]
  unfold lfM at g3 ⊢
  by_cases z : bt (bkM S c) h = true
  · rw [if_pos z] at g3; exact absurd rfl g3
  · rw [if_neg z] at g3 ⊢
    intro y
    apply z
    unfold bkM
    rw [bt_mk (by omega) g1 (by omega), decide_eq_true g2, Bool.true_and]
    have p : isP S h = true := by unfold isP; exact decide_eq_true g3
    rw [p, Bool.true_and]
    exact decide_eq_true y
theorem m_raise {acts : Int32} {past : Nat → Int32} (hs : mS s S) (w : wS S) {c : Int} (c1 : 0 ≤ c) (c2 : c < S 0 * S 1) (hl : isL S c = false) : ∃ s2, mS s2 S ∧ (an (fun h => !hsB S h c) (S 2) = true → f_X9_raise acts th past s (iI c) = some (iI (-3), acts, iI 0, past, s2)) ∧ (an (fun h => !hsB S h c) (S 2) = false → ∀ a' p', f_X9_keeps acts past s2 = some (a', p') → ∃ s', f_X9_raise acts th past s (iI c) = some (iI (oc (bkM S c)), a', iI 0, p', s') ∧ mS s' (wyS (wr1 S (8 + c) 1) (lfM (wr1 S (8 + c) 1) (bkM S c)))) := by
  have hC := w.C
  have hN := w.N
  have wq := ld_wQ w c1 c2 (v := 1) rfl
  have hm1 : mS (upd s (8 + c).toNat (iI 1)) (wr1 S (8 + c) 1) := mS_wr hs (by omega)
  have hm2 : mS (upd (upd s (8 + c).toNat (iI 1)) (8 + c).toNat (iI 0)) S := by
    intro k k1 k2
    have := mS_wr (v := 0) hm1 (by omega : 0 ≤ 8 + c) k k1 k2
    rw [this]
    by_cases z : k = 8 + c
    · rw [z, wr1_at]
      have hL := w.L c1 (by omega : c < 144)
      unfold isL at hl
      have q : c ≠ -1 := by omega
      rw [decide_eq_true q, Bool.true_and, decide_eq_false_iff_not] at hl
      rw [show S (8 + c) = 0 by omega]
    · rw [wr1_no z, wr1_no z]
  have hm3 : mS (upd (upd (upd s (8 + c).toNat (iI 1)) (8 + c).toNat (iI 0)) (8 + c).toNat (iI 1)) (wr1 S (8 + c) 1) := mS_wr hm2 (by omega)
  have h2 : wr1 S (8 + c) 1 2 = S 2 := wr1_no (by omega)
  have sn := sn_wr (S := S) (j := 8 + c) (v := 1) (by omega)
  have n1 : 0 ≤ c ∧ c ≤ S 0 * S 1 - 1 := by omega
  refine ⟨_, hm2, ?_⟩
  have key : ∀ {r : Option (Int32 × Int32 × Int32 × (Nat → Int32) × (Nat → Int32))}, (if zB (!an (fun h => !hsB S h c) (S 2)) = iI 0 then some (iI (-3), acts, iI 0, past, upd (upd s (8 + c).toNat (iI 1)) (8 + c).toNat (iI 0)) else bd2 (f_X9_keeps acts past (upd (upd s (8 + c).toNat (iI 1)) (8 + c).toNat (iI 0))) fun a' p' => bd2 (f_X9_lifts (upd (upd (upd s (8 + c).toNat (iI 1)) (8 + c).toNat (iI 0)) (8 + c).toNat (iI 1)) (bkM S c)) fun r162 s4 => some (r162, a', iI 0, p', s4)) = r → f_X9_raise acts th past s (iI c) = r := by
    intro r hr
    unfold f_X9_raise
    simp only [pc_bv]
    have i1 : f_X9_mayCell th s (iI c) = some (zB true, iI 0) := by
      rw [m_mayC hs w (by omega) (by omega), decide_eq_true n1, if_pos n1]
    have i2 : f_X9_isLand s (iI c) = some (iI 0) := by rw [m_isLand hs w (by omega) (by omega), hl]; rfl
    have e8 : (8 : Int32) + iI c = iI (8 + c) := by rw [show (8 : Int32) = iI 8 from rfl, pc_add]
    have e9 : (iI (8 + c)).toNatClampNeg = (8 + c).toNat := pc_nat (by omega) (by omega)
    have ea : ∀ {α : Type} {k : Option α}, ar (iI (8 + c)) 552 k = k := fun {_ _} => pc_ar (by omega) (by omega) (by omega)
    rw [i1, pd_2, if_neg (by decide), i2, pd_1, if_pos (by decide)]
    simp only [e8, e9, ea]
    refine pc_b2t (x0 := zB (!an (fun h => !hsB S h c) (S 2))) (x1 := bkM S c) (pc_eqs (pc_il3 (fun i x y => x = zB (!an (fun h => !hsB S h c) i) ∧ y = mk (fun h => isP S h && decide (bkC S h = c)) i) _ (S 2) (by omega) (by omega) rfl ⟨rfl, rfl⟩ (fun i x y a1 a2 hb => ?_) (fun x y hb => ?_))) ?_
    · have hH := w.H a1 a2
      have hA := g_aw w.1 (hv S i 0) ((hv S i 2 + 2) % 4) 1
      have q0 : hv (wr1 S (8 + c) 1) i 0 = hv S i 0 := sn.eHv w a1 a2 (by omega) (by omega) (by omega)
      have q2 : hv (wr1 S (8 + c) 1) i 2 = hv S i 2 := sn.eHv w a1 a2 (by omega) (by omega) (by omega)
      have qp : isP (wr1 S (8 + c) 1) i = isP S i := by unfold isP; rw [q2]
      have o0 := m_of hm1 a1 (by omega : i < 8) (by omega : (0 : Int) ≤ 0) (by omega : (0 : Int) < 12)
      have o2 := m_of hm1 a1 (by omega : i < 8) (by omega : (0 : Int) ≤ 2) (by omega : (2 : Int) < 12)
      have pl := m_isPlacedQ hm1 wq a1 (by rw [h2]; exact a2)
      have e0 : wr1 S (8 + c) 1 0 = S 0 := wr1_no (by omega)
      have e1 : wr1 S (8 + c) 1 1 = S 1 := wr1_no (by omega)
      have co := m_isCoastQ hm1 wq (c := hv S i 0) (by omega) (by rw [e0, e1]; omega)
      rw [coB_ld w c1 (by omega) a1 a2] at co
      rw [q0] at o0
      rw [q2] at o2
      rw [qp] at pl
      have aw1 := m_awayQ hm1 wq (c := hv S i 0) (v := (hv S i 2 + 2) % 4) (d := 1) (by omega) (by rw [e0, e1]; omega) (by omega) (by omega) (by omega) (by omega)
      rw [sn.eAw] at aw1
      have il := m_isLandQ hm1 wq (c := aw S (hv S i 0) ((hv S i 2 + 2) % 4) 1) (by omega) (by omega)
      have bk := bk_ld w c1 a1 a2
      have cnt : upd s (8 + c).toNat (iI 1) (Int.toNat 2) = iI (S 2) := by
        have := hm1 2 (by omega) (by omega)
        rw [h2] at this; exact this
      obtain ⟨hb1, hb2⟩ := hb
      subst hb1 hb2
      refine ⟨zB (!an (fun h => !hsB S h c) (i + 1)), mk (fun h => isP S h && decide (bkC S h = c)) (i + 1), ?_, rfl, rfl⟩
      rw [an_s a1, mk_s a1, ← bk]
      unfold bkC
      simp (disch := omega) only [-Int.reduceToNat, pc_ite, if_true, if_false, pc_bv, pc_lit, pc_neg, pc_add, pc_sub, pc_mul, pc_mr, pc_ar, pc_dv, pc_lt, pc_le, pc_eq, pc_nat, pc_div, pc_emod, pc_ifz, pc_ifo, pc_zb, pd_1, pd_2, pd_3, pd_4, pd_5, pd_6, pd_7, pd_8, pd_9, pd_10, pd_11, pd_12, pd_13, pd_14, pd_15, pd_16, pd_17, pd_19, pd_21, pd_22, pd_30, pd_34, pd_57, cnt, if_neg, o0, co, pl, o2, aw1, il, pc_sB, pc_or0, pc_zB0, pc_zB1]
      cases an (fun h => !hsB S h c) i <;> cases hsB S i c <;> cases isP S i <;> cases isL (wr1 S (8 + c) 1) (aw S (hv S i 0) ((hv S i 2 + 2) % 4) 1) <;> simp [zB]
    · have cnt : upd s (8 + c).toNat (iI 1) (Int.toNat 2) = iI (S 2) := by
        have := hm1 2 (by omega) (by omega)
        rw [h2] at this; exact this
      refine ⟨(x, y), ?_, ?_⟩
      · simp (disch := omega) only [-Int.reduceToNat, pc_ite, if_true, if_false, pc_bv, pc_lit, pc_neg, pc_add, pc_sub, pc_mul, pc_mr, pc_ar, pc_dv, pc_lt, pc_le, pc_eq, pc_nat, pc_div, pc_emod, pc_ifz, pc_ifo, pc_zb, pd_1, pd_2, pd_3, pd_4, pd_5, pd_6, pd_7, pd_8, pd_9, pd_10, pd_11, pd_12, pd_13, pd_14, pd_15, pd_16, pd_17, pd_19, pd_21, pd_22, pd_30, pd_34, pd_57, cnt, if_pos]
      · rw [hb.1, hb.2]; rfl
    · simp (disch := omega) only [-Int.reduceToNat, pc_ite, if_true, if_false, pc_bv, pc_lit, pc_neg, pc_add, pc_sub, pc_mul, pc_mr, pc_ar, pc_dv, pc_lt, pc_le, pc_eq, pc_nat, pc_div, pc_emod, pc_ifz, pc_ifo, pc_zb, pd_1, pd_2, pd_3, pd_4, pd_5, pd_6, pd_7, pd_8, pd_9, pd_10, pd_11, pd_12, pd_13, pd_14, pd_15, pd_16, pd_17, pd_19, pd_21, pd_22, pd_30, pd_34, pd_57]
      simp (disch := omega) only [pc_ifz] at hr
      exact hr
  refine ⟨fun h => key ?_, fun h a' p' hk => ?_⟩
  · rw [h]; rfl
  · obtain ⟨s', m1, m2⟩ := m_liftsQ hm3 (by rw [h2]; omega) (by rw [h2]; omega) (bkM S c)
    refine ⟨s', key ?_, m2⟩
    rw [h, hk, m1]; rfl
end
