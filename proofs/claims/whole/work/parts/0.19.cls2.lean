theorem bt_ne {x : Int32} {k : Int} (h : bt x k = true) : ¬ x = iI 0 := by
  intro z; rw [z, bt_0] at h; cases h
theorem bt_nm {S : Int → Int} (w : wS S) {c h : Int} (h1 : 0 ≤ h) (h2 : h < 32) : bt (nm S c) h = (decide (h < S 2) && decide (lOf S h c ≠ -1)) := bt_mk (by have := w.C; omega) h1 h2
theorem bt_rM {S : Int → Int} (w : wS S) {h : Int} (h1 : 0 ≤ h) (h2 : h < 32) : bt (rM S) h = (decide (h < S 2) && isR S h) := bt_mk (by have := w.C; omega) h1 h2
theorem bt_nB {a h : Int} (g1 : 0 ≤ a) (g2 : a < 32) (h1 : 0 ≤ h) (h2 : h < 32) : bt (sB a ^^^ iI (-1)) h = !decide (a = h) := by rw [bt_not _ h1 h2, bt_sB g1 g2 h1 h2]
theorem nm_0 {S : Int → Int} (w : wS S) {c : Int} : nm S c = iI 0 ↔ ∀ h, 0 ≤ h → h < S 2 → lOf S h c = -1 := by
  unfold nm
  rw [mk_0 (by have := w.C; omega)]
  constructor
  · intro h k a1 a2
    have := h k a1 a2
    simpa using this
  · intro h k a1 a2
    simp [h k a1 a2]
theorem lAt_no {S : Int → Int} {c : Int} (h : ∀ h, 0 ≤ h → h < S 2 → lOf S h c = -1) : lAt S c = -1 := by
  unfold lAt
  refine fol_ind (fun _ b => b = -1) rfl (S 2).toNat (fun i b h1 h2 hb => ?_)
  subst hb
  rw [h i h1 (by omega), if_neg (by omega)]
theorem lIx_c {S : Int → Int} (w : wS S) {h v c : Int} (h1 : 0 ≤ h) (h2 : h < S 2) (hn : lIn S h v c ≠ -1) : c ≠ -1 ∧ 0 ≤ lIx S h v c ∧ lIx S h v c < hv S h 3 ∧ aw S (hv S h 0) v (lIx S h v c + 1) = c ∧ lIn S h v c = hv S h (4 + lIx S h v c) := by
  unfold lIn at hn ⊢
  by_cases z : c = -1
  · rw [if_pos z] at hn; exact absurd rfl hn
  · rw [if_neg z] at hn ⊢
    by_cases y : lIx S h v c = -1
    · rw [if_pos y] at hn; exact absurd rfl hn
    · rw [if_neg y]
      rcases fi_rg (fun k => decide (aw S (hv S h 0) v (k + 1) = c)) (hv S h 3) with e | ⟨e1, e2, e3⟩
      · exact absurd e y
      · rw [decide_eq_true_iff] at e3
        exact ⟨z, e1, e2, e3, rfl⟩
theorem l_like {S : Int → Int} (w : wS S) {a b c : Int} (a1 : 0 ≤ a) (a2 : a < S 2) (b1 : 0 ≤ b) (b2 : b < S 2) (ha : lOf S a c ≠ -1) (hb : lOf S b c ≠ -1) (hab : a ≠ b) : lOf S a c = lOf S b c ∧ isR S a = false ∧ isR S b = false := by
  unfold lOf at ha hb ⊢
  by_cases pa : isP S a = true
  · by_cases pb : isP S b = true
    · rw [if_pos pa] at ha ⊢
      rw [if_pos pb] at hb ⊢
      have hx := w.X a b a1 a2 b1 b2 hab pa pb
      obtain ⟨c1, c2, c3, c4, c5⟩ := lIx_c w a1 a2 ha
      have := (an_false.mp hx) _ c2 c3
      unfold agP at this
      rw [c4] at this
      simp only [Bool.and_eq_false_iff, decide_eq_false_iff_not, Decidable.not_not, Bool.or_eq_false_iff] at this
      rcases this with this | ⟨⟨q1, q2⟩, q3⟩
      · exact absurd this hb
      · exact ⟨by rw [c5, q3], q1, q2⟩
    · rw [if_neg pb] at hb; exact absurd rfl hb
  · rw [if_neg pa] at ha; exact absurd rfl ha
theorem lAt_at {S : Int → Int} (w : wS S) {h c : Int} (h1 : 0 ≤ h) (h2 : h < S 2) (hn : lOf S h c ≠ -1) : lAt S c = lOf S h c := by
  have key : ∀ g, 0 ≤ g → g < S 2 → lOf S g c = -1 ∨ lOf S g c = lOf S h c := by
    intro g g1 g2
    by_cases z : lOf S g c = -1
    · exact .inl z
    · by_cases y : g = h
      · subst y; exact .inr rfl
      · exact .inr (l_like w g1 g2 h1 h2 z hn y).1
  have hr := lOf_rg w (c := c) h1 h2
  unfold lAt
  have := fol_ind (st := fun h b => if b < lOf S h c then lOf S h c else b) (b := -1) (fun i b => (i ≤ h → b = -1 ∨ b = lOf S h c) ∧ (h < i → b = lOf S h c)) ⟨fun _ => .inl rfl, fun z => by omega⟩ (S 2).toNat (fun i b q1 q2 hb => ?_)
  · exact this.2 (by omega)
  · have hk := key i q1 (by omega)
    by_cases e : i = h
    · subst e
      refine ⟨fun z => by omega, fun _ => ?_⟩
      have := hb.1 (Int.le_refl _)
      split <;> omega
    · constructor
      · intro z
        have := hb.1 (by omega)
        split <;> omega
      · intro z
        have := hb.2 (by omega)
        split <;> omega
section
variable {S : Int → Int} {land riv hom dir len let' nOn lOn stp ord : Nat → Int32}
theorem x_letterIn (w : wS S) (hn : aN nOn S) (he : aE lOn S) {c : Int} (h1 : -1 ≤ c) (h2 : c < 144) : f_X6_letterIn lOn nOn (iI c) = some (iI (lAt S c)) := by
  unfold f_X6_letterIn
  simp (disch := omega) only [-Int.reduceToNat, pc_ite, if_true, if_false, pc_bv, pc_lit, pc_neg, pc_add, pc_sub, pc_mul, pc_mr, pc_ar, pc_dv, pc_lt, pc_le, pc_eq, pc_nat, pc_div, pc_emod, pc_ifz, pc_ifo, pc_zb, pc_bd1, pc_bd2, pc_bd3, pc_bd4, pc_bd5, pc_bd6, pc_bd7, pc_bd8, pc_bd9, pc_bd10, pc_bd11, pc_bd12, pc_bd13, pc_bd14, pc_bd15, pc_bd16, pc_bd17, pc_bd19, pc_bd21, pc_bd22, pc_bd30, pc_bd34, pc_bd57, x_namesIn' hn]
  by_cases z : nm S c = iI 0
  · rw [if_pos z, lAt_no ((nm_0 w).mp z)]
  · have hc : c ≠ -1 := by intro y; subst y; exact z (nm_N S)
    have hg := he c (by omega) h2 z
    rw [if_neg z]
    simp (disch := omega) only [-Int.reduceToNat, pc_ite, if_true, if_false, pc_bv, pc_lit, pc_neg, pc_add, pc_sub, pc_mul, pc_mr, pc_ar, pc_dv, pc_lt, pc_le, pc_eq, pc_nat, pc_div, pc_emod, pc_ifz, pc_ifo, pc_zb, pc_bd1, pc_bd2, pc_bd3, pc_bd4, pc_bd5, pc_bd6, pc_bd7, pc_bd8, pc_bd9, pc_bd10, pc_bd11, pc_bd12, pc_bd13, pc_bd14, pc_bd15, pc_bd16, pc_bd17, pc_bd19, pc_bd21, pc_bd22, pc_bd30, pc_bd34, pc_bd57, hg]
theorem x_cellReason (w : wS S) (hl : aL land S) (hr : aV riv S) (hh : aH 0 hom S) {c o : Int} (h1 : -1 ≤ c) (h2 : c < 144) (h3 : -1 ≤ o) (h4 : o ≤ 8) : f_X6_cellReason (iI (S 2)) land riv hom (iI c) (iI o) = some (iI (cR S c o % 9)) := by
  have hC := w.C
  have f1 := fi_c (fun h => decide (h ≠ -1) && decide (hv S h 0 = c)) (S 2)
  have f2 := fi_c (fun h => decide (h ≠ o) && decide (hv S h 0 = c)) (S 2)
  rw [show fi _ _ = hA S c (-1) from rfl] at f1
  rw [show fi _ _ = hA S c o from rfl] at f2
  have f1r : -1 ≤ hA S c (-1) ∧ hA S c (-1) < 9 := by
    rcases f1 with ⟨i, a1, a2, a3, a4, a5⟩ | ⟨a4, a5⟩ <;> omega
  unfold f_X6_cellReason cR
  by_cases z : c = -1
  · simp (disch := omega) only [-Int.reduceToNat, pc_ite, if_true, if_false, pc_bv, pc_lit, pc_neg, pc_add, pc_sub, pc_mul, pc_mr, pc_ar, pc_dv, pc_lt, pc_le, pc_eq, pc_nat, pc_div, pc_emod, pc_ifz, pc_ifo, pc_zb, pc_bd1, pc_bd2, pc_bd3, pc_bd4, pc_bd5, pc_bd6, pc_bd7, pc_bd8, pc_bd9, pc_bd10, pc_bd11, pc_bd12, pc_bd13, pc_bd14, pc_bd15, pc_bd16, pc_bd17, pc_bd19, pc_bd21, pc_bd22, pc_bd30, pc_bd34, pc_bd57, if_pos z]; rfl
  · simp (disch := omega) only [-Int.reduceToNat, pc_ite, if_true, if_false, pc_bv, pc_lit, pc_neg, pc_add, pc_sub, pc_mul, pc_mr, pc_ar, pc_dv, pc_lt, pc_le, pc_eq, pc_nat, pc_div, pc_emod, pc_ifz, pc_ifo, pc_zb, pc_bd1, pc_bd2, pc_bd3, pc_bd4, pc_bd5, pc_bd6, pc_bd7, pc_bd8, pc_bd9, pc_bd10, pc_bd11, pc_bd12, pc_bd13, pc_bd14, pc_bd15, pc_bd16, pc_bd17, pc_bd19, pc_bd21, pc_bd22, pc_bd30, pc_bd34, pc_bd57, if_neg z, x_isLand w hl, x_isRiver w hr, x_inCell w hh]
    cases isL S c
    · rfl
    · cases isV S c
      · simp only [Bool.false_eq_true, if_true, if_false]
        have key : (hA S c (-1) = -1 ∨ hA S c (-1) = o) ↔ hA S c o = -1 := by
          constructor
          · intro h
            rcases f2 with ⟨j, b1, b2, b3, b4, b5⟩ | ⟨b4, b5⟩
            · exfalso
              simp only [Bool.and_eq_true, decide_eq_true_iff] at b3
              rcases f1 with ⟨i, a1, a2, a3, a4, a5⟩ | ⟨a4, a5⟩
              · simp only [Bool.and_eq_true, decide_eq_true_iff] at a3
                have := w.U i j a1 a2 b1 b2 (by rw [a3.2, b3.2])
                omega
              · have := a5 j b1 b2
                have q : j ≠ -1 := by omega
                simp [q, b3.2] at this
            · exact b4
          · intro h
            rcases f1 with ⟨i, a1, a2, a3, a4, a5⟩ | ⟨a4, a5⟩
            · rcases f2 with ⟨j, b1, b2, b3, b4, b5⟩ | ⟨b4, b5⟩
              · omega
              · have := b5 i a1 a2
                simp only [Bool.and_eq_true, decide_eq_true_iff] at a3
                right
                by_cases q : i = o
                · omega
                · simp [q, a3.2] at this
            · exact .inl a4
        by_cases y : hA S c o = -1
        · rw [if_pos y]
          rcases key.mpr y with q | q
          · rw [if_pos q]; rfl
          · by_cases q2 : hA S c (-1) = -1
            · rw [if_pos q2]; rfl
            · rw [if_neg q2, if_pos q]; rfl
        · rw [if_neg y]
          have q2 : ¬ hA S c (-1) = -1 := fun q => y (key.mp (.inl q))
          have q3 : ¬ hA S c (-1) = o := fun q => y (key.mp (.inr q))
          rw [if_neg q2, if_neg q3]; rfl
      · rfl
theorem x_groundReason (w : wS S) (hl : aL land S) (hr : aV riv S) (hh : aH 0 hom S) (hn : aH 3 len S) {h v o : Int} (h1 : 0 ≤ h) (h2 : h < S 2) (h3 : 0 ≤ v) (h4 : v < 4) (h5 : -1 ≤ o) (h6 : o ≤ 8) : f_X6_groundReason (iI (S 0)) (iI (S 1)) (iI (S 2)) land riv hom len (iI h) (iI v) (iI o) = some (iI (chR S h v o)) := by
  have hC := w.C
  have hN := w.N
  have hH := w.H h1 h2
  have hAx := g_aw w.1 (hv S h 0) ((v + 2) % 4) 1
  unfold f_X6_groundReason chR
  simp (disch := omega) only [-Int.reduceToNat, pc_ite, if_true, if_false, pc_bv, pc_lit, pc_neg, pc_add, pc_sub, pc_mul, pc_mr, pc_ar, pc_dv, pc_lt, pc_le, pc_eq, pc_nat, pc_div, pc_emod, pc_ifz, pc_ifo, pc_zb, pc_bd1, pc_bd2, pc_bd3, pc_bd4, pc_bd5, pc_bd6, pc_bd7, pc_bd8, pc_bd9, pc_bd10, pc_bd11, pc_bd12, pc_bd13, pc_bd14, pc_bd15, pc_bd16, pc_bd17, pc_bd19, pc_bd21, pc_bd22, pc_bd30, pc_bd34, pc_bd57, x_homeOf w hh, x_ahead w, x_isLand w hl]
  cases e1 : isL S (aw S (hv S h 0) ((v + 2) % 4) 1)
  · rw [if_neg (by decide), if_neg (by decide)]
    refine pc_b1p (pc_fold (fun b => iI (b % 9)) (fun k b => if cR S (aw S (hv S h 0) v (k + 1)) o < b then cR S (aw S (hv S h 0) v (k + 1)) o else b) (fun _ b => b = 2 ∨ b = 3 ∨ b = 4 ∨ b = 5 ∨ b = 9) (fun b => iI (b % 9)) (hv S h 3) (by omega) (b0 := 9) rfl rfl (by omega) (fun i b a1 a2 hb => ?_) (fun b _ => ?_)) (fun F2 => rfl)
    · have hAw := g_aw w.1 (hv S h 0) v (i + 1)
      have hc := cR_rg S (aw S (hv S h 0) v (i + 1)) o
      refine ⟨?_, ?_⟩
      · simp (disch := omega) only [-Int.reduceToNat, pc_ite, if_true, if_false, pc_bv, pc_lit, pc_neg, pc_add, pc_sub, pc_mul, pc_mr, pc_ar, pc_dv, pc_lt, pc_le, pc_eq, pc_nat, pc_div, pc_emod, pc_ifz, pc_ifo, pc_zb, pc_bd1, pc_bd2, pc_bd3, pc_bd4, pc_bd5, pc_bd6, pc_bd7, pc_bd8, pc_bd9, pc_bd10, pc_bd11, pc_bd12, pc_bd13, pc_bd14, pc_bd15, pc_bd16, pc_bd17, pc_bd19, pc_bd21, pc_bd22, pc_bd30, pc_bd34, pc_bd57, x_lengthOf w hn, if_neg, x_ahead w, x_cellReason w hl hr hh]
        generalize cR S (aw S (hv S h 0) v (i + 1)) o = z at hc ⊢
        rcases hc with rfl | rfl | rfl | rfl | rfl <;> rcases hb with rfl | rfl | rfl | rfl | rfl <;> rfl
      · split
        · omega
        · exact hb
    · simp (disch := omega) only [-Int.reduceToNat, pc_ite, if_true, if_false, pc_bv, pc_lit, pc_neg, pc_add, pc_sub, pc_mul, pc_mr, pc_ar, pc_dv, pc_lt, pc_le, pc_eq, pc_nat, pc_div, pc_emod, pc_ifz, pc_ifo, pc_zb, pc_bd1, pc_bd2, pc_bd3, pc_bd4, pc_bd5, pc_bd6, pc_bd7, pc_bd8, pc_bd9, pc_bd10, pc_bd11, pc_bd12, pc_bd13, pc_bd14, pc_bd15, pc_bd16, pc_bd17, pc_bd19, pc_bd21, pc_bd22, pc_bd30, pc_bd34, pc_bd57, x_lengthOf w hn, if_pos]
  · rfl
theorem x_meets (w : wS S) (hh : aH 0 hom S) (hn : aH 3 len S) (ht : aT let' S) (hN' : aN nOn S) (he : aE lOn S) {a v : Int} (h1 : 0 ≤ a) (h2 : a < S 2) (h3 : 0 ≤ v) (h4 : v < 4) : f_X6_meetsOthers (iI (S 0)) (iI (S 1)) (iI (S 2)) (rM S) lOn nOn hom len let' (iI a) (iI v) = some (zB (an (fun h => decide (h ≠ a) && isP S h && agA S a v h) (S 2))) := by
  have hC := w.C
  have hN := w.N
  have hH := w.H h1 h2
  unfold f_X6_meetsOthers
  simp only [pc_bv]
  simp (disch := omega) only [-Int.reduceToNat, pc_ite, if_true, if_false, pc_bv, pc_lit, pc_neg, pc_add, pc_sub, pc_mul, pc_mr, pc_ar, pc_dv, pc_lt, pc_le, pc_eq, pc_nat, pc_div, pc_emod, pc_ifz, pc_ifo, pc_zb, pc_bd1, pc_bd2, pc_bd3, pc_bd4, pc_bd5, pc_bd6, pc_bd7, pc_bd8, pc_bd9, pc_bd10, pc_bd11, pc_bd12, pc_bd13, pc_bd14, pc_bd15, pc_bd16, pc_bd17, pc_bd19, pc_bd21, pc_bd22, pc_bd30, pc_bd34, pc_bd57, x_homeOf w hh, pc_sB]
  refine (pc_srchB (fun k => decide (¬ (nm S (aw S (hv S a 0) v (k + 1)) &&& (sB a ^^^ iI (-1))) = iI 0) && (decide (¬ ((nm S (aw S (hv S a 0) v (k + 1)) &&& (sB a ^^^ iI (-1)) ||| sB a) &&& rM S) = iI 0) || decide (lAt S (aw S (hv S a 0) v (k + 1)) ≠ hv S a (4 + k)))) (hv S a 3) (by omega) rfl (fun i a1 a2 a3 => ?_) (fun i a1 a2 a3 => ?_) ?_).trans ?_
  · have hAw := g_aw w.1 (hv S a 0) v (i + 1)
    have hT := w.T h1 h2 a1 a2
    have hlr := lAt_rg w (aw S (hv S a 0) v (i + 1))
    simp (disch := omega) only [-Int.reduceToNat, pc_ite, if_true, if_false, pc_bv, pc_lit, pc_neg, pc_add, pc_sub, pc_mul, pc_mr, pc_ar, pc_dv, pc_lt, pc_le, pc_eq, pc_nat, pc_div, pc_emod, pc_ifz, pc_ifo, pc_zb, pc_bd1, pc_bd2, pc_bd3, pc_bd4, pc_bd5, pc_bd6, pc_bd7, pc_bd8, pc_bd9, pc_bd10, pc_bd11, pc_bd12, pc_bd13, pc_bd14, pc_bd15, pc_bd16, pc_bd17, pc_bd19, pc_bd21, pc_bd22, pc_bd30, pc_bd34, pc_bd57, x_lengthOf w hn, if_neg, x_ahead w, x_namesIn' hN', x_letterIn w hN' he, x_letterOf w hn ht, if_pos]
    simp only [Bool.and_eq_true, Bool.or_eq_true, decide_eq_true_iff] at a3
    rw [if_neg a3.1]
    by_cases z : ((nm S (aw S (hv S a 0) v (i + 1)) &&& (sB a ^^^ iI (-1)) ||| sB a) &&& rM S) = iI 0
    · have y : ¬ lAt S (aw S (hv S a 0) v (i + 1)) = hv S a (4 + i) := by
        rcases a3.2 with q | q
        · exact absurd z q
        · exact q
      rw [if_pos z, if_neg y]
    · rw [if_neg z, if_neg a3.1]
  · have hAw := g_aw w.1 (hv S a 0) v (i + 1)
    have hT := w.T h1 h2 a1 a2
    have hlr := lAt_rg w (aw S (hv S a 0) v (i + 1))
    simp (disch := omega) only [-Int.reduceToNat, pc_ite, if_true, if_false, pc_bv, pc_lit, pc_neg, pc_add, pc_sub, pc_mul, pc_mr, pc_ar, pc_dv, pc_lt, pc_le, pc_eq, pc_nat, pc_div, pc_emod, pc_ifz, pc_ifo, pc_zb, pc_bd1, pc_bd2, pc_bd3, pc_bd4, pc_bd5, pc_bd6, pc_bd7, pc_bd8, pc_bd9, pc_bd10, pc_bd11, pc_bd12, pc_bd13, pc_bd14, pc_bd15, pc_bd16, pc_bd17, pc_bd19, pc_bd21, pc_bd22, pc_bd30, pc_bd34, pc_bd57, x_lengthOf w hn, if_neg, x_ahead w, x_namesIn' hN', x_letterIn w hN' he, x_letterOf w hn ht, if_pos]
    simp only [Bool.and_eq_false_iff, Bool.or_eq_false_iff, decide_eq_false_iff_not, Decidable.not_not] at a3
    by_cases z0 : (nm S (aw S (hv S a 0) v (i + 1)) &&& (sB a ^^^ iI (-1))) = iI 0
    · rw [if_pos z0]
      simp [z0]
    · rw [if_neg z0]
      rcases a3 with q | q
      · exact absurd q z0
      · rw [if_pos q.1, if_pos q.2]
  · simp (disch := omega) only [-Int.reduceToNat, pc_ite, if_true, if_false, pc_bv, pc_lit, pc_neg, pc_add, pc_sub, pc_mul, pc_mr, pc_ar, pc_dv, pc_lt, pc_le, pc_eq, pc_nat, pc_div, pc_emod, pc_ifz, pc_ifo, pc_zb, pc_bd1, pc_bd2, pc_bd3, pc_bd4, pc_bd5, pc_bd6, pc_bd7, pc_bd8, pc_bd9, pc_bd10, pc_bd11, pc_bd12, pc_bd13, pc_bd14, pc_bd15, pc_bd16, pc_bd17, pc_bd19, pc_bd21, pc_bd22, pc_bd30, pc_bd34, pc_bd57, x_lengthOf w hn, if_pos]
  · congr 2
    apply Bool.eq_iff_iff.mpr
    rw [an_iff, an_iff]
    constructor
    · rintro ⟨k, k1, k2, k3⟩
      simp only [Bool.and_eq_true, Bool.or_eq_true, decide_eq_true_iff] at k3
      obtain ⟨k3, k4⟩ := k3
      have mk1 : ∀ g, 0 ≤ g → g < S 2 → g ≠ a → lOf S g (aw S (hv S a 0) v (k + 1)) ≠ -1 → (isR S a = true ∨ isR S g = true ∨ lOf S g (aw S (hv S a 0) v (k + 1)) ≠ hv S a (4 + k)) → ∃ i, 0 ≤ i ∧ i < S 2 ∧ (decide (i ≠ a) && isP S i && agA S a v i) = true := by
        intro g g1 g2 g3 g4 g5
        have pg : isP S g = true := by
          cases e : isP S g
          · unfold lOf at g4; rw [e] at g4; exact absurd rfl g4
          · rfl
        refine ⟨g, g1, g2, ?_⟩
        have : agA S a v g = true := by
          unfold agA ag
          rw [an_iff]
          refine ⟨k, k1, k2, ?_⟩
          unfold agP
          unfold lOf at g4 g5
          rw [if_pos pg] at g4 g5
          simp only [Bool.and_eq_true, Bool.or_eq_true, decide_eq_true_iff]
          refine ⟨g4, ?_⟩
          rcases g5 with g5 | g5 | g5
          · exact .inl (.inl g5)
          · exact .inl (.inr g5)
          · exact .inr g5
        rw [pg, this]
        simp [g3]
      obtain ⟨g, g1, g2, g3⟩ := bt_pos k3
      rw [bt_and, bt_nm w g1 g2, bt_nB h1 (by omega) g1 g2] at g3
      simp only [Bool.and_eq_true, decide_eq_true_iff, Bool.not_eq_true', decide_eq_false_iff_not] at g3
      obtain ⟨⟨g4, g5⟩, g6⟩ := g3
      rcases k4 with k4 | k4
      · obtain ⟨x, x1, x2, x3⟩ := bt_pos k4
        rw [bt_and, bt_or, bt_and, bt_nm w x1 x2, bt_nB h1 (by omega) x1 x2, bt_sB h1 (by omega) x1 x2, bt_rM w x1 x2] at x3
        simp only [Bool.and_eq_true, Bool.or_eq_true, decide_eq_true_iff, Bool.not_eq_true', decide_eq_false_iff_not] at x3
        rcases x3.1 with q | q
        · exact mk1 x x1 x3.2.1 (fun e => q.2 e.symm) q.1.2 (.inr (.inl x3.2.2))
        · subst q
          exact mk1 g g1 g4 (fun e => g6 e.symm) g5 (.inl x3.2.2)
      · refine mk1 g g1 g4 (fun e => g6 e.symm) g5 (.inr (.inr ?_))
        rw [← lAt_at w g1 g4 g5]; exact k4
    · rintro ⟨g, g1, g2, g3⟩
      simp only [Bool.and_eq_true, decide_eq_true_iff] at g3
      obtain ⟨⟨g3, pg⟩, g4⟩ := g3
      unfold agA ag at g4
      rw [an_iff] at g4
      obtain ⟨k, k1, k2, k3⟩ := g4
      refine ⟨k, k1, k2, ?_⟩
      unfold agP at k3
      simp only [Bool.and_eq_true, Bool.or_eq_true, decide_eq_true_iff] at k3 ⊢
      have e1 : lIn S g (hv S g 2) (aw S (hv S a 0) v (k + 1)) = lOf S g (aw S (hv S a 0) v (k + 1)) := by unfold lOf; rw [if_pos pg]
      rw [e1] at k3
      have b1 : bt (nm S (aw S (hv S a 0) v (k + 1)) &&& (sB a ^^^ iI (-1))) g = true := by
        rw [bt_and, bt_nm w g1 (by omega), bt_nB h1 (by omega) g1 (by omega)]
        simp [g2, k3.1]
        exact fun e => g3 e.symm
      refine ⟨bt_ne b1, ?_⟩
      rcases k3.2 with (q | q) | q
      · left
        apply bt_ne (k := a)
        rw [bt_and, bt_or, bt_sB h1 (by omega) h1 (by omega), bt_rM w h1 (by omega)]
        simp [h2, q]
      · left
        apply bt_ne (k := g)
        rw [bt_and, bt_or, b1, bt_rM w g1 (by omega)]
        simp [g2, q]
      · right
        rw [lAt_at w g1 g2 k3.1]; exact q
theorem x_reason (w : wS S) (hl : aL land S) (hr : aV riv S) (hh : aH 0 hom S) (hn : aH 3 len S) (ht : aT let' S) (hN' : aN nOn S) (he : aE lOn S) {a v : Int} (h1 : 0 ≤ a) (h2 : a < S 2) (h3 : 0 ≤ v) (h4 : v < 4) : f_X6_reasonAgainst (iI (S 0)) (iI (S 1)) (iI (S 2)) (rM S) lOn nOn land riv hom len let' (iI a) (iI v) = some (iI (rsn S a v)) := by
  have hc := chR_rg S a v (-1)
  have hC := w.C
  unfold f_X6_reasonAgainst rsn
  simp (disch := omega) only [-Int.reduceToNat, pc_ite, if_true, if_false, pc_bv, pc_lit, pc_neg, pc_add, pc_sub, pc_mul, pc_mr, pc_ar, pc_dv, pc_lt, pc_le, pc_eq, pc_nat, pc_div, pc_emod, pc_ifz, pc_ifo, pc_zb, pc_bd1, pc_bd2, pc_bd3, pc_bd4, pc_bd5, pc_bd6, pc_bd7, pc_bd8, pc_bd9, pc_bd10, pc_bd11, pc_bd12, pc_bd13, pc_bd14, pc_bd15, pc_bd16, pc_bd17, pc_bd19, pc_bd21, pc_bd22, pc_bd30, pc_bd34, pc_bd57, x_groundReason w hl hr hh hn]
  by_cases z : chR S a v (-1) = 0
  · rw [if_pos z, if_pos z, x_meets w hh hn ht hN' he h1 h2 h3 h4]
    simp (disch := omega) only [-Int.reduceToNat, pc_ite, if_true, if_false, pc_bv, pc_lit, pc_neg, pc_add, pc_sub, pc_mul, pc_mr, pc_ar, pc_dv, pc_lt, pc_le, pc_eq, pc_nat, pc_div, pc_emod, pc_ifz, pc_ifo, pc_zb, pc_bd1, pc_bd2, pc_bd3, pc_bd4, pc_bd5, pc_bd6, pc_bd7, pc_bd8, pc_bd9, pc_bd10, pc_bd11, pc_bd12, pc_bd13, pc_bd14, pc_bd15, pc_bd16, pc_bd17, pc_bd19, pc_bd21, pc_bd22, pc_bd30, pc_bd34, pc_bd57]
    cases an (fun h => decide (h ≠ a) && isP S h && agA S a v h) (S 2) <;> rfl
  · rw [if_neg z, if_neg z]
end
