def owB (S M : Int → Int) (v i c : Int) : Bool := an (fun k => decide (fl S M v k.toNat = c)) i
def owI (S M : Int → Int) (v i c : Int) : Int := fi (fun k => decide (fl S M v k.toNat = c)) i
def rvS (S M T : Int → Int) (v i : Int) : Int → Int := fun j => if j = 3 then S 3 + 1 else if 152 ≤ j ∧ j < 296 ∧ owB S M v i (j - 152) = true then S 3 + 1 else if 296 ≤ j ∧ j < 440 ∧ owB S M v i (j - 296) = true then owI S M v i (j - 296) else T j
section
variable {s : Nat → Int32} {S M T : Int → Int} {land riv hom dir len let' nOn lOn stp ord : Nat → Int32} {th acts a' : Int32} {past p' : Nat → Int32}
theorem fl_rk (w : wS S) (hM : solM S M) {v : Int} (v1 : 0 ≤ v) (v2 : v < S 0 * S 1) (hf : M v < 1000000) : ∀ d k : Nat, ((k + d : Nat) : Int) < fLn S M v → rk S M (fl S M v (k + d)) + d ≤ rk S M (fl S M v k) := by
  intro d
  induction d with
  | zero => intro k _; rw [Nat.add_zero]; omega
  | succ d ih =>
    intro k h
    have h0 := ih k (by omega)
    have hL := fLn_c w hM v1 v2 hf
    have ha := fl_at w hM v1 v2 hf (k := k + d) (by omega)
    have he := hL.2.2.2 (k + d) (by omega)
    have hn := nx_ok w hM ha.1 ha.2.1 ha.2.2.1 he
    have hc := cst_rg S (fl S M v (k + d))
    have hr := rk_lt (M := M) w hn.2.2.2.1 hn.2.2.2.2.1 (v := fl S M v (k + d)) (by omega)
    rw [show k + (d + 1) = (k + d) + 1 by omega]
    show rk S M (nx S M (fl S M v (k + d))) + _ ≤ _
    omega
theorem fl_inj (w : wS S) (hM : solM S M) {v : Int} (v1 : 0 ≤ v) (v2 : v < S 0 * S 1) (hf : M v < 1000000) {j k : Nat} (hj : (j : Int) < fLn S M v) (hk : (k : Int) < fLn S M v) (e : fl S M v j = fl S M v k) : j = k := by
  rcases Nat.lt_trichotomy j k with h | h | h
  · have := fl_rk w hM v1 v2 hf (k - j) j (by omega)
    rw [show j + (k - j) = k by omega, e] at this; omega
  · exact h
  · have := fl_rk w hM v1 v2 hf (j - k) k (by omega)
    rw [show k + (j - k) = j by omega, e] at this; omega
theorem owI_rg (S M : Int → Int) (v i c : Int) (h : owB S M v i c = true) : 0 ≤ owI S M v i c ∧ owI S M v i c < i ∧ fl S M v (owI S M v i c).toNat = c := by
  unfold owB at h
  rw [fi_an, decide_eq_true_iff] at h
  rcases fi_rg (fun k => decide (fl S M v k.toNat = c)) i with q | ⟨q1, q2, q3⟩
  · exact absurd q h
  · exact ⟨q1, q2, of_decide_eq_true q3⟩
theorem owB_s {v i c : Int} (h : 0 ≤ i) : owB S M v (i + 1) c = (owB S M v i c || decide (fl S M v i.toNat = c)) := an_s h
theorem ow_new (w : wS S) (hM : solM S M) {v i : Int} (v1 : 0 ≤ v) (v2 : v < S 0 * S 1) (hf : M v < 1000000) (i1 : 0 ≤ i) (i2 : i < fLn S M v) : owB S M v i (fl S M v i.toNat) = false ∧ owI S M v (i + 1) (fl S M v i.toNat) = i := by
  have no : ∀ k, 0 ≤ k → k < i → decide (fl S M v k.toNat = fl S M v i.toNat) = false := by
    intro k k1 k2
    rw [decide_eq_false_iff_not]
    intro e
    have := fl_inj w hM v1 v2 hf (j := k.toNat) (k := i.toNat) (by omega) (by omega) e
    omega
  exact ⟨an_false.mpr no, fi_eq i1 (by omega) (by simp) no⟩
theorem ow_old {v i c : Int} (h : fl S M v i.toNat ≠ c) (i1 : 0 ≤ i) : owB S M v (i + 1) c = owB S M v i c ∧ owI S M v (i + 1) c = owI S M v i c := by
  refine ⟨by rw [owB_s i1, decide_eq_false h, Bool.or_false], fi_ext (by omega) (fun k k1 k2 k3 => ?_)⟩
  rw [show k = i by omega, decide_eq_false_iff_not]; exact h
theorem rv_s (w : wS S) (hM : solM S M) {v i : Int} (v1 : 0 ≤ v) (v2 : v < S 0 * S 1) (hf : M v < 1000000) (i1 : 0 ≤ i) (i2 : i < fLn S M v) (j : Int) : rvS S M T v (i + 1) j = wr1 (wr1 (rvS S M T v i) (152 + fl S M v i.toNat) (S 3 + 1)) (296 + fl S M v i.toNat) i j := by
  have hN := w.N
  have ha := fl_at w hM v1 v2 hf (k := i.toNat) (by omega)
  have hw := ow_new w hM v1 v2 hf i1 i2
  have b1 : owB S M v (i + 1) (fl S M v i.toNat) = true := by rw [owB_s i1]; simp
  unfold wr1
  by_cases zo : j = 296 + fl S M v i.toNat
  · rw [if_pos zo, zo]
    unfold rvS
    rw [if_neg (by omega), if_neg (by omega), show 296 + fl S M v i.toNat - 296 = fl S M v i.toNat by omega, if_pos ⟨by omega, by omega, b1⟩, hw.2]
  · rw [if_neg zo]
    by_cases zv : j = 152 + fl S M v i.toNat
    · rw [if_pos zv, zv]
      unfold rvS
      rw [if_neg (by omega), show 152 + fl S M v i.toNat - 152 = fl S M v i.toNat by omega, if_pos ⟨by omega, by omega, b1⟩]
    · rw [if_neg zv]
      unfold rvS
      have o1 := ow_old (S := S) (M := M) (v := v) (i := i) (c := j - 152) (by omega) i1
      have o2 := ow_old (S := S) (M := M) (v := v) (i := i) (c := j - 296) (by omega) i1
      rw [o1.1, o2.1, o2.2]
theorem rv_lo {v i j : Int} (h : j < 152) (h3 : j ≠ 3) : rvS S M T v i j = T j := by unfold rvS; rw [if_neg h3, if_neg (by omega), if_neg (by omega)]
theorem rv_hi {v i j : Int} (h : 440 ≤ j) : rvS S M T v i j = T j := by unfold rvS; rw [if_neg (by omega), if_neg (by omega), if_neg (by omega)]
theorem rv_3 {v i : Int} : rvS S M T v i 3 = S 3 + 1 := by unfold rvS; rw [if_pos rfl]
theorem rv_V {v i c : Int} (c1 : 0 ≤ c) (c2 : c < 144) : rvS S M T v i (152 + c) = if owB S M v i c = true then S 3 + 1 else T (152 + c) := by
  unfold rvS
  rw [if_neg (by omega), show 152 + c - 152 = c by omega]
  by_cases z : owB S M v i c = true
  · rw [if_pos ⟨by omega, by omega, z⟩, if_pos z]
  · rw [if_neg (fun q => z q.2.2), if_neg (by omega), if_neg z]
theorem rv_O {v i c : Int} (c1 : 0 ≤ c) (c2 : c < 144) : rvS S M T v i (296 + c) = if owB S M v i c = true then owI S M v i c else T (296 + c) := by
  unfold rvS
  rw [if_neg (by omega), if_neg (by omega), show 296 + c - 296 = c by omega]
  by_cases z : owB S M v i c = true
  · rw [if_pos ⟨by omega, by omega, z⟩, if_pos z]
  · rw [if_neg (fun q => z q.2.2), if_neg z]
theorem rv_sn {v i : Int} : SameN T (rvS S M T v i) := ⟨rv_lo (by omega) (by omega), rv_lo (by omega) (by omega), rv_lo (by omega) (by omega), fun j j1 j2 _ => rv_hi j1⟩
theorem rv_wS (w : wS S) (wT : wS T) (hM : solM S M) (e3 : T 3 = S 3) (e0 : T 0 = S 0) (e1 : T 1 = S 1) {v : Int} (v1 : 0 ≤ v) (v2 : v < S 0 * S 1) (hf : M v < 1000000) (h8 : S 3 < 8) : wS (rvS S M T v (fLn S M v)) := by
  have hC := wT.C
  have hN := w.N
  have hL := fLn_c w hM v1 v2 hf
  refine sn_wS wT rv_sn ?_ (fun c c1 c2 => ?_) (fun c c1 c2 => ?_) (fun k k1 k2 => ?_) (fun h a1 a2 => ?_) (sn_P wT (fun c c0 c1 c2 => ?_)) (sn_X wT (fun h a1 a2 => ?_))
  · unfold gC
    rw [rv_3, rv_lo (by omega) (by omega), rv_lo (by omega) (by omega), rv_lo (by omega) (by omega), rv_lo (by omega) (by omega), rv_lo (by omega) (by omega)]
    omega
  · rw [rv_lo (by omega) (by omega), rv_lo (by omega) (by omega), rv_lo (by omega) (by omega)]; exact wT.L c1 c2
  · have hR := wT.R c1 c2
    rw [rv_3, rv_V c1 c2, rv_O c1 c2, rv_lo (by omega) (by omega), rv_lo (by omega) (by omega)]
    by_cases z : owB S M v (fLn S M v) c = true
    · have ho := owI_rg S M v (fLn S M v) c z
      have ha := fl_at w hM v1 v2 hf (k := (owI S M v (fLn S M v) c).toNat) (by omega)
      rw [if_pos z, if_pos z]
      rw [ho.2.2] at ha
      refine ⟨by omega, by omega, fun q => ?_, by omega, by omega⟩
      rw [e0, e1] at q; omega
    · rw [if_neg z, if_neg z]
      exact ⟨hR.1, by omega, hR.2.2.1, hR.2.2.2.1, hR.2.2.2.2⟩
  · rw [rv_lo (by omega) (by omega)] at k2
    rw [rv_hi (by omega), rv_lo (by omega) (by omega)]; exact wT.V k1 k2
  · have hNT := wT.N
    have hH := wT.H a1 a2
    rw [show isL (rvS S M T v (fLn S M v)) (hv T h 0) = isL T (hv T h 0) from by unfold isL; rw [rv_lo (by omega) (by omega)], show hv (rvS S M T v (fLn S M v)) h 1 = hv T h 1 from rv_hi (by omega)]
    exact ⟨hH.2.2.1, hH.2.2.2.1, hH.2.2.2.2.1⟩
  · unfold isL at c2 ⊢; rw [rv_lo (by omega) (by omega)] at c2; exact c2
  · unfold isR hv; rw [rv_hi (by omega)]
theorem x_lay (w : wS S) (hM : solM S M) (hr : aV riv T) (ho : aO ord T) {wy : Nat → Int32} {v : Int} (v1 : 0 ≤ v) (v2 : v < S 0 * S 1) (hf : M v < 1000000) : ∃ r : (Nat → Int32) × (Nat → Int32), f_X1_layRiver (iI (S 3)) riv ord (cpF (fLn S M v).toNat (flA S M v) wy) (iI (fLn S M v)) = some (iI (S 3 + 1), r.1, r.2) ∧ aV r.1 (rvS S M T v (fLn S M v)) ∧ aO r.2 (rvS S M T v (fLn S M v)) := by
  have hN := w.N
  have hC := w.C
  have hL := fLn_c w hM v1 v2 hf
  unfold f_X1_layRiver
  simp only [pc_bv]
  have F := pc_iv3 (f := fun v3 y1 y2 => if iI (fLn S M v) ≤ v3 then some (Sum.inr (y1, y2)) else if 144 ≤ v3 then some (Sum.inr (y1, y2)) else ar v3 144 (if cpF (fLn S M v).toNat (flA S M v) wy v3.toNatClampNeg < 0 then some (Sum.inl (v3 + 1, y1, y2)) else if 144 ≤ cpF (fLn S M v).toNat (flA S M v) wy v3.toNatClampNeg then some (Sum.inl (v3 + 1, y1, y2)) else ar (cpF (fLn S M v).toNat (flA S M v) wy v3.toNatClampNeg) 144 (ar (cpF (fLn S M v).toNat (flA S M v) wy v3.toNatClampNeg) 144 (some (Sum.inl (v3 + 1, upd y1 (cpF (fLn S M v).toNat (flA S M v) wy v3.toNatClampNeg).toNatClampNeg (iI (S 3)), upd y2 (cpF (fLn S M v).toNat (flA S M v) wy v3.toNatClampNeg).toNatClampNeg v3)))))) (fun i y1 y2 => aV y1 (rvS S M T v i) ∧ aO y2 (rvS S M T v i)) (fun r : (Nat → Int32) × (Nat → Int32) => aV r.1 (rvS S M T v (fLn S M v)) ∧ aO r.2 (rvS S M T v (fLn S M v))) (fLn S M v) (by omega) (by omega) (x0 := riv) (x1 := ord) (c := 0) rfl ⟨fun c c1 c2 => ?_, fun c c1 c2 c3 => ?_⟩ (fun i y1 y2 a1 a2 hp => ?_) (fun y1 y2 hp => ?_)
  · obtain ⟨⟨r1, r2⟩, e1, e2⟩ := F
    refine ⟨(r1, r2), pc_b2t e1 ?_, e2⟩
    simp (disch := omega) only [-Int.reduceToNat, pc_ite, if_true, if_false, pc_bv, pc_lit, pc_neg, pc_add, pc_sub, pc_mul, pc_mr, pc_ar, pc_dv, pc_lt, pc_le, pc_eq, pc_nat, pc_div, pc_emod, pc_ifz, pc_ifo, pc_zb, pd_1, pd_2, pd_3, pd_4, pd_5, pd_6, pd_7, pd_8, pd_9, pd_10, pd_11, pd_12, pd_13, pd_14, pd_15, pd_16, pd_17, pd_19, pd_21, pd_22, pd_30, pd_34, pd_57]
  · rw [rv_V c1 c2, show owB S M v 0 c = false from rfl, if_neg (by decide)]; exact hr c c1 c2
  · rw [rv_V c1 c2, show owB S M v 0 c = false from rfl, if_neg (by decide)] at c3
    rw [rv_O c1 c2, show owB S M v 0 c = false from rfl, if_neg (by decide)]; exact ho c c1 c2 c3
  · have ha := fl_at w hM v1 v2 hf (k := i.toNat) (by omega)
    have e : cpF (fLn S M v).toNat (flA S M v) wy i.toNat = iI (fl S M v i.toNat) := by unfold cpF; rw [if_pos (by omega)]; rfl
    refine ⟨upd y1 (fl S M v i.toNat).toNat (iI (S 3)), upd y2 (fl S M v i.toNat).toNat (iI i), ?_, fun c c1 c2 => ?_, fun c c1 c2 c3 => ?_⟩
    · simp (disch := omega) only [-Int.reduceToNat, pc_ite, if_true, if_false, pc_bv, pc_lit, pc_neg, pc_add, pc_sub, pc_mul, pc_mr, pc_ar, pc_dv, pc_lt, pc_le, pc_eq, pc_nat, pc_div, pc_emod, pc_ifz, pc_ifo, pc_zb, pd_1, pd_2, pd_3, pd_4, pd_5, pd_6, pd_7, pd_8, pd_9, pd_10, pd_11, pd_12, pd_13, pd_14, pd_15, pd_16, pd_17, pd_19, pd_21, pd_22, pd_30, pd_34, pd_57, if_neg, e]
    · rw [rv_s w hM v1 v2 hf a1 a2, wr1_no (by omega), upd_at]
      by_cases z : c = fl S M v i.toNat
      · rw [if_pos (by omega), z, wr1_at, show S 3 + 1 - 1 = S 3 by omega]
      · rw [if_neg (by omega), wr1_no (by omega)]; exact hp.1 c c1 c2
    · rw [rv_s w hM v1 v2 hf a1 a2, wr1_no (by omega)] at c3
      rw [rv_s w hM v1 v2 hf a1 a2, upd_at]
      by_cases z : c = fl S M v i.toNat
      · rw [if_pos (by omega), z, wr1_at]
      · rw [wr1_no (by omega)] at c3
        rw [if_neg (by omega), wr1_no (by omega), wr1_no (by omega)]; exact hp.2 c c1 c2 c3
  · refine ⟨(y1, y2), ?_, hp⟩
    simp (disch := omega) only [-Int.reduceToNat, pc_ite, if_true, if_false, pc_bv, pc_lit, pc_neg, pc_add, pc_sub, pc_mul, pc_mr, pc_ar, pc_dv, pc_lt, pc_le, pc_eq, pc_nat, pc_div, pc_emod, pc_ifz, pc_ifo, pc_zb, pd_1, pd_2, pd_3, pd_4, pd_5, pd_6, pd_7, pd_8, pd_9, pd_10, pd_11, pd_12, pd_13, pd_14, pd_15, pd_16, pd_17, pd_19, pd_21, pd_22, pd_30, pd_34, pd_57, if_pos]
theorem rv_RA (w : wS T) (ra : RA lOn nOn land riv ord dir hom len let' stp T) {v i : Int} {r1 r2 : Nat → Int32} (h1 : aV r1 (rvS S M T v i)) (h2 : aO r2 (rvS S M T v i)) : RA lOn nOn land r1 r2 dir hom len let' stp (rvS S M T v i) := by
  refine sn_RA w ra rv_sn (fun c c1 c2 => ?_) h1 h2 (fun c c1 c2 => ?_)
  · rw [rv_lo (by omega) (by omega)]; exact ra.land c c1 c2
  · rw [rv_lo (by omega) (by omega)] at c2; rw [rv_hi (by omega)]; exact ra.stops c c1 c2
theorem m_flows (hs : mS s S) (w : wS S) (hM : solM S M) {wy : Nat → Int32} {v : Int} (v1 : 0 ≤ v) (v2 : v < S 0 * S 1) (hf : M v < 1000000) : ∃ s', f_X9_flows (iI (fLn S M v)) (cpF (fLn S M v).toNat (flA S M v) wy) s = some s' ∧ mS s' (rvS S M (wyS S (lfM S (wsh S M v))) v (fLn S M v)) := by
  have hN := w.N
  have hC := w.C
  have hL := fLn_c w hM v1 v2 hf
  obtain ⟨s1, l1, l2⟩ := m_lifts hs w (wsh S M v)
  have e3 : s1 (3 : Int).toNat = iI (S 3) := by
    rw [l2 3 (by omega) (by omega), wy_lo (by omega)]
  have h0 : mS (upd s1 (3 : Int).toNat (iI (S 3 + 1))) (rvS S M (wyS S (lfM S (wsh S M v))) v 0) := by
    intro k k1 k2
    rw [mS_wr l2 (by omega) k k1 k2]
    congr 1
    unfold wr1 rvS
    by_cases z : k = 3
    · rw [if_pos z, if_pos z]
    · rw [if_neg z, if_neg z, if_neg (fun q => by have := q.2.2; cases this), if_neg (fun q => by have := q.2.2; cases this)]
  unfold f_X9_flows
  rw [m_washedBy hs w hM v1 v2 hf, pd_1, l1, pd_2]
  simp only [pc_bv]
  simp (disch := omega) only [pc_lit, pc_ar, pc_nat, e3, pc_add]
  refine pc_e1 (Q := fun y => mS y (rvS S M (wyS S (lfM S (wsh S M v))) v (fLn S M v))) (pc_iv2 (fun i y => mS y (rvS S M (wyS S (lfM S (wsh S M v))) v i)) _ (fLn S M v) (by omega) (by omega) rfl h0 (fun i y a1 a2 hp => ?_) (fun y hp => ?_)) (fun y h => ⟨y, rfl, h⟩)
  · have ha := fl_at w hM v1 v2 hf (k := i.toNat) (by omega)
    have e : cpF (fLn S M v).toNat (flA S M v) wy i.toNat = iI (fl S M v i.toNat) := by unfold cpF; rw [if_pos (by omega)]; rfl
    have y3 : y (3 : Int).toNat = iI (S 3 + 1) := by rw [hp 3 (by omega) (by omega), rv_3]
    have h1 := mS_wr (v := S 3 + 1) hp (by omega : 0 ≤ 152 + fl S M v i.toNat)
    have h2 := mS_wr (v := i) h1 (by omega : 0 ≤ 296 + fl S M v i.toNat)
    refine ⟨upd (upd y (152 + fl S M v i.toNat).toNat (iI (S 3 + 1))) (296 + fl S M v i.toNat).toNat (iI i), ?_, fun k k1 k2 => (h2 k k1 k2).trans (by rw [rv_s w hM v1 v2 hf a1 a2])⟩
    simp (disch := omega) only [-Int.reduceToNat, pc_ite, if_true, if_false, pc_bv, pc_lit, pc_neg, pc_add, pc_sub, pc_mul, pc_mr, pc_ar, pc_dv, pc_lt, pc_le, pc_eq, pc_nat, pc_div, pc_emod, pc_ifz, pc_ifo, pc_zb, pd_1, pd_2, pd_3, pd_4, pd_5, pd_6, pd_7, pd_8, pd_9, pd_10, pd_11, pd_12, pd_13, pd_14, pd_15, pd_16, pd_17, pd_19, pd_21, pd_22, pd_30, pd_34, pd_57, if_neg, e, y3]
  · refine ⟨y, ?_, hp⟩
    simp (disch := omega) only [-Int.reduceToNat, pc_ite, if_true, if_false, pc_bv, pc_lit, pc_neg, pc_add, pc_sub, pc_mul, pc_mr, pc_ar, pc_dv, pc_lt, pc_le, pc_eq, pc_nat, pc_div, pc_emod, pc_ifz, pc_ifo, pc_zb, pd_1, pd_2, pd_3, pd_4, pd_5, pd_6, pd_7, pd_8, pd_9, pd_10, pd_11, pd_12, pd_13, pd_14, pd_15, pd_16, pd_17, pd_19, pd_21, pd_22, pd_30, pd_34, pd_57, if_pos]
end
