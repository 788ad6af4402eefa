section
variable {s : Nat → Int32} {S : Int → Int} {land riv hom dir len let' nOn lOn stp ord : Nat → Int32} {th : Int32}
def rdS (S : Int → Int) (a : Int) : Int → Int := wr1 (wyS S (lfM S (xs8 S a))) (440 + 12 * a + 1) 1
def rdF (S : Int → Int) (a : Int) : Int → Int := wr1 S (440 + 12 * a + 1) 0
theorem sn_rd {T : Int → Int} {a v : Int} (h1 : 0 ≤ a) : SameN T (wr1 T (440 + 12 * a + 1) v) := ⟨wr1_no (by omega), wr1_no (by omega), wr1_no (by omega), fun k k1 k2 k3 => wr1_no (by omega)⟩
theorem xs8_bt (w : wS S) {a k : Int} (k1 : 0 ≤ k) (k2 : k < 32) : bt (xs8 S a) k = (decide (k < S 2) && (decide (k ≠ a) && dxB S a k)) := by
  have hC := w.C
  unfold xs8
  exact bt_mk (by omega) k1 k2
theorem isR_wr {T : Int → Int} {a v h : Int} (h1 : 0 ≤ a) (h2 : 0 ≤ h) : isR (wr1 T (440 + 12 * a + 1) v) h = if h = a then decide (v = 1) else isR T h := by
  unfold isR hv
  by_cases z : h = a
  · subst z; rw [if_pos rfl, wr1_at]
  · rw [if_neg z, wr1_no (by omega)]
theorem wr_gs {T : Int → Int} (w : wS T) {j v : Int} (h1 : 440 ≤ j) (h2 : j < 536) : gC (wr1 T j v) ∧ gL (wr1 T j v) ∧ gR (wr1 T j v) ∧ gV (wr1 T j v) := by
  have n : ∀ k, k < 440 ∨ 536 ≤ k → wr1 T j v k = T k := fun k h => wr1_no (by omega)
  refine ⟨?_, fun c c1 c2 => ?_, fun c c1 c2 => ?_, fun c c1 c2 => ?_⟩
  · unfold gC; rw [n 2 (by omega), n 3 (by omega), n 4 (by omega), n 5 (by omega), n 6 (by omega), n 7 (by omega)]; exact w.C
  · rw [n 0 (by omega), n 1 (by omega), n (8 + c) (by omega)]; exact w.L c1 c2
  · rw [n 0 (by omega), n 1 (by omega), n 3 (by omega), n (152 + c) (by omega), n (296 + c) (by omega)]; exact w.R c1 c2
  · rw [n 4 (by omega)] at c2
    rw [n 2 (by omega), n (536 + c) (by omega)]; exact w.V c1 c2
theorem wr_isL {T : Int → Int} {j v c : Int} (h1 : 440 ≤ j) (h : c < 144) : isL (wr1 T j v) c = isL T c := by unfold isL; rw [wr1_no (by omega)]
theorem rd_hh {T : Int → Int} (w : wS T) {a v : Int} (h1 : 0 ≤ a) (h2 : a < T 2) (v1 : 0 ≤ v) (v2 : v ≤ 1) : ∀ h, 0 ≤ h → h < T 2 → isL (wr1 T (440 + 12 * a + 1) v) (hv T h 0) = true ∧ 0 ≤ hv (wr1 T (440 + 12 * a + 1) v) h 1 ∧ hv (wr1 T (440 + 12 * a + 1) v) h 1 ≤ 1 := by
  intro h g1 g2
  have hN := w.N
  have hH := w.H g1 g2
  rw [wr_isL (by omega) (by omega)]
  refine ⟨hH.2.2.1, ?_⟩
  unfold hv wr1
  unfold hv at hH
  split <;> omega
theorem rdF_wS (w : wS S) {a : Int} (h1 : 0 ≤ a) (h2 : a < S 2) : wS (rdF S a) := by
  have hC := w.C
  unfold rdF
  obtain ⟨g1, g2, g3, g4⟩ := wr_gs w (j := 440 + 12 * a + 1) (v := 0) (by omega) (by omega)
  refine sn_wS w (sn_rd h1) g1 g2 g3 g4 (rd_hh w h1 h2 (by omega) (by omega)) (sn_P w (fun c _ c1 c2 => by rw [wr_isL (by omega) c1] at c2; exact c2)) (fun x y x1 x2 y1 y2 hxy px py => ?_)
  refine ag_mono (r := isR S x) (q := isR S y) ?_ ?_ (w.X x y x1 x2 y1 y2 hxy (by unfold isP; exact decide_eq_true px) (by unfold isP; exact decide_eq_true py))
  · rw [isR_wr h1 x1]; split
    · intro h; simp at h
    · exact id
  · rw [isR_wr h1 y1]; split
    · intro h; simp at h
    · exact id
theorem no_dx (w : wS S) {a y : Int} {q : Bool} (h1 : 0 ≤ a) (h2 : a < S 2) (y1 : 0 ≤ y) (y2 : y < S 2) (pa : hv S a 2 ≠ -1) (py : hv S y 2 ≠ -1) (h : dxB S a y = false) : ag S a (hv S a 2) true y (hv S y 2) q = false := by
  unfold ag
  rw [an_false]
  intro k k1 k2
  unfold dxB at h
  have : isP S a = true := by unfold isP; exact decide_eq_true pa
  rw [this, Bool.true_and, an_false] at h
  have := h k k1 k2
  rw [lOf_hv, if_neg py] at this
  unfold agP
  rw [this, Bool.false_and]
theorem rdS_wS (w : wS S) {a : Int} (h1 : 0 ≤ a) (h2 : a < S 2) : wS (rdS S a) := by
  have hC := w.C
  unfold rdS
  have wT := lfM_wS w (m := xs8 S a)
  have e2 : wyS S (lfM S (xs8 S a)) 2 = S 2 := wy_2
  have base : ∀ y, 0 ≤ y → y < S 2 → lfM S (xs8 S a) y ≠ -1 → lfM S (xs8 S a) y = hv S y 2 ∧ (y ≠ a → dxB S a y = false) := by
    intro y y1 y2 hn
    unfold lfM at hn ⊢
    by_cases z : bt (xs8 S a) y = true
    · rw [if_pos z] at hn; exact absurd rfl hn
    · rw [if_neg z]
      refine ⟨rfl, fun hy => ?_⟩
      rw [xs8_bt w y1 (by omega), decide_eq_true y2, decide_eq_true hy] at z
      simpa using z
  obtain ⟨g1, g2, g3, g4⟩ := wr_gs wT (j := 440 + 12 * a + 1) (v := 1) (by omega) (by omega)
  refine sn_wS wT (sn_rd h1) g1 g2 g3 g4 (rd_hh wT h1 (by rw [e2]; exact h2) (by omega) (by omega)) (sn_P wT (fun c _ c1 c2 => by rw [wr_isL (by omega) c1] at c2; exact c2)) (fun x y x1 x2 y1 y2 hxy px py => ?_)
  rw [e2] at x2 y2
  rw [wy_hv x1 x2] at px ⊢
  rw [wy_hv y1 y2] at py ⊢
  rw [wy_ag w x1 x2 y1 y2]
  obtain ⟨bx, dx⟩ := base x x1 x2 px
  obtain ⟨b', dy⟩ := base y y1 y2 py
  rw [bx] at px ⊢
  rw [b'] at py ⊢
  rw [isR_wr h1 x1, isR_wr h1 y1, wy_isR x1, wy_isR y1]
  by_cases zx : x = a
  · have zy : ¬ y = a := by omega
    subst zx
    rw [if_pos rfl, if_neg zy, show decide ((1 : Int) = 1) = true from rfl]
    exact no_dx w x1 x2 y1 y2 px py (dy zy)
  · rw [if_neg zx]
    by_cases zy : y = a
    · subst zy
      rw [if_pos rfl, show decide ((1 : Int) = 1) = true from rfl]
      have hpx := w.H x1 x2
      cases e : ag S x (hv S x 2) (isR S x) y (hv S y 2) true
      · rfl
      · have := ag_sym w x1 x2 (by omega) (by omega) y1 y2 e
        rw [no_dx w y1 y2 x1 x2 py px (dx zx)] at this
        cases this
    · rw [if_neg zy]
      exact w.X x y x1 x2 y1 y2 hxy (by unfold isP; exact decide_eq_true px) (by unfold isP; exact decide_eq_true py)
theorem rd_RA {T : Int → Int} (w : wS T) (ra : RA lOn nOn land riv ord dir hom len let' stp T) {a v : Int} (h1 : 0 ≤ a) (h2 : a < 8) : RA lOn nOn land riv ord dir hom len let' stp (wr1 T (440 + 12 * a + 1) v) := by
  have hC := w.C
  refine sn_RA w ra (sn_rd h1) (fun c c1 c2 => ?_) (fun c c1 c2 => ?_) (fun c c1 c2 c3 => ?_) (fun c c1 c2 => ?_)
  · rw [wr1_no (by omega)]; exact ra.land c c1 c2
  · rw [wr1_no (by omega)]; exact ra.riverOf c c1 c2
  · rw [wr1_no (by omega)] at c3; rw [wr1_no (by omega)]; exact ra.riverPlace c c1 c2 c3
  · rw [wr1_no (by omega)] at c2; rw [wr1_no (by omega)]; exact ra.stops c c1 c2
theorem rM_wr {T : Int → Int} (w : wS T) {a v : Int} (w' : wS (wr1 T (440 + 12 * a + 1) v)) (h1 : 0 ≤ a) (h2 : a < T 2) (hv1 : v = 0 ∨ v = 1) : rM (wr1 T (440 + 12 * a + 1) v) = if v = 0 then rM T &&& (sB a ^^^ iI (-1)) else rM T ||| sB a := by
  have hC := w.C
  have e2 : wr1 T (440 + 12 * a + 1) v 2 = T 2 := wr1_no (by omega)
  apply bt_ext
  intro k k1 k2
  rw [bt_rM w' k1 k2, e2]
  by_cases z : k < T 2
  · rw [isR_wr h1 k1]
    rcases hv1 with rfl | rfl
    · rw [if_pos rfl, bt_and, bt_rM w k1 k2, bt_nB h1 (by omega) k1 k2]
      by_cases y : k = a
      · simp [y]
      · have y2 : ¬ a = k := fun e => y e.symm
        simp [y, y2]
    · rw [if_neg (show ¬ (1 : Int) = 0 by omega), bt_or, bt_rM w k1 k2, bt_sB h1 (by omega) k1 k2]
      by_cases y : k = a
      · simp [y, h2]
      · have y2 : ¬ a = k := fun e => y e.symm
        simp [y, y2]
  · have y : ¬ k = a := by omega
    have y2 : ¬ a = k := by omega
    rcases hv1 with rfl | rfl
    · rw [if_pos rfl, bt_and, bt_rM w k1 k2]; simp [z]
    · rw [if_neg (show ¬ (1 : Int) = 0 by omega), bt_or, bt_rM w k1 k2, bt_sB h1 (by omega) k1 k2]; simp [z, y2]
theorem xs8_rd (w : wS S) {a v : Int} (h1 : 0 ≤ a) (h2 : a < S 2) : xs8 (wr1 S (440 + 12 * a + 1) v) a = xs8 S a := by
  have hC := w.C
  have sn := sn_rd (T := S) (v := v) h1
  have hH := w.H h1 h2
  unfold xs8
  rw [sn.2.2.1]
  refine mk_congr (fun h g1 g2 => ?_)
  unfold dxB isP
  rw [sn.eHv w (k := 2) h1 h2 (by omega) (by omega) (by omega), sn.eHv w (k := 0) h1 h2 (by omega) (by omega) (by omega), sn.eHv w (k := 3) h1 h2 (by omega) (by omega) (by omega)]
  congr 2
  exact an_congr (fun k k1 k2 => by rw [sn.eAw, sn.eLOf w g1 g2])
theorem rd_wQ (w : wS S) {a v : Int} (h1 : 0 ≤ a) (h2 : a < S 2) (v1 : 0 ≤ v) (v2 : v ≤ 1) : wQ (wr1 S (440 + 12 * a + 1) v) := by
  have hC := w.C
  have sn := sn_rd (T := S) (v := v) h1
  obtain ⟨g1, g2, g3, g4⟩ := wr_gs w (j := 440 + 12 * a + 1) (v := v) (by omega) (by omega)
  refine ⟨?_, g1, g2, g3, ?_, ?_, g4⟩
  · unfold gD; rw [sn.1, sn.2.1]; exact w.1
  · intro h x1 x2
    rw [sn.2.2.1] at x2
    have hH := w.H x1 x2
    have hh := rd_hh w h1 h2 v1 v2 h x1 x2
    rw [sn.1, sn.2.1, sn.eHv w (k := 0) x1 x2 (by omega) (by omega) (by omega), sn.eHv w (k := 2) x1 x2 (by omega) (by omega) (by omega), sn.eHv w (k := 3) x1 x2 (by omega) (by omega) (by omega)]
    exact ⟨hH.1, hH.2.1, hh.1, hh.2.1, hh.2.2, hH.2.2.2.2.2⟩
  · intro h k x1 x2 x3 x4
    rw [sn.2.2.1] at x2
    have hH := w.H x1 x2
    rw [sn.eHv w (k := 3) x1 x2 (by omega) (by omega) (by omega)] at x4
    rw [sn.eHv w (k := 4 + k) x1 x2 (by omega) (by omega) (by omega)]
    exact w.T x1 x2 x3 x4
theorem wr_isL1 {T : Int → Int} {c v k : Int} (c1 : 0 ≤ c) : isL (wr1 T (8 + c) v) k = if k = c then decide (v = 1) else isL T k := by
  unfold isL
  by_cases z : k = c
  · subst z
    have : k ≠ -1 := by omega
    rw [if_pos rfl, wr1_at, decide_eq_true this, Bool.true_and]
  · rw [if_neg z, wr1_no (by omega)]
theorem ld_gs {T : Int → Int} (w : wS T) {c v : Int} (c1 : 0 ≤ c) (c2 : c < T 0 * T 1) (v1 : 0 ≤ v) (v2 : v ≤ 1) : gC (wr1 T (8 + c) v) ∧ gL (wr1 T (8 + c) v) ∧ gR (wr1 T (8 + c) v) ∧ gV (wr1 T (8 + c) v) := by
  have hN := w.N
  have n : ∀ k, k < 8 ∨ 152 ≤ k → wr1 T (8 + c) v k = T k := fun k h => wr1_no (by omega)
  refine ⟨?_, fun d d1 d2 => ?_, fun d d1 d2 => ?_, fun d d1 d2 => ?_⟩
  · unfold gC; rw [n 2 (by omega), n 3 (by omega), n 4 (by omega), n 5 (by omega), n 6 (by omega), n 7 (by omega)]; exact w.C
  · rw [n 0 (by omega), n 1 (by omega)]
    have hL := w.L d1 d2
    by_cases z : d = c
    · subst z; rw [wr1_at]; exact ⟨v1, v2, fun h => by omega⟩
    · rw [wr1_no (by omega)]; exact hL
  · rw [n 0 (by omega), n 1 (by omega), n 3 (by omega), n (152 + d) (by omega), n (296 + d) (by omega)]; exact w.R d1 d2
  · rw [n 4 (by omega)] at d2
    rw [n 2 (by omega), n (536 + d) (by omega)]; exact w.V d1 d2
theorem ld_wS {T : Int → Int} (w : wS T) {c v : Int} (c1 : 0 ≤ c) (c2 : c < T 0 * T 1) (v1 : v = 0 ∨ v = 1) (hh : v = 0 → ∀ h, 0 ≤ h → h < T 2 → hv T h 0 ≠ c)
    (hp : v = 1 → ∀ h, 0 ≤ h → h < T 2 → hv T h 2 ≠ -1 → aw T (hv T h 0) ((hv T h 2 + 2) % 4) 1 ≠ c) : wS (wr1 T (8 + c) v) := by
  have hC := w.C
  have hN := w.N
  obtain ⟨g1, g2, g3, g4⟩ := ld_gs w c1 c2 (by omega : 0 ≤ v) (by omega)
  refine sn_wS w (sn_wr (by omega)) g1 g2 g3 g4 (fun h a1 a2 => ?_) (fun h a1 a2 a3 => ?_) (sn_X w (fun h a1 a2 => by unfold isR hv; rw [wr1_no (by omega)]))
  · have hH := w.H a1 a2
    rw [wr_isL1 c1, show hv (wr1 T (8 + c) v) h 1 = hv T h 1 from wr1_no (by omega)]
    refine ⟨?_, hH.2.2.2.1, hH.2.2.2.2.1⟩
    rcases v1 with rfl | rfl
    · rw [if_neg (hh rfl h a1 a2)]; exact hH.2.2.1
    · split
      · rfl
      · exact hH.2.2.1
  · have hpp := w.P h a1 a2 (by unfold isP; exact decide_eq_true a3)
    rw [wr_isL1 c1]
    rcases v1 with rfl | rfl
    · split
      · rfl
      · exact hpp.1
    · rw [if_neg (hp rfl h a1 a2 a3)]; exact hpp.1
theorem ld_RA {T : Int → Int} (w : wS T) (ra : RA lOn nOn land riv ord dir hom len let' stp T) {c v : Int} (c1 : 0 ≤ c) (c2 : c < 144) : RA lOn nOn (upd land c.toNat (iI v)) riv ord dir hom len let' stp (wr1 T (8 + c) v) := by
  have hC := w.C
  refine sn_RA w ra (sn_wr (by omega)) (fun d d1 d2 => ?_) (fun d d1 d2 => ?_) (fun d d1 d2 d3 => ?_) (fun d d1 d2 => ?_)
  · rw [upd_at]
    by_cases z : d = c
    · rw [if_pos (by omega), z, wr1_at]
    · rw [if_neg (by omega), wr1_no (by omega)]; exact ra.land d d1 d2
  · rw [wr1_no (by omega)]; exact ra.riverOf d d1 d2
  · rw [wr1_no (by omega)] at d3; rw [wr1_no (by omega)]; exact ra.riverPlace d d1 d2 d3
  · rw [wr1_no (by omega)] at d2; rw [wr1_no (by omega)]; exact ra.stops d d1 d2
theorem x_setLand {c v : Int} (c1 : 0 ≤ c) (c2 : c < 144) (v1 : v = 0 ∨ v = 1) : f_X1_setLand land (iI c) (iI v) = some (upd land c.toNat (iI v)) := by
  unfold f_X1_setLand
  rcases v1 with rfl | rfl
  · simp (disch := omega) only [-Int.reduceToNat, pc_ite, if_true, if_false, pc_bv, pc_lit, pc_neg, pc_add, pc_sub, pc_mul, pc_mr, pc_ar, pc_dv, pc_lt, pc_le, pc_eq, pc_nat, pc_div, pc_emod, pc_ifz, pc_ifo, pc_zb, pd_1, pd_2, pd_3, pd_4, pd_5, pd_6, pd_7, pd_8, pd_9, pd_10, pd_11, pd_12, pd_13, pd_14, pd_15, pd_16, pd_17, pd_19, pd_21, pd_22, pd_30, pd_34, pd_57, if_neg, naB_0]
  · simp (disch := omega) only [-Int.reduceToNat, pc_ite, if_true, if_false, pc_bv, pc_lit, pc_neg, pc_add, pc_sub, pc_mul, pc_mr, pc_ar, pc_dv, pc_lt, pc_le, pc_eq, pc_nat, pc_div, pc_emod, pc_ifz, pc_ifo, pc_zb, pd_1, pd_2, pd_3, pd_4, pd_5, pd_6, pd_7, pd_8, pd_9, pd_10, pd_11, pd_12, pd_13, pd_14, pd_15, pd_16, pd_17, pd_19, pd_21, pd_22, pd_30, pd_34, pd_57, if_neg, naB_1]
theorem oc_nm (w : wS S) (c : Int) : f_J6_bitCount_0f7a4 (nm S c) = some (iI (oc (nm S c))) := by
  have hC := w.C
  apply x_bits
  intro k h1 h2
  rw [bt_nm w (by omega) h2]
  have : ¬ k < S 2 := by omega
  simp [this]
theorem cB_no (w : wS S) {c : Int} (h : cB S c = true) : ∀ k, 0 ≤ k → k < S 2 → hv S k 0 ≠ c := by
  intro k k1 k2 z
  unfold cB at h
  simp only [Bool.and_eq_true, decide_eq_true_iff] at h
  rcases fi_c (fun h => decide (h ≠ -1) && decide (hv S h 0 = c)) (S 2) with ⟨i, a1, a2, a3, a4, a5⟩ | ⟨a4, a5⟩
  · rw [show fi _ _ = hA S c (-1) from rfl] at a4; omega
  · have := a5 k k1 k2
    have q : k ≠ -1 := by omega
    simp [q, z] at this
theorem mS_up {j v : Int} (hs : mS s S) (j1 : 0 ≤ j) : mS (upd s j.toNat (iI v)) (wr1 S j v) := mS_wr hs j1
end
