def wy8 (S : Int → Int) (a : Int) : Int32 := mk (fun v => decide (rsn S a v = 0)) 4
def crN (S : Int → Int) : Int := su (fun h => oc (xs8 S h)) (S 2)
def tnW (S : Int → Int) (wys : Nat → Int32) : Nat → Int32 := fol (fun i b => upd b i.toNat (iI (dN S i))) wys (S 2).toNat
def frN (S : Int → Int) : Int := su (fun k => if cB S k && decide (nm S k = iI 0) then 1 else 0) (S 0 * S 1)
def coN (S : Int → Int) : Int := su (fun k => if nm S k = iI 0 then 0 else 1) (S 0 * S 1)
def plN (S : Int → Int) : Int := su (fun k => if isP S (S (536 + k)) then 1 else 0) (S 4)
def upM (S : Int → Int) (t : Int) : Int32 := mk (fun h => isP S h && decide (upr (hv S h 2) = t)) (S 2)
def hdT (S : Int → Int) (k : Int) (b : Int × Int × Int) : Int × Int × Int := if isP S (S (536 + k)) = true then (if b.2.1 < qd b.2.2 (upr (hv S (S (536 + k)) 2)) then k else b.1, if b.2.1 < qd b.2.2 (upr (hv S (S (536 + k)) 2)) then qd b.2.2 (upr (hv S (S (536 + k)) 2)) else b.2.1, upr (hv S (S (536 + k)) 2)) else b
def hdS (S : Int → Int) : Int × Int × Int := fol (hdT S) (-1, 0, S 5) (S 4).toNat
theorem hdT_0 {S : Int → Int} {k : Int} {b : Int × Int × Int} (e : isP S (S (536 + k)) = false) : hdT S k b = b := by unfold hdT; rw [e, if_neg (by decide)]
theorem hdT_1 {S : Int → Int} {k : Int} {b : Int × Int × Int} (e : isP S (S (536 + k)) = true) (z : b.2.1 < qd b.2.2 (upr (hv S (S (536 + k)) 2))) : (hdT S k b).1 = k ∧ (hdT S k b).2.1 = qd b.2.2 (upr (hv S (S (536 + k)) 2)) ∧ (hdT S k b).2.2 = upr (hv S (S (536 + k)) 2) := by unfold hdT; rw [if_pos e, if_pos z, if_pos z]; exact ⟨rfl, rfl, rfl⟩
theorem hdT_2 {S : Int → Int} {k : Int} {b : Int × Int × Int} (e : isP S (S (536 + k)) = true) (z : ¬ b.2.1 < qd b.2.2 (upr (hv S (S (536 + k)) 2))) : (hdT S k b).1 = b.1 ∧ (hdT S k b).2.1 = b.2.1 ∧ (hdT S k b).2.2 = upr (hv S (S (536 + k)) 2) := by unfold hdT; rw [if_pos e, if_neg z, if_neg z]; exact ⟨rfl, rfl, rfl⟩
def btN (S : Int → Int) : Int := fol (fun k b => if tB (dN S) S (k + 1) < tB (dN S) S b then k + 1 else b) 0 3
def rmN (S : Int → Int) (a v : Int) : Int := if fi (fun k => !cB S (aw S (hv S a 0) v (k + 1))) 11 = -1 then 11 else fi (fun k => !cB S (aw S (hv S a 0) v (k + 1))) 11
def rdB (S : Int → Int) (c : Int) : Bool := an (fun h => isR S h && decide (lOf S h c ≠ -1)) (S 2)
def sgO (S : Int → Int) (c : Int) : Int := if isL S c then (if hA S c (-1) = -1 then (if lAt S c = -1 then (if isV S c then 61 else 46) else if rdB S c then lAt S c - 32 else lAt S c) else 64) else 126
theorem tB_rg {S : Int → Int} (w : wS S) {D : Int → Int} (hD : ∀ h, 0 ≤ h → h < S 2 → -1 ≤ D h ∧ D h < 4) {t : Int} (h1 : 0 ≤ t) (h2 : t < 4) : 0 ≤ tB D S t ∧ tB D S t ≤ 32 := by
  have hC := w.C
  unfold tB tsp
  have := fol_ind (st := fun k (b : Int × Int) => if D (S (536 + k)) = -1 then b else (upr (D (S (536 + k))), b.2 + qd b.1 (upr (D (S (536 + k)))))) (b := (t, 0)) (fun i b => 0 ≤ b.1 ∧ b.1 < 4 ∧ 0 ≤ b.2 ∧ b.2 ≤ 2 * i) ⟨h1, h2, by omega, by omega⟩ (S 4).toNat (fun i b a1 a2 hb => by
    have hu := upr_rg (v := D (S (536 + i)))
    have hq := qd_rg hb.1 hb.2.1 hu.1 hu.2
    by_cases z : D (S (536 + i)) = -1
    · rw [if_pos z]; omega
    · rw [if_neg z]
      exact ⟨hu.1, hu.2, by show 0 ≤ b.2 + qd b.1 _; omega, by show b.2 + qd b.1 _ ≤ _; omega⟩)
  omega
theorem dN_rg {S : Int → Int} (w : wS S) : ∀ h, 0 ≤ h → h < S 2 → -1 ≤ dN S h ∧ dN S h < 4 := by
  intro h h1 h2
  have := w.H h1 h2
  unfold dN
  omega
section
variable {s : Nat → Int32} {S : Int → Int} {land riv hom dir len let' nOn lOn stp ord wys : Nat → Int32} {th : Int32}
theorem rsn_rg (S : Int → Int) (a v : Int) : 0 ≤ rsn S a v ∧ rsn S a v < 9 := by
  have := chR_rg S a v (-1)
  unfold rsn
  split
  · split <;> omega
  · exact this
theorem m_passes (th : Int32) (a b : Bool) : f_X9_passes th (zB a) (zB b) = some (zB (a && b), iI (if a then (if b then 0 else 2) else 1)) := by
  cases a <;> cases b <;> rfl
theorem m_passes1 (th : Int32) (a : Bool) : f_X9_passes th (zB a) (iI 1) = some (zB a, iI (if a then 0 else 1)) := by
  cases a <;> rfl
theorem m_mayH (hs : mS s S) (w : wS S) {a : Int} (h1 : -2147483648 ≤ a) (h2 : a < 2147483648) : f_X9_mayHarbour th s (iI a) = some (zB (decide (0 ≤ a ∧ a ≤ S 2 - 1)), iI (if 0 ≤ a ∧ a ≤ S 2 - 1 then 0 else 1)) := by
  unfold f_X9_mayHarbour
  simp (disch := omega) only [-Int.reduceToNat, pc_ite, if_true, if_false, pc_bv, pc_lit, pc_neg, pc_add, pc_sub, pc_mul, pc_mr, pc_ar, pc_dv, pc_lt, pc_le, pc_eq, pc_nat, pc_div, pc_emod, pc_ifz, pc_ifo, pc_zb, pc_bd1, pc_bd2, pc_bd3, pc_bd4, pc_bd5, pc_bd6, pc_bd7, pc_bd8, pc_bd9, pc_bd10, pc_bd11, pc_bd12, pc_bd13, pc_bd14, pc_bd15, pc_bd16, pc_bd17, pc_bd19, pc_bd21, pc_bd22, pc_bd30, pc_bd34, pc_bd57, m_isHarbour hs w, m_passes1]
  by_cases z : 0 ≤ a ∧ a ≤ S 2 - 1 <;> simp [z]
theorem m_mayC (hs : mS s S) (w : wS S) {a : Int} (h1 : -2147483648 ≤ a) (h2 : a < 2147483648) : f_X9_mayCell th s (iI a) = some (zB (decide (0 ≤ a ∧ a ≤ S 0 * S 1 - 1)), iI (if 0 ≤ a ∧ a ≤ S 0 * S 1 - 1 then 0 else 1)) := by
  unfold f_X9_mayCell
  simp (disch := omega) only [-Int.reduceToNat, pc_ite, if_true, if_false, pc_bv, pc_lit, pc_neg, pc_add, pc_sub, pc_mul, pc_mr, pc_ar, pc_dv, pc_lt, pc_le, pc_eq, pc_nat, pc_div, pc_emod, pc_ifz, pc_ifo, pc_zb, pc_bd1, pc_bd2, pc_bd3, pc_bd4, pc_bd5, pc_bd6, pc_bd7, pc_bd8, pc_bd9, pc_bd10, pc_bd11, pc_bd12, pc_bd13, pc_bd14, pc_bd15, pc_bd16, pc_bd17, pc_bd19, pc_bd21, pc_bd22, pc_bd30, pc_bd34, pc_bd57, m_isCell hs w, m_passes1]
  by_cases z : 0 ≤ a ∧ a ≤ S 0 * S 1 - 1 <;> simp [z]
theorem m_mayR (hs : mS s S) (w : wS S) {a : Int} (h1 : -2147483648 ≤ a) (h2 : a < 2147483648) : f_X9_mayRiver th s (iI a) = some (zB (decide (0 ≤ a ∧ a ≤ S 3 - 1)), iI (if 0 ≤ a ∧ a ≤ S 3 - 1 then 0 else 1)) := by
  have hC := w.C
  unfold f_X9_mayRiver
  simp (disch := omega) only [-Int.reduceToNat, pc_ite, if_true, if_false, pc_bv, pc_lit, pc_neg, pc_add, pc_sub, pc_mul, pc_mr, pc_ar, pc_dv, pc_lt, pc_le, pc_eq, pc_nat, pc_div, pc_emod, pc_ifz, pc_ifo, pc_zb, pc_bd1, pc_bd2, pc_bd3, pc_bd4, pc_bd5, pc_bd6, pc_bd7, pc_bd8, pc_bd9, pc_bd10, pc_bd11, pc_bd12, pc_bd13, pc_bd14, pc_bd15, pc_bd16, pc_bd17, pc_bd19, pc_bd21, pc_bd22, pc_bd30, pc_bd34, pc_bd57, pc_lit64, hs.g, m_isIn, m_passes1]
  by_cases z : 0 ≤ a ∧ a ≤ S 3 - 1 <;> simp [z]
theorem m_mayT {a : Int} (h1 : -2147483648 ≤ a) (h2 : a < 2147483648) : f_X9_mayTurn th (iI a) = some (zB (decide (0 ≤ a ∧ a ≤ 3)), iI (if 0 ≤ a ∧ a ≤ 3 then 0 else 1)) := by
  unfold f_X9_mayTurn
  simp (disch := omega) only [-Int.reduceToNat, pc_ite, if_true, if_false, pc_bv, pc_lit, pc_neg, pc_add, pc_sub, pc_mul, pc_mr, pc_ar, pc_dv, pc_lt, pc_le, pc_eq, pc_nat, pc_div, pc_emod, pc_ifz, pc_ifo, pc_zb, pc_bd1, pc_bd2, pc_bd3, pc_bd4, pc_bd5, pc_bd6, pc_bd7, pc_bd8, pc_bd9, pc_bd10, pc_bd11, pc_bd12, pc_bd13, pc_bd14, pc_bd15, pc_bd16, pc_bd17, pc_bd19, pc_bd21, pc_bd22, pc_bd30, pc_bd34, pc_bd57, pc_lit64, m_isInL, m_passes1]
  by_cases z : 0 ≤ a ∧ a ≤ 3 <;> simp [z]
theorem m_isWay {a : Int} (h1 : -2147483648 ≤ a) (h2 : a < 2147483648) : f_X9_isWay (iI a) = some (zB (decide (0 ≤ a ∧ a ≤ 3))) := by
  unfold f_X9_isWay
  simp (disch := omega) only [-Int.reduceToNat, pc_ite, if_true, if_false, pc_bv, pc_lit, pc_neg, pc_add, pc_sub, pc_mul, pc_mr, pc_ar, pc_dv, pc_lt, pc_le, pc_eq, pc_nat, pc_div, pc_emod, pc_ifz, pc_ifo, pc_zb, pc_bd1, pc_bd2, pc_bd3, pc_bd4, pc_bd5, pc_bd6, pc_bd7, pc_bd8, pc_bd9, pc_bd10, pc_bd11, pc_bd12, pc_bd13, pc_bd14, pc_bd15, pc_bd16, pc_bd17, pc_bd19, pc_bd21, pc_bd22, pc_bd30, pc_bd34, pc_bd57, pc_lit64, m_isInL]
theorem x_turningNow (w : wS S) (hj : aJ stp S) (hd : aH 2 dir S) {t : Int} (h1 : 0 ≤ t) (h2 : t < 4) : f_X6_turningNow (iI (S 4)) dir stp (iI t) = some (iI (tB (dN S) S t)) := by
  unfold f_X6_turningNow
  rw [x_turningBy w hj (D := dN S) (fun h a1 a2 => ⟨hd h a1 a2, dN_rg w h a1 a2⟩) h1 h2]
  rfl
theorem m_turningNow (hs : mS s S) (w : wS S) (wys : Nat → Int32) {t : Int} (h1 : 0 ≤ t) (h2 : t < 4) : f_X9_turningNow s wys (iI t) = some (iI (tB (dN S) S t), tnW S wys) := by
  have hC := w.C
  unfold f_X9_turningNow
  simp only [pc_bv]
  unfold tnW
  refine pc_b1p (pc_ff2 0 id (fun i b => upd b i.toNat (iI (dN S i))) (fun i b => ∀ h, 0 ≤ h → h < i → b h.toNat = iI (dN S h)) id (S 2) (by omega) (b0 := wys) rfl rfl (fun h a1 a2 => by omega) (fun i b a1 a2 hb => ?_) (fun b _ => ?_)) (fun hP => ?_)
  · have hH := w.H a1 a2
    have e0 : i + 0 = i := by omega
    rw [e0, show i + 1 + 0 = i + 1 by omega]
    simp (disch := omega) only [-Int.reduceToNat, pc_ite, if_true, if_false, pc_bv, pc_lit, pc_neg, pc_add, pc_sub, pc_mul, pc_mr, pc_ar, pc_dv, pc_lt, pc_le, pc_eq, pc_nat, pc_div, pc_emod, pc_ifz, pc_ifo, pc_zb, pc_bd1, pc_bd2, pc_bd3, pc_bd4, pc_bd5, pc_bd6, pc_bd7, pc_bd8, pc_bd9, pc_bd10, pc_bd11, pc_bd12, pc_bd13, pc_bd14, pc_bd15, pc_bd16, pc_bd17, pc_bd19, pc_bd21, pc_bd22, pc_bd30, pc_bd34, pc_bd57, hs.g, m_of hs, if_neg, id]
    refine ⟨rfl, fun h b1 b2 => ?_⟩
    unfold upd
    by_cases z : h = i
    · subst z; rw [if_pos rfl]
    · rw [if_neg (by omega)]; exact hb h b1 (by omega)
  · have e0 : S 2 + 0 = S 2 := by omega
    rw [e0]
    simp (disch := omega) only [-Int.reduceToNat, pc_ite, if_true, if_false, pc_bv, pc_lit, pc_neg, pc_add, pc_sub, pc_mul, pc_mr, pc_ar, pc_dv, pc_lt, pc_le, pc_eq, pc_nat, pc_div, pc_emod, pc_ifz, pc_ifo, pc_zb, pc_bd1, pc_bd2, pc_bd3, pc_bd4, pc_bd5, pc_bd6, pc_bd7, pc_bd8, pc_bd9, pc_bd10, pc_bd11, pc_bd12, pc_bd13, pc_bd14, pc_bd15, pc_bd16, pc_bd17, pc_bd19, pc_bd21, pc_bd22, pc_bd30, pc_bd34, pc_bd57, hs.g, if_pos]
  · simp only [id]
    rw [m_turningBy hs w (D := dN S) (fun h a1 a2 => ⟨hP h a1 a2, dN_rg w h a1 a2⟩) h1 h2]
    rfl
theorem x_crossedBy (w : wS S) (hh : aH 0 hom S) (hd : aH 2 dir S) (hl : aH 3 len S) (hn : aN nOn S) {a : Int} (h1 : 0 ≤ a) (h2 : a < S 2) : f_X6_crossedBy (iI (S 0)) (iI (S 1)) (iI (S 2)) nOn dir hom len (iI a) = some (xs8 S a) := by
  have hC := w.C
  have hN := w.N
  have hH := w.H h1 h2
  unfold f_X6_crossedBy
  simp only [pc_bv]
  simp (disch := omega) only [-Int.reduceToNat, pc_ite, if_true, if_false, pc_bv, pc_lit, pc_neg, pc_add, pc_sub, pc_mul, pc_mr, pc_ar, pc_dv, pc_lt, pc_le, pc_eq, pc_nat, pc_div, pc_emod, pc_ifz, pc_ifo, pc_zb, pc_bd1, pc_bd2, pc_bd3, pc_bd4, pc_bd5, pc_bd6, pc_bd7, pc_bd8, pc_bd9, pc_bd10, pc_bd11, pc_bd12, pc_bd13, pc_bd14, pc_bd15, pc_bd16, pc_bd17, pc_bd19, pc_bd21, pc_bd22, pc_bd30, pc_bd34, pc_bd57, x_homeOf w hh, x_directionOf w hd]
  cases e : isP S a
  · have e2 : hv S a 2 = -1 := by unfold isP at e; simpa using e
    refine pc_b1t (pc_run2 (fun _ => iI 0) (fun _ => iI 0) 0 rfl rfl (fun i h => by omega) (r := iI 0) ?_) ?_
    · simp (disch := omega) only [-Int.reduceToNat, pc_ite, if_true, if_false, pc_bv, pc_lit, pc_neg, pc_add, pc_sub, pc_mul, pc_mr, pc_ar, pc_dv, pc_lt, pc_le, pc_eq, pc_nat, pc_div, pc_emod, pc_ifz, pc_ifo, pc_zb, pc_bd1, pc_bd2, pc_bd3, pc_bd4, pc_bd5, pc_bd6, pc_bd7, pc_bd8, pc_bd9, pc_bd10, pc_bd11, pc_bd12, pc_bd13, pc_bd14, pc_bd15, pc_bd16, pc_bd17, pc_bd19, pc_bd21, pc_bd22, pc_bd30, pc_bd34, pc_bd57, x_lengthOf w hl, if_neg, e2]
    · refine congrArg some ?_
      refine Eq.symm (mk_eq (by omega) (fun k k1 k2 => ?_))
      rw [bt_and, bt_0]
      unfold dxB
      rw [e]
      simp
  · have hp := isP_c w h1 h2 e
    refine pc_b1t (pc_fold id (fun i b => b ||| nm S (aw S (hv S a 0) (hv S a 2) (i + 1))) (fun _ _ => True) id (hv S a 3) (by omega) (b0 := iI 0) rfl rfl trivial (fun i b a1 a2 _ => ⟨?_, trivial⟩) (fun b _ => ?_)).1 ?_
    · have hA := g_aw w.1 (hv S a 0) (hv S a 2) (i + 1)
      simp (disch := omega) only [-Int.reduceToNat, pc_ite, if_true, if_false, pc_bv, pc_lit, pc_neg, pc_add, pc_sub, pc_mul, pc_mr, pc_ar, pc_dv, pc_lt, pc_le, pc_eq, pc_nat, pc_div, pc_emod, pc_ifz, pc_ifo, pc_zb, pc_bd1, pc_bd2, pc_bd3, pc_bd4, pc_bd5, pc_bd6, pc_bd7, pc_bd8, pc_bd9, pc_bd10, pc_bd11, pc_bd12, pc_bd13, pc_bd14, pc_bd15, pc_bd16, pc_bd17, pc_bd19, pc_bd21, pc_bd22, pc_bd30, pc_bd34, pc_bd57, x_lengthOf w hl, if_neg, x_ahead w, x_namesIn' hn, id]
    · simp (disch := omega) only [-Int.reduceToNat, pc_ite, if_true, if_false, pc_bv, pc_lit, pc_neg, pc_add, pc_sub, pc_mul, pc_mr, pc_ar, pc_dv, pc_lt, pc_le, pc_eq, pc_nat, pc_div, pc_emod, pc_ifz, pc_ifo, pc_zb, pc_bd1, pc_bd2, pc_bd3, pc_bd4, pc_bd5, pc_bd6, pc_bd7, pc_bd8, pc_bd9, pc_bd10, pc_bd11, pc_bd12, pc_bd13, pc_bd14, pc_bd15, pc_bd16, pc_bd17, pc_bd19, pc_bd21, pc_bd22, pc_bd30, pc_bd34, pc_bd57, x_lengthOf w hl, if_pos]
    · refine congrArg some ?_
      refine Eq.symm (mk_eq (by omega) (fun k k1 k2 => ?_))
      simp (disch := omega) only [pc_lit, pc_neg, pc_sB]
      rw [bt_and, bt_nB h1 (by omega) k1 k2]
      rw [show fol (fun i b => b ||| nm S (aw S (hv S a 0) (hv S a 2) (i + 1))) (iI 0) (hv S a 3).toNat = orF (fun i => nm S (aw S (hv S a 0) (hv S a 2) (i + 1))) (hv S a 3) from rfl, id, bt_orF]
      unfold dxB
      rw [e]
      apply Bool.eq_iff_iff.mpr
      simp only [Bool.and_eq_true, an_iff, bt_nm w k1 k2, decide_eq_true_iff, Bool.not_eq_true', decide_eq_false_iff_not, Bool.true_and]
      constructor
      · rintro ⟨⟨i, i1, i2, i3, i4⟩, q⟩
        exact ⟨i3, fun z => q z.symm, i, i1, i2, i4⟩
      · rintro ⟨q1, q2, i, i1, i2, i4⟩
        exact ⟨⟨i, i1, i2, q1, i4⟩, fun z => q2 z.symm⟩
theorem xs8_hi (w : wS S) {a : Int} : ∀ k, 8 ≤ k → k < 32 → bt (xs8 S a) k = false := by
  have hC := w.C
  intro k k1 k2
  unfold xs8
  rw [bt_mk (by omega) (by omega) k2]
  have : ¬ k < S 2 := by omega
  simp [this]
theorem oc_rg (m : Int32) : 0 ≤ oc m ∧ oc m ≤ 8 := by
  have := su_rg (f := fun k => if bt m k then 1 else 0) (n := 8) (lo := 0) (hi := 1) (by omega) (fun k _ _ => by show (0 : Int) ≤ (if bt m k then 1 else 0) ∧ (if bt m k then (1 : Int) else 0) ≤ 1; split <;> omega)
  unfold oc
  omega
theorem x_crossings (w : wS S) (hh : aH 0 hom S) (hd : aH 2 dir S) (hl : aH 3 len S) (hn : aN nOn S) : f_X8_crossings (iI (S 0)) (iI (S 1)) (iI (S 2)) nOn dir hom len = some (iI (crN S / 2)) := by
  have hC := w.C
  unfold f_X8_crossings crN su
  simp only [pc_bv]
  refine pc_b1p (pc_fold iI (fun i b => b + oc (xs8 S i)) (fun i b => 0 ≤ b ∧ b ≤ 8 * i) iI (S 2) (by omega) (b0 := 0) rfl rfl (by omega) (fun i b a1 a2 hb => ?_) (fun b _ => ?_)) (fun hP => ?_)
  · have ho := oc_rg (xs8 S i)
    simp (disch := omega) only [-Int.reduceToNat, pc_ite, if_true, if_false, pc_bv, pc_lit, pc_neg, pc_add, pc_sub, pc_mul, pc_mr, pc_ar, pc_dv, pc_lt, pc_le, pc_eq, pc_nat, pc_div, pc_emod, pc_ifz, pc_ifo, pc_zb, pc_bd1, pc_bd2, pc_bd3, pc_bd4, pc_bd5, pc_bd6, pc_bd7, pc_bd8, pc_bd9, pc_bd10, pc_bd11, pc_bd12, pc_bd13, pc_bd14, pc_bd15, pc_bd16, pc_bd17, pc_bd19, pc_bd21, pc_bd22, pc_bd30, pc_bd34, pc_bd57, x_crossedBy w hh hd hl hn, x_bits (xs8_hi w), if_neg]
    exact ⟨trivial, by omega⟩
  · simp (disch := omega) only [-Int.reduceToNat, pc_ite, if_true, if_false, pc_bv, pc_lit, pc_neg, pc_add, pc_sub, pc_mul, pc_mr, pc_ar, pc_dv, pc_lt, pc_le, pc_eq, pc_nat, pc_div, pc_emod, pc_ifz, pc_ifo, pc_zb, pc_bd1, pc_bd2, pc_bd3, pc_bd4, pc_bd5, pc_bd6, pc_bd7, pc_bd8, pc_bd9, pc_bd10, pc_bd11, pc_bd12, pc_bd13, pc_bd14, pc_bd15, pc_bd16, pc_bd17, pc_bd19, pc_bd21, pc_bd22, pc_bd30, pc_bd34, pc_bd57, if_pos]
  · simp (disch := omega) only [-Int.reduceToNat, pc_ite, if_true, if_false, pc_bv, pc_lit, pc_neg, pc_add, pc_sub, pc_mul, pc_mr, pc_ar, pc_dv, pc_lt, pc_le, pc_eq, pc_nat, pc_div, pc_emod, pc_ifz, pc_ifo, pc_zb, pc_bd1, pc_bd2, pc_bd3, pc_bd4, pc_bd5, pc_bd6, pc_bd7, pc_bd8, pc_bd9, pc_bd10, pc_bd11, pc_bd12, pc_bd13, pc_bd14, pc_bd15, pc_bd16, pc_bd17, pc_bd19, pc_bd21, pc_bd22, pc_bd30, pc_bd34, pc_bd57]
theorem m_crossings (hs : mS s S) (w : wS S) : f_X9_crossings th s = some (iI (crN S / 2), iI 0) := by
  have hC := w.C
  unfold f_X9_crossings crN su
  simp only [pc_bv]
  refine pc_b1p (pc_fold iI (fun i b => b + oc (xs8 S i)) (fun i b => 0 ≤ b ∧ b ≤ 8 * i) iI (S 2) (by omega) (b0 := 0) rfl rfl (by omega) (fun i b a1 a2 hb => ?_) (fun b _ => ?_)) (fun hP => ?_)
  · have ho := oc_rg (xs8 S i)
    simp (disch := omega) only [-Int.reduceToNat, pc_ite, if_true, if_false, pc_bv, pc_lit, pc_neg, pc_add, pc_sub, pc_mul, pc_mr, pc_ar, pc_dv, pc_lt, pc_le, pc_eq, pc_nat, pc_div, pc_emod, pc_ifz, pc_ifo, pc_zb, pc_bd1, pc_bd2, pc_bd3, pc_bd4, pc_bd5, pc_bd6, pc_bd7, pc_bd8, pc_bd9, pc_bd10, pc_bd11, pc_bd12, pc_bd13, pc_bd14, pc_bd15, pc_bd16, pc_bd17, pc_bd19, pc_bd21, pc_bd22, pc_bd30, pc_bd34, pc_bd57, hs.g, m_crossedBy hs w, m_ones, if_neg]
    exact ⟨trivial, by omega⟩
  · simp (disch := omega) only [-Int.reduceToNat, pc_ite, if_true, if_false, pc_bv, pc_lit, pc_neg, pc_add, pc_sub, pc_mul, pc_mr, pc_ar, pc_dv, pc_lt, pc_le, pc_eq, pc_nat, pc_div, pc_emod, pc_ifz, pc_ifo, pc_zb, pc_bd1, pc_bd2, pc_bd3, pc_bd4, pc_bd5, pc_bd6, pc_bd7, pc_bd8, pc_bd9, pc_bd10, pc_bd11, pc_bd12, pc_bd13, pc_bd14, pc_bd15, pc_bd16, pc_bd17, pc_bd19, pc_bd21, pc_bd22, pc_bd30, pc_bd34, pc_bd57, hs.g, if_pos]
  · simp (disch := omega) only [-Int.reduceToNat, pc_ite, if_true, if_false, pc_bv, pc_lit, pc_neg, pc_add, pc_sub, pc_mul, pc_mr, pc_ar, pc_dv, pc_lt, pc_le, pc_eq, pc_nat, pc_div, pc_emod, pc_ifz, pc_ifo, pc_zb, pc_bd1, pc_bd2, pc_bd3, pc_bd4, pc_bd5, pc_bd6, pc_bd7, pc_bd8, pc_bd9, pc_bd10, pc_bd11, pc_bd12, pc_bd13, pc_bd14, pc_bd15, pc_bd16, pc_bd17, pc_bd19, pc_bd21, pc_bd22, pc_bd30, pc_bd34, pc_bd57]
theorem x_free (w : wS S) (hl : aL land S) (hr : aV riv S) (hh : aH 0 hom S) (hn : aN nOn S) : f_X8_free (iI (S 0)) (iI (S 1)) (iI (S 2)) nOn land riv hom = some (iI (frN S)) := by
  have hN := w.N
  unfold f_X8_free frN su
  simp only [pc_bv]
  simp (disch := omega) only [-Int.reduceToNat, pc_ite, if_true, if_false, pc_bv, pc_lit, pc_neg, pc_add, pc_sub, pc_mul, pc_mr, pc_ar, pc_dv, pc_lt, pc_le, pc_eq, pc_nat, pc_div, pc_emod, pc_ifz, pc_ifo, pc_zb, pc_bd1, pc_bd2, pc_bd3, pc_bd4, pc_bd5, pc_bd6, pc_bd7, pc_bd8, pc_bd9, pc_bd10, pc_bd11, pc_bd12, pc_bd13, pc_bd14, pc_bd15, pc_bd16, pc_bd17, pc_bd19, pc_bd21, pc_bd22, pc_bd30, pc_bd34, pc_bd57, x_cells]
  refine pc_b1t (pc_fold iI (fun k b => b + if cB S k && decide (nm S k = iI 0) then 1 else 0) (fun i b => 0 ≤ b ∧ b ≤ i) iI (S 0 * S 1) (by omega) (b0 := 0) rfl rfl (by omega) (fun i b a1 a2 hb => ?_) (fun b _ => ?_)).1 rfl
  · simp (disch := omega) only [-Int.reduceToNat, pc_ite, if_true, if_false, pc_bv, pc_lit, pc_neg, pc_add, pc_sub, pc_mul, pc_mr, pc_ar, pc_dv, pc_lt, pc_le, pc_eq, pc_nat, pc_div, pc_emod, pc_ifz, pc_ifo, pc_zb, pc_bd1, pc_bd2, pc_bd3, pc_bd4, pc_bd5, pc_bd6, pc_bd7, pc_bd8, pc_bd9, pc_bd10, pc_bd11, pc_bd12, pc_bd13, pc_bd14, pc_bd15, pc_bd16, pc_bd17, pc_bd19, pc_bd21, pc_bd22, pc_bd30, pc_bd34, pc_bd57, x_isOpen w hl hr hh, x_namesIn hn, if_neg]
    cases cB S i
    · simp; omega
    · by_cases z : nm S i = iI 0
      · simp [z]; omega
      · simp [z]; omega
  · simp (disch := omega) only [-Int.reduceToNat, pc_ite, if_true, if_false, pc_bv, pc_lit, pc_neg, pc_add, pc_sub, pc_mul, pc_mr, pc_ar, pc_dv, pc_lt, pc_le, pc_eq, pc_nat, pc_div, pc_emod, pc_ifz, pc_ifo, pc_zb, pc_bd1, pc_bd2, pc_bd3, pc_bd4, pc_bd5, pc_bd6, pc_bd7, pc_bd8, pc_bd9, pc_bd10, pc_bd11, pc_bd12, pc_bd13, pc_bd14, pc_bd15, pc_bd16, pc_bd17, pc_bd19, pc_bd21, pc_bd22, pc_bd30, pc_bd34, pc_bd57, if_pos]
theorem m_free (hs : mS s S) (w : wS S) : f_X9_free th s = some (iI (frN S), iI 0) := by
  have hN := w.N
  unfold f_X9_free frN su
  simp only [pc_bv]
  refine pc_b1t (pc_fold iI (fun k b => b + if cB S k && decide (nm S k = iI 0) then 1 else 0) (fun i b => 0 ≤ b ∧ b ≤ i) iI (S 0 * S 1) (by omega) (b0 := 0) rfl rfl (by omega) (fun i b a1 a2 hb => ?_) (fun b _ => ?_)).1 rfl
  · simp (disch := omega) only [-Int.reduceToNat, pc_ite, if_true, if_false, pc_bv, pc_lit, pc_neg, pc_add, pc_sub, pc_mul, pc_mr, pc_ar, pc_dv, pc_lt, pc_le, pc_eq, pc_nat, pc_div, pc_emod, pc_ifz, pc_ifo, pc_zb, pc_bd1, pc_bd2, pc_bd3, pc_bd4, pc_bd5, pc_bd6, pc_bd7, pc_bd8, pc_bd9, pc_bd10, pc_bd11, pc_bd12, pc_bd13, pc_bd14, pc_bd15, pc_bd16, pc_bd17, pc_bd19, pc_bd21, pc_bd22, pc_bd30, pc_bd34, pc_bd57, m_cells hs, m_canBegin hs w, m_namesIn hs w, if_neg]
    cases cB S i
    · simp; omega
    · by_cases z : nm S i = iI 0
      · simp [z]; omega
      · simp [z]; omega
  · simp (disch := omega) only [-Int.reduceToNat, pc_ite, if_true, if_false, pc_bv, pc_lit, pc_neg, pc_add, pc_sub, pc_mul, pc_mr, pc_ar, pc_dv, pc_lt, pc_le, pc_eq, pc_nat, pc_div, pc_emod, pc_ifz, pc_ifo, pc_zb, pc_bd1, pc_bd2, pc_bd3, pc_bd4, pc_bd5, pc_bd6, pc_bd7, pc_bd8, pc_bd9, pc_bd10, pc_bd11, pc_bd12, pc_bd13, pc_bd14, pc_bd15, pc_bd16, pc_bd17, pc_bd19, pc_bd21, pc_bd22, pc_bd30, pc_bd34, pc_bd57, m_cells hs, if_pos]
theorem x_ways (w : wS S) (hl : aL land S) (hr : aV riv S) (hh : aH 0 hom S) (hn : aH 3 len S) (ht : aT let' S) (hN' : aN nOn S) (he : aE lOn S) {a : Int} (h1 : 0 ≤ a) (h2 : a < S 2) : f_X8_ways (iI (S 0)) (iI (S 1)) (iI (S 2)) (rM S) lOn nOn land riv hom len let' (iI a) = some (wy8 S a) := by
  have hC := w.C
  unfold f_X8_ways f_X8_needHarbour
  simp only [pc_bv]
  simp (disch := omega) only [-Int.reduceToNat, pc_ite, if_true, if_false, pc_bv, pc_lit, pc_neg, pc_add, pc_sub, pc_mul, pc_mr, pc_ar, pc_dv, pc_lt, pc_le, pc_eq, pc_nat, pc_div, pc_emod, pc_ifz, pc_ifo, pc_zb, pc_bd1, pc_bd2, pc_bd3, pc_bd4, pc_bd5, pc_bd6, pc_bd7, pc_bd8, pc_bd9, pc_bd10, pc_bd11, pc_bd12, pc_bd13, pc_bd14, pc_bd15, pc_bd16, pc_bd17, pc_bd19, pc_bd21, pc_bd22, pc_bd30, pc_bd34, pc_bd57, if_neg, if_pos]
  refine pc_b1t (pc_fold id (fun v b => if decide (rsn S a v = 0) = true then b ||| sB v else b) (fun _ _ => True) id 4 (by omega) (b0 := iI 0) rfl rfl trivial (fun i b a1 a2 _ => ⟨?_, trivial⟩) (fun b _ => ?_)).1 rfl
  · have hq := rsn_rg S a i
    simp (disch := omega) only [-Int.reduceToNat, pc_ite, if_true, if_false, pc_bv, pc_lit, pc_neg, pc_add, pc_sub, pc_mul, pc_mr, pc_ar, pc_dv, pc_lt, pc_le, pc_eq, pc_nat, pc_div, pc_emod, pc_ifz, pc_ifo, pc_zb, pc_bd1, pc_bd2, pc_bd3, pc_bd4, pc_bd5, pc_bd6, pc_bd7, pc_bd8, pc_bd9, pc_bd10, pc_bd11, pc_bd12, pc_bd13, pc_bd14, pc_bd15, pc_bd16, pc_bd17, pc_bd19, pc_bd21, pc_bd22, pc_bd30, pc_bd34, pc_bd57, x_reason w hl hr hh hn ht hN' he, if_neg, pc_sB, id]
    by_cases z : rsn S a i = 0 <;> simp [z]
  · simp (disch := omega) only [-Int.reduceToNat, pc_ite, if_true, if_false, pc_bv, pc_lit, pc_neg, pc_add, pc_sub, pc_mul, pc_mr, pc_ar, pc_dv, pc_lt, pc_le, pc_eq, pc_nat, pc_div, pc_emod, pc_ifz, pc_ifo, pc_zb, pc_bd1, pc_bd2, pc_bd3, pc_bd4, pc_bd5, pc_bd6, pc_bd7, pc_bd8, pc_bd9, pc_bd10, pc_bd11, pc_bd12, pc_bd13, pc_bd14, pc_bd15, pc_bd16, pc_bd17, pc_bd19, pc_bd21, pc_bd22, pc_bd30, pc_bd34, pc_bd57, if_pos]
theorem m_ways (hs : mS s S) (w : wS S) {a : Int} (h1 : 0 ≤ a) (h2 : a < S 2) : f_X9_ways th s (iI a) = some (wy8 S a, iI 0) := by
  have hC := w.C
  unfold f_X9_ways
  simp only [pc_bv]
  simp (disch := omega) only [-Int.reduceToNat, pc_ite, if_true, if_false, pc_bv, pc_lit, pc_neg, pc_add, pc_sub, pc_mul, pc_mr, pc_ar, pc_dv, pc_lt, pc_le, pc_eq, pc_nat, pc_div, pc_emod, pc_ifz, pc_ifo, pc_zb, pc_bd1, pc_bd2, pc_bd3, pc_bd4, pc_bd5, pc_bd6, pc_bd7, pc_bd8, pc_bd9, pc_bd10, pc_bd11, pc_bd12, pc_bd13, pc_bd14, pc_bd15, pc_bd16, pc_bd17, pc_bd19, pc_bd21, pc_bd22, pc_bd30, pc_bd34, pc_bd57, decide_eq_true_eq, m_mayH hs w, if_neg, if_pos]
  refine pc_b1t (pc_fold id (fun v b => if decide (rsn S a v = 0) = true then b ||| sB v else b) (fun _ _ => True) id 4 (by omega) (b0 := iI 0) rfl rfl trivial (fun i b a1 a2 _ => ⟨?_, trivial⟩) (fun b _ => ?_)).1 rfl
  · have hq := rsn_rg S a i
    simp (disch := omega) only [-Int.reduceToNat, pc_ite, if_true, if_false, pc_bv, pc_lit, pc_neg, pc_add, pc_sub, pc_mul, pc_mr, pc_ar, pc_dv, pc_lt, pc_le, pc_eq, pc_nat, pc_div, pc_emod, pc_ifz, pc_ifo, pc_zb, pc_bd1, pc_bd2, pc_bd3, pc_bd4, pc_bd5, pc_bd6, pc_bd7, pc_bd8, pc_bd9, pc_bd10, pc_bd11, pc_bd12, pc_bd13, pc_bd14, pc_bd15, pc_bd16, pc_bd17, pc_bd19, pc_bd21, pc_bd22, pc_bd30, pc_bd34, pc_bd57, m_reason hs w, if_neg, pc_sB, pc_or0, id]
    by_cases z : rsn S a i = 0 <;> simp [z]
  · simp (disch := omega) only [-Int.reduceToNat, pc_ite, if_true, if_false, pc_bv, pc_lit, pc_neg, pc_add, pc_sub, pc_mul, pc_mr, pc_ar, pc_dv, pc_lt, pc_le, pc_eq, pc_nat, pc_div, pc_emod, pc_ifz, pc_ifo, pc_zb, pc_bd1, pc_bd2, pc_bd3, pc_bd4, pc_bd5, pc_bd6, pc_bd7, pc_bd8, pc_bd9, pc_bd10, pc_bd11, pc_bd12, pc_bd13, pc_bd14, pc_bd15, pc_bd16, pc_bd17, pc_bd19, pc_bd21, pc_bd22, pc_bd30, pc_bd34, pc_bd57, if_pos]
theorem x_upr8 (w : wS S) (hd : aH 2 dir S) {t : Int} (h1 : 0 ≤ t) (h2 : t < 4) : f_X8_upright (iI (S 2)) dir (iI t) = some (upM S t) := by
  have hC := w.C
  unfold f_X8_upright f_X8_needTurn
  simp only [pc_bv]
  simp (disch := omega) only [-Int.reduceToNat, pc_ite, if_true, if_false, pc_bv, pc_lit, pc_neg, pc_add, pc_sub, pc_mul, pc_mr, pc_ar, pc_dv, pc_lt, pc_le, pc_eq, pc_nat, pc_div, pc_emod, pc_ifz, pc_ifo, pc_zb, pc_bd1, pc_bd2, pc_bd3, pc_bd4, pc_bd5, pc_bd6, pc_bd7, pc_bd8, pc_bd9, pc_bd10, pc_bd11, pc_bd12, pc_bd13, pc_bd14, pc_bd15, pc_bd16, pc_bd17, pc_bd19, pc_bd21, pc_bd22, pc_bd30, pc_bd34, pc_bd57, if_neg, if_pos]
  refine pc_b1t (pc_fold id (fun h b => if (isP S h && decide (upr (hv S h 2) = t)) = true then b ||| sB h else b) (fun _ _ => True) id (S 2) (by omega) (b0 := iI 0) rfl rfl trivial (fun i b a1 a2 _ => ⟨?_, trivial⟩) (fun b _ => ?_)).1 rfl
  · have hH := w.H a1 a2
    have hu := upr_rg (v := hv S i 2)
    simp (disch := omega) only [-Int.reduceToNat, pc_ite, if_true, if_false, pc_bv, pc_lit, pc_neg, pc_add, pc_sub, pc_mul, pc_mr, pc_ar, pc_dv, pc_lt, pc_le, pc_eq, pc_nat, pc_div, pc_emod, pc_ifz, pc_ifo, pc_zb, pc_bd1, pc_bd2, pc_bd3, pc_bd4, pc_bd5, pc_bd6, pc_bd7, pc_bd8, pc_bd9, pc_bd10, pc_bd11, pc_bd12, pc_bd13, pc_bd14, pc_bd15, pc_bd16, pc_bd17, pc_bd19, pc_bd21, pc_bd22, pc_bd30, pc_bd34, pc_bd57, x_directionOf w hd, if_neg, pc_sB, id]
    cases e : isP S i
    · have e2 : hv S i 2 = -1 := by unfold isP at e; simpa using e
      simp [e2]
    · have hp := isP_c w a1 a2 e
      simp (disch := omega) only [-Int.reduceToNat, pc_ite, if_true, if_false, pc_bv, pc_lit, pc_neg, pc_add, pc_sub, pc_mul, pc_mr, pc_ar, pc_dv, pc_lt, pc_le, pc_eq, pc_nat, pc_div, pc_emod, pc_ifz, pc_ifo, pc_zb, pc_bd1, pc_bd2, pc_bd3, pc_bd4, pc_bd5, pc_bd6, pc_bd7, pc_bd8, pc_bd9, pc_bd10, pc_bd11, pc_bd12, pc_bd13, pc_bd14, pc_bd15, pc_bd16, pc_bd17, pc_bd19, pc_bd21, pc_bd22, pc_bd30, pc_bd34, pc_bd57, if_neg, x_upright]
      by_cases z : upr (hv S i 2) = t <;> simp [z]
  · simp (disch := omega) only [-Int.reduceToNat, pc_ite, if_true, if_false, pc_bv, pc_lit, pc_neg, pc_add, pc_sub, pc_mul, pc_mr, pc_ar, pc_dv, pc_lt, pc_le, pc_eq, pc_nat, pc_div, pc_emod, pc_ifz, pc_ifo, pc_zb, pc_bd1, pc_bd2, pc_bd3, pc_bd4, pc_bd5, pc_bd6, pc_bd7, pc_bd8, pc_bd9, pc_bd10, pc_bd11, pc_bd12, pc_bd13, pc_bd14, pc_bd15, pc_bd16, pc_bd17, pc_bd19, pc_bd21, pc_bd22, pc_bd30, pc_bd34, pc_bd57, if_pos]
theorem m_upr8 (hs : mS s S) (w : wS S) {t : Int} (h1 : 0 ≤ t) (h2 : t < 4) : f_X9_upright th s (iI t) = some (upM S t, iI 0) := by
  have hC := w.C
  unfold f_X9_upright
  simp only [pc_bv]
  simp (disch := omega) only [-Int.reduceToNat, pc_ite, if_true, if_false, pc_bv, pc_lit, pc_neg, pc_add, pc_sub, pc_mul, pc_mr, pc_ar, pc_dv, pc_lt, pc_le, pc_eq, pc_nat, pc_div, pc_emod, pc_ifz, pc_ifo, pc_zb, pc_bd1, pc_bd2, pc_bd3, pc_bd4, pc_bd5, pc_bd6, pc_bd7, pc_bd8, pc_bd9, pc_bd10, pc_bd11, pc_bd12, pc_bd13, pc_bd14, pc_bd15, pc_bd16, pc_bd17, pc_bd19, pc_bd21, pc_bd22, pc_bd30, pc_bd34, pc_bd57, decide_eq_true_eq, m_mayT, if_neg, if_pos]
  refine pc_b1t (pc_fold id (fun h b => if (isP S h && decide (upr (hv S h 2) = t)) = true then b ||| sB h else b) (fun _ _ => True) id (S 2) (by omega) (b0 := iI 0) rfl rfl trivial (fun i b a1 a2 _ => ⟨?_, trivial⟩) (fun b _ => ?_)).1 rfl
  · have hH := w.H a1 a2
    have hu := upr_rg (v := hv S i 2)
    simp (disch := omega) only [-Int.reduceToNat, pc_ite, if_true, if_false, pc_bv, pc_lit, pc_neg, pc_add, pc_sub, pc_mul, pc_mr, pc_ar, pc_dv, pc_lt, pc_le, pc_eq, pc_nat, pc_div, pc_emod, pc_ifz, pc_ifo, pc_zb, pc_bd1, pc_bd2, pc_bd3, pc_bd4, pc_bd5, pc_bd6, pc_bd7, pc_bd8, pc_bd9, pc_bd10, pc_bd11, pc_bd12, pc_bd13, pc_bd14, pc_bd15, pc_bd16, pc_bd17, pc_bd19, pc_bd21, pc_bd22, pc_bd30, pc_bd34, pc_bd57, hs.g, m_isPlaced hs w, if_neg, pc_sB, pc_or0, id]
    cases e : isP S i
    · simp
    · have hp := isP_c w a1 a2 e
      simp (disch := omega) only [-Int.reduceToNat, pc_ite, if_true, if_false, pc_bv, pc_lit, pc_neg, pc_add, pc_sub, pc_mul, pc_mr, pc_ar, pc_dv, pc_lt, pc_le, pc_eq, pc_nat, pc_div, pc_emod, pc_ifz, pc_ifo, pc_zb, pc_bd1, pc_bd2, pc_bd3, pc_bd4, pc_bd5, pc_bd6, pc_bd7, pc_bd8, pc_bd9, pc_bd10, pc_bd11, pc_bd12, pc_bd13, pc_bd14, pc_bd15, pc_bd16, pc_bd17, pc_bd19, pc_bd21, pc_bd22, pc_bd30, pc_bd34, pc_bd57, m_of hs, if_neg, m_uprightBy]
      by_cases z : upr (hv S i 2) = t <;> simp [z]
  · simp (disch := omega) only [-Int.reduceToNat, pc_ite, if_true, if_false, pc_bv, pc_lit, pc_neg, pc_add, pc_sub, pc_mul, pc_mr, pc_ar, pc_dv, pc_lt, pc_le, pc_eq, pc_nat, pc_div, pc_emod, pc_ifz, pc_ifo, pc_zb, pc_bd1, pc_bd2, pc_bd3, pc_bd4, pc_bd5, pc_bd6, pc_bd7, pc_bd8, pc_bd9, pc_bd10, pc_bd11, pc_bd12, pc_bd13, pc_bd14, pc_bd15, pc_bd16, pc_bd17, pc_bd19, pc_bd21, pc_bd22, pc_bd30, pc_bd34, pc_bd57, hs.g, if_pos]
end
