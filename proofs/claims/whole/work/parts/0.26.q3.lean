def wrF (S : Int → Int) (r : Int) (y : Nat → Int32) (n : Nat) : Nat → Int32 := fol (fun k b => upd b k.toNat (iI (sgO S (S 1 * r + k)))) y n
theorem wr_at {S : Int → Int} {r : Int} {y : Nat → Int32} : ∀ (n : Nat) (k : Int), 0 ≤ k → k < n → wrF S r y n k.toNat = iI (sgO S (S 1 * r + k)) := by
  intro n
  induction n with
  | zero => intro k h1 h2; omega
  | succ n ih =>
    intro k h1 h2
    unfold wrF at ih ⊢
    rw [fol_s]
    show (if k.toNat = ((n : Nat) : Int).toNat then _ else _) = _
    by_cases z : k = n
    · rw [if_pos (by omega), z]
    · rw [if_neg (by omega)]; exact ih k h1 (by omega)
theorem fd_n64 : ∀ a : Fin 33, ∀ b : Fin 17, b.val = 0 ∨ (vf_n64 (FP.ddiv (FP.i2d (iI (a.val : Int))) (FP.i2d (iI (b.val : Int)))) ∧ Op.cmpValue (FP.dcmp (FP.ddiv (FP.i2d (iI (a.val : Int))) (FP.i2d (iI (b.val : Int)))) (FP.ddiv (FP.i2d (iI (a.val : Int))) (FP.i2d (iI (b.val : Int))))) .l = 0) := by
  unfold vf_n64
  decide +kernel
theorem pc_nn64 {α : Type} {v : UInt64} {k : Option α} (h : vf_n64 v) : nn64 v k = k := by unfold nn64; rw [if_pos h]
theorem pc_nn32 {α : Type} {v : UInt32} {k : Option α} (h : vf_n32 v) : nn32 v k = k := by unfold nn32; rw [if_pos h]
section
variable {s : Nat → Int32} {S : Int → Int} {land riv hom dir len let' nOn lOn stp ord wys : Nat → Int32} {th : Int32}
theorem lAt_nm (w : wS S) {c : Int} : lAt S c = -1 ↔ nm S c = iI 0 := by
  rw [nm_0 w]
  constructor
  · intro h k a1 a2
    by_cases z : lOf S k c = -1
    · exact z
    · have := lAt_at w a1 a2 z
      omega
  · intro h; exact lAt_no h
theorem rd_nm (w : wS S) {c : Int} : (nm S c &&& rM S) = iI 0 ↔ rdB S c = false := by
  have hC := w.C
  unfold rdB
  rw [an_false]
  constructor
  · intro h k a1 a2
    have := bt_0 k
    rw [← h, bt_and, bt_nm w a1 (by omega), bt_rM w a1 (by omega), decide_eq_true a2, Bool.true_and, Bool.true_and, Bool.and_comm] at this
    exact this
  · intro h
    apply bt_ext
    intro k a1 a2
    rw [bt_0, bt_and, bt_nm w a1 a2, bt_rM w a1 a2]
    by_cases z : k < S 2
    · have := h k a1 z
      rw [decide_eq_true z, Bool.true_and, Bool.true_and, Bool.and_comm]
      exact this
    · simp [z]
theorem sgO_rg (w : wS S) (c : Int) : 0 ≤ sgO S c ∧ sgO S c ≤ 200 := by
  have hl := lAt_rg w c
  unfold sgO
  split
  · split
    · split
      · split <;> omega
      · split <;> omega
    · omega
  · omega
theorem x_signOf (w : wS S) (hl : aL land S) (hr : aV riv S) (hh : aH 0 hom S) (hn : aN nOn S) (he : aE lOn S) {c : Int} (h1 : 0 ≤ c) (h2 : c < 144) : f_X8_signOf (iI (S 2)) (rM S) lOn nOn land riv hom (iI c) = some (iI (sgO S c)) := by
  have hC := w.C
  have hh' := fi_rg (fun h => decide (h ≠ -1) && decide (hv S h 0 = c)) (S 2)
  rw [show fi _ _ = hA S c (-1) from rfl] at hh'
  have hlr := lAt_rg w c
  have hq := lAt_nm w (c := c)
  have hp := rd_nm w (c := c)
  unfold f_X8_signOf sgO
  simp (disch := omega) only [-Int.reduceToNat, pc_ite, if_true, if_false, pc_bv, pc_lit, pc_neg, pc_add, pc_sub, pc_mul, pc_mr, pc_ar, pc_dv, pc_lt, pc_le, pc_eq, pc_nat, pc_div, pc_emod, pc_ifz, pc_ifo, pc_zb, pd_1, pd_2, pd_3, pd_4, pd_5, pd_6, pd_7, pd_8, pd_9, pd_10, pd_11, pd_12, pd_13, pd_14, pd_15, pd_16, pd_17, pd_19, pd_21, pd_22, pd_30, pd_34, pd_57, x_isLand w hl, x_inCell w hh, x_namesIn hn, x_isRiver w hr, x_letterIn w hn he]
  cases e1 : isL S c
  · rfl
  · by_cases e2 : hA S c (-1) = -1
    · by_cases e3 : nm S c = iI 0
      · simp only [if_true, if_pos e2, if_pos e3, if_pos (hq.mpr e3)]
        cases isV S c <;> rfl
      · have e4 : ¬ lAt S c = -1 := fun z => e3 (hq.mp z)
        simp only [if_true, if_pos e2, if_neg e3, if_neg e4]
        by_cases e5 : (nm S c &&& rM S) = iI 0
        · rw [if_pos e5, hp.mp e5]; rfl
        · have e6 : rdB S c = true := by
            cases e : rdB S c
            · exact absurd (hp.mpr e) e5
            · rfl
          rw [if_neg e5, e6]; rfl
    · simp only [if_true, if_neg e2]
theorem m_isRedIn (hs : mS s S) (w : wS S) {c : Int} (h1 : -1 ≤ c) (h2 : c < 144) : f_X9_isRedIn s (iI c) = some (zB (rdB S c)) := by
  have hC := w.C
  unfold f_X9_isRedIn rdB
  simp only [pc_bv]
  refine pc_b1t (pc_any (fun h => isR S h && decide (lOf S h c ≠ -1)) zB (S 2) (by omega) rfl rfl (fun i a1 a2 => ?_) (fun i a1 a2 => ?_) (fun x => ?_)) (by rw [pc_zb])
  · simp (disch := omega) only [-Int.reduceToNat, pc_ite, if_true, if_false, pc_bv, pc_lit, pc_neg, pc_add, pc_sub, pc_mul, pc_mr, pc_ar, pc_dv, pc_lt, pc_le, pc_eq, pc_nat, pc_div, pc_emod, pc_ifz, pc_ifo, pc_zb, pd_1, pd_2, pd_3, pd_4, pd_5, pd_6, pd_7, pd_8, pd_9, pd_10, pd_11, pd_12, pd_13, pd_14, pd_15, pd_16, pd_17, pd_19, pd_21, pd_22, pd_30, pd_34, pd_57, hs.g, if_neg, Int.reduceEq]
  · have hl := lOf_rg w (c := c) a1 a2
    simp (disch := omega) only [-Int.reduceToNat, pc_ite, if_true, if_false, pc_bv, pc_lit, pc_neg, pc_add, pc_sub, pc_mul, pc_mr, pc_ar, pc_dv, pc_lt, pc_le, pc_eq, pc_nat, pc_div, pc_emod, pc_ifz, pc_ifo, pc_zb, pd_1, pd_2, pd_3, pd_4, pd_5, pd_6, pd_7, pd_8, pd_9, pd_10, pd_11, pd_12, pd_13, pd_14, pd_15, pd_16, pd_17, pd_19, pd_21, pd_22, pd_30, pd_34, pd_57, hs.g, m_isRed hs w, m_letterOf hs w, if_neg]
    by_cases z : lOf S i c = -1 <;> cases isR S i <;> simp [z, zB]
  · simp (disch := omega) only [-Int.reduceToNat, pc_ite, if_true, if_false, pc_bv, pc_lit, pc_neg, pc_add, pc_sub, pc_mul, pc_mr, pc_ar, pc_dv, pc_lt, pc_le, pc_eq, pc_nat, pc_div, pc_emod, pc_ifz, pc_ifo, pc_zb, pd_1, pd_2, pd_3, pd_4, pd_5, pd_6, pd_7, pd_8, pd_9, pd_10, pd_11, pd_12, pd_13, pd_14, pd_15, pd_16, pd_17, pd_19, pd_21, pd_22, pd_30, pd_34, pd_57, hs.g, if_pos]
theorem m_signOf (hs : mS s S) (w : wS S) {c : Int} (h1 : 0 ≤ c) (h2 : c < 144) : f_X9_signOf s (iI c) = some (iI (sgO S c)) := by
  have hC := w.C
  have hh' := fi_rg (fun h => decide (h ≠ -1) && decide (hv S h 0 = c)) (S 2)
  rw [show fi _ _ = hA S c (-1) from rfl] at hh'
  have hlr := lAt_rg w c
  unfold f_X9_signOf sgO
  simp (disch := omega) only [-Int.reduceToNat, pc_ite, if_true, if_false, pc_bv, pc_lit, pc_neg, pc_add, pc_sub, pc_mul, pc_mr, pc_ar, pc_dv, pc_lt, pc_le, pc_eq, pc_nat, pc_div, pc_emod, pc_ifz, pc_ifo, pc_zb, pd_1, pd_2, pd_3, pd_4, pd_5, pd_6, pd_7, pd_8, pd_9, pd_10, pd_11, pd_12, pd_13, pd_14, pd_15, pd_16, pd_17, pd_19, pd_21, pd_22, pd_30, pd_34, pd_57, m_isLand hs w, m_harbourAt hs w, m_letterAt hs w, m_isRedIn hs w, m_isRiver hs w]
  cases e1 : isL S c
  · rfl
  · by_cases e2 : hA S c (-1) = -1
    · by_cases e3 : lAt S c = -1
      · simp only [if_true, if_pos e2, if_pos e3]
        cases isV S c <;> rfl
      · simp only [if_true, if_pos e2, if_neg e3]
        cases rdB S c <;> rfl
    · simp only [if_true, if_neg e2]
theorem x_writeRow (w : wS S) (hl : aL land S) (hr : aV riv S) (hh : aH 0 hom S) (hn : aN nOn S) (he : aE lOn S) {ol : Int32} {y : Nat → Int32} {r : Int} (h1 : 0 ≤ r) (h2 : r < S 0) : f_X8_writeRow ol y (iI (S 0)) (iI (S 1)) (iI (S 2)) (rM S) lOn nOn land riv hom (iI r) = some (iI (S 1), iI (S 1), wrF S r y (S 1).toNat) := by
  have hD := w.D
  have hN := w.N
  unfold f_X8_writeRow wrF
  simp only [pc_bv]
  simp (disch := omega) only [-Int.reduceToNat, pc_ite, if_true, if_false, pc_bv, pc_lit, pc_neg, pc_add, pc_sub, pc_mul, pc_mr, pc_ar, pc_dv, pc_lt, pc_le, pc_eq, pc_nat, pc_div, pc_emod, pc_ifz, pc_ifo, pc_zb, pd_1, pd_2, pd_3, pd_4, pd_5, pd_6, pd_7, pd_8, pd_9, pd_10, pd_11, pd_12, pd_13, pd_14, pd_15, pd_16, pd_17, pd_19, pd_21, pd_22, pd_30, pd_34, pd_57, if_neg, if_pos]
  refine pc_b1t (pc_ff2 0 id (fun k b => upd b k.toNat (iI (sgO S (S 1 * r + k)))) (fun _ _ => True) id (S 1) (by omega) (b0 := y) rfl rfl trivial (fun i b a1 a2 _ => ⟨?_, trivial⟩) (fun b _ => ?_)).1 rfl
  · have hg := g_cell w.1 h1 h2 a1 a2
    have e := Int.mul_comm r (S 1)
    simp (disch := omega) only [-Int.reduceToNat, pc_ite, if_true, if_false, pc_bv, pc_lit, pc_neg, pc_add, pc_sub, pc_mul, pc_mr, pc_ar, pc_dv, pc_lt, pc_le, pc_eq, pc_nat, pc_div, pc_emod, pc_ifz, pc_ifo, pc_zb, pd_1, pd_2, pd_3, pd_4, pd_5, pd_6, pd_7, pd_8, pd_9, pd_10, pd_11, pd_12, pd_13, pd_14, pd_15, pd_16, pd_17, pd_19, pd_21, pd_22, pd_30, pd_34, pd_57, Int.add_zero, e, x_signOf w hl hr hh hn he, if_neg, id]
  · simp (disch := omega) only [-Int.reduceToNat, pc_ite, if_true, if_false, pc_bv, pc_lit, pc_neg, pc_add, pc_sub, pc_mul, pc_mr, pc_ar, pc_dv, pc_lt, pc_le, pc_eq, pc_nat, pc_div, pc_emod, pc_ifz, pc_ifo, pc_zb, pd_1, pd_2, pd_3, pd_4, pd_5, pd_6, pd_7, pd_8, pd_9, pd_10, pd_11, pd_12, pd_13, pd_14, pd_15, pd_16, pd_17, pd_19, pd_21, pd_22, pd_30, pd_34, pd_57, Int.add_zero, if_pos, id]
theorem m_writeRow (hs : mS s S) (w : wS S) {wr : Int32} {y : Nat → Int32} {r : Int} (h1 : 0 ≤ r) (h2 : r < S 0) : f_X9_writeRow th wr y s (iI r) = some (iI (S 1), iI 0, iI (S 1), wrF S r y (S 1).toNat) := by
  have hD := w.D
  have hN := w.N
  have ok : (0 ≤ r ∧ r ≤ S 0 - 1) := by omega
  unfold f_X9_writeRow wrF
  simp only [pc_bv]
  simp (disch := omega) only [-Int.reduceToNat, pc_ite, if_true, if_false, pc_bv, pc_lit, pc_neg, pc_add, pc_sub, pc_mul, pc_mr, pc_ar, pc_dv, pc_lt, pc_le, pc_eq, pc_nat, pc_div, pc_emod, pc_ifz, pc_ifo, pc_zb, pd_1, pd_2, pd_3, pd_4, pd_5, pd_6, pd_7, pd_8, pd_9, pd_10, pd_11, pd_12, pd_13, pd_14, pd_15, pd_16, pd_17, pd_19, pd_21, pd_22, pd_30, pd_34, pd_57, pc_lit64, hs.g, m_isIn, m_passes1, ok, and_self, decide_true]
  have H : ∀ n : Nat, (fol (fun k (b : Int × (Nat → Int32)) => (b.1 + 1, upd b.2 k.toNat (iI (sgO S (S 1 * r + k))))) (0, y) n) = ((n : Int), fol (fun k b => upd b k.toNat (iI (sgO S (S 1 * r + k)))) y n) := by
    intro n
    induction n with
    | zero => rfl
    | succ n ih => rw [fol_s, fol_s, ih]; rfl
  refine pc_b2t (pc_ff3 0 (fun b : Int × (Nat → Int32) => iI b.1) (fun b => b.2) (fun k (b : Int × (Nat → Int32)) => (b.1 + 1, upd b.2 k.toNat (iI (sgO S (S 1 * r + k))))) (fun i b => b.1 = i) (fun b => (iI b.1, b.2)) (S 1) (by omega) (b0 := (0, y)) rfl rfl rfl rfl (fun i b a1 a2 hb => ⟨?_, ?_⟩) (fun b hb => ?_)).1 ?_
  · have hg := g_cell w.1 h1 h2 a1 a2
    simp (disch := omega) only [-Int.reduceToNat, pc_ite, if_true, if_false, pc_bv, pc_lit, pc_neg, pc_add, pc_sub, pc_mul, pc_mr, pc_ar, pc_dv, pc_lt, pc_le, pc_eq, pc_nat, pc_div, pc_emod, pc_ifz, pc_ifo, pc_zb, pd_1, pd_2, pd_3, pd_4, pd_5, pd_6, pd_7, pd_8, pd_9, pd_10, pd_11, pd_12, pd_13, pd_14, pd_15, pd_16, pd_17, pd_19, pd_21, pd_22, pd_30, pd_34, pd_57, Int.add_zero, hs.g, m_signOf hs w, if_neg, hb]
  · show b.1 + 1 = i + 1
    rw [hb]
  · simp (disch := omega) only [-Int.reduceToNat, pc_ite, if_true, if_false, pc_bv, pc_lit, pc_neg, pc_add, pc_sub, pc_mul, pc_mr, pc_ar, pc_dv, pc_lt, pc_le, pc_eq, pc_nat, pc_div, pc_emod, pc_ifz, pc_ifo, pc_zb, pd_1, pd_2, pd_3, pd_4, pd_5, pd_6, pd_7, pd_8, pd_9, pd_10, pd_11, pd_12, pd_13, pd_14, pd_15, pd_16, pd_17, pd_19, pd_21, pd_22, pd_30, pd_34, pd_57, Int.add_zero, hs.g, if_pos]
  · rw [H, show ((S 1).toNat : Int) = S 1 by omega]
theorem m_writeRow' (hs : mS s S) (w : wS S) {wr : Int32} {y : Nat → Int32} {r : Int} (h1 : -2147483648 ≤ r) (h2 : r < 2147483648) (h0 : ¬ (0 ≤ r ∧ r < S 0)) : f_X9_writeRow th wr y s (iI r) = some (iI 0, iI 1, wr, y) := by
  have hD := w.D
  have ok : ¬ (0 ≤ r ∧ r ≤ S 0 - 1) := by omega
  unfold f_X9_writeRow
  simp (disch := omega) only [-Int.reduceToNat, pc_ite, if_true, if_false, pc_bv, pc_lit, pc_neg, pc_add, pc_sub, pc_mul, pc_mr, pc_ar, pc_dv, pc_lt, pc_le, pc_eq, pc_nat, pc_div, pc_emod, pc_ifz, pc_ifo, pc_zb, pd_1, pd_2, pd_3, pd_4, pd_5, pd_6, pd_7, pd_8, pd_9, pd_10, pd_11, pd_12, pd_13, pd_14, pd_15, pd_16, pd_17, pd_19, pd_21, pd_22, pd_30, pd_34, pd_57, pc_lit64, hs.g, m_isIn, m_passes1, ok, decide_false, Bool.false_eq_true]
theorem plN_rg (w : wS S) : 0 ≤ plN S ∧ plN S ≤ 16 := by
  have hC := w.C
  have := su_rg (f := fun k => if isP S (S (536 + k)) then 1 else 0) (n := S 4) (lo := 0) (hi := 1) (by omega) (fun k h1 h2 => by split <;> omega)
  unfold plN
  omega
theorem coN_rg (w : wS S) : 0 ≤ coN S ∧ coN S ≤ 144 := by
  have hN := w.N
  have := su_rg (f := fun k => if nm S k = iI 0 then 0 else 1) (n := S 0 * S 1) (lo := 0) (hi := 1) (by omega) (fun k h1 h2 => by split <;> omega)
  unfold coN
  omega
noncomputable def mtV (S : Int → Int) : UInt64 := if plN S = 0 then FP.dconst0 else FP.ddiv (FP.i2d (iI (tB (dN S) S (S 5)))) (FP.i2d (iI (plN S)))
noncomputable def cvV (S : Int → Int) : UInt32 := if lc S = 0 then FP.fconst0 else FP.fdiv (FP.i2f (iI (coN S))) (FP.i2f (iI (lc S)))
theorem mt_ok (w : wS S) (h : ¬ plN S = 0) : vf_n64 (FP.ddiv (FP.i2d (iI (tB (dN S) S (S 5)))) (FP.i2d (iI (plN S)))) ∧ Op.cmpValue (FP.dcmp (FP.ddiv (FP.i2d (iI (tB (dN S) S (S 5)))) (FP.i2d (iI (plN S)))) (FP.ddiv (FP.i2d (iI (tB (dN S) S (S 5)))) (FP.i2d (iI (plN S))))) .l = 0 := by
  have hC := w.C
  have h1 := tB_rg w (dN_rg w) (t := S 5) (by omega) (by omega)
  have h2 := plN_rg w
  have := fd_n64 ⟨(tB (dN S) S (S 5)).toNat, by omega⟩ ⟨(plN S).toNat, by omega⟩
  simp only [show (((tB (dN S) S (S 5)).toNat : Nat) : Int) = tB (dN S) S (S 5) by omega, show (((plN S).toNat : Nat) : Int) = plN S by omega] at this
  rcases this with e | e
  · omega
  · exact e
theorem cv_ok (w : wS S) (h : ¬ lc S = 0) : vf_n32 (FP.fdiv (FP.i2f (iI (coN S))) (FP.i2f (iI (lc S)))) ∧ vf_n64 (FP.f2d (FP.fdiv (FP.i2f (iI (coN S))) (FP.i2f (iI (lc S))))) := by
  have h1 := coN_rg w
  have h2 := lc_rg w
  have := fd_n32 ⟨(coN S).toNat, by omega⟩ ⟨(lc S).toNat, by omega⟩
  simp only [show (((coN S).toNat : Nat) : Int) = coN S by omega, show (((lc S).toNat : Nat) : Int) = lc S by omega] at this
  rcases this with e | e
  · omega
  · exact e
theorem x_meanTurn (w : wS S) (hd : aH 2 dir S) (hj : aJ stp S) : f_X8_meanTurn (iI (S 2)) (iI (S 4)) (iI (S 5)) dir stp = some (mtV S) := by
  have hC := w.C
  have hp := plN_rg w
  have ho := mt_ok w
  unfold f_X8_meanTurn mtV
  simp only [pc_bv]
  refine pc_b1t (a := iI (plN S)) ?_ ?_
  · unfold plN su
    refine (pc_fold iI (fun i b => b + if isP S (S (536 + i)) = true then 1 else 0) (fun i b => 0 ≤ b ∧ b ≤ i) iI (S 4) (by omega) (b0 := 0) rfl rfl (by omega) (fun i b a1 a2 hb => ?_) (fun b _ => ?_)).1
    · have hV := w.V a1 a2
      have hH := w.H hV.1 hV.2
      simp (disch := omega) only [-Int.reduceToNat, pc_ite, if_true, if_false, pc_bv, pc_lit, pc_neg, pc_add, pc_sub, pc_mul, pc_mr, pc_ar, pc_dv, pc_lt, pc_le, pc_eq, pc_nat, pc_div, pc_emod, pc_ifz, pc_ifo, pc_zb, pd_1, pd_2, pd_3, pd_4, pd_5, pd_6, pd_7, pd_8, pd_9, pd_10, pd_11, pd_12, pd_13, pd_14, pd_15, pd_16, pd_17, pd_19, pd_21, pd_22, pd_30, pd_34, pd_57, x_stopAt w hj, x_directionOf w hd, if_neg]
      unfold isP
      by_cases z : hv S (S (536 + i)) 2 = -1
      · simp [z]; omega
      · simp [z]; omega
    · simp (disch := omega) only [-Int.reduceToNat, pc_ite, if_true, if_false, pc_bv, pc_lit, pc_neg, pc_add, pc_sub, pc_mul, pc_mr, pc_ar, pc_dv, pc_lt, pc_le, pc_eq, pc_nat, pc_div, pc_emod, pc_ifz, pc_ifo, pc_zb, pd_1, pd_2, pd_3, pd_4, pd_5, pd_6, pd_7, pd_8, pd_9, pd_10, pd_11, pd_12, pd_13, pd_14, pd_15, pd_16, pd_17, pd_19, pd_21, pd_22, pd_30, pd_34, pd_57, if_pos]
  · simp (disch := omega) only [-Int.reduceToNat, pc_ite, if_true, if_false, pc_bv, pc_lit, pc_neg, pc_add, pc_sub, pc_mul, pc_mr, pc_ar, pc_dv, pc_lt, pc_le, pc_eq, pc_nat, pc_div, pc_emod, pc_ifz, pc_ifo, pc_zb, pd_1, pd_2, pd_3, pd_4, pd_5, pd_6, pd_7, pd_8, pd_9, pd_10, pd_11, pd_12, pd_13, pd_14, pd_15, pd_16, pd_17, pd_19, pd_21, pd_22, pd_30, pd_34, pd_57, x_turning w hd hj]
    by_cases z : plN S = 0
    · rw [if_pos z, if_pos z]
    · rw [if_neg z, if_neg z, pc_nn64 (ho z).1]
theorem m_meanTurn (hs : mS s S) (w : wS S) : ∃ w', f_X9_meanTurn th s wys = some (mtV S, iI 0, w') := by
  have hC := w.C
  have hp := plN_rg w
  have ho := mt_ok w
  have key : f_X9_meanTurn th s wys = some (mtV S, iI 0, if plN S = 0 then wys else tnW S wys) := by
    unfold f_X9_meanTurn mtV
    simp only [pc_bv]
    refine pc_b1t (a := iI (plN S)) ?_ ?_
    · unfold plN su
      refine (pc_fold iI (fun i b => b + if isP S (S (536 + i)) = true then 1 else 0) (fun i b => 0 ≤ b ∧ b ≤ i) iI (S 4) (by omega) (b0 := 0) rfl rfl (by omega) (fun i b a1 a2 hb => ?_) (fun b _ => ?_)).1
      · have hV := w.V a1 a2
        simp (disch := omega) only [-Int.reduceToNat, pc_ite, if_true, if_false, pc_bv, pc_lit, pc_neg, pc_add, pc_sub, pc_mul, pc_mr, pc_ar, pc_dv, pc_lt, pc_le, pc_eq, pc_nat, pc_div, pc_emod, pc_ifz, pc_ifo, pc_zb, pd_1, pd_2, pd_3, pd_4, pd_5, pd_6, pd_7, pd_8, pd_9, pd_10, pd_11, pd_12, pd_13, pd_14, pd_15, pd_16, pd_17, pd_19, pd_21, pd_22, pd_30, pd_34, pd_57, hs.g, m_isPlaced hs w, if_neg]
        cases isP S (S (536 + i)) <;> simp <;> omega
      · simp (disch := omega) only [-Int.reduceToNat, pc_ite, if_true, if_false, pc_bv, pc_lit, pc_neg, pc_add, pc_sub, pc_mul, pc_mr, pc_ar, pc_dv, pc_lt, pc_le, pc_eq, pc_nat, pc_div, pc_emod, pc_ifz, pc_ifo, pc_zb, pd_1, pd_2, pd_3, pd_4, pd_5, pd_6, pd_7, pd_8, pd_9, pd_10, pd_11, pd_12, pd_13, pd_14, pd_15, pd_16, pd_17, pd_19, pd_21, pd_22, pd_30, pd_34, pd_57, hs.g, if_pos]
    · simp (disch := omega) only [-Int.reduceToNat, pc_ite, if_true, if_false, pc_bv, pc_lit, pc_neg, pc_add, pc_sub, pc_mul, pc_mr, pc_ar, pc_dv, pc_lt, pc_le, pc_eq, pc_nat, pc_div, pc_emod, pc_ifz, pc_ifo, pc_zb, pd_1, pd_2, pd_3, pd_4, pd_5, pd_6, pd_7, pd_8, pd_9, pd_10, pd_11, pd_12, pd_13, pd_14, pd_15, pd_16, pd_17, pd_19, pd_21, pd_22, pd_30, pd_34, pd_57, hs.g, m_turningNow hs w]
      by_cases z : plN S = 0
      · rw [if_pos z, if_pos z, if_pos z]
      · rw [if_neg z, if_neg z, if_neg z, pc_nn64 (ho z).1]
  exact ⟨_, key⟩
theorem x_cover (w : wS S) (hl : aL land S) (hn : aN nOn S) : f_X8_cover (iI (S 0)) (iI (S 1)) nOn land = some (cvV S) := by
  have hN := w.N
  have hlc := lc_rg w
  have ho := cv_ok w
  unfold f_X8_cover cvV
  simp only [pc_bv]
  simp (disch := omega) only [-Int.reduceToNat, pc_ite, if_true, if_false, pc_bv, pc_lit, pc_neg, pc_add, pc_sub, pc_mul, pc_mr, pc_ar, pc_dv, pc_lt, pc_le, pc_eq, pc_nat, pc_div, pc_emod, pc_ifz, pc_ifo, pc_zb, pd_1, pd_2, pd_3, pd_4, pd_5, pd_6, pd_7, pd_8, pd_9, pd_10, pd_11, pd_12, pd_13, pd_14, pd_15, pd_16, pd_17, pd_19, pd_21, pd_22, pd_30, pd_34, pd_57, x_landCells w hl]
  refine pc_b1t (a := iI (coN S)) ?_ ?_
  · unfold coN su
    refine (pc_fold iI (fun i b => b + if nm S i = iI 0 then 0 else 1) (fun i b => 0 ≤ b ∧ b ≤ i) iI (S 0 * S 1) (by omega) (b0 := 0) rfl rfl (by omega) (fun i b a1 a2 hb => ?_) (fun b _ => ?_)).1
    · simp (disch := omega) only [-Int.reduceToNat, pc_ite, if_true, if_false, pc_bv, pc_lit, pc_neg, pc_add, pc_sub, pc_mul, pc_mr, pc_ar, pc_dv, pc_lt, pc_le, pc_eq, pc_nat, pc_div, pc_emod, pc_ifz, pc_ifo, pc_zb, pd_1, pd_2, pd_3, pd_4, pd_5, pd_6, pd_7, pd_8, pd_9, pd_10, pd_11, pd_12, pd_13, pd_14, pd_15, pd_16, pd_17, pd_19, pd_21, pd_22, pd_30, pd_34, pd_57, x_cells, x_namesIn hn, if_neg]
      by_cases z : nm S i = iI 0
      · simp [z]; omega
      · simp [z]; omega
    · simp (disch := omega) only [-Int.reduceToNat, pc_ite, if_true, if_false, pc_bv, pc_lit, pc_neg, pc_add, pc_sub, pc_mul, pc_mr, pc_ar, pc_dv, pc_lt, pc_le, pc_eq, pc_nat, pc_div, pc_emod, pc_ifz, pc_ifo, pc_zb, pd_1, pd_2, pd_3, pd_4, pd_5, pd_6, pd_7, pd_8, pd_9, pd_10, pd_11, pd_12, pd_13, pd_14, pd_15, pd_16, pd_17, pd_19, pd_21, pd_22, pd_30, pd_34, pd_57, x_cells, if_pos]
  · by_cases z : lc S = 0
    · rw [if_pos z, if_pos z]
    · rw [if_neg z, if_neg z, pc_nn32 (ho z).1]
theorem m_cover (hs : mS s S) (w : wS S) : f_X9_cover th s = some (cvV S, iI 0) := by
  have hN := w.N
  have hlc := lc_rg w
  have ho := cv_ok w
  unfold f_X9_cover cvV
  simp only [pc_bv]
  refine pc_b1t (a := iI (coN S)) ?_ ?_
  · unfold coN su
    refine (pc_fold iI (fun i b => b + if nm S i = iI 0 then 0 else 1) (fun i b => 0 ≤ b ∧ b ≤ i) iI (S 0 * S 1) (by omega) (b0 := 0) rfl rfl (by omega) (fun i b a1 a2 hb => ?_) (fun b _ => ?_)).1
    · simp (disch := omega) only [-Int.reduceToNat, pc_ite, if_true, if_false, pc_bv, pc_lit, pc_neg, pc_add, pc_sub, pc_mul, pc_mr, pc_ar, pc_dv, pc_lt, pc_le, pc_eq, pc_nat, pc_div, pc_emod, pc_ifz, pc_ifo, pc_zb, pd_1, pd_2, pd_3, pd_4, pd_5, pd_6, pd_7, pd_8, pd_9, pd_10, pd_11, pd_12, pd_13, pd_14, pd_15, pd_16, pd_17, pd_19, pd_21, pd_22, pd_30, pd_34, pd_57, m_cells hs, m_namesIn hs w, if_neg]
      by_cases z : nm S i = iI 0
      · simp [z]; omega
      · simp [z]; omega
    · simp (disch := omega) only [-Int.reduceToNat, pc_ite, if_true, if_false, pc_bv, pc_lit, pc_neg, pc_add, pc_sub, pc_mul, pc_mr, pc_ar, pc_dv, pc_lt, pc_le, pc_eq, pc_nat, pc_div, pc_emod, pc_ifz, pc_ifo, pc_zb, pd_1, pd_2, pd_3, pd_4, pd_5, pd_6, pd_7, pd_8, pd_9, pd_10, pd_11, pd_12, pd_13, pd_14, pd_15, pd_16, pd_17, pd_19, pd_21, pd_22, pd_30, pd_34, pd_57, m_cells hs, if_pos]
  · simp (disch := omega) only [-Int.reduceToNat, pc_ite, if_true, if_false, pc_bv, pc_lit, pc_neg, pc_add, pc_sub, pc_mul, pc_mr, pc_ar, pc_dv, pc_lt, pc_le, pc_eq, pc_nat, pc_div, pc_emod, pc_ifz, pc_ifo, pc_zb, pd_1, pd_2, pd_3, pd_4, pd_5, pd_6, pd_7, pd_8, pd_9, pd_10, pd_11, pd_12, pd_13, pd_14, pd_15, pd_16, pd_17, pd_19, pd_21, pd_22, pd_30, pd_34, pd_57, m_landCells hs w]
    by_cases z : lc S = 0
    · rw [if_pos z, if_pos z]
    · rw [if_neg z, if_neg z, pc_nn32 (ho z).1]
end
