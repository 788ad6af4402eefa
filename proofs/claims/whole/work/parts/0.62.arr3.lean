theorem pc_e1g {α γ δ : Type} {F : δ → γ} {o : Option α} {Q : α → Prop} {k : α → Option γ} {R : δ → Prop} (h : ∃ r, o = some r ∧ Q r) (e : ∀ a, Q a → ∃ b, k a = some (F b) ∧ R b) : ∃ b, bd1 o k = some (F b) ∧ R b := by
  obtain ⟨a, h1, h2⟩ := h
  obtain ⟨b, h3, h4⟩ := e a h2
  exact ⟨b, pc_b1t h1 h3, h4⟩
theorem pc_e5g {α0 α1 α2 α3 α4 γ δ : Type} {F : δ → γ} {o : Option (α0 × α1 × α2 × α3 × α4)} {Q : α0 × α1 × α2 × α3 × α4 → Prop} {k : α0 → α1 → α2 → α3 → α4 → Option γ} {R : δ → Prop} (h : ∃ r, o = some r ∧ Q r) (e : ∀ a0 a1 a2 a3 a4, Q (a0, a1, a2, a3, a4) → ∃ b, k a0 a1 a2 a3 a4 = some (F b) ∧ R b) : ∃ b, bd5 o k = some (F b) ∧ R b := by
  obtain ⟨⟨a0, a1, a2, a3, a4⟩, h1, h2⟩ := h
  obtain ⟨b, h3, h4⟩ := e a0 a1 a2 a3 a4 h2
  exact ⟨b, by rw [h1]; exact h3, h4⟩
theorem pc_ar2 {α : Type} {k : Option α} : ar 2 552 k = k := pc_ar (a := 2) (by omega) (by omega) (by omega)
theorem naB_b (b : Bool) : vp_nar .boolean (zB b) = zB b := by cases b; exact naB_0; exact naB_1
theorem fol_t {β : Type} (st : Int → β → β) (b : β) {v : Int} (h : 0 ≤ v) : fol st b (v + 1).toNat = st v (fol st b v.toNat) := by
  rw [show (v + 1).toNat = v.toNat + 1 by omega, fol_s, show ((v.toNat : Nat) : Int) = v by omega]
def bE (S : Int → Int) (y : Nat → Int32) (B : Int × Int × Int × (Int → Int)) : Prop := B.1 = -1 ∨ ∀ k, 0 ≤ k → k < S 2 → y k.toNat = iI (B.2.2.2 k)
section
variable {s : Nat → Int32} {S : Int → Int} {R : Int → Bool} {o : Int} {agn may wys rt y : Nat → Int32}
theorem m_laysPairs (hs : mS s S) (w : wS S) (hrt : ∀ h, 0 ≤ h → h < S 2 → rt h.toNat = zB (R h)) (h5 : -1 ≤ o) (h6 : o ≤ 8) : ∃ r, f_X9_laysPairs agn may rt s (iI o) = some r ∧ (∀ p, 0 ≤ p → p < S 2 * 4 → r.2 p.toNat = zB (al S o (p / 4) (p % 4))) ∧ ∀ p q, 0 ≤ p → p < S 2 * 4 → 0 ≤ q → q < S 2 * 4 → r.1 (32 * p + q).toNat = zB (fo S R o p q) := by
  have hC := w.C
  have e2 : s (2 : Int).toNat = iI (S 2) := hs 2 (by omega) (by omega)
  have g2 : s (2 : Int32).toNatClampNeg = iI (S 2) := e2
  have m4 : iI (S 2) * 4 = iI (S 2 * 4) := pc_mul (S 2) 4
  unfold f_X9_laysPairs
  simp only [pc_bv]
  simp only [pc_ar2, g2, m4]
  refine pc_e1 (pc_iv2 (P := fun i y => ∀ p, 0 ≤ p → p < i → y p.toNat = zB (al S o (p / 4) (p % 4))) (Q := fun y => ∀ p, 0 ≤ p → p < S 2 * 4 → y p.toNat = zB (al S o (p / 4) (p % 4))) (S 2 * 4) (by omega) (by omega) rfl (fun k k1 k2 => by omega) (fun i y i1 i2 hy => ⟨upd y i.toNat (zB (al S o (i / 4) (i % 4))), ?_, fun k k1 k2 => ?_⟩) (fun y hy => ⟨y, ?_, hy⟩)) (fun my hmy => ?_)
  · by_cases z : i / 4 = o
    · have e : al S o (i / 4) (i % 4) = false := by unfold al; simp [z]
      simp (disch := omega) only [-Int.reduceToNat, pc_ite, if_true, if_false, pc_bv, pc_lit, pc_neg, pc_add, pc_sub, pc_mul, pc_mr, pc_ar, pc_dv, pc_lt, pc_le, pc_eq, pc_nat, pc_div, pc_emod, pc_ifz, pc_ifo, pc_zb, pd_1, pd_2, pd_3, pd_4, pd_5, pd_6, pd_7, pd_8, pd_9, pd_10, pd_11, pd_12, pd_13, pd_14, pd_15, pd_16, pd_17, pd_19, pd_21, pd_22, pd_30, pd_34, pd_57, if_pos z, if_neg, e, pc_zB0, naB_0]
    · have hrg := chR_rg S (i / 4) (i % 4) o
      by_cases y0 : chR S (i / 4) (i % 4) o = 0
      · have e : al S o (i / 4) (i % 4) = true := by unfold al; simp [z, y0, show i / 4 < S 2 by omega]
        simp (disch := omega) only [-Int.reduceToNat, pc_ite, if_true, if_false, pc_bv, pc_lit, pc_neg, pc_add, pc_sub, pc_mul, pc_mr, pc_ar, pc_dv, pc_lt, pc_le, pc_eq, pc_nat, pc_div, pc_emod, pc_ifz, pc_ifo, pc_zb, pd_1, pd_2, pd_3, pd_4, pd_5, pd_6, pd_7, pd_8, pd_9, pd_10, pd_11, pd_12, pd_13, pd_14, pd_15, pd_16, pd_17, pd_19, pd_21, pd_22, pd_30, pd_34, pd_57, if_neg z, if_neg, e, pc_zB1, naB_1, m_chartReason hs w, y0]
      · have e : al S o (i / 4) (i % 4) = false := by unfold al; simp [y0]
        simp (disch := omega) only [-Int.reduceToNat, pc_ite, if_true, if_false, pc_bv, pc_lit, pc_neg, pc_add, pc_sub, pc_mul, pc_mr, pc_ar, pc_dv, pc_lt, pc_le, pc_eq, pc_nat, pc_div, pc_emod, pc_ifz, pc_ifo, pc_zb, pd_1, pd_2, pd_3, pd_4, pd_5, pd_6, pd_7, pd_8, pd_9, pd_10, pd_11, pd_12, pd_13, pd_14, pd_15, pd_16, pd_17, pd_19, pd_21, pd_22, pd_30, pd_34, pd_57, if_neg z, if_neg y0, if_neg, e, pc_zB0, naB_0, m_chartReason hs w]
  · rw [upd_at]
    by_cases z : k = i
    · rw [if_pos (by omega), z]
    · rw [if_neg (by omega), hy k k1 (by omega)]
  · simp (disch := omega) only [-Int.reduceToNat, pc_ite, if_true, if_false, pc_bv, pc_lit, pc_neg, pc_add, pc_sub, pc_mul, pc_mr, pc_ar, pc_dv, pc_lt, pc_le, pc_eq, pc_nat, pc_div, pc_emod, pc_ifz, pc_ifo, pc_zb, pd_1, pd_2, pd_3, pd_4, pd_5, pd_6, pd_7, pd_8, pd_9, pd_10, pd_11, pd_12, pd_13, pd_14, pd_15, pd_16, pd_17, pd_19, pd_21, pd_22, pd_30, pd_34, pd_57, if_pos]
  refine pc_e1 (pc_iv2 (P := fun i y => ∀ p q, 0 ≤ p → p < i → 0 ≤ q → q < S 2 * 4 → y (32 * p + q).toNat = zB (fo S R o p q)) (Q := fun y => ∀ p q, 0 ≤ p → p < S 2 * 4 → 0 ≤ q → q < S 2 * 4 → y (32 * p + q).toNat = zB (fo S R o p q)) (S 2 * 4) (by omega) (by omega) rfl (fun p q k1 k2 => by omega) (fun i y i1 i2 hy => ?_) (fun y hy => ⟨y, ?_, hy⟩)) (fun ya hya => ⟨(ya, my), rfl, hmy, hya⟩)
  · simp (disch := omega) only [pc_le, if_neg]
    refine pc_e1g (pc_iv2 (P := fun j y => (∀ p q, 0 ≤ p → p < i → 0 ≤ q → q < S 2 * 4 → y (32 * p + q).toNat = zB (fo S R o p q)) ∧ ∀ q, 0 ≤ q → q < j → y (32 * i + q).toNat = zB (fo S R o i q)) (Q := fun y => ∀ p q, 0 ≤ p → p < i + 1 → 0 ≤ q → q < S 2 * 4 → y (32 * p + q).toNat = zB (fo S R o p q)) (S 2 * 4) (by omega) (by omega) rfl ⟨hy, fun q q1 q2 => by omega⟩ (fun j y j1 j2 hj => ⟨upd y (32 * i + j).toNat (zB (fo S R o i j)), ?_, fun p q p1 p2 q1 q2 => ?_, fun q q1 q2 => ?_⟩) (fun y hj => ⟨y, ?_, fun p q p1 p2 q1 q2 => ?_⟩)) (fun a ha => ⟨a, by simp (disch := omega) only [pc_lit, pc_add], ha⟩)
    · have m1 := hmy i i1 i2
      have m2 := hmy j j1 j2
      have r1 := hrt (i / 4) (by omega) (by omega)
      have r2 := hrt (j / 4) (by omega) (by omega)
      cases a1 : al S o (i / 4) (i % 4)
      · have e : fo S R o i j = false := by unfold fo; simp [a1]
        simp (disch := omega) only [-Int.reduceToNat, pc_ite, if_true, if_false, pc_bv, pc_lit, pc_neg, pc_add, pc_sub, pc_mul, pc_mr, pc_ar, pc_dv, pc_lt, pc_le, pc_eq, pc_nat, pc_div, pc_emod, pc_ifz, pc_ifo, pc_zb, pd_1, pd_2, pd_3, pd_4, pd_5, pd_6, pd_7, pd_8, pd_9, pd_10, pd_11, pd_12, pd_13, pd_14, pd_15, pd_16, pd_17, pd_19, pd_21, pd_22, pd_30, pd_34, pd_57, if_neg, m1, a1, e, pc_zB0, naB_0]
      · cases a2 : al S o (j / 4) (j % 4)
        · have e : fo S R o i j = false := by unfold fo; simp [a2]
          simp (disch := omega) only [-Int.reduceToNat, pc_ite, if_true, if_false, pc_bv, pc_lit, pc_neg, pc_add, pc_sub, pc_mul, pc_mr, pc_ar, pc_dv, pc_lt, pc_le, pc_eq, pc_nat, pc_div, pc_emod, pc_ifz, pc_ifo, pc_zb, pd_1, pd_2, pd_3, pd_4, pd_5, pd_6, pd_7, pd_8, pd_9, pd_10, pd_11, pd_12, pd_13, pd_14, pd_15, pd_16, pd_17, pd_19, pd_21, pd_22, pd_30, pd_34, pd_57, if_neg, m1, m2, a1, a2, e, pc_zB0, naB_0, pc_zB1]
        · by_cases z : i / 4 = j / 4
          · have e : fo S R o i j = false := by unfold fo; simp [z]
            simp (disch := omega) only [-Int.reduceToNat, pc_ite, if_true, if_false, pc_bv, pc_lit, pc_neg, pc_add, pc_sub, pc_mul, pc_mr, pc_ar, pc_dv, pc_lt, pc_le, pc_eq, pc_nat, pc_div, pc_emod, pc_ifz, pc_ifo, pc_zb, pd_1, pd_2, pd_3, pd_4, pd_5, pd_6, pd_7, pd_8, pd_9, pd_10, pd_11, pd_12, pd_13, pd_14, pd_15, pd_16, pd_17, pd_19, pd_21, pd_22, pd_30, pd_34, pd_57, if_neg, m1, m2, a1, a2, if_pos z, e, pc_zB0, naB_0, pc_zB1]
          · have e : fo S R o i j = ag S (i / 4) (i % 4) (R (i / 4)) (j / 4) (j % 4) (R (j / 4)) := by unfold fo; simp [a1, a2, z]
            simp (disch := omega) only [-Int.reduceToNat, pc_ite, if_true, if_false, pc_bv, pc_lit, pc_neg, pc_add, pc_sub, pc_mul, pc_mr, pc_ar, pc_dv, pc_lt, pc_le, pc_eq, pc_nat, pc_div, pc_emod, pc_ifz, pc_ifo, pc_zb, pd_1, pd_2, pd_3, pd_4, pd_5, pd_6, pd_7, pd_8, pd_9, pd_10, pd_11, pd_12, pd_13, pd_14, pd_15, pd_16, pd_17, pd_19, pd_21, pd_22, pd_30, pd_34, pd_57, if_neg, m1, m2, a1, a2, if_neg z, e, pc_zB1, r1, r2, m_areAgainst hs w]
            cases ag S (i / 4) (i % 4) (R (i / 4)) (j / 4) (j % 4) (R (j / 4)) <;> simp only [pc_zB0, pc_zB1, naB_0, naB_1, if_true, if_false, Bool.false_eq_true]
    · rw [upd_at, if_neg (by omega)]; exact hj.1 p q p1 p2 q1 q2
    · rw [upd_at]
      by_cases z : q = j
      · rw [if_pos (by omega), z]
      · rw [if_neg (by omega)]; exact hj.2 q q1 (by omega)
    · simp (disch := omega) only [-Int.reduceToNat, pc_ite, if_true, if_false, pc_bv, pc_lit, pc_neg, pc_add, pc_sub, pc_mul, pc_mr, pc_ar, pc_dv, pc_lt, pc_le, pc_eq, pc_nat, pc_div, pc_emod, pc_ifz, pc_ifo, pc_zb, pd_1, pd_2, pd_3, pd_4, pd_5, pd_6, pd_7, pd_8, pd_9, pd_10, pd_11, pd_12, pd_13, pd_14, pd_15, pd_16, pd_17, pd_19, pd_21, pd_22, pd_30, pd_34, pd_57, if_pos]
    · by_cases z : p = i
      · rw [z]; exact hj.2 q q1 q2
      · exact hj.1 p q p1 (by omega) q1 q2
  · simp (disch := omega) only [-Int.reduceToNat, pc_ite, if_true, if_false, pc_bv, pc_lit, pc_neg, pc_add, pc_sub, pc_mul, pc_mr, pc_ar, pc_dv, pc_lt, pc_le, pc_eq, pc_nat, pc_div, pc_emod, pc_ifz, pc_ifo, pc_zb, pd_1, pd_2, pd_3, pd_4, pd_5, pd_6, pd_7, pd_8, pd_9, pd_10, pd_11, pd_12, pd_13, pd_14, pd_15, pd_16, pd_17, pd_19, pd_21, pd_22, pd_30, pd_34, pd_57, if_pos]
theorem m_canLie (w : wS S) (hmay : ∀ p, 0 ≤ p → p < S 2 * 4 → may p.toNat = zB (al S o (p / 4) (p % 4))) (hag : ∀ p q, 0 ≤ p → p < S 2 * 4 → 0 ≤ q → q < S 2 * 4 → agn (32 * p + q).toNat = zB (fo S R o p q)) {t : Int → Int} {h v : Int} (l : ∀ k, 0 ≤ k → k < h → -1 ≤ t k ∧ t k < 4) (hw : ∀ k, 0 ≤ k → k < h → wys k.toNat = iI (t k)) (h1 : 0 ≤ h) (h2 : h < S 2) (v1 : 0 ≤ v) (v2 : v < 4) : f_X9_canLie agn may wys (iI h) (iI v) = some (zB (clB S R o t h v)) := by
  have hC := w.C
  have m1 := hmay (4 * h + v) (by omega) (by omega)
  rw [show (4 * h + v) / 4 = h by omega, show (4 * h + v) % 4 = v by omega] at m1
  unfold f_X9_canLie
  simp only [pc_bv]
  simp (disch := omega) only [pc_lit, pc_mul, pc_add, pc_ar, pc_nat, m1]
  have L : ∀ i : Int, 0 ≤ i → (al S o h v && !an (fun k => decide (t k ≠ -1) && fo S R o (4 * h + v) (4 * k + t k)) i) = false → i ≤ h → clB S R o t h v = false := by
    intro i i1 e ih
    unfold clB
    rw [Bool.and_eq_false_iff] at e ⊢
    rcases e with e | e
    · exact .inl e
    · right
      rw [Bool.not_eq_false', an_iff] at e ⊢
      obtain ⟨j, j1, j2, j3⟩ := e
      exact ⟨j, j1, by omega, j3⟩
  refine pc_q1 (x := zB (clB S R o t h v)) (pc_inv2 (fun a c => ∃ i : Int, c = iI i ∧ 0 ≤ i ∧ i ≤ h ∧ a = zB (al S o h v && !an (fun k => decide (t k ≠ -1) && fo S R o (4 * h + v) (4 * k + t k)) i)) (fun a c => (h - c.toInt).toNat) (fun r => r = zB (clB S R o t h v)) (fun a c H => ?_) _ _ ⟨0, rfl, by omega, h1, ?_⟩) ?_
  · obtain ⟨i, e, i1, i2, ea⟩ := H
    subst e
    subst ea
    by_cases z : i = h
    · subst z
      right
      exact ⟨_, by simp (disch := omega) only [-Int.reduceToNat, pc_ite, if_true, if_false, pc_bv, pc_lit, pc_neg, pc_add, pc_sub, pc_mul, pc_mr, pc_ar, pc_dv, pc_lt, pc_le, pc_eq, pc_nat, pc_div, pc_emod, pc_ifz, pc_ifo, pc_zb, pd_1, pd_2, pd_3, pd_4, pd_5, pd_6, pd_7, pd_8, pd_9, pd_10, pd_11, pd_12, pd_13, pd_14, pd_15, pd_16, pd_17, pd_19, pd_21, pd_22, pd_30, pd_34, pd_57, if_pos]; (try rfl), rfl⟩
    · cases c : (al S o h v && !an (fun k => decide (t k ≠ -1) && fo S R o (4 * h + v) (4 * k + t k)) i)
      · right
        exact ⟨zB false, by simp (disch := omega) only [-Int.reduceToNat, pc_ite, if_true, if_false, pc_bv, pc_lit, pc_neg, pc_add, pc_sub, pc_mul, pc_mr, pc_ar, pc_dv, pc_lt, pc_le, pc_eq, pc_nat, pc_div, pc_emod, pc_ifz, pc_ifo, pc_zb, pd_1, pd_2, pd_3, pd_4, pd_5, pd_6, pd_7, pd_8, pd_9, pd_10, pd_11, pd_12, pd_13, pd_14, pd_15, pd_16, pd_17, pd_19, pd_21, pd_22, pd_30, pd_34, pd_57, if_neg, pc_zB0, if_pos], by rw [L i i1 c i2]⟩
      · left
        have wi := hw i i1 (by omega)
        have li := l i i1 (by omega)
        have as := an_s (p := fun k => decide (t k ≠ -1) && fo S R o (4 * h + v) (4 * k + t k)) i1
        rw [Bool.and_eq_true, Bool.not_eq_true'] at c
        refine ⟨zB (al S o h v && !an (fun k => decide (t k ≠ -1) && fo S R o (4 * h + v) (4 * k + t k)) (i + 1)), iI (i + 1), ?_, ⟨i + 1, rfl, by omega, by omega, rfl⟩, ?_⟩
        · rw [as, c.1, c.2]
          by_cases y : t i = -1
          · simp (disch := omega) only [-Int.reduceToNat, pc_ite, if_true, if_false, pc_bv, pc_lit, pc_neg, pc_add, pc_sub, pc_mul, pc_mr, pc_ar, pc_dv, pc_lt, pc_le, pc_eq, pc_nat, pc_div, pc_emod, pc_ifz, pc_ifo, pc_zb, pd_1, pd_2, pd_3, pd_4, pd_5, pd_6, pd_7, pd_8, pd_9, pd_10, pd_11, pd_12, pd_13, pd_14, pd_15, pd_16, pd_17, pd_19, pd_21, pd_22, pd_30, pd_34, pd_57, if_neg, wi, y, pc_zB1]
            simp
            try rfl
          · have g := hag (4 * h + v) (4 * i + t i) (by omega) (by omega) (by omega) (by omega)
            simp (disch := omega) only [-Int.reduceToNat, pc_ite, if_true, if_false, pc_bv, pc_lit, pc_neg, pc_add, pc_sub, pc_mul, pc_mr, pc_ar, pc_dv, pc_lt, pc_le, pc_eq, pc_nat, pc_div, pc_emod, pc_ifz, pc_ifo, pc_zb, pd_1, pd_2, pd_3, pd_4, pd_5, pd_6, pd_7, pd_8, pd_9, pd_10, pd_11, pd_12, pd_13, pd_14, pd_15, pd_16, pd_17, pd_19, pd_21, pd_22, pd_30, pd_34, pd_57, if_neg, wi, if_neg y, pc_zB1, show 32 * (4 * h + v) + 4 * i + t i = 32 * (4 * h + v) + (4 * i + t i) by omega, g]
            cases fo S R o (4 * h + v) (4 * i + t i) <;> simp [y, zB]
        · show (h - (iI (i + 1)).toInt).toNat < (h - (iI i).toInt).toNat
          rw [pc_toInt (by omega) (by omega), pc_toInt (by omega) (by omega)]
          omega
  · show zB _ = zB _
    congr 1
    show _ = (al S o h v && !false)
    simp
  · rw [pc_zb]
theorem m_weighs (hs : mS s S) (w : wS S) {t : Int → Int} {p r : Int} {B : Int × Int × Int × (Int → Int)} (l : lgT S R o t (S 2)) (hw0 : ∀ k, 0 ≤ k → k < S 2 → wys k.toNat = iI (t k)) (p1 : 0 ≤ p) (p2 : p ≤ 8) (r1 : 0 ≤ r) (r2 : r ≤ 8) (b : okB S R o B) (hb : bE S y B) : ∃ y', f_X9_weighs (iI B.1) (iI B.2.1) (iI B.2.2.1) y s wys (iI p) (iI r) = some (iI (wgF S t p r B).1, iI (wgF S t p r B).2.1, iI (wgF S t p r B).2.2.1, y') ∧ bE S y' (wgF S t p r B) := by
  have hC := w.C
  have hL := lg_rg l
  have hw : ∀ k, 0 ≤ k → k < S 2 → wys k.toNat = iI (t k) ∧ -1 ≤ t k ∧ t k < 4 := fun k k1 k2 => ⟨hw0 k k1 k2, hL k k1 k2⟩
  have hT := tB_rg w hL (t := S 5) (by omega) (by omega)
  have e2 : s (2 : Int).toNat = iI (S 2) := hs 2 (by omega) (by omega)
  have e5 : s (5 : Int).toNat = iI (S 5) := hs 5 (by omega) (by omega)
  have eT := m_turningBy hs w hw (t := S 5) (by omega) (by omega)
  have hB : -1 ≤ B.1 ∧ B.1 ≤ 8 ∧ -1 ≤ B.2.1 ∧ B.2.1 ≤ 8 ∧ 0 ≤ B.2.2.1 ∧ B.2.2.1 ≤ 1000000 := by rcases b with h | h <;> omega
  unfold f_X9_weighs
  simp only [pc_bv]
  by_cases c1 : r < B.1
  · have e : wgF S t p r B = B := by unfold wgF; rw [if_pos (.inl c1)]
    rw [e]
    simp (disch := omega) only [pc_lt, if_pos c1]
    exact ⟨y, rfl, hb⟩
  · by_cases c2 : r = B.1
    · by_cases c3 : B.2.1 ≤ p
      · by_cases c4 : p = B.2.1
        · by_cases c5 : tB t S (S 5) < B.2.2.1
          · have e : wgF S t p r B = (r, p, tB t S (S 5), t) := by unfold wgF; rw [if_neg (by omega), if_neg (by omega)]
            rw [e]
            simp (disch := omega) only [pc_lit, pc_ar, pc_nat, e5, eT, pd_1, pc_lt, pc_le, pc_eq, if_neg c1, if_pos c2, if_pos c3, if_pos c4, if_pos c5]
            refine pc_e1g (pc_iv2 (P := fun i y => ∀ k, 0 ≤ k → k < i → y k.toNat = iI (t k)) (Q := fun y => ∀ k, 0 ≤ k → k < S 2 → y k.toNat = iI (t k)) (S 2) (by omega) (by omega) rfl (fun k k1 k2 => by omega) (fun i y i1 i2 hy => ⟨upd y i.toNat (iI (t i)), by simp (disch := omega) only [-Int.reduceToNat, pc_ite, if_true, if_false, pc_bv, pc_lit, pc_neg, pc_add, pc_sub, pc_mul, pc_mr, pc_ar, pc_dv, pc_lt, pc_le, pc_eq, pc_nat, pc_div, pc_emod, pc_ifz, pc_ifo, pc_zb, pd_1, pd_2, pd_3, pd_4, pd_5, pd_6, pd_7, pd_8, pd_9, pd_10, pd_11, pd_12, pd_13, pd_14, pd_15, pd_16, pd_17, pd_19, pd_21, pd_22, pd_30, pd_34, pd_57, e2, if_neg, (hw i i1 i2).1], fun k k1 k2 => by rw [upd_at]; by_cases z : k = i; exact (by rw [if_pos (by omega), z]); exact (by rw [if_neg (by omega), hy k k1 (by omega)])⟩) (fun y hy => ⟨y, by simp (disch := omega) only [-Int.reduceToNat, pc_ite, if_true, if_false, pc_bv, pc_lit, pc_neg, pc_add, pc_sub, pc_mul, pc_mr, pc_ar, pc_dv, pc_lt, pc_le, pc_eq, pc_nat, pc_div, pc_emod, pc_ifz, pc_ifo, pc_zb, pd_1, pd_2, pd_3, pd_4, pd_5, pd_6, pd_7, pd_8, pd_9, pd_10, pd_11, pd_12, pd_13, pd_14, pd_15, pd_16, pd_17, pd_19, pd_21, pd_22, pd_30, pd_34, pd_57, e2, if_pos], hy⟩)) (fun a ha => ⟨a, rfl, .inr ha⟩)
          · have e : wgF S t p r B = B := by unfold wgF; rw [if_neg (by omega), if_pos (by omega)]
            rw [e]
            simp (disch := omega) only [pc_lit, pc_ar, pc_nat, e5, eT, pd_1, pc_lt, pc_le, pc_eq, if_neg c1, if_pos c2, if_pos c3, if_pos c4, if_neg c5]
            exact ⟨y, rfl, hb⟩
        · have e : wgF S t p r B = (r, p, tB t S (S 5), t) := by unfold wgF; rw [if_neg (by omega), if_neg (by omega)]
          rw [e]
          simp (disch := omega) only [pc_lit, pc_ar, pc_nat, e5, eT, pd_1, pc_lt, pc_le, pc_eq, if_neg c1, if_pos c2, if_pos c3, if_neg c4]
          refine pc_e1g (pc_iv2 (P := fun i y => ∀ k, 0 ≤ k → k < i → y k.toNat = iI (t k)) (Q := fun y => ∀ k, 0 ≤ k → k < S 2 → y k.toNat = iI (t k)) (S 2) (by omega) (by omega) rfl (fun k k1 k2 => by omega) (fun i y i1 i2 hy => ⟨upd y i.toNat (iI (t i)), by simp (disch := omega) only [-Int.reduceToNat, pc_ite, if_true, if_false, pc_bv, pc_lit, pc_neg, pc_add, pc_sub, pc_mul, pc_mr, pc_ar, pc_dv, pc_lt, pc_le, pc_eq, pc_nat, pc_div, pc_emod, pc_ifz, pc_ifo, pc_zb, pd_1, pd_2, pd_3, pd_4, pd_5, pd_6, pd_7, pd_8, pd_9, pd_10, pd_11, pd_12, pd_13, pd_14, pd_15, pd_16, pd_17, pd_19, pd_21, pd_22, pd_30, pd_34, pd_57, e2, if_neg, (hw i i1 i2).1], fun k k1 k2 => by rw [upd_at]; by_cases z : k = i; exact (by rw [if_pos (by omega), z]); exact (by rw [if_neg (by omega), hy k k1 (by omega)])⟩) (fun y hy => ⟨y, by simp (disch := omega) only [-Int.reduceToNat, pc_ite, if_true, if_false, pc_bv, pc_lit, pc_neg, pc_add, pc_sub, pc_mul, pc_mr, pc_ar, pc_dv, pc_lt, pc_le, pc_eq, pc_nat, pc_div, pc_emod, pc_ifz, pc_ifo, pc_zb, pd_1, pd_2, pd_3, pd_4, pd_5, pd_6, pd_7, pd_8, pd_9, pd_10, pd_11, pd_12, pd_13, pd_14, pd_15, pd_16, pd_17, pd_19, pd_21, pd_22, pd_30, pd_34, pd_57, e2, if_pos], hy⟩)) (fun a ha => ⟨a, rfl, .inr ha⟩)
      · have e : wgF S t p r B = B := by unfold wgF; rw [if_pos (.inr (by omega))]
        rw [e]
        simp (disch := omega) only [pc_lt, pc_le, pc_eq, if_neg c1, if_pos c2, if_neg c3]
        exact ⟨y, rfl, hb⟩
    · have e : wgF S t p r B = (r, p, tB t S (S 5), t) := by unfold wgF; rw [if_neg (by omega), if_neg (by omega)]
      rw [e]
      simp (disch := omega) only [pc_lit, pc_ar, pc_nat, e5, eT, pd_1, pc_lt, pc_le, pc_eq, if_neg c1, if_neg c2]
      refine pc_e1g (pc_iv2 (P := fun i y => ∀ k, 0 ≤ k → k < i → y k.toNat = iI (t k)) (Q := fun y => ∀ k, 0 ≤ k → k < S 2 → y k.toNat = iI (t k)) (S 2) (by omega) (by omega) rfl (fun k k1 k2 => by omega) (fun i y i1 i2 hy => ⟨upd y i.toNat (iI (t i)), by simp (disch := omega) only [-Int.reduceToNat, pc_ite, if_true, if_false, pc_bv, pc_lit, pc_neg, pc_add, pc_sub, pc_mul, pc_mr, pc_ar, pc_dv, pc_lt, pc_le, pc_eq, pc_nat, pc_div, pc_emod, pc_ifz, pc_ifo, pc_zb, pd_1, pd_2, pd_3, pd_4, pd_5, pd_6, pd_7, pd_8, pd_9, pd_10, pd_11, pd_12, pd_13, pd_14, pd_15, pd_16, pd_17, pd_19, pd_21, pd_22, pd_30, pd_34, pd_57, e2, if_neg, (hw i i1 i2).1], fun k k1 k2 => by rw [upd_at]; by_cases z : k = i; exact (by rw [if_pos (by omega), z]); exact (by rw [if_neg (by omega), hy k k1 (by omega)])⟩) (fun y hy => ⟨y, by simp (disch := omega) only [-Int.reduceToNat, pc_ite, if_true, if_false, pc_bv, pc_lit, pc_neg, pc_add, pc_sub, pc_mul, pc_mr, pc_ar, pc_dv, pc_lt, pc_le, pc_eq, pc_nat, pc_div, pc_emod, pc_ifz, pc_ifo, pc_zb, pd_1, pd_2, pd_3, pd_4, pd_5, pd_6, pd_7, pd_8, pd_9, pd_10, pd_11, pd_12, pd_13, pd_14, pd_15, pd_16, pd_17, pd_19, pd_21, pd_22, pd_30, pd_34, pd_57, e2, if_pos], hy⟩)) (fun a ha => ⟨a, rfl, .inr ha⟩)
theorem m_tries (hs : mS s S) (w : wS S) (hmay : ∀ p, 0 ≤ p → p < S 2 * 4 → may p.toNat = zB (al S o (p / 4) (p % 4))) (hag : ∀ p q, 0 ≤ p → p < S 2 * 4 → 0 ≤ q → q < S 2 * 4 → agn (32 * p + q).toNat = zB (fo S R o p q)) (hrt : ∀ h, 0 ≤ h → h < S 2 → rt h.toNat = zB (R h)) : ∀ (d : Nat) (fuel : Nat) (h : Int) (t : Int → Int) (p r : Int) (B : Int × Int × Int × (Int → Int)) (y wys : Nat → Int32), d < fuel → h + d = S 2 → 0 ≤ h → lgT S R o t h → (∀ k, 0 ≤ k → k < h → wys k.toNat = iI (t k)) → 0 ≤ p → p ≤ h → 0 ≤ r → r ≤ h → okB S R o B → bE S y B → ∃ z, f_X9_tries fuel (iI B.1) (iI B.2.1) (iI B.2.2.1) agn y may rt s wys (iI h) (iI p) (iI r) = some (iI (tr S R o d h t p r B).1, iI (tr S R o d h t p r B).2.1, iI (tr S R o d h t p r B).2.2.1, z) ∧ bE S z.1 (tr S R o d h t p r B) ∧ ∀ k, 0 ≤ k → k < h → z.2 k.toNat = iI (t k) := by
  have hC := w.C
  have e2 : s (2 : Int).toNat = iI (S 2) := hs 2 (by omega) (by omega)
  intro d
  induction d with
  | zero =>
    intro fuel h t p r B y wys hf e h0 l hw p1 p2 r1 r2 b hb
    obtain ⟨g, rfl⟩ : ∃ g, fuel = g + 1 := ⟨fuel - 1, by omega⟩
    have e : h = S 2 := by omega
    subst e
    obtain ⟨y', k1, k2⟩ := m_weighs hs w l hw p1 (by omega) r1 (by omega) b hb
    refine ⟨(y', wys), ?_, k2, hw⟩
    unfold f_X9_tries
    simp (disch := omega) only [pc_lit, pc_ar, pc_nat, e2, if_true, k1, pd_4]
    try rfl
  | succ d ih =>
    intro fuel h t p r B y wys hf e h0 l hw p1 p2 r1 r2 b hb
    obtain ⟨g, rfl⟩ : ∃ g, fuel = g + 1 := ⟨fuel - 1, by omega⟩
    have hr := rI_c R h
    have hrh := hrt h h0 (by omega)
    have ne : ¬ h = S 2 := by omega
    unfold f_X9_tries
    simp only [pc_bv]
    simp (disch := omega) only [pc_lit, pc_ar, pc_nat, e2, pc_eq, if_neg ne]
    rw [tr_s]
    refine pc_e5g (pc_iv6 (P := fun v a0 a1 a2 a3 a4 => a0 = iI (fol (trS S R o d h t p r) B v.toNat).1 ∧ a1 = iI (fol (trS S R o d h t p r) B v.toNat).2.1 ∧ a2 = iI (fol (trS S R o d h t p r) B v.toNat).2.2.1 ∧ bE S a3 (fol (trS S R o d h t p r) B v.toNat) ∧ ∀ k, 0 ≤ k → k < h → a4 k.toNat = iI (t k)) (Q := fun z => z.1 = iI (fol (trS S R o d h t p r) B 4).1 ∧ z.2.1 = iI (fol (trS S R o d h t p r) B 4).2.1 ∧ z.2.2.1 = iI (fol (trS S R o d h t p r) B 4).2.2.1 ∧ bE S z.2.2.2.1 (fol (trS S R o d h t p r) B 4) ∧ ∀ k, 0 ≤ k → k < h → z.2.2.2.2 k.toNat = iI (t k)) 4 (by omega) (by omega) rfl ⟨rfl, rfl, rfl, hb, hw⟩ (fun v a0 a1 a2 a3 a4 v1 v2 hP => ?_) (fun a0 a1 a2 a3 a4 hP => ⟨_, by simp (disch := omega) only [-Int.reduceToNat, pc_ite, if_true, if_false, pc_bv, pc_lit, pc_neg, pc_add, pc_sub, pc_mul, pc_mr, pc_ar, pc_dv, pc_lt, pc_le, pc_eq, pc_nat, pc_div, pc_emod, pc_ifz, pc_ifo, pc_zb, pd_1, pd_2, pd_3, pd_4, pd_5, pd_6, pd_7, pd_8, pd_9, pd_10, pd_11, pd_12, pd_13, pd_14, pd_15, pd_16, pd_17, pd_19, pd_21, pd_22, pd_30, pd_34, pd_57, if_pos]; (try rfl), hP⟩)) (fun a0 a1 a2 a3 a4 hQ => ?_)
    · obtain ⟨q0, q1, q2, q3, q4⟩ := hP
      subst q0; subst q1; subst q2
      have okv := trF_ok w (p := p) (r := r) (d := d) (by omega) h0 l p1 p2 r1 r2 b v.toNat (by omega)
      have cl := m_canLie w hmay hag (lg_rg l) q4 h0 (by omega) v1 v2
      rw [fol_t _ _ v1]
      generalize fol (trS S R o d h t p r) B v.toNat = Bv at okv q3 ⊢
      cases c : clB S R o t h v
      · have e : trS S R o d h t p r v Bv = Bv := by unfold trS; rw [c]; rfl
        rw [e]
        exact ⟨_, _, _, _, _, by simp (disch := omega) only [-Int.reduceToNat, pc_ite, if_true, if_false, pc_bv, pc_lit, pc_neg, pc_add, pc_sub, pc_mul, pc_mr, pc_ar, pc_dv, pc_lt, pc_le, pc_eq, pc_nat, pc_div, pc_emod, pc_ifz, pc_ifo, pc_zb, pd_1, pd_2, pd_3, pd_4, pd_5, pd_6, pd_7, pd_8, pd_9, pd_10, pd_11, pd_12, pd_13, pd_14, pd_15, pd_16, pd_17, pd_19, pd_21, pd_22, pd_30, pd_34, pd_57, if_neg, cl, c, pc_zB0]; (try rfl), rfl, rfl, rfl, q3, q4⟩
      · have e : trS S R o d h t p r v Bv = tr S R o d (h + 1) (upF t h v) (p + 1) (r + rI R h) Bv := by unfold trS; rw [c]; rfl
        rw [e]
        obtain ⟨z, k1, k2, k3⟩ := ih g (h + 1) (upF t h v) (p + 1) (r + rI R h) Bv a3 (upd a4 h.toNat (iI v)) (by omega) (by omega) (by omega) (lg_one l v1 v2 c) (fun k k1 k2 => by
          rw [upd_at]
          by_cases z : k = h
          · rw [if_pos (by omega), z, upF_at]
          · rw [if_neg (by omega), upF_ne t z]; exact q4 k k1 (by omega)) (by omega) (by omega) (by omega) (by omega) okv q3
        refine ⟨_, _, _, z.1, z.2, ?_, rfl, rfl, rfl, k2, fun k m1 m2 => ?_⟩
        · have er : rI R h = if R h then 1 else 0 := rfl
          cases hR : R h
          · rw [hR] at er hrh
            rw [er] at k1 ⊢
            simp (disch := omega) only [-Int.reduceToNat, pc_ite, if_true, if_false, pc_bv, pc_lit, pc_neg, pc_add, pc_sub, pc_mul, pc_mr, pc_ar, pc_dv, pc_lt, pc_le, pc_eq, pc_nat, pc_div, pc_emod, pc_ifz, pc_ifo, pc_zb, pd_1, pd_2, pd_3, pd_4, pd_5, pd_6, pd_7, pd_8, pd_9, pd_10, pd_11, pd_12, pd_13, pd_14, pd_15, pd_16, pd_17, pd_19, pd_21, pd_22, pd_30, pd_34, pd_57, if_neg, cl, c, pc_zB1, pc_zB0, hrh, if_true]
            simp only [Bool.false_eq_true, if_false] at k1
            rw [k1, pd_5]
            try rfl
          · rw [hR] at er hrh
            rw [er] at k1 ⊢
            simp (disch := omega) only [-Int.reduceToNat, pc_ite, if_true, if_false, pc_bv, pc_lit, pc_neg, pc_add, pc_sub, pc_mul, pc_mr, pc_ar, pc_dv, pc_lt, pc_le, pc_eq, pc_nat, pc_div, pc_emod, pc_ifz, pc_ifo, pc_zb, pd_1, pd_2, pd_3, pd_4, pd_5, pd_6, pd_7, pd_8, pd_9, pd_10, pd_11, pd_12, pd_13, pd_14, pd_15, pd_16, pd_17, pd_19, pd_21, pd_22, pd_30, pd_34, pd_57, if_neg, cl, c, pc_zB1, pc_zB0, hrh, if_true]
            simp only [if_true] at k1
            rw [k1, pd_5]
            try rfl
        · rw [k3 k m1 (by omega), upF_ne t (by omega)]
    · obtain ⟨q0, q1, q2, q3, q4⟩ := hQ
      simp only at q0 q1 q2 q3 q4
      subst q0; subst q1; subst q2
      have okv := trF_ok w (p := p) (r := r) (d := d) (by omega) h0 l p1 p2 r1 r2 b 4 (by omega)
      obtain ⟨z, k1, k2, k3⟩ := ih g (h + 1) (upF t h (-1)) p r (fol (trS S R o d h t p r) B 4) a3 (upd a4 h.toNat (iI (-1))) (by omega) (by omega) (by omega) (lg_none l) (fun k k1 k2 => by
          rw [upd_at]
          by_cases z : k = h
          · rw [if_pos (by omega), z, upF_at]
          · rw [if_neg (by omega), upF_ne t z]; exact q4 k k1 (by omega)) p1 (by omega) r1 (by omega) okv q3
      refine ⟨z, ?_, k2, fun k m1 m2 => ?_⟩
      · simp (disch := omega) only [pc_neg, pc_ar, pc_nat, pc_add]
        rw [k1, pd_5]
      · rw [k3 k m1 (by omega), upF_ne t (by omega)]
end
