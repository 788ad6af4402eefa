def nmP (S t : Int → Int) (b l h : Int) : Bool := decide (hv S h 3 = l) && !an (fun i => !decide (hv S h (4 + i) = t (b + i))) l
def nmH (S t : Int → Int) (b l : Int) : Int := fi (nmP S t b l) (S 2)
def tnv (t : Int → Int) (n a : Int) : Int := nvC t (tws t n a) (tdl t n a)
theorem pc_q2 {α0 α1 β : Type} {o : Option (α0 × α1)} {k : α0 → α1 → Option β} {x : α0} {y : α1} {r : Option β} (h : ∃ a, o = some a ∧ a = (x, y)) (e : k x y = r) : bd2 o k = r := by
  obtain ⟨a, h1, h2⟩ := h
  subst h2
  rw [h1]
  exact e
theorem pc_all {f : Int32 → Int32 → Option ((Int32 × Int32) ⊕ Int32)} (p : Int → Bool) (n : Int) (hn : 0 ≤ n) (hN : n < 2147483648) {c : Int32} (hc : c = iI 0) {a : Int32} (ha : a = iI 1)
    (hz : ∀ i, 0 ≤ i → i ≤ n → f (iI 0) (iI i) = some (.inr (iI 0))) (hs : ∀ i, 0 ≤ i → i < n → f (iI 1) (iI i) = some (.inl (zB (p i), iI (i + 1)))) (he : f (iI 1) (iI n) = some (.inr (iI 1))) : ∃ r, lq2 f a c = some r ∧ r = zB (!an (fun i => !p i) n) := by
  have L : ∀ i : Int, 0 ≤ i → i ≤ n → an (fun i => !p i) i = true → an (fun i => !p i) n = true := by
    intro i i1 i2 e
    rw [an_iff] at e ⊢
    obtain ⟨j, j1, j2, j3⟩ := e
    exact ⟨j, j1, by omega, j3⟩
  refine pc_inv2 (fun a c => ∃ i : Int, c = iI i ∧ 0 ≤ i ∧ i ≤ n ∧ a = zB (!an (fun i => !p i) i)) (fun a c => (n - c.toInt).toNat) (fun r => r = zB (!an (fun i => !p i) n)) (fun a c H => ?_) _ _ ⟨0, hc, by omega, hn, ha⟩
  obtain ⟨i, e, i1, i2, e2⟩ := H
  subst e
  subst e2
  cases q : an (fun i => !p i) i
  · by_cases z : i = n
    · subst z
      right
      exact ⟨iI 1, he, by rw [q]; rfl⟩
    · left
      refine ⟨zB (p i), iI (i + 1), hs i i1 (by omega), ⟨i + 1, rfl, by omega, by omega, ?_⟩, ?_⟩
      · rw [an_s i1, q, Bool.false_or, Bool.not_not]
      · rw [pc_toInt (by omega) (by omega), pc_toInt (by omega) (by omega)]
        omega
  · right
    exact ⟨iI 0, hz i i1 i2, by rw [L i i1 i2 q]; rfl⟩
theorem zB_c (c : Prop) [Decidable c] : zB (decide c) = if c then iI 1 else iI 0 := by by_cases h : c <;> simp [zB, h]
section
variable {n : Int} {t : Int → Int} {y : Nat → Int32} {S : Int → Int} {s len let' : Nat → Int32}
theorem x_wordIs (h : tT n t) (hy : tX n t y) {b l : Int} (b0 : 0 ≤ b) (l0 : 0 ≤ l) (bl : b + l ≤ n) (k : Nat) : f_X5_wordIs (iI n) (iI b) (iI l) y k = some (zB (isK t b l k)) := by
  have kc := kwI_c k
  have hk : kwI k = ((kwLen.getD k 0 : Nat) : Int) := rfl
  have hn2 := h.2.1
  unfold f_X5_wordIs isK
  simp only [pc_bv, kwI_e]
  by_cases z : l = kwI k
  · rw [if_pos (by rw [z])]
    refine (pc_srch (fun i => decide (iI (t (b + i)) ≠ kch k i.toNat)) (fun _ => iI 0) (iI 1) (kwI k) kc.1 rfl (fun i i1 i2 q => ?_) (fun i i1 i2 q => ?_) ?_).trans ?_
    · have q : ¬ iI (t (b + i)) = kch k i.toNat := of_decide_eq_true q
      simp (disch := omega) only [-Int.reduceToNat, pc_ite, if_true, if_false, pc_bv, pc_lit, pc_neg, pc_add, pc_sub, pc_mul, pc_mr, pc_ar, pc_dv, pc_lt, pc_le, pc_eq, pc_nat, pc_div, pc_emod, pc_ifz, pc_ifo, pc_zb, pd_1, pd_2, pd_3, pd_4, pd_5, pd_6, pd_7, pd_8, pd_9, pd_10, pd_11, pd_12, pd_13, pd_14, pd_15, pd_16, pd_17, pd_19, pd_21, pd_22, pd_30, pd_34, pd_57, if_neg, x_signAt h hy, if_neg q, pc_mr]
    · have q : iI (t (b + i)) = kch k i.toNat := Classical.not_not.mp (of_decide_eq_false q)
      simp (disch := omega) only [-Int.reduceToNat, pc_ite, if_true, if_false, pc_bv, pc_lit, pc_neg, pc_add, pc_sub, pc_mul, pc_mr, pc_ar, pc_dv, pc_lt, pc_le, pc_eq, pc_nat, pc_div, pc_emod, pc_ifz, pc_ifo, pc_zb, pd_1, pd_2, pd_3, pd_4, pd_5, pd_6, pd_7, pd_8, pd_9, pd_10, pd_11, pd_12, pd_13, pd_14, pd_15, pd_16, pd_17, pd_19, pd_21, pd_22, pd_30, pd_34, pd_57, if_neg, x_signAt h hy, q, if_true]
    · simp (disch := omega) only [-Int.reduceToNat, pc_ite, if_true, if_false, pc_bv, pc_lit, pc_neg, pc_add, pc_sub, pc_mul, pc_mr, pc_ar, pc_dv, pc_lt, pc_le, pc_eq, pc_nat, pc_div, pc_emod, pc_ifz, pc_ifo, pc_zb, pd_1, pd_2, pd_3, pd_4, pd_5, pd_6, pd_7, pd_8, pd_9, pd_10, pd_11, pd_12, pd_13, pd_14, pd_15, pd_16, pd_17, pd_19, pd_21, pd_22, pd_30, pd_34, pd_57, if_pos, pc_mr]
    · rw [decide_eq_true z, Bool.true_and, fi_an]
      by_cases c : fi (fun i => decide (iI (t (b + i)) ≠ kch k i.toNat)) (kwI k) = -1
      · rw [if_pos c, decide_eq_false (by rw [c]; simp)]; rfl
      · rw [if_neg c, decide_eq_true c]; rfl
  · rw [if_neg (by rw [pc_eq (by omega) (by omega) (by omega) (by omega)]; exact z), decide_eq_false z]
    rfl
theorem m_was (h : tT n t) (hy : tX n t y) {b l : Int} (b0 : 0 ≤ b) (l0 : 0 ≤ l) (bl : b + l ≤ n) (k : Nat) : f_X9_was (iI (b + l)) (iI b) (iI 0) y k = some (zB (isK t b l k)) := by
  have kc := kwI_c k
  have hk : kwI k = ((kwLen.getD k 0 : Nat) : Int) := rfl
  have hn2 := h.2.1
  unfold f_X9_was isK
  simp only [pc_bv, kwI_e]
  rw [m_fine0, pd_1, if_neg (by decide), pc_sub, show b + l - b = l by omega]
  by_cases z : l = kwI k
  · rw [if_pos (by rw [z])]
    refine pc_q1 (pc_all (fun i => decide (iI (t (b + i)) = kch k i.toNat)) (kwI k) kc.1 (by omega) rfl rfl (fun i i1 i2 => ?_) (fun i i1 i2 => ?_) ?_) ?_
    · by_cases c : kwI k ≤ i
      · simp (disch := omega) only [-Int.reduceToNat, pc_ite, if_true, if_false, pc_bv, pc_lit, pc_neg, pc_add, pc_sub, pc_mul, pc_mr, pc_ar, pc_dv, pc_lt, pc_le, pc_eq, pc_nat, pc_div, pc_emod, pc_ifz, pc_ifo, pc_zb, pd_1, pd_2, pd_3, pd_4, pd_5, pd_6, pd_7, pd_8, pd_9, pd_10, pd_11, pd_12, pd_13, pd_14, pd_15, pd_16, pd_17, pd_19, pd_21, pd_22, pd_30, pd_34, pd_57, if_pos]
      · simp (disch := omega) only [-Int.reduceToNat, pc_ite, if_true, if_false, pc_bv, pc_lit, pc_neg, pc_add, pc_sub, pc_mul, pc_mr, pc_ar, pc_dv, pc_lt, pc_le, pc_eq, pc_nat, pc_div, pc_emod, pc_ifz, pc_ifo, pc_zb, pd_1, pd_2, pd_3, pd_4, pd_5, pd_6, pd_7, pd_8, pd_9, pd_10, pd_11, pd_12, pd_13, pd_14, pd_15, pd_16, pd_17, pd_19, pd_21, pd_22, pd_30, pd_34, pd_57, if_neg c]
    · have e := hy (b + i) (by omega) (by omega)
      rw [zB_c]
      by_cases c : iI (t (b + i)) = kch k i.toNat
      · simp (disch := omega) only [-Int.reduceToNat, pc_ite, if_true, if_false, pc_bv, pc_lit, pc_neg, pc_add, pc_sub, pc_mul, pc_mr, pc_ar, pc_dv, pc_lt, pc_le, pc_eq, pc_nat, pc_div, pc_emod, pc_ifz, pc_ifo, pc_zb, pd_1, pd_2, pd_3, pd_4, pd_5, pd_6, pd_7, pd_8, pd_9, pd_10, pd_11, pd_12, pd_13, pd_14, pd_15, pd_16, pd_17, pd_19, pd_21, pd_22, pd_30, pd_34, pd_57, if_neg, e, if_pos c]
      · simp (disch := omega) only [-Int.reduceToNat, pc_ite, if_true, if_false, pc_bv, pc_lit, pc_neg, pc_add, pc_sub, pc_mul, pc_mr, pc_ar, pc_dv, pc_lt, pc_le, pc_eq, pc_nat, pc_div, pc_emod, pc_ifz, pc_ifo, pc_zb, pd_1, pd_2, pd_3, pd_4, pd_5, pd_6, pd_7, pd_8, pd_9, pd_10, pd_11, pd_12, pd_13, pd_14, pd_15, pd_16, pd_17, pd_19, pd_21, pd_22, pd_30, pd_34, pd_57, if_neg, e, if_neg c]
    · simp (disch := omega) only [-Int.reduceToNat, pc_ite, if_true, if_false, pc_bv, pc_lit, pc_neg, pc_add, pc_sub, pc_mul, pc_mr, pc_ar, pc_dv, pc_lt, pc_le, pc_eq, pc_nat, pc_div, pc_emod, pc_ifz, pc_ifo, pc_zb, pd_1, pd_2, pd_3, pd_4, pd_5, pd_6, pd_7, pd_8, pd_9, pd_10, pd_11, pd_12, pd_13, pd_14, pd_15, pd_16, pd_17, pd_19, pd_21, pd_22, pd_30, pd_34, pd_57, if_pos]
    · rw [pc_zb, decide_eq_true z, Bool.true_and]
      congr 3
      refine an_congr (fun i i1 i2 => ?_)
      by_cases c : iI (t (b + i)) = kch k i.toNat <;> simp [c]
  · rw [if_neg (by rw [pc_eq (by omega) (by omega) (by omega) (by omega)]; exact z), decide_eq_false z]
    refine pc_b1t (pc_run2 (fun _ => iI 0) (fun k : Nat => iI k) 0 rfl rfl (fun k hk => by omega) (r := iI 0) ?_) rfl
    by_cases c : kwI k ≤ 0
    · simp (disch := omega) only [-Int.reduceToNat, pc_ite, if_true, if_false, pc_bv, pc_lit, pc_neg, pc_add, pc_sub, pc_mul, pc_mr, pc_ar, pc_dv, pc_lt, pc_le, pc_eq, pc_nat, pc_div, pc_emod, pc_ifz, pc_ifo, pc_zb, pd_1, pd_2, pd_3, pd_4, pd_5, pd_6, pd_7, pd_8, pd_9, pd_10, pd_11, pd_12, pd_13, pd_14, pd_15, pd_16, pd_17, pd_19, pd_21, pd_22, pd_30, pd_34, pd_57, if_pos]
    · simp (disch := omega) only [-Int.reduceToNat, pc_ite, if_true, if_false, pc_bv, pc_lit, pc_neg, pc_add, pc_sub, pc_mul, pc_mr, pc_ar, pc_dv, pc_lt, pc_le, pc_eq, pc_nat, pc_div, pc_emod, pc_ifz, pc_ifo, pc_zb, pd_1, pd_2, pd_3, pd_4, pd_5, pd_6, pd_7, pd_8, pd_9, pd_10, pd_11, pd_12, pd_13, pd_14, pd_15, pd_16, pd_17, pd_19, pd_21, pd_22, pd_30, pd_34, pd_57, if_neg]
theorem m_wasE {a fr e : Int32} (he : ¬ e = iI 0) (k : Nat) : f_X9_was a fr e y k = some (iI 0) := by
  have kc := kwI_c k
  unfold f_X9_was
  simp only [pc_bv, kwI_e]
  rw [m_fineE he, pd_1, if_pos (by rfl)]
  refine pc_b1t (pc_run2 (fun _ => iI 0) (fun k : Nat => iI k) 0 rfl rfl (fun k hk => by omega) (r := iI 0) ?_) rfl
  by_cases c : kwI k ≤ 0
  · simp (disch := omega) only [-Int.reduceToNat, pc_ite, if_true, if_false, pc_bv, pc_lit, pc_neg, pc_add, pc_sub, pc_mul, pc_mr, pc_ar, pc_dv, pc_lt, pc_le, pc_eq, pc_nat, pc_div, pc_emod, pc_ifz, pc_ifo, pc_zb, pd_1, pd_2, pd_3, pd_4, pd_5, pd_6, pd_7, pd_8, pd_9, pd_10, pd_11, pd_12, pd_13, pd_14, pd_15, pd_16, pd_17, pd_19, pd_21, pd_22, pd_30, pd_34, pd_57, if_pos]
  · simp (disch := omega) only [-Int.reduceToNat, pc_ite, if_true, if_false, pc_bv, pc_lit, pc_neg, pc_add, pc_sub, pc_mul, pc_mr, pc_ar, pc_dv, pc_lt, pc_le, pc_eq, pc_nat, pc_div, pc_emod, pc_ifz, pc_ifo, pc_zb, pd_1, pd_2, pd_3, pd_4, pd_5, pd_6, pd_7, pd_8, pd_9, pd_10, pd_11, pd_12, pd_13, pd_14, pd_15, pd_16, pd_17, pd_19, pd_21, pd_22, pd_30, pd_34, pd_57, if_neg]
theorem x_named (h : tT n t) (hy : tX n t y) (w : wS S) (hn : aH 3 len S) (ht : aT let' S) {b l : Int} (b0 : 0 ≤ b) (l0 : 0 ≤ l) (bl : b + l ≤ n) : f_X5_namedHarbour (iI n) (iI b) (iI l) y (iI (S 2)) len let' = some (iI (nmH S t b l)) := by
  have hC := w.C
  have hn2 := h.2.1
  unfold f_X5_namedHarbour
  simp only [pc_bv]
  have A : ∀ i, 0 ≤ i → i < S 2 → ∃ r, lq2 (fun (v2 : Int32) (v3 : Int32) => ((
          (if iI l ≤ v3 then (
            some (.inr v2)
          ) else (
            (if v2 = 0 then (
              some (.inr v2)
            ) else (
              bd1 (f_X2_letterOf (iI (S 2)) len let' (iI i) v3) fun (r63 : Int32) =>
              bd1 (f_X5_signAt (iI n) y (iI b + v3)) fun (r73 : Int32) =>
              (if r63 = r73 then (
                some (.inl (1, v3 + 1))
              ) else (
                some (.inl (0, v3 + 1))
              ))
            ))
          ))
          ) : Option ((Int32 × Int32) ⊕ (Int32)))) (if hv S i 3 = l then 1 else 0) 0 = some r ∧ r = zB (nmP S t b l i) := by
    intro i i1 i2
    have hH := w.H i1 i2
    unfold nmP
    by_cases z : hv S i 3 = l
    · rw [if_pos z, decide_eq_true z, Bool.true_and]
      refine pc_all (fun k => decide (hv S i (4 + k) = t (b + k))) l l0 (by omega) rfl rfl (fun k k1 k2 => ?_) (fun k k1 k2 => ?_) ?_
      · by_cases c : l ≤ k
        · simp (disch := omega) only [-Int.reduceToNat, pc_ite, if_true, if_false, pc_bv, pc_lit, pc_neg, pc_add, pc_sub, pc_mul, pc_mr, pc_ar, pc_dv, pc_lt, pc_le, pc_eq, pc_nat, pc_div, pc_emod, pc_ifz, pc_ifo, pc_zb, pd_1, pd_2, pd_3, pd_4, pd_5, pd_6, pd_7, pd_8, pd_9, pd_10, pd_11, pd_12, pd_13, pd_14, pd_15, pd_16, pd_17, pd_19, pd_21, pd_22, pd_30, pd_34, pd_57, if_pos]
        · simp (disch := omega) only [-Int.reduceToNat, pc_ite, if_true, if_false, pc_bv, pc_lit, pc_neg, pc_add, pc_sub, pc_mul, pc_mr, pc_ar, pc_dv, pc_lt, pc_le, pc_eq, pc_nat, pc_div, pc_emod, pc_ifz, pc_ifo, pc_zb, pd_1, pd_2, pd_3, pd_4, pd_5, pd_6, pd_7, pd_8, pd_9, pd_10, pd_11, pd_12, pd_13, pd_14, pd_15, pd_16, pd_17, pd_19, pd_21, pd_22, pd_30, pd_34, pd_57, if_neg c]
      · have hT := w.T i1 i2 k1 (by omega)
        have g := t_rg h (k := b + k) (by omega)
        have ok : 0 ≤ k ∧ k < hv S i 3 := by omega
        rw [zB_c]
        by_cases c : hv S i (4 + k) = t (b + k)
        · simp (disch := omega) only [-Int.reduceToNat, pc_ite, if_true, if_false, pc_bv, pc_lit, pc_neg, pc_add, pc_sub, pc_mul, pc_mr, pc_ar, pc_dv, pc_lt, pc_le, pc_eq, pc_nat, pc_div, pc_emod, pc_ifz, pc_ifo, pc_zb, pd_1, pd_2, pd_3, pd_4, pd_5, pd_6, pd_7, pd_8, pd_9, pd_10, pd_11, pd_12, pd_13, pd_14, pd_15, pd_16, pd_17, pd_19, pd_21, pd_22, pd_30, pd_34, pd_57, if_neg, x_letterOf w hn ht i1 i2, x_signAt h hy, if_pos ok, c, if_true]
        · simp (disch := omega) only [-Int.reduceToNat, pc_ite, if_true, if_false, pc_bv, pc_lit, pc_neg, pc_add, pc_sub, pc_mul, pc_mr, pc_ar, pc_dv, pc_lt, pc_le, pc_eq, pc_nat, pc_div, pc_emod, pc_ifz, pc_ifo, pc_zb, pd_1, pd_2, pd_3, pd_4, pd_5, pd_6, pd_7, pd_8, pd_9, pd_10, pd_11, pd_12, pd_13, pd_14, pd_15, pd_16, pd_17, pd_19, pd_21, pd_22, pd_30, pd_34, pd_57, if_neg, x_letterOf w hn ht i1 i2, x_signAt h hy, if_pos ok, if_neg c]
      · simp (disch := omega) only [-Int.reduceToNat, pc_ite, if_true, if_false, pc_bv, pc_lit, pc_neg, pc_add, pc_sub, pc_mul, pc_mr, pc_ar, pc_dv, pc_lt, pc_le, pc_eq, pc_nat, pc_div, pc_emod, pc_ifz, pc_ifo, pc_zb, pd_1, pd_2, pd_3, pd_4, pd_5, pd_6, pd_7, pd_8, pd_9, pd_10, pd_11, pd_12, pd_13, pd_14, pd_15, pd_16, pd_17, pd_19, pd_21, pd_22, pd_30, pd_34, pd_57, if_pos]
    · rw [if_neg z, decide_eq_false z, Bool.false_and]
      refine ⟨iI 0, pc_run2 (fun _ => iI 0) (fun k : Nat => iI k) 0 rfl rfl (fun k hk => by omega) (r := iI 0) ?_, rfl⟩
      by_cases c : l ≤ 0
      · simp (disch := omega) only [-Int.reduceToNat, pc_ite, if_true, if_false, pc_bv, pc_lit, pc_neg, pc_add, pc_sub, pc_mul, pc_mr, pc_ar, pc_dv, pc_lt, pc_le, pc_eq, pc_nat, pc_div, pc_emod, pc_ifz, pc_ifo, pc_zb, pd_1, pd_2, pd_3, pd_4, pd_5, pd_6, pd_7, pd_8, pd_9, pd_10, pd_11, pd_12, pd_13, pd_14, pd_15, pd_16, pd_17, pd_19, pd_21, pd_22, pd_30, pd_34, pd_57, if_pos]
      · simp (disch := omega) only [-Int.reduceToNat, pc_ite, if_true, if_false, pc_bv, pc_lit, pc_neg, pc_add, pc_sub, pc_mul, pc_mr, pc_ar, pc_dv, pc_lt, pc_le, pc_eq, pc_nat, pc_div, pc_emod, pc_ifz, pc_ifo, pc_zb, pd_1, pd_2, pd_3, pd_4, pd_5, pd_6, pd_7, pd_8, pd_9, pd_10, pd_11, pd_12, pd_13, pd_14, pd_15, pd_16, pd_17, pd_19, pd_21, pd_22, pd_30, pd_34, pd_57, if_neg]
  refine (pc_srch (nmP S t b l) (fun i => iI i) (iI (-1)) (S 2) (by omega) rfl (fun i i1 i2 q => ?_) (fun i i1 i2 q => ?_) ?_).trans ?_
  · obtain ⟨r, e1, e2⟩ := A i i1 i2
    have hH := w.H i1 i2
    rw [q] at e2
    subst e2
    have n1 : ¬ S 2 ≤ i := by omega
    by_cases z : hv S i 3 = l
    · rw [if_pos z] at e1
      simp only [pc_le (a := S 2) (b := i) (by omega) (by omega) (by omega) (by omega), if_neg n1, x_lengthOf w hn i1 i2, pd_1, z, if_true, e1, pc_zB1]
      rfl
    · unfold nmP at q
      rw [decide_eq_false z, Bool.false_and] at q
      cases q
  · obtain ⟨r, e1, e2⟩ := A i i1 i2
    have hH := w.H i1 i2
    rw [q] at e2
    subst e2
    have n1 : ¬ S 2 ≤ i := by omega
    have ez : (iI (hv S i 3) = iI l) = (hv S i 3 = l) := pc_eq (by omega) (by omega) (by omega) (by omega)
    by_cases z : hv S i 3 = l
    · rw [if_pos z] at e1
      simp only [pc_le (a := S 2) (b := i) (by omega) (by omega) (by omega) (by omega), if_neg n1, x_lengthOf w hn i1 i2, pd_1, z, if_true, e1, pc_zB0]
      rw [if_pos (by rfl), pc_lit, pc_add]
    · rw [if_neg z] at e1
      simp only [pc_le (a := S 2) (b := i) (by omega) (by omega) (by omega) (by omega), if_neg n1, x_lengthOf w hn i1 i2, pd_1, ez, z, if_false, e1, pc_zB0]
      rw [if_pos (by rfl), pc_lit, pc_add]
  · simp (disch := omega) only [-Int.reduceToNat, pc_ite, if_true, if_false, pc_bv, pc_lit, pc_neg, pc_add, pc_sub, pc_mul, pc_mr, pc_ar, pc_dv, pc_lt, pc_le, pc_eq, pc_nat, pc_div, pc_emod, pc_ifz, pc_ifo, pc_zb, pd_1, pd_2, pd_3, pd_4, pd_5, pd_6, pd_7, pd_8, pd_9, pd_10, pd_11, pd_12, pd_13, pd_14, pd_15, pd_16, pd_17, pd_19, pd_21, pd_22, pd_30, pd_34, pd_57, if_pos, pc_mr]
  · unfold nmH
    by_cases c : fi (nmP S t b l) (S 2) = -1
    · rw [if_pos c, c]
    · rw [if_neg c]
theorem m_named (h : tT n t) (hy : tX n t y) (hs : mS s S) (w : wS S) {b l : Int} (b0 : 0 ≤ b) (l0 : 0 ≤ l) (bl : b + l ≤ n) : f_X9_named (iI (b + l)) (iI b) s y = some (iI (nmH S t b l)) := by
  have hC := w.C
  have hn2 := h.2.1
  have e2 : s (2 : Int32).toNatClampNeg = iI (S 2) := hs 2 (by omega) (by omega)
  have el : iI (b + l) - iI b = iI l := by rw [pc_sub, show b + l - b = l by omega]
  unfold f_X9_named
  simp only [pc_bv, pc_ar2, e2, el]
  have A : ∀ i, 0 ≤ i → i < S 2 → ∃ r, lq2 (fun (v2 : Int32) (v3 : Int32) => ((
          (if iI l ≤ v3 then (
            some (.inr v2)
          ) else (
            (if v2 = 0 then (
              some (.inr v2)
            ) else (
              bd1 (f_X9_of s (iI i) (4 + v3)) fun (r60 : Int32) =>
              ar (iI b + v3) 500 <|
              (if r60 = (y (iI b + v3).toNatClampNeg) then (
                some (.inl (1, v3 + 1))
              ) else (
                some (.inl (0, v3 + 1))
              ))
            ))
          ))
          ) : Option ((Int32 × Int32) ⊕ (Int32)))) (if hv S i 3 = l then 1 else 0) 0 = some r ∧ r = zB (nmP S t b l i) := by
    intro i i1 i2
    have hH := w.H i1 i2
    unfold nmP
    by_cases z : hv S i 3 = l
    · rw [if_pos z, decide_eq_true z, Bool.true_and]
      refine pc_all (fun k => decide (hv S i (4 + k) = t (b + k))) l l0 (by omega) rfl rfl (fun k k1 k2 => ?_) (fun k k1 k2 => ?_) ?_
      · by_cases c : l ≤ k
        · simp (disch := omega) only [-Int.reduceToNat, pc_ite, if_true, if_false, pc_bv, pc_lit, pc_neg, pc_add, pc_sub, pc_mul, pc_mr, pc_ar, pc_dv, pc_lt, pc_le, pc_eq, pc_nat, pc_div, pc_emod, pc_ifz, pc_ifo, pc_zb, pd_1, pd_2, pd_3, pd_4, pd_5, pd_6, pd_7, pd_8, pd_9, pd_10, pd_11, pd_12, pd_13, pd_14, pd_15, pd_16, pd_17, pd_19, pd_21, pd_22, pd_30, pd_34, pd_57, if_pos]
        · simp (disch := omega) only [-Int.reduceToNat, pc_ite, if_true, if_false, pc_bv, pc_lit, pc_neg, pc_add, pc_sub, pc_mul, pc_mr, pc_ar, pc_dv, pc_lt, pc_le, pc_eq, pc_nat, pc_div, pc_emod, pc_ifz, pc_ifo, pc_zb, pd_1, pd_2, pd_3, pd_4, pd_5, pd_6, pd_7, pd_8, pd_9, pd_10, pd_11, pd_12, pd_13, pd_14, pd_15, pd_16, pd_17, pd_19, pd_21, pd_22, pd_30, pd_34, pd_57, if_neg c]
      · have hT := w.T i1 i2 k1 (by omega)
        have g := t_rg h (k := b + k) (by omega)
        have e := hy (b + k) (by omega) (by omega)
        rw [zB_c]
        by_cases c : hv S i (4 + k) = t (b + k)
        · simp (disch := omega) only [-Int.reduceToNat, pc_ite, if_true, if_false, pc_bv, pc_lit, pc_neg, pc_add, pc_sub, pc_mul, pc_mr, pc_ar, pc_dv, pc_lt, pc_le, pc_eq, pc_nat, pc_div, pc_emod, pc_ifz, pc_ifo, pc_zb, pd_1, pd_2, pd_3, pd_4, pd_5, pd_6, pd_7, pd_8, pd_9, pd_10, pd_11, pd_12, pd_13, pd_14, pd_15, pd_16, pd_17, pd_19, pd_21, pd_22, pd_30, pd_34, pd_57, if_neg, m_of hs, e, c, if_true]
        · simp (disch := omega) only [-Int.reduceToNat, pc_ite, if_true, if_false, pc_bv, pc_lit, pc_neg, pc_add, pc_sub, pc_mul, pc_mr, pc_ar, pc_dv, pc_lt, pc_le, pc_eq, pc_nat, pc_div, pc_emod, pc_ifz, pc_ifo, pc_zb, pd_1, pd_2, pd_3, pd_4, pd_5, pd_6, pd_7, pd_8, pd_9, pd_10, pd_11, pd_12, pd_13, pd_14, pd_15, pd_16, pd_17, pd_19, pd_21, pd_22, pd_30, pd_34, pd_57, if_neg, m_of hs, e, if_neg c]
      · simp (disch := omega) only [-Int.reduceToNat, pc_ite, if_true, if_false, pc_bv, pc_lit, pc_neg, pc_add, pc_sub, pc_mul, pc_mr, pc_ar, pc_dv, pc_lt, pc_le, pc_eq, pc_nat, pc_div, pc_emod, pc_ifz, pc_ifo, pc_zb, pd_1, pd_2, pd_3, pd_4, pd_5, pd_6, pd_7, pd_8, pd_9, pd_10, pd_11, pd_12, pd_13, pd_14, pd_15, pd_16, pd_17, pd_19, pd_21, pd_22, pd_30, pd_34, pd_57, if_pos]
    · rw [if_neg z, decide_eq_false z, Bool.false_and]
      refine ⟨iI 0, pc_run2 (fun _ => iI 0) (fun k : Nat => iI k) 0 rfl rfl (fun k hk => by omega) (r := iI 0) ?_, rfl⟩
      by_cases c : l ≤ 0
      · simp (disch := omega) only [-Int.reduceToNat, pc_ite, if_true, if_false, pc_bv, pc_lit, pc_neg, pc_add, pc_sub, pc_mul, pc_mr, pc_ar, pc_dv, pc_lt, pc_le, pc_eq, pc_nat, pc_div, pc_emod, pc_ifz, pc_ifo, pc_zb, pd_1, pd_2, pd_3, pd_4, pd_5, pd_6, pd_7, pd_8, pd_9, pd_10, pd_11, pd_12, pd_13, pd_14, pd_15, pd_16, pd_17, pd_19, pd_21, pd_22, pd_30, pd_34, pd_57, if_pos]
      · simp (disch := omega) only [-Int.reduceToNat, pc_ite, if_true, if_false, pc_bv, pc_lit, pc_neg, pc_add, pc_sub, pc_mul, pc_mr, pc_ar, pc_dv, pc_lt, pc_le, pc_eq, pc_nat, pc_div, pc_emod, pc_ifz, pc_ifo, pc_zb, pd_1, pd_2, pd_3, pd_4, pd_5, pd_6, pd_7, pd_8, pd_9, pd_10, pd_11, pd_12, pd_13, pd_14, pd_15, pd_16, pd_17, pd_19, pd_21, pd_22, pd_30, pd_34, pd_57, if_neg]
  refine (pc_srch (nmP S t b l) (fun i => iI i) (iI (-1)) (S 2) (by omega) rfl (fun i i1 i2 q => ?_) (fun i i1 i2 q => ?_) ?_).trans ?_
  · obtain ⟨r, e1, e2⟩ := A i i1 i2
    have hH := w.H i1 i2
    have o3 := m_of hs i1 (by omega : i < 8) (by omega : (0 : Int) ≤ 3) (by omega : (3 : Int) < 12)
    rw [show iI 3 = (3 : Int32) from rfl] at o3
    rw [q] at e2
    subst e2
    have n1 : ¬ S 2 ≤ i := by omega
    by_cases z : hv S i 3 = l
    · rw [if_pos z] at e1
      simp only [pc_le (a := S 2) (b := i) (by omega) (by omega) (by omega) (by omega), if_neg n1, o3, pd_1, z, if_true, e1, pc_zB1]
      rfl
    · unfold nmP at q
      rw [decide_eq_false z, Bool.false_and] at q
      cases q
  · obtain ⟨r, e1, e2⟩ := A i i1 i2
    have hH := w.H i1 i2
    have o3 := m_of hs i1 (by omega : i < 8) (by omega : (0 : Int) ≤ 3) (by omega : (3 : Int) < 12)
    rw [show iI 3 = (3 : Int32) from rfl] at o3
    rw [q] at e2
    subst e2
    have n1 : ¬ S 2 ≤ i := by omega
    have ez : (iI (hv S i 3) = iI l) = (hv S i 3 = l) := pc_eq (by omega) (by omega) (by omega) (by omega)
    by_cases z : hv S i 3 = l
    · rw [if_pos z] at e1
      simp only [pc_le (a := S 2) (b := i) (by omega) (by omega) (by omega) (by omega), if_neg n1, o3, pd_1, z, if_true, e1, pc_zB0]
      rw [if_pos (by rfl), pc_lit, pc_add]
    · rw [if_neg z] at e1
      simp only [pc_le (a := S 2) (b := i) (by omega) (by omega) (by omega) (by omega), if_neg n1, o3, pd_1, ez, z, if_false, e1, pc_zB0]
      rw [if_pos (by rfl), pc_lit, pc_add]
  · simp (disch := omega) only [-Int.reduceToNat, pc_ite, if_true, if_false, pc_bv, pc_lit, pc_neg, pc_add, pc_sub, pc_mul, pc_mr, pc_ar, pc_dv, pc_lt, pc_le, pc_eq, pc_nat, pc_div, pc_emod, pc_ifz, pc_ifo, pc_zb, pd_1, pd_2, pd_3, pd_4, pd_5, pd_6, pd_7, pd_8, pd_9, pd_10, pd_11, pd_12, pd_13, pd_14, pd_15, pd_16, pd_17, pd_19, pd_21, pd_22, pd_30, pd_34, pd_57, if_pos, pc_mr]
  · unfold nmH
    by_cases c : fi (nmP S t b l) (S 2) = -1
    · rw [if_pos c, c]
    · rw [if_neg c]
end
