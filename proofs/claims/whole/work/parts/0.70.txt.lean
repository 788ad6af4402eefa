def tT (n : Int) (t : Int → Int) : Prop := 0 ≤ n ∧ n ≤ 500 ∧ (∀ k, 0 ≤ k → k < n → 1 ≤ t k ∧ t k ≤ 255) ∧ ∀ k, n ≤ k → t k = -1
def tX (n : Int) (t : Int → Int) (y : Nat → Int32) : Prop := ∀ k, 0 ≤ k → k < n → y k.toNat = iI (t k)
def rl (p : Int → Bool) (t : Int → Int) (n b : Int) : Int := fi (fun i => !p (t (b + i))) (n + 1)
def sgP (c : Int) : Bool := decide (c = 32)
def sgL (c : Int) : Bool := decide (97 ≤ c ∧ c ≤ 122)
def sgD (c : Int) : Bool := decide (48 ≤ c ∧ c ≤ 57)
def tws (t : Int → Int) (n a : Int) : Int := a + rl sgP t n a
def twl (t : Int → Int) (n a : Int) : Int := rl sgL t n (tws t n a)
def tdl (t : Int → Int) (n a : Int) : Int := rl sgD t n (tws t n a)
def kwI (k : Nat) : Int := (kwLen.getD k 0 : Nat)
def isK (t : Int → Int) (b l : Int) (k : Nat) : Bool := decide (l = kwI k) && !an (fun i => decide (iI (t (b + i)) ≠ kch k i.toNat)) (kwI k)
def nvC (t : Int → Int) (b : Int) (k : Int) : Int := fol (fun i v => if 1000 < v * 10 + t (b + i) - 48 then 1000 else v * 10 + t (b + i) - 48) 0 k.toNat
def nvM (t : Int → Int) (b : Int) (k : Int) : Int := fol (fun i v => if 10 * v + t (b + i) - 48 < 1000000 then 10 * v + t (b + i) - 48 else 1000000) 0 k.toNat
theorem kwI_c (k : Nat) : 0 ≤ kwI k ∧ kwI k ≤ 7 := by
  unfold kwI
  have : kwLen.getD k 0 ≤ 7 := by
    rcases Nat.lt_or_ge k 12 with h | h
    · have : ∀ j : Fin 12, kwLen.getD j.val 0 ≤ 7 := by decide
      exact this ⟨k, h⟩
    · have e : kwLen.getD k 0 = 0 := by
        rw [List.getD_eq_getElem?_getD, List.getElem?_eq_none (by exact h)]
        rfl
      omega
  omega
theorem kwI_e (k : Nat) : Int32.ofNat (kwLen.getD k 0) = iI (kwI k) := Eq.trans (b := Int32.ofNat (kwLen.getD k 0)) rfl rfl
section
variable {n : Int} {t : Int → Int} {y : Nat → Int32}
theorem rl_c {p : Int → Bool} (h : tT n t) (hp : p (-1) = false) {b : Int} (b0 : 0 ≤ b) (b1 : b ≤ n) : 0 ≤ rl p t n b ∧ b + rl p t n b ≤ n ∧ p (t (b + rl p t n b)) = false ∧ ∀ i, 0 ≤ i → i < rl p t n b → p (t (b + i)) = true := by
  have q : p (t (b + (n - b))) = false := by rw [h.2.2.2 _ (by omega)]; exact hp
  have g : ∀ x : Bool, (!x) = false → x = true := fun x => by cases x <;> simp
  have g' : ∀ x : Bool, (!x) = true → x = false := fun x => by cases x <;> simp
  unfold rl
  rcases fi_c (fun i => !p (t (b + i))) (n + 1) with ⟨i, h1, h2, h3, h4, h5⟩ | ⟨h4, h5⟩
  · rw [h4]
    refine ⟨h1, ?_, g' _ h3, fun j j1 j2 => g _ (h5 j j1 j2)⟩
    by_cases z : b + i ≤ n
    · exact z
    · have := g _ (h5 (n - b) (by omega) (by omega))
      rw [q] at this; cases this
  · have := g _ (h5 (n - b) (by omega) (by omega))
    rw [q] at this; cases this
theorem sgP_n : sgP (-1) = false := by decide
theorem sgL_n : sgL (-1) = false := by decide
theorem sgD_n : sgD (-1) = false := by decide
theorem tws_c (h : tT n t) {a : Int} (a0 : 0 ≤ a) (a1 : a ≤ n) : a ≤ tws t n a ∧ tws t n a ≤ n ∧ 0 ≤ rl sgP t n a := by
  have := rl_c h sgP_n a0 a1
  unfold tws
  omega
theorem twl_c (h : tT n t) {a : Int} (a0 : 0 ≤ a) (a1 : a ≤ n) : 0 ≤ twl t n a ∧ tws t n a + twl t n a ≤ n := by
  have := tws_c h a0 a1
  have := rl_c h sgL_n (b := tws t n a) (by omega) (by omega)
  unfold twl
  omega
theorem tdl_c (h : tT n t) {a : Int} (a0 : 0 ≤ a) (a1 : a ≤ n) : 0 ≤ tdl t n a ∧ tws t n a + tdl t n a ≤ n := by
  have := tws_c h a0 a1
  have := rl_c h sgD_n (b := tws t n a) (by omega) (by omega)
  unfold tdl
  omega
theorem t_rg (h : tT n t) {k : Int} (k0 : 0 ≤ k) : -1 ≤ t k ∧ t k ≤ 255 := by
  by_cases z : k < n
  · have := h.2.2.1 k k0 z; omega
  · have := h.2.2.2 k (by omega); omega
theorem x_signAt (h : tT n t) (hy : tX n t y) {c : Int} (c0 : 0 ≤ c) (c1 : c < 1000000) : f_X5_signAt (iI n) y (iI c) = some (iI (t c)) := by
  have hn := h.1
  have hn2 := h.2.1
  unfold f_X5_signAt
  by_cases z : c < n
  · have e := hy c c0 z
    simp (disch := omega) only [-Int.reduceToNat, pc_ite, if_true, if_false, pc_bv, pc_lit, pc_neg, pc_add, pc_sub, pc_mul, pc_mr, pc_ar, pc_dv, pc_lt, pc_le, pc_eq, pc_nat, pc_div, pc_emod, pc_ifz, pc_ifo, pc_zb, pd_1, pd_2, pd_3, pd_4, pd_5, pd_6, pd_7, pd_8, pd_9, pd_10, pd_11, pd_12, pd_13, pd_14, pd_15, pd_16, pd_17, pd_19, pd_21, pd_22, pd_30, pd_34, pd_57, if_neg, e]
  · have e := h.2.2.2 c (by omega)
    rw [e]
    simp (disch := omega) only [-Int.reduceToNat, pc_ite, if_true, if_false, pc_bv, pc_lit, pc_neg, pc_add, pc_sub, pc_mul, pc_mr, pc_ar, pc_dv, pc_lt, pc_le, pc_eq, pc_nat, pc_div, pc_emod, pc_ifz, pc_ifo, pc_zb, pd_1, pd_2, pd_3, pd_4, pd_5, pd_6, pd_7, pd_8, pd_9, pd_10, pd_11, pd_12, pd_13, pd_14, pd_15, pd_16, pd_17, pd_19, pd_21, pd_22, pd_30, pd_34, pd_57, if_neg, if_pos]
theorem m_byteAt (h : tT n t) (hy : tX n t y) {c : Int} (c0 : 0 ≤ c) (c1 : c < 1000000) : f_X9_byteAt (iI n) y (iI c) = some (iI (t c)) := by
  have hn := h.1
  have hn2 := h.2.1
  unfold f_X9_byteAt
  by_cases z : c < n
  · have e := hy c c0 z
    simp (disch := omega) only [-Int.reduceToNat, pc_ite, if_true, if_false, pc_bv, pc_lit, pc_neg, pc_add, pc_sub, pc_mul, pc_mr, pc_ar, pc_dv, pc_lt, pc_le, pc_eq, pc_nat, pc_div, pc_emod, pc_ifz, pc_ifo, pc_zb, pd_1, pd_2, pd_3, pd_4, pd_5, pd_6, pd_7, pd_8, pd_9, pd_10, pd_11, pd_12, pd_13, pd_14, pd_15, pd_16, pd_17, pd_19, pd_21, pd_22, pd_30, pd_34, pd_57, if_neg, e]
  · have e := h.2.2.2 c (by omega)
    rw [e]
    simp (disch := omega) only [-Int.reduceToNat, pc_ite, if_true, if_false, pc_bv, pc_lit, pc_neg, pc_add, pc_sub, pc_mul, pc_mr, pc_ar, pc_dv, pc_lt, pc_le, pc_eq, pc_nat, pc_div, pc_emod, pc_ifz, pc_ifo, pc_zb, pd_1, pd_2, pd_3, pd_4, pd_5, pd_6, pd_7, pd_8, pd_9, pd_10, pd_11, pd_12, pd_13, pd_14, pd_15, pd_16, pd_17, pd_19, pd_21, pd_22, pd_30, pd_34, pd_57, if_neg, if_pos]
theorem x_isLetter {c : Int} (c0 : -1 ≤ c) (c1 : c ≤ 255) : f_X5_isLetter (iI c) = some (zB (sgL c)) := by
  unfold f_X5_isLetter sgL
  by_cases z1 : c < 97
  · rw [decide_eq_false (by omega)]
    simp (disch := omega) only [-Int.reduceToNat, pc_ite, if_true, if_false, pc_bv, pc_lit, pc_neg, pc_add, pc_sub, pc_mul, pc_mr, pc_ar, pc_dv, pc_lt, pc_le, pc_eq, pc_nat, pc_div, pc_emod, pc_ifz, pc_ifo, pc_zb, pd_1, pd_2, pd_3, pd_4, pd_5, pd_6, pd_7, pd_8, pd_9, pd_10, pd_11, pd_12, pd_13, pd_14, pd_15, pd_16, pd_17, pd_19, pd_21, pd_22, pd_30, pd_34, pd_57, if_pos, pc_zB0]
  · by_cases z2 : 122 < c
    · rw [decide_eq_false (by omega)]
      simp (disch := omega) only [-Int.reduceToNat, pc_ite, if_true, if_false, pc_bv, pc_lit, pc_neg, pc_add, pc_sub, pc_mul, pc_mr, pc_ar, pc_dv, pc_lt, pc_le, pc_eq, pc_nat, pc_div, pc_emod, pc_ifz, pc_ifo, pc_zb, pd_1, pd_2, pd_3, pd_4, pd_5, pd_6, pd_7, pd_8, pd_9, pd_10, pd_11, pd_12, pd_13, pd_14, pd_15, pd_16, pd_17, pd_19, pd_21, pd_22, pd_30, pd_34, pd_57, if_neg z1, if_pos, pc_zB0]
    · rw [decide_eq_true (by omega)]
      simp (disch := omega) only [-Int.reduceToNat, pc_ite, if_true, if_false, pc_bv, pc_lit, pc_neg, pc_add, pc_sub, pc_mul, pc_mr, pc_ar, pc_dv, pc_lt, pc_le, pc_eq, pc_nat, pc_div, pc_emod, pc_ifz, pc_ifo, pc_zb, pd_1, pd_2, pd_3, pd_4, pd_5, pd_6, pd_7, pd_8, pd_9, pd_10, pd_11, pd_12, pd_13, pd_14, pd_15, pd_16, pd_17, pd_19, pd_21, pd_22, pd_30, pd_34, pd_57, if_neg z1, if_neg z2, pc_zB1]
theorem x_isDigit {c : Int} (c0 : -1 ≤ c) (c1 : c ≤ 255) : f_X5_isDigit (iI c) = some (zB (sgD c)) := by
  unfold f_X5_isDigit sgD
  by_cases z1 : c < 48
  · rw [decide_eq_false (by omega)]
    simp (disch := omega) only [-Int.reduceToNat, pc_ite, if_true, if_false, pc_bv, pc_lit, pc_neg, pc_add, pc_sub, pc_mul, pc_mr, pc_ar, pc_dv, pc_lt, pc_le, pc_eq, pc_nat, pc_div, pc_emod, pc_ifz, pc_ifo, pc_zb, pd_1, pd_2, pd_3, pd_4, pd_5, pd_6, pd_7, pd_8, pd_9, pd_10, pd_11, pd_12, pd_13, pd_14, pd_15, pd_16, pd_17, pd_19, pd_21, pd_22, pd_30, pd_34, pd_57, if_pos, pc_zB0]
  · by_cases z2 : 57 < c
    · rw [decide_eq_false (by omega)]
      simp (disch := omega) only [-Int.reduceToNat, pc_ite, if_true, if_false, pc_bv, pc_lit, pc_neg, pc_add, pc_sub, pc_mul, pc_mr, pc_ar, pc_dv, pc_lt, pc_le, pc_eq, pc_nat, pc_div, pc_emod, pc_ifz, pc_ifo, pc_zb, pd_1, pd_2, pd_3, pd_4, pd_5, pd_6, pd_7, pd_8, pd_9, pd_10, pd_11, pd_12, pd_13, pd_14, pd_15, pd_16, pd_17, pd_19, pd_21, pd_22, pd_30, pd_34, pd_57, if_neg z1, if_pos, pc_zB0]
    · rw [decide_eq_true (by omega)]
      simp (disch := omega) only [-Int.reduceToNat, pc_ite, if_true, if_false, pc_bv, pc_lit, pc_neg, pc_add, pc_sub, pc_mul, pc_mr, pc_ar, pc_dv, pc_lt, pc_le, pc_eq, pc_nat, pc_div, pc_emod, pc_ifz, pc_ifo, pc_zb, pd_1, pd_2, pd_3, pd_4, pd_5, pd_6, pd_7, pd_8, pd_9, pd_10, pd_11, pd_12, pd_13, pd_14, pd_15, pd_16, pd_17, pd_19, pd_21, pd_22, pd_30, pd_34, pd_57, if_neg z1, if_neg z2, pc_zB1]
theorem m_isLetter {c : Int} (c0 : -1 ≤ c) (c1 : c ≤ 255) : f_X9_isLetter (iI c) = some (zB (sgL c)) := by
  unfold f_X9_isLetter
  rw [pc_lit64, pc_lit64, m_isInL (by omega) (by omega) (by omega) (by omega) (by omega) (by omega), pd_1, pc_zb]
  rfl
theorem m_isDigit {c : Int} (c0 : -1 ≤ c) (c1 : c ≤ 255) : f_X9_isDigit (iI c) = some (zB (sgD c)) := by
  unfold f_X9_isDigit
  rw [pc_lit64, pc_lit64, m_isInL (by omega) (by omega) (by omega) (by omega) (by omega) (by omega), pd_1, pc_zb]
  rfl
theorem pc_go1 {f : Int32 → Option (Int32 ⊕ Int32)} {b r : Int} (r0 : 0 ≤ r) (hs : ∀ i, 0 ≤ i → i < r → f (iI (b + i)) = some (.inl (iI (b + (i + 1))))) (he : f (iI (b + r)) = some (.inr (iI (b + r)))) : lq1 f (iI b) = some (iI (b + r)) := by
  refine pc_run1 (fun k : Nat => iI (b + k)) r.toNat (by show iI b = iI (b + ((0 : Nat) : Int)); rw [show b + ((0 : Nat) : Int) = b by omega]) (fun k hk => ?_) ?_
  · have := hs k (by omega) (by omega)
    rw [this]
    rw [show b + ((k : Int) + 1) = b + ((k + 1 : Nat) : Int) by omega]
  · rw [show b + ((r.toNat : Nat) : Int) = b + r by omega]
    exact he
theorem x_nextSign (h : tT n t) (hy : tX n t y) {a : Int} (a0 : 0 ≤ a) (a1 : a ≤ n) : f_X5_nextSign (iI n) (iI a) y = some (iI (t (tws t n a)), iI (tws t n a)) := by
  have hn := h.1
  have hn2 := h.2.1
  obtain ⟨r1, r2, r3, r4⟩ := rl_c h sgP_n a0 a1
  have sg := x_signAt h hy (c := tws t n a) (by unfold tws; omega) (by unfold tws; omega)
  unfold f_X5_nextSign
  simp only [pc_bv]
  refine pc_q1 (x := iI (tws t n a)) (pc_iv2 (P := fun i b => b = iI (a + i)) (Q := fun b => b = iI (tws t n a)) (rl sgP t n a) r1 (by omega) rfl (by rw [Int.add_zero]) (fun i b i1 i2 e => ⟨iI (a + (i + 1)), ?_, rfl⟩) (fun b e => ⟨iI (a + rl sgP t n a), ?_, rfl⟩)) (by rw [sg, pd_1])
  · subst e
    have k := r4 i i1 i2
    have k : t (a + i) = 32 := of_decide_eq_true k
    simp (disch := omega) only [-Int.reduceToNat, pc_ite, if_true, if_false, pc_bv, pc_lit, pc_neg, pc_add, pc_sub, pc_mul, pc_mr, pc_ar, pc_dv, pc_lt, pc_le, pc_eq, pc_nat, pc_div, pc_emod, pc_ifz, pc_ifo, pc_zb, pd_1, pd_2, pd_3, pd_4, pd_5, pd_6, pd_7, pd_8, pd_9, pd_10, pd_11, pd_12, pd_13, pd_14, pd_15, pd_16, pd_17, pd_19, pd_21, pd_22, pd_30, pd_34, pd_57, if_neg, x_signAt h hy, k, if_true, show a + (i + 1) = a + i + 1 by omega]
  · subst e
    have r3 : ¬ t (a + rl sgP t n a) = 32 := of_decide_eq_false r3
    have g := t_rg h (k := a + rl sgP t n a) (by omega)
    by_cases z : n ≤ rl sgP t n a
    · simp (disch := omega) only [-Int.reduceToNat, pc_ite, if_true, if_false, pc_bv, pc_lit, pc_neg, pc_add, pc_sub, pc_mul, pc_mr, pc_ar, pc_dv, pc_lt, pc_le, pc_eq, pc_nat, pc_div, pc_emod, pc_ifz, pc_ifo, pc_zb, pd_1, pd_2, pd_3, pd_4, pd_5, pd_6, pd_7, pd_8, pd_9, pd_10, pd_11, pd_12, pd_13, pd_14, pd_15, pd_16, pd_17, pd_19, pd_21, pd_22, pd_30, pd_34, pd_57, if_pos]
    · simp (disch := omega) only [-Int.reduceToNat, pc_ite, if_true, if_false, pc_bv, pc_lit, pc_neg, pc_add, pc_sub, pc_mul, pc_mr, pc_ar, pc_dv, pc_lt, pc_le, pc_eq, pc_nat, pc_div, pc_emod, pc_ifz, pc_ifo, pc_zb, pd_1, pd_2, pd_3, pd_4, pd_5, pd_6, pd_7, pd_8, pd_9, pd_10, pd_11, pd_12, pd_13, pd_14, pd_15, pd_16, pd_17, pd_19, pd_21, pd_22, pd_30, pd_34, pd_57, if_neg z, x_signAt h hy, if_neg r3]
theorem m_looksL (h : tT n t) (hy : tX n t y) {a : Int} (a0 : 0 ≤ a) (a1 : a ≤ n) : lq1 (fun (x0_at_1 : Int32) => (bd1 (f_X9_byteAt (iI n) y x0_at_1) fun (r5 : Int32) =>
    (if r5 = 32 then (
      some (.inl (x0_at_1 + 1))
    ) else (
      some (.inr x0_at_1)
    )) : Option ((Int32) ⊕ (Int32)))) (iI a) = some (iI (tws t n a)) := by
  have hn := h.1
  have hn2 := h.2.1
  obtain ⟨r1, r2, r3, r4⟩ := rl_c h sgP_n a0 a1
  refine pc_go1 r1 (fun i i1 i2 => ?_) ?_
  · have k := r4 i i1 i2
    have k : t (a + i) = 32 := of_decide_eq_true k
    simp (disch := omega) only [-Int.reduceToNat, pc_ite, if_true, if_false, pc_bv, pc_lit, pc_neg, pc_add, pc_sub, pc_mul, pc_mr, pc_ar, pc_dv, pc_lt, pc_le, pc_eq, pc_nat, pc_div, pc_emod, pc_ifz, pc_ifo, pc_zb, pd_1, pd_2, pd_3, pd_4, pd_5, pd_6, pd_7, pd_8, pd_9, pd_10, pd_11, pd_12, pd_13, pd_14, pd_15, pd_16, pd_17, pd_19, pd_21, pd_22, pd_30, pd_34, pd_57, if_neg, m_byteAt h hy, k, if_true, show a + (i + 1) = a + i + 1 by omega]
  · have r3 : ¬ t (a + rl sgP t n a) = 32 := of_decide_eq_false r3
    have g := t_rg h (k := a + rl sgP t n a) (by omega)
    simp (disch := omega) only [-Int.reduceToNat, pc_ite, if_true, if_false, pc_bv, pc_lit, pc_neg, pc_add, pc_sub, pc_mul, pc_mr, pc_ar, pc_dv, pc_lt, pc_le, pc_eq, pc_nat, pc_div, pc_emod, pc_ifz, pc_ifo, pc_zb, pd_1, pd_2, pd_3, pd_4, pd_5, pd_6, pd_7, pd_8, pd_9, pd_10, pd_11, pd_12, pd_13, pd_14, pd_15, pd_16, pd_17, pd_19, pd_21, pd_22, pd_30, pd_34, pd_57, m_byteAt h hy, if_neg r3]
theorem m_fine0 : f_X9_isFine (iI 0) = some (iI 1) := rfl
theorem m_fineE {e : Int32} (he : ¬ e = iI 0) : f_X9_isFine e = some (iI 0) := by
  unfold f_X9_isFine
  rw [pc_lit, if_neg he]
theorem m_looks (h : tT n t) (hy : tX n t y) {a : Int} (a0 : 0 ≤ a) (a1 : a ≤ n) {fr : Int32} : f_X9_looks (iI n) (iI a) fr (iI 0) y = some (iI (t (tws t n a)), iI (tws t n a), iI (tws t n a)) := by
  have sg := m_byteAt h hy (c := tws t n a) (by have := tws_c h a0 a1; omega) (by have := tws_c h a0 a1; have := h.2.1; omega)
  have L := m_looksL h hy a0 a1
  unfold f_X9_looks
  simp only [pc_bv]
  rw [L, pd_1, m_fine0, pd_1, if_neg (by decide), sg, pd_1]
theorem m_looksE (h : tT n t) (hy : tX n t y) {a : Int} (a0 : 0 ≤ a) (a1 : a ≤ n) {fr e : Int32} (he : ¬ e = iI 0) : f_X9_looks (iI n) (iI a) fr e y = some (iI (t (tws t n a)), iI (tws t n a), fr) := by
  have sg := m_byteAt h hy (c := tws t n a) (by have := tws_c h a0 a1; omega) (by have := tws_c h a0 a1; have := h.2.1; omega)
  have L := m_looksL h hy a0 a1
  unfold f_X9_looks
  simp only [pc_bv]
  rw [L, pd_1, m_fineE he, pd_1, if_pos (by rfl), sg, pd_1]
theorem x_wordL (h : tT n t) (hy : tX n t y) {b : Int} (b0 : 0 ≤ b) (b1 : b ≤ n) : ∃ r, lq2 (fun (v1 : Int32) (x0_at_2 : Int32) => ((
    (if iI n ≤ v1 then (
      some (.inr x0_at_2)
    ) else (
      bd1 (f_X5_signAt (iI n) y x0_at_2) fun (r28 : Int32) =>
      bd1 (f_X5_isLetter r28) fun (r31 : Int32) =>
      (if r31 = 0 then (
        some (.inr x0_at_2)
      ) else (
        some (.inl (v1 + 1, x0_at_2 + 1))
      ))
    ))
    ) : Option ((Int32 × Int32) ⊕ (Int32)))) 0 (iI b) = some r ∧ r = iI (b + rl sgL t n b) := by
  have hn := h.1
  have hn2 := h.2.1
  obtain ⟨r1, r2, r3, r4⟩ := rl_c h sgL_n b0 b1
  refine pc_iv2 (P := fun i a => a = iI (b + i)) (Q := fun a => a = iI (b + rl sgL t n b)) (rl sgL t n b) r1 (by omega) rfl (by rw [Int.add_zero]) (fun i a i1 i2 e => ⟨iI (b + (i + 1)), ?_, rfl⟩) (fun a e => ⟨iI (b + rl sgL t n b), ?_, rfl⟩)
  · subst e
    have k := r4 i i1 i2
    have g := t_rg h (k := b + i) (by omega)
    simp (disch := omega) only [-Int.reduceToNat, pc_ite, if_true, if_false, pc_bv, pc_lit, pc_neg, pc_add, pc_sub, pc_mul, pc_mr, pc_ar, pc_dv, pc_lt, pc_le, pc_eq, pc_nat, pc_div, pc_emod, pc_ifz, pc_ifo, pc_zb, pd_1, pd_2, pd_3, pd_4, pd_5, pd_6, pd_7, pd_8, pd_9, pd_10, pd_11, pd_12, pd_13, pd_14, pd_15, pd_16, pd_17, pd_19, pd_21, pd_22, pd_30, pd_34, pd_57, if_neg, x_signAt h hy, x_isLetter, k, pc_zB1, show b + (i + 1) = b + i + 1 by omega]
  · subst e
    have g := t_rg h (k := b + rl sgL t n b) (by omega)
    by_cases z : n ≤ rl sgL t n b
    · simp (disch := omega) only [-Int.reduceToNat, pc_ite, if_true, if_false, pc_bv, pc_lit, pc_neg, pc_add, pc_sub, pc_mul, pc_mr, pc_ar, pc_dv, pc_lt, pc_le, pc_eq, pc_nat, pc_div, pc_emod, pc_ifz, pc_ifo, pc_zb, pd_1, pd_2, pd_3, pd_4, pd_5, pd_6, pd_7, pd_8, pd_9, pd_10, pd_11, pd_12, pd_13, pd_14, pd_15, pd_16, pd_17, pd_19, pd_21, pd_22, pd_30, pd_34, pd_57, if_pos]
    · simp (disch := omega) only [-Int.reduceToNat, pc_ite, if_true, if_false, pc_bv, pc_lit, pc_neg, pc_add, pc_sub, pc_mul, pc_mr, pc_ar, pc_dv, pc_lt, pc_le, pc_eq, pc_nat, pc_div, pc_emod, pc_ifz, pc_ifo, pc_zb, pd_1, pd_2, pd_3, pd_4, pd_5, pd_6, pd_7, pd_8, pd_9, pd_10, pd_11, pd_12, pd_13, pd_14, pd_15, pd_16, pd_17, pd_19, pd_21, pd_22, pd_30, pd_34, pd_57, if_neg z, x_signAt h hy, x_isLetter, r3, pc_zB0, if_true]
theorem x_word1 (h : tT n t) (hy : tX n t y) {a : Int} (a0 : 0 ≤ a) (a1 : a ≤ n) {v2 v3 e ea : Int32} (hl : 0 < twl t n a) : f_X5_takeWord (iI n) (iI a) v2 v3 e ea y = some (iI 1, iI (tws t n a + twl t n a), iI (tws t n a), iI (twl t n a), e, ea) := by
  have c := tws_c h a0 a1
  have c2 := twl_c h a0 a1
  have hn2 := h.2.1
  unfold f_X5_takeWord
  simp only [pc_bv]
  rw [x_nextSign h hy a0 a1, pd_2]
  refine pc_q1 (x_wordL h hy (b := tws t n a) (by omega) (by omega)) ?_
  have e : iI (tws t n a + rl sgL t n (tws t n a)) - iI (tws t n a) = iI (twl t n a) := by
    rw [pc_sub]
    congr 1
    unfold twl
    omega
  have l : ((0 : Int32) < iI (twl t n a)) = True := (pc_lt (a := 0) (b := twl t n a) (by omega) (by omega) (by omega) (by omega)).trans (eq_true hl)
  simp only [e, l, if_true]
  rfl
theorem x_word0 (h : tT n t) (hy : tX n t y) {a : Int} (a0 : 0 ≤ a) (a1 : a ≤ n) {v2 v3 e ea : Int32} (hl : ¬ 0 < twl t n a) : f_X5_takeWord (iI n) (iI a) v2 v3 e ea y = some (iI 0, iI (tws t n a), iI (tws t n a), iI 0, iI 1, iI (tws t n a)) := by
  have c := tws_c h a0 a1
  have c2 := twl_c h a0 a1
  have hn2 := h.2.1
  have z : twl t n a = 0 := by omega
  unfold f_X5_takeWord
  simp only [pc_bv]
  rw [x_nextSign h hy a0 a1, pd_2]
  refine pc_q1 (x_wordL h hy (b := tws t n a) (by omega) (by omega)) ?_
  have z2 : tws t n a + rl sgL t n (tws t n a) = tws t n a := by unfold twl at z; omega
  have l : (iI 0 < iI 0) = False := eq_false (by decide)
  simp only [z2, pc_sub, Int.sub_self, pc_lit, l, if_false, f_X5_fail, pd_3, if_true]
theorem m_word (h : tT n t) (hy : tX n t y) {a : Int} (a0 : 0 ≤ a) (a1 : a ≤ n) {fr : Int32} : f_X9_word (iI n) (iI a) fr (iI 0) y = some (iI (tws t n a + twl t n a), iI (tws t n a)) := by
  have c := tws_c h a0 a1
  have hn2 := h.2.1
  obtain ⟨r1, r2, r3, r4⟩ := rl_c h sgL_n (b := tws t n a) (by omega) (by omega)
  unfold f_X9_word
  simp only [pc_bv]
  rw [m_fine0, pd_1, if_neg (by decide), m_looks h hy a0 a1, pd_3]
  refine (pc_b1t (pc_go1 (b := tws t n a) r1 (fun i i1 i2 => ?_) ?_) rfl)
  · have k := r4 i i1 i2
    have g := t_rg h (k := tws t n a + i) (by omega)
    simp (disch := omega) only [-Int.reduceToNat, pc_ite, if_true, if_false, pc_bv, pc_lit, pc_neg, pc_add, pc_sub, pc_mul, pc_mr, pc_ar, pc_dv, pc_lt, pc_le, pc_eq, pc_nat, pc_div, pc_emod, pc_ifz, pc_ifo, pc_zb, pd_1, pd_2, pd_3, pd_4, pd_5, pd_6, pd_7, pd_8, pd_9, pd_10, pd_11, pd_12, pd_13, pd_14, pd_15, pd_16, pd_17, pd_19, pd_21, pd_22, pd_30, pd_34, pd_57, m_byteAt h hy, m_isLetter, k, pc_zB1, if_neg, show tws t n a + (i + 1) = tws t n a + i + 1 by omega]
  · have g := t_rg h (k := tws t n a + rl sgL t n (tws t n a)) (by omega)
    simp (disch := omega) only [-Int.reduceToNat, pc_ite, if_true, if_false, pc_bv, pc_lit, pc_neg, pc_add, pc_sub, pc_mul, pc_mr, pc_ar, pc_dv, pc_lt, pc_le, pc_eq, pc_nat, pc_div, pc_emod, pc_ifz, pc_ifo, pc_zb, pd_1, pd_2, pd_3, pd_4, pd_5, pd_6, pd_7, pd_8, pd_9, pd_10, pd_11, pd_12, pd_13, pd_14, pd_15, pd_16, pd_17, pd_19, pd_21, pd_22, pd_30, pd_34, pd_57, m_byteAt h hy, m_isLetter, r3, pc_zB0, if_true]
theorem m_wordE {nn a fr e : Int32} (he : ¬ e = iI 0) : f_X9_word nn a fr e y = some (a, fr) := by
  unfold f_X9_word
  simp only [pc_bv]
  rw [m_fineE he, pd_1, if_pos (by rfl)]
end
