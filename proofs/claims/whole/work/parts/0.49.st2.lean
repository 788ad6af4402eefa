def I0 (S : Int → Int) (c : Int) : Int := if (cB S c && eB S c) = true then cst S c else 1000000
section
variable {s : Nat → Int32} {S M : Int → Int}
theorem I0_inv (S : Int → Int) : invM S (I0 S) := by
  intro v v1 v2
  have hc := cst_rg S v
  unfold I0
  cases e1 : cB S v <;> cases e2 : eB S v <;> simp <;> omega
theorem cB_N (w : wS S) {c : Int} (h : cB S c = true) : isL S c = true := by
  unfold cB at h
  simp only [Bool.and_eq_true] at h
  exact h.1.1
theorem out_loop (w : wS S) {g : (Nat → Int32) → Option (Int32 × (Nat → Int32))} (hg : ∀ M y, yM S M y → invM S M → ∃ r, g y = some r ∧ ∃ b M', r.1 = zB b ∧ yM S M' r.2 ∧ invM S M' ∧ (b = false → M' = M ∧ ∀ v, 0 ≤ v → v < S 0 * S 1 → fixV S M v) ∧ (b = true → su M' (S 0 * S 1) < su M (S 0 * S 1))) {y : Nat → Int32} (hy : yM S (I0 S) y) : ∃ y', lq2 (fun x y => if x = 0 then some (Sum.inr y) else bd2 (g y) fun a b => some (Sum.inl (a, b))) 1 y = some y' ∧ ∃ M, yM S M y' ∧ solM S M := by
  have hN := w.N
  have su0 : ∀ M, invM S M → 0 ≤ su M (S 0 * S 1) := by
    intro M h
    have := su_rg (f := M) (n := S 0 * S 1) (lo := 0) (hi := 1000000) (by omega) (fun k k1 k2 => by have := h k k1 k2; omega)
    omega
  have suE : ∀ M y, yM S M y → invM S M → su (fun c => (y c.toNat).toInt) (S 0 * S 1) = su M (S 0 * S 1) := by
    intro M y h hi
    refine su_congr (fun c c1 c2 => ?_)
    have := hi c c1 c2
    rw [h c c1 c2, pc_toInt (by omega) (by omega)]
  refine pc_inv2 (fun x y => ∃ b M, x = zB b ∧ yM S M y ∧ invM S M ∧ (b = false → ∀ v, 0 ≤ v → v < S 0 * S 1 → fixV S M v)) (fun x y => (su (fun c => (y c.toNat).toInt) (S 0 * S 1)).toNat + (if x = iI 0 then 0 else 1)) (fun y' => ∃ M, yM S M y' ∧ solM S M) (fun x y hp => ?_) 1 y ⟨true, I0 S, rfl, hy, I0_inv S, fun q => by cases q⟩
  obtain ⟨b, M, hx, hy, hi, hb⟩ := hp
  subst hx
  cases b
  · right
    exact ⟨y, if_pos (by decide), M, hy, hi, hb rfl⟩
  · left
    obtain ⟨⟨r1, r2⟩, e, b', M', q1, q2, q3, q4, q5⟩ := hg M y hy hi
    simp only at q1 q2
    have h1 := su0 M' q3
    have h2 := su0 M hi
    refine ⟨r1, r2, ?_, ⟨b', M', q1, q2, q3, fun q => ?_⟩, ?_⟩
    · show (if zB true = 0 then _ else _) = _
      rw [if_neg (by decide), e, pd_2]
    · obtain ⟨a1, a2⟩ := q4 q
      rw [a1]; exact a2
    · show (su (fun c => (r2 c.toNat).toInt) (S 0 * S 1)).toNat + (if r1 = iI 0 then 0 else 1) < (su (fun c => (y c.toNat).toInt) (S 0 * S 1)).toNat + (if zB true = iI 0 then 0 else 1)
      rw [suE M' r2 q2 q3, suE M y hy hi, q1, if_neg (show ¬ zB true = iI 0 by decide)]
      cases b'
      · rw [(q4 rfl).1, if_pos (by decide)]; omega
      · have := q5 rfl
        rw [if_neg (by decide)]; omega
theorem m_sums (hs : mS s S) (w : wS S) (y : Nat → Int32) : ∃ y', f_X9_laysSums s y = some y' ∧ ∃ M, yM S M y' ∧ solM S M := by
  have hN := w.N
  unfold f_X9_laysSums
  simp only [pc_bv]
  refine pc_e1 (Q := fun y => yM S (I0 S) y) (pc_iv2 (fun i y => ∀ c, 0 ≤ c → c < i → y c.toNat = iI (I0 S c)) _ (S 0 * S 1) (by omega) (by omega) rfl (fun c c1 c2 => by omega) (fun i y a1 a2 hp => ?_) (fun y hp => ?_)) (fun y hy => ?_)
  · have up : ∀ x, x = I0 S i → ∀ c, 0 ≤ c → c < i + 1 → upd y i.toNat (iI x) c.toNat = iI (I0 S c) := by
      intro x hx c c1 c2
      rw [upd_at]
      by_cases z : c = i
      · rw [if_pos (by omega), hx, z]
      · rw [if_neg (by omega)]; exact hp c c1 (by omega)
    have hcell : ¬ iI (S 0 * S 1) ≤ iI i := by rw [pc_le (by omega) (by omega) (by omega) (by omega)]; omega
    have ari : ∀ {α : Type} {k : Option α}, ar (iI i) 144 k = k := fun {_ _} => pc_ar a1 (by omega) (by omega)
    have ni : (iI i).toNatClampNeg = i.toNat := pc_nat (by omega) (by omega)
    have pl : iI i + 1 = iI (i + 1) := by rw [show (1 : Int32) = iI 1 from rfl, pc_add]
    rw [m_cells hs, pd_1, if_neg hcell, m_canBegin hs w (by omega) (by omega), pd_1]
    cases e1 : cB S i
    · refine ⟨upd y i.toNat (iI 1000000), ?_, up _ (by unfold I0; simp [e1])⟩
      rw [if_pos (by decide), ari, ni, pl]; rfl
    · rw [if_neg (by decide), m_isEnd hs w a1 a2, pd_1]
      cases e2 : eB S i
      · refine ⟨upd y i.toNat (iI 1000000), ?_, up _ (by unfold I0; simp [e2])⟩
        rw [if_pos (by decide), ari, ni, pl]; rfl
      · refine ⟨upd y i.toNat (iI (cst S i)), ?_, up _ (by unfold I0; simp [e1, e2])⟩
        rw [if_neg (by decide), m_costOf hs w a1 a2, pd_1, ari, ni, pl]; rfl
  · refine ⟨y, ?_, hp⟩
    rw [m_cells hs, pd_1, if_pos (by rw [pc_le (by omega) (by omega) (by omega) (by omega)]; omega)]
  · refine pc_e1 (Q := fun y' => ∃ M, yM S M y' ∧ solM S M) (out_loop w (fun M y hy hi => m_round hs w hy hi rfl rfl (fun b i M' y' a1 a2 hy' hi' => ?_) (fun b y' => ?_)) hy) (fun y' h => ⟨y', rfl, h⟩)
    · have hcell : ¬ iI (S 0 * S 1) ≤ iI i := by rw [pc_le (by omega) (by omega) (by omega) (by omega)]; omega
      have ari : ∀ {α : Type} {k : Option α}, ar (iI i) 144 k = k := fun {_ _} => pc_ar a1 (by omega) (by omega)
      have ni : (iI i).toNatClampNeg = i.toNat := pc_nat (by omega) (by omega)
      have pl : iI i + 1 = iI (i + 1) := by rw [show (1 : Int32) = iI 1 from rfl, pc_add]
      show (bd1 (f_X9_cells s) fun r60 => if r60 ≤ iI i then _ else _) = _
      rw [m_cells hs, pd_1, if_neg hcell, m_canBegin hs w (by omega) (by omega), pd_1]
      cases e1 : cB S i
      · rw [if_pos (by decide), pl]; rfl
      · rw [if_neg (by decide), m_isEnd hs w a1 a2, pd_1]
        cases e2 : eB S i
        · rw [if_pos (by decide)]
          refine pc_b1t (m_least hs w hy' hi' a1 a2 rfl rfl rfl) ?_
          have hl := lst_c (M := M') w i 4 (by omega)
          have hc := cst_rg S i
          have hm := hi' i a1 a2
          have e := hy' i a1 a2
          have lb : 1 ≤ lst S M' i 4 := by
            rcases hl.2.2 with q | ⟨x, x1, x2, x3, x4⟩
            · omega
            · have hA := aw_in w x3
              have := (hi' _ hA.1 hA.2).1
              omega
          have co := m_costOf hs w a1 a2
          rw [show (if nm S i = iI 0 then (1 : Int) else 11) = cst S i from rfl] at co
          unfold smM
          by_cases z : lst S M' i 4 = 1000000
          · rw [if_pos z, if_pos (by rw [z]; rfl)]
            cases b
            · by_cases q : 1000000 < M' i
              · have q2 : ¬ M' i ≤ 1000000 := by omega
                simp (disch := omega) only [-Int.reduceToNat, pc_ite, if_true, if_false, pc_bv, pc_lit, pc_neg, pc_add, pc_sub, pc_mul, pc_mr, pc_ar, pc_dv, pc_lt, pc_le, pc_eq, pc_nat, pc_div, pc_emod, pc_ifz, pc_ifo, pc_zb, pd_1, pd_2, pd_3, pd_4, pd_5, pd_6, pd_7, pd_8, pd_9, pd_10, pd_11, pd_12, pd_13, pd_14, pd_15, pd_16, pd_17, pd_19, pd_21, pd_22, pd_30, pd_34, pd_57, ari, ni, e, q, q2, pc_zB0, pc_zB1, Int.reduceEq, decide_true, decide_false, Bool.false_or, Bool.not_false, Bool.true_and]
              · have q2 : M' i ≤ 1000000 := by omega
                simp (disch := omega) only [-Int.reduceToNat, pc_ite, if_true, if_false, pc_bv, pc_lit, pc_neg, pc_add, pc_sub, pc_mul, pc_mr, pc_ar, pc_dv, pc_lt, pc_le, pc_eq, pc_nat, pc_div, pc_emod, pc_ifz, pc_ifo, pc_zb, pd_1, pd_2, pd_3, pd_4, pd_5, pd_6, pd_7, pd_8, pd_9, pd_10, pd_11, pd_12, pd_13, pd_14, pd_15, pd_16, pd_17, pd_19, pd_21, pd_22, pd_30, pd_34, pd_57, ari, ni, e, q, q2, pc_zB0, pc_zB1, Int.reduceEq, decide_true, decide_false, Bool.false_or, Bool.not_false, Bool.true_and]
            · simp (disch := omega) only [-Int.reduceToNat, pc_ite, if_true, if_false, pc_bv, pc_lit, pc_neg, pc_add, pc_sub, pc_mul, pc_mr, pc_ar, pc_dv, pc_lt, pc_le, pc_eq, pc_nat, pc_div, pc_emod, pc_ifz, pc_ifo, pc_zb, pd_1, pd_2, pd_3, pd_4, pd_5, pd_6, pd_7, pd_8, pd_9, pd_10, pd_11, pd_12, pd_13, pd_14, pd_15, pd_16, pd_17, pd_19, pd_21, pd_22, pd_30, pd_34, pd_57, ari, ni, e, pc_zB1, Int.reduceEq, Bool.true_or, Bool.not_false, Bool.true_and, Bool.and_self]
          · rw [if_neg z, if_neg (by rw [show (1000000 : Int32) = iI 1000000 from rfl, pc_eq (by omega) (by omega) (by omega) (by omega)]; exact z), co, pd_1]
            cases b
            · by_cases q : lst S M' i 4 + cst S i < M' i
              · have q2 : ¬ M' i ≤ lst S M' i 4 + cst S i := by omega
                simp (disch := omega) only [-Int.reduceToNat, pc_ite, if_true, if_false, pc_bv, pc_lit, pc_neg, pc_add, pc_sub, pc_mul, pc_mr, pc_ar, pc_dv, pc_lt, pc_le, pc_eq, pc_nat, pc_div, pc_emod, pc_ifz, pc_ifo, pc_zb, pd_1, pd_2, pd_3, pd_4, pd_5, pd_6, pd_7, pd_8, pd_9, pd_10, pd_11, pd_12, pd_13, pd_14, pd_15, pd_16, pd_17, pd_19, pd_21, pd_22, pd_30, pd_34, pd_57, ari, ni, e, q, q2, pc_zB0, pc_zB1, Int.reduceEq, decide_true, decide_false, Bool.false_or, Bool.not_false, Bool.true_and]
              · have q2 : M' i ≤ lst S M' i 4 + cst S i := by omega
                simp (disch := omega) only [-Int.reduceToNat, pc_ite, if_true, if_false, pc_bv, pc_lit, pc_neg, pc_add, pc_sub, pc_mul, pc_mr, pc_ar, pc_dv, pc_lt, pc_le, pc_eq, pc_nat, pc_div, pc_emod, pc_ifz, pc_ifo, pc_zb, pd_1, pd_2, pd_3, pd_4, pd_5, pd_6, pd_7, pd_8, pd_9, pd_10, pd_11, pd_12, pd_13, pd_14, pd_15, pd_16, pd_17, pd_19, pd_21, pd_22, pd_30, pd_34, pd_57, ari, ni, e, q, q2, pc_zB0, pc_zB1, Int.reduceEq, decide_true, decide_false, Bool.false_or, Bool.not_false, Bool.true_and]
            · simp (disch := omega) only [-Int.reduceToNat, pc_ite, if_true, if_false, pc_bv, pc_lit, pc_neg, pc_add, pc_sub, pc_mul, pc_mr, pc_ar, pc_dv, pc_lt, pc_le, pc_eq, pc_nat, pc_div, pc_emod, pc_ifz, pc_ifo, pc_zb, pd_1, pd_2, pd_3, pd_4, pd_5, pd_6, pd_7, pd_8, pd_9, pd_10, pd_11, pd_12, pd_13, pd_14, pd_15, pd_16, pd_17, pd_19, pd_21, pd_22, pd_30, pd_34, pd_57, ari, ni, e, pc_zB1, Int.reduceEq, Bool.true_or, Bool.not_false, Bool.true_and, Bool.and_self]
        · rw [if_neg (by decide), pl]; rfl
    · show (bd1 (f_X9_cells s) fun r60 => if r60 ≤ iI (S 0 * S 1) then _ else _) = _
      rw [m_cells hs, pd_1, if_pos (by rw [pc_le (by omega) (by omega) (by omega) (by omega)]; omega)]
end
