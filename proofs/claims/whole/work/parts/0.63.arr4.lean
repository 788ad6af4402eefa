theorem pc_e1c {α γ δ : Type} {F : δ → γ} {o : Option α} {Q : α → Prop} {k : α → Option γ} {R : δ → Prop} (h : ∃ r, o = some r ∧ Q r) (e : ∀ a, Q a → ∃ b, k a = some (F b) ∧ R b) : ∃ b, bd1 o k = some (F b) ∧ R b := pc_e1g h e
def cE (S : Int → Int) (y : Nat → Int32) (c3 : Int) (B : Int × Int × Int × (Int → Int)) : Prop := (B.1 = -1 ∧ c3 = 0) ∨ (¬ B.1 = -1 ∧ c3 = B.2.2.1 ∧ ∀ k, 0 ≤ k → k < S 2 → y k.toNat = iI (B.2.2.2 k))
def chB (t : Int → Int) (h j : Int) : Bool := decide (j / 4 < h) && decide (t (j / 4) = j % 4)
section
variable {S : Int → Int} {R : Int → Bool} {o : Int} {land riv hom dir len let' nOn lOn stp ord : Nat → Int32} {rk : Int32} {ya yf nl rl y yt : Nat → Int32}
theorem x_countLeft (w : wS S) (hR : ∀ h, 0 ≤ h → h < S 2 → bt rk h = R h) (hy : ∀ h, 0 ≤ h → h < 8 → ya h.toNat = mk (al S o h) 4) : ∃ r, f_X0_countLeft rk ya nl rl = some r ∧ ∀ h, 0 ≤ h → h ≤ 8 → r.1 h.toNat = iI (nL S o h) ∧ r.2 h.toNat = iI (rL S R o h) := by
  have hC := w.C
  unfold f_X0_countLeft
  simp only [pc_bv]
  simp (disch := omega) only [pc_lit, pc_ar, pc_nat]
  have n8 : nL S o 8 = 0 := by unfold nL; omega
  have r8 : rL S R o 8 = 0 := by unfold rL; omega
  refine pc_e2 (pc_inv3 (fun c a b => ∃ i : Int, c = iI i ∧ -1 ≤ i ∧ i ≤ 7 ∧ ∀ h, i < h → h ≤ 8 → a h.toNat = iI (nL S o h) ∧ b h.toNat = iI (rL S R o h)) (fun c a b => (c.toInt + 1).toNat) (fun r => ∀ h, 0 ≤ h → h ≤ 8 → r.1 h.toNat = iI (nL S o h) ∧ r.2 h.toNat = iI (rL S R o h)) (fun c a b H => ?_) _ _ _ ⟨7, rfl, by omega, by omega, fun h h1 h2 => ?_⟩) (fun a b hq => ⟨(a, b), rfl, hq⟩)
  · obtain ⟨i, e, i1, i2, hi⟩ := H
    subst e
    by_cases z : i = -1
    · subst z
      right
      exact ⟨(a, b), by simp (disch := omega) only [-Int.reduceToNat, pc_ite, if_true, if_false, pc_bv, pc_lit, pc_neg, pc_add, pc_sub, pc_mul, pc_mr, pc_ar, pc_dv, pc_lt, pc_le, pc_eq, pc_nat, pc_div, pc_emod, pc_ifz, pc_ifo, pc_zb, pd_1, pd_2, pd_3, pd_4, pd_5, pd_6, pd_7, pd_8, pd_9, pd_10, pd_11, pd_12, pd_13, pd_14, pd_15, pd_16, pd_17, pd_19, pd_21, pd_22, pd_30, pd_34, pd_57, if_pos], fun h h1 h2 => hi h (by omega) h2⟩
    · left
      have yi := hy i (by omega) (by omega)
      obtain ⟨g1, g2⟩ := hi (i + 1) (by omega) (by omega)
      have s1 := nL_s (S := S) (o := o) (h := i) (by omega)
      have s2 := rL_s (S := S) (R := R) (o := o) (h := i) (by omega)
      have bz : ∀ x : Bool, zB x = iI (if x then 1 else 0) := by intro x; cases x <;> rfl
      refine ⟨iI (i - 1), upd a i.toNat (iI (nL S o i)), upd b i.toNat (iI (rL S R o i)), ?_, ⟨i - 1, rfl, by omega, by omega, fun h h1 h2 => ?_⟩, ?_⟩
      · rw [s1, s2]
        by_cases q : mk (al S o i) 4 = iI 0
        · have e : nF S o i = 0 := by unfold nF; rw [if_pos q]
          rw [e, Int.zero_mul]
          simp (disch := omega) only [-Int.reduceToNat, pc_ite, if_true, if_false, pc_bv, pc_lit, pc_neg, pc_add, pc_sub, pc_mul, pc_mr, pc_ar, pc_dv, pc_lt, pc_le, pc_eq, pc_nat, pc_div, pc_emod, pc_ifz, pc_ifo, pc_zb, pd_1, pd_2, pd_3, pd_4, pd_5, pd_6, pd_7, pd_8, pd_9, pd_10, pd_11, pd_12, pd_13, pd_14, pd_15, pd_16, pd_17, pd_19, pd_21, pd_22, pd_30, pd_34, pd_57, if_neg, yi, if_pos q, g1, g2, pc_bt, bz, Int.zero_mul]
          try rfl
        · have e : nF S o i = 1 := by unfold nF; rw [if_neg q]
          have hi2 : i < S 2 := by
            by_cases h : i < S 2
            · exact h
            · have := nF_hi (S := S) (o := o) (h := i) (by omega); omega
          have er : rI R i = if R i then 1 else 0 := rfl
          rw [e, Int.one_mul, er, ← hR i (by omega) hi2]
          simp (disch := omega) only [-Int.reduceToNat, pc_ite, if_true, if_false, pc_bv, pc_lit, pc_neg, pc_add, pc_sub, pc_mul, pc_mr, pc_ar, pc_dv, pc_lt, pc_le, pc_eq, pc_nat, pc_div, pc_emod, pc_ifz, pc_ifo, pc_zb, pd_1, pd_2, pd_3, pd_4, pd_5, pd_6, pd_7, pd_8, pd_9, pd_10, pd_11, pd_12, pd_13, pd_14, pd_15, pd_16, pd_17, pd_19, pd_21, pd_22, pd_30, pd_34, pd_57, if_neg, yi, if_neg q, g1, g2, pc_bt, bz, Int.one_mul]
          try rfl
      · simp only [upd_at]
        by_cases z2 : h = i
        · rw [if_pos (by omega), if_pos (by omega), z2]; exact ⟨rfl, rfl⟩
        · rw [if_neg (by omega), if_neg (by omega)]; exact hi h (by omega) h2
      · show ((iI (i - 1)).toInt + 1).toNat < ((iI i).toInt + 1).toNat
        rw [pc_toInt (by omega) (by omega), pc_toInt (by omega) (by omega)]
        omega
  · have e : h = 8 := by omega
    rw [e, n8, r8, upd_at, upd_at, if_pos rfl, if_pos rfl]
    exact ⟨rfl, rfl⟩
theorem x_weigh (w : wS S) (hj : aJ stp S) {t : Int → Int} {p r c3 : Int} {B : Int × Int × Int × (Int → Int)} (l : lgT S R o t (S 2)) (ht : ∀ k, 0 ≤ k → k < 8 → yt k.toNat = iI (if k < S 2 then t k else -1)) (p1 : 0 ≤ p) (p2 : p ≤ 8) (r1 : 0 ≤ r) (r2 : r ≤ 8) (b : okB S R o B) (hc : cE S y c3 B) : ∃ z : Int × (Nat → Int32), f_X0_weigh (iI B.1) (iI B.2.1) (iI c3) y yt (iI (S 4)) (iI (S 5)) stp (iI r) (iI p) = some (iI (wgF S t p r B).1, iI (wgF S t p r B).2.1, iI z.1, z.2) ∧ cE S z.2 z.1 (wgF S t p r B) := by
  have hC := w.C
  have hL := lg_rg l
  have hw : ∀ k, 0 ≤ k → k < S 2 → yt k.toNat = iI (t k) ∧ -1 ≤ t k ∧ t k < 4 := fun k k1 k2 => ⟨by rw [ht k k1 (by omega), if_pos k2], hL k k1 k2⟩
  have hT := tB_rg w hL (t := S 5) (by omega) (by omega)
  have eT := x_turningBy w hj hw (t := S 5) (by omega) (by omega)
  have hB : -1 ≤ B.1 ∧ B.1 ≤ 8 ∧ -1 ≤ B.2.1 ∧ B.2.1 ≤ 8 ∧ 0 ≤ B.2.2.1 ∧ B.2.2.1 ≤ 1000000 := by rcases b with h | h <;> omega
  have hc3 : 0 ≤ c3 ∧ c3 ≤ 1000000 := by rcases hc with h | h <;> omega
  have cp : ∃ a, lq2 (fun (v7 : Int32) (y1_best_1 : Nat → Int32) => if iI 8 ≤ v7 then (some (.inr y1_best_1) : Option ((Int32 × (Nat → Int32)) ⊕ (Nat → Int32))) else ar v7 8 (ar v7 8 (some (.inl (v7 + iI 1, upd y1_best_1 v7.toNatClampNeg (yt v7.toNatClampNeg)))))) (iI 0) y = some a ∧ ∀ k, 0 ≤ k → k < S 2 → a k.toNat = iI (t k) := by
    refine pc_iv2 (P := fun i y => ∀ k, 0 ≤ k → k < i → y k.toNat = yt k.toNat) (Q := fun y => ∀ k, 0 ≤ k → k < S 2 → y k.toNat = iI (t k)) 8 (by omega) (by omega) rfl (fun k k1 k2 => by omega) (fun i y i1 i2 hy => ⟨upd y i.toNat (yt i.toNat), ?_, fun k k1 k2 => ?_⟩) (fun y hy => ⟨y, ?_, fun k k1 k2 => by rw [hy k k1 (by omega), (hw k k1 k2).1]⟩)
    · simp (disch := omega) only [-Int.reduceToNat, pc_ite, if_true, if_false, pc_bv, pc_lit, pc_neg, pc_add, pc_sub, pc_mul, pc_mr, pc_ar, pc_dv, pc_lt, pc_le, pc_eq, pc_nat, pc_div, pc_emod, pc_ifz, pc_ifo, pc_zb, pd_1, pd_2, pd_3, pd_4, pd_5, pd_6, pd_7, pd_8, pd_9, pd_10, pd_11, pd_12, pd_13, pd_14, pd_15, pd_16, pd_17, pd_19, pd_21, pd_22, pd_30, pd_34, pd_57, if_neg]
    rotate_left
    · simp (disch := omega) only [-Int.reduceToNat, pc_ite, if_true, if_false, pc_bv, pc_lit, pc_neg, pc_add, pc_sub, pc_mul, pc_mr, pc_ar, pc_dv, pc_lt, pc_le, pc_eq, pc_nat, pc_div, pc_emod, pc_ifz, pc_ifo, pc_zb, pd_1, pd_2, pd_3, pd_4, pd_5, pd_6, pd_7, pd_8, pd_9, pd_10, pd_11, pd_12, pd_13, pd_14, pd_15, pd_16, pd_17, pd_19, pd_21, pd_22, pd_30, pd_34, pd_57, if_pos]
    rw [upd_at]
    by_cases z : k = i
    · rw [if_pos (by omega), z]
    · rw [if_neg (by omega), hy k k1 (by omega)]
  obtain ⟨a, ca, ha⟩ := cp
  have up : wgF S t p r B = (r, p, tB t S (S 5), t) → cE S a (tB t S (S 5)) (wgF S t p r B) := by
    intro e
    rw [e]
    exact .inr ⟨by show ¬ r = -1; omega, rfl, ha⟩
  unfold f_X0_weigh
  simp only [pc_bv]
  by_cases c1 : r < B.1
  · have e : wgF S t p r B = B := by unfold wgF; rw [if_pos (.inl c1)]
    rw [e]
    have n1 : ¬ r = B.1 := by omega
    have n2 : ¬ B.1 < r := by omega
    simp (disch := omega) only [pc_lit, pc_lt, pc_le, pc_eq, if_neg n1, if_neg n2, if_true]
    exact ⟨(c3, y), rfl, hc⟩
  · by_cases c2 : r = B.1
    · have n2 : ¬ B.1 < r := by omega
      by_cases c3' : B.2.1 ≤ p
      · by_cases c4 : p = B.2.1
        · have q3 : c3 = B.2.2.1 := by rcases hc with h | h <;> omega
          by_cases c5 : tB t S (S 5) < B.2.2.1
          · have e : wgF S t p r B = (r, p, tB t S (S 5), t) := by unfold wgF; rw [if_neg (by omega), if_neg (by omega)]
            have u := up e
            rw [e] at u ⊢
            have n5 : ¬ c3 ≤ tB t S (S 5) := by omega
            have n6 : p ≤ B.2.1 := by omega
            simp (disch := omega) only [pc_lit, eT, pd_1, pc_lt, pc_le, pc_eq, if_neg n2, if_pos c2, if_pos c4, if_pos n6, if_neg n5, if_true, if_neg (by decide : ¬ (1 : Int) = 0), ca]
            exact ⟨(tB t S (S 5), a), rfl, u⟩
          · have e : wgF S t p r B = B := by unfold wgF; rw [if_neg (by omega), if_pos (by omega)]
            rw [e]
            have n5 : c3 ≤ tB t S (S 5) := by omega
            have n6 : p ≤ B.2.1 := by omega
            simp (disch := omega) only [pc_lit, eT, pd_1, pc_lt, pc_le, pc_eq, if_neg n2, if_pos c2, if_pos c4, if_pos n6, if_pos n5, if_true, if_neg (by decide : ¬ (1 : Int) = 0)]
            exact ⟨(c3, y), rfl, hc⟩
        · have e : wgF S t p r B = (r, p, tB t S (S 5), t) := by unfold wgF; rw [if_neg (by omega), if_neg (by omega)]
          have u := up e
          rw [e] at u ⊢
          have n6 : ¬ p ≤ B.2.1 := by omega
          simp (disch := omega) only [pc_lit, eT, pd_1, pc_lt, pc_le, pc_eq, if_neg n2, if_pos c2, if_neg c4, if_neg n6, if_true, if_neg (by decide : ¬ (1 : Int) = 0), ca]
          exact ⟨(tB t S (S 5), a), rfl, u⟩
      · have e : wgF S t p r B = B := by unfold wgF; rw [if_pos (.inr (by omega))]
        rw [e]
        have n4 : ¬ p = B.2.1 := by omega
        have n6 : p ≤ B.2.1 := by omega
        simp (disch := omega) only [pc_lit, pc_lt, pc_le, pc_eq, if_neg n2, if_pos c2, if_neg n4, if_pos n6, if_true]
        exact ⟨(c3, y), rfl, hc⟩
    · have e : wgF S t p r B = (r, p, tB t S (S 5), t) := by unfold wgF; rw [if_neg (by omega), if_neg (by omega)]
      have u := up e
      rw [e] at u ⊢
      have n2 : B.1 < r := by omega
      simp (disch := omega) only [pc_lit, eT, pd_1, pc_lt, pc_le, pc_eq, if_pos n2, if_neg c2, if_true, if_neg (by decide : ¬ (1 : Int) = 0), ca]
      exact ⟨(tB t S (S 5), a), rfl, u⟩
theorem ch_cl (w : wS S) {t : Int → Int} {h v : Int} {ch : Int32} (h1 : 0 ≤ h) (h2 : h < S 2) (v1 : 0 ≤ v) (v2 : v < 4) (l : ∀ k, 0 ≤ k → k < h → -1 ≤ t k ∧ t k < 4) (hch : ∀ j, 0 ≤ j → j < 32 → bt ch j = chB t h j) (ea : al S o h v = true) : (mk (fo S R o (4 * h + v)) 32 &&& ch = iI 0) = (clB S R o t h v = true) := by
  have hC := w.C
  apply propext
  unfold clB
  rw [ea, Bool.true_and, Bool.not_eq_true', an_false]
  constructor
  · intro z k k1 k2
    rw [Bool.and_eq_false_iff, decide_eq_false_iff_not]
    by_cases q : t k = -1
    · exact .inl (by simp [q])
    · right
      have lk := l k k1 k2
      have : bt (mk (fo S R o (4 * h + v)) 32 &&& ch) (4 * k + t k) = false := by rw [z, bt_0]
      rw [bt_and, bt_mk (by omega) (by omega) (by omega), hch _ (by omega) (by omega)] at this
      unfold chB at this
      rw [show (4 * k + t k) / 4 = k by omega, show (4 * k + t k) % 4 = t k by omega, decide_eq_true k2, decide_eq_true rfl, decide_eq_true (by omega : 4 * k + t k < 32)] at this
      simpa using this
  · intro z
    apply bt_ext
    intro j j1 j2
    rw [bt_and, bt_mk (by omega) j1 j2, hch j j1 j2, bt_0, decide_eq_true j2, Bool.true_and]
    unfold chB
    by_cases c : j / 4 < h ∧ t (j / 4) = j % 4
    · have := z (j / 4) (by omega) c.1
      rw [c.2, show 4 * (j / 4) + j % 4 = j by omega, decide_eq_true (by omega : j % 4 ≠ -1), Bool.true_and] at this
      rw [this, Bool.false_and]
    · have : (decide (j / 4 < h) && decide (t (j / 4) = j % 4)) = false := by
        rw [Bool.and_eq_false_iff, decide_eq_false_iff_not, decide_eq_false_iff_not]
        by_cases q : j / 4 < h
        · exact .inr (fun e => c ⟨q, e⟩)
        · exact .inl q
      rw [this, Bool.and_false]
theorem ch_one {t : Int → Int} {h v : Int} {ch : Int32} (h1 : 0 ≤ h) (h2 : h < 8) (v1 : 0 ≤ v) (v2 : v < 4) (hch : ∀ j, 0 ≤ j → j < 32 → bt ch j = chB t h j) : ∀ j, 0 ≤ j → j < 32 → bt (ch ||| sB (4 * h + v)) j = chB (upF t h v) (h + 1) j := by
  intro j j1 j2
  rw [bt_or, bt_sB (by omega) (by omega) j1 j2, hch j j1 j2]
  unfold chB
  by_cases c : j / 4 = h
  · rw [c, upF_at, decide_eq_false (by omega : ¬ h < h), Bool.false_and, Bool.false_or, decide_eq_true (by omega : h < h + 1), Bool.true_and]
    by_cases q : v = j % 4
    · rw [decide_eq_true q, decide_eq_true (by omega)]
    · rw [decide_eq_false q, decide_eq_false (by omega)]
  · rw [upF_ne t c, decide_eq_false (by omega : ¬ 4 * h + v = j), Bool.or_false]
    by_cases q : j / 4 < h
    · rw [decide_eq_true q, decide_eq_true (by omega : j / 4 < h + 1)]
    · rw [decide_eq_false q, decide_eq_false (by omega : ¬ j / 4 < h + 1)]
theorem ch_none {t : Int → Int} {h : Int} {ch : Int32} (h1 : 0 ≤ h) (hch : ∀ j, 0 ≤ j → j < 32 → bt ch j = chB t h j) : ∀ j, 0 ≤ j → j < 32 → bt ch j = chB (upF t h (-1)) (h + 1) j := by
  intro j j1 j2
  rw [hch j j1 j2]
  unfold chB
  by_cases c : j / 4 = h
  · rw [c, upF_at, decide_eq_false (by omega : ¬ h < h), decide_eq_false (by omega : ¬ -1 = j % 4), Bool.false_and, Bool.and_false]
  · rw [upF_ne t c]
    by_cases q : j / 4 < h
    · rw [decide_eq_true q, decide_eq_true (by omega : j / 4 < h + 1)]
    · rw [decide_eq_false q, decide_eq_false (by omega : ¬ j / 4 < h + 1)]
end
