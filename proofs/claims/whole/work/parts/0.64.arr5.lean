theorem pc_if3 {α : Type} {a b c : Prop} [Decidable a] [Decidable b] [Decidable c] {U J : α} : (if a then U else if b then (if c then J else U) else J) = (if a ∨ (b ∧ ¬ c) then U else J) := by
  by_cases h1 : a
  · rw [if_pos h1, if_pos (.inl h1)]
  · rw [if_neg h1]
    by_cases h2 : b
    · rw [if_pos h2]
      by_cases h3 : c
      · rw [if_pos h3, if_neg (by simp [h1, h3])]
      · rw [if_neg h3, if_pos (.inr ⟨h2, h3⟩)]
    · rw [if_neg h2, if_neg (by simp [h1, h2])]
theorem pc_e3g {α0 α1 α2 γ δ : Type} {F : δ → γ} {o : Option (α0 × α1 × α2)} {Q : α0 × α1 × α2 → Prop} {k : α0 → α1 → α2 → Option γ} {R : δ → Prop} (h : ∃ r, o = some r ∧ Q r) (e : ∀ a0 a1 a2, Q (a0, a1, a2) → ∃ b, k a0 a1 a2 = some (F b) ∧ R b) : ∃ b, bd3 o k = some (F b) ∧ R b := by
  obtain ⟨⟨a0, a1, a2⟩, h1, h2⟩ := h
  obtain ⟨b, h3, h4⟩ := e a0 a1 a2 h2
  exact ⟨b, by rw [h1]; exact h3, h4⟩
theorem pc_e2g {α0 α1 γ δ : Type} {F : δ → γ} {o : Option (α0 × α1)} {Q : α0 × α1 → Prop} {k : α0 → α1 → Option γ} {R : δ → Prop} (h : ∃ r, o = some r ∧ Q r) (e : ∀ a0 a1, Q (a0, a1) → ∃ b, k a0 a1 = some (F b) ∧ R b) : ∃ b, bd2 o k = some (F b) ∧ R b := by
  obtain ⟨⟨a0, a1⟩, h1, h2⟩ := h
  obtain ⟨b, h3, h4⟩ := e a0 a1 h2
  exact ⟨b, by rw [h1]; exact h3, h4⟩
theorem su_dif {f : Int → Int} (hf : ∀ k, 0 ≤ f k ∧ f k ≤ 1) {h : Int} (h0 : 0 ≤ h) : ∀ d : Nat, su f h ≤ su f (h + d) ∧ su f (h + d) ≤ su f h + d := by
  intro d
  induction d with
  | zero => rw [show h + ((0 : Nat) : Int) = h by omega]; omega
  | succ d ih =>
    have := hf (h + d)
    rw [show h + ((d + 1 : Nat) : Int) = h + d + 1 by omega, su_s (by omega)]
    omega
theorem nFsum (S : Int → Int) (o h : Int) (h0 : 0 ≤ h) (h8 : h ≤ 8) : 0 ≤ su (nF S o) 8 - su (nF S o) h ∧ su (nF S o) 8 - su (nF S o) h ≤ 8 := by
  have := su_dif (f := nF S o) (nF_c S o) h0 (8 - h).toNat
  rw [show h + ((8 - h).toNat : Int) = 8 by omega] at this
  omega
theorem nRsum (S : Int → Int) (R : Int → Bool) (o h : Int) (h0 : 0 ≤ h) (h8 : h ≤ 8) : 0 ≤ su (fun k => nF S o k * rI R k) 8 - su (fun k => nF S o k * rI R k) h ∧ su (fun k => nF S o k * rI R k) 8 - su (fun k => nF S o k * rI R k) h ≤ 8 := by
  have := su_dif (f := fun k => nF S o k * rI R k) (nR_c S R o) h0 (8 - h).toNat
  rw [show h + ((8 - h).toNat : Int) = 8 by omega] at this
  omega
def arB (S : Int → Int) (R : Int → Bool) (o : Int) : Int × Int × Int × (Int → Int) := tr S R o (S 2).toNat 0 (fun _ => -1) 0 0 (-1, -1, 1000000, fun _ => -1)
section
variable {S : Int → Int} {R : Int → Bool} {o : Int} {land riv hom dir len let' nOn lOn stp ord : Nat → Int32} {rk : Int32} {ya yf nl rl y yt : Nat → Int32}
theorem arB_ok (w : wS S) : okB S R o (arB S R o) ∧ 0 ≤ (arB S R o).1 := by
  have hC := w.C
  exact tr_ok w _ _ _ _ _ _ (by omega) (by omega) (fun k k1 k2 => by omega) (by omega) (by omega) (by omega) (by omega) (.inl ⟨rfl, rfl, rfl⟩)
theorem x_seek (w : wS S) (hj : aJ stp S) (hR : ∀ h, 0 ≤ h → h < S 2 → bt rk h = R h) (hy : ∀ h, 0 ≤ h → h < 8 → ya h.toNat = mk (al S o h) 4) (hf : ∀ p, 0 ≤ p → p < 32 → yf p.toNat = mk (fo S R o p) 32) (hn : ∀ h, 0 ≤ h → h ≤ 8 → nl h.toNat = iI (nL S o h) ∧ rl h.toNat = iI (rL S R o h)) : ∀ (d : Nat) (fuel : Nat) (h : Int) (t : Int → Int) (p r c3 : Int) (B : Int × Int × Int × (Int → Int)) (y yt : Nat → Int32) (ch : Int32), d < fuel → h + d = S 2 → 0 ≤ h → lgT S R o t h → (∀ k, 0 ≤ k → k < 8 → yt k.toNat = iI (if k < h then t k else -1)) → 0 ≤ p → p ≤ h → 0 ≤ r → r ≤ h → okB S R o B → cE S y c3 B → (∀ j, 0 ≤ j → j < 32 → bt ch j = chB t h j) → ∃ z : Int × (Nat → Int32) × (Nat → Int32), f_X0_seek fuel rk (iI B.1) (iI B.2.1) (iI c3) ya y yf nl rl yt (iI (S 2)) (iI (S 4)) (iI (S 5)) stp (iI h) ch (iI r) (iI p) = some (iI (tr S R o d h t p r B).1, iI (tr S R o d h t p r B).2.1, iI z.1, z.2.1, z.2.2) ∧ cE S z.2.1 z.1 (tr S R o d h t p r B) ∧ ∀ k, 0 ≤ k → k < 8 → z.2.2 k.toNat = iI (if k < h then t k else -1) := by
  have hC := w.C
  intro d
  induction d with
  | zero =>
    intro fuel h t p r c3 B y yt ch hfu e h0 l ht p1 p2 r1 r2 b hc hch
    obtain ⟨g, rfl⟩ : ∃ g, fuel = g + 1 := ⟨fuel - 1, by omega⟩
    have e : h = S 2 := by omega
    subst e
    obtain ⟨z, k1, k2⟩ := x_weigh w hj l ht p1 (by omega) r1 (by omega) b hc
    refine ⟨(z.1, z.2, yt), ?_, k2, ht⟩
    have n1 : ¬ S 2 < S 2 := by omega
    unfold f_X0_seek
    by_cases q : 8 ≤ S 2
    · simp (disch := omega) only [pc_bv, pc_lit, pc_le, if_pos q, k1, pd_4]
      try rfl
    · simp (disch := omega) only [pc_bv, pc_lit, pc_le, pc_lt, if_neg q, if_neg n1, k1, pd_4]
      try rfl
  | succ d ih =>
    intro fuel h t p r c3 B y yt ch hfu e h0 l ht p1 p2 r1 r2 b hc hch
    obtain ⟨g, rfl⟩ : ∃ g, fuel = g + 1 := ⟨fuel - 1, by omega⟩
    have hr := rI_c R h
    have lr := lg_rg l
    have hB : -1 ≤ B.1 ∧ B.1 ≤ 8 ∧ -1 ≤ B.2.1 ∧ B.2.1 ≤ 8 := by rcases b with h | h <;> omega
    obtain ⟨g1, g2⟩ := hn h h0 (by omega)
    have hnl : 0 ≤ nL S o h ∧ nL S o h ≤ 8 := by
      have c := nFsum S o h h0 (by omega)
      unfold nL
      omega
    have hrl : 0 ≤ rL S R o h ∧ rL S R o h ≤ 8 := by
      have c := nRsum S R o h h0 (by omega)
      unfold rL
      omega
    have n8 : ¬ 8 ≤ h := by omega
    have nS : h < S 2 := by omega
    unfold f_X0_seek
    have q8 : (8 ≤ iI h) = False := (pc_le (a := 8) (b := h) (by omega) (by omega) (by omega) (by omega)).trans (eq_false n8)
    have qS : (iI h < iI (S 2)) = True := (pc_lt (a := h) (b := S 2) (by omega) (by omega) (by omega) (by omega)).trans (eq_true nS)
    have qn : (iI h).toNatClampNeg = h.toNat := pc_nat (by omega) (by omega)
    have qa : ∀ {α : Type} {k : Option α}, ar (iI h) 9 k = k := pc_ar h0 (by omega) (by omega)
    have r1' : iI r + rl h.toNat = iI (r + rL S R o h) := by rw [g2, pc_add]
    have r2' : iI p + nl h.toNat = iI (p + nL S o h) := by rw [g1, pc_add]
    have c1' : (iI (r + rL S R o h) < iI B.1) = (r + rL S R o h < B.1) := pc_lt (by omega) (by omega) (by omega) (by omega)
    have c2' : (iI (r + rL S R o h) = iI B.1) = (r + rL S R o h = B.1) := pc_eq (by omega) (by omega) (by omega) (by omega)
    have c3' : (iI B.2.1 ≤ iI (p + nL S o h)) = (B.2.1 ≤ p + nL S o h) := pc_le (by omega) (by omega) (by omega) (by omega)
    simp only [pc_bv]
    simp only [q8, qS, if_true, if_false, qn, qa, r1', r2', c1', c2', c3']
    rw [pc_if3]
    by_cases cut : r + rL S R o h < B.1 ∨ (r + rL S R o h = B.1 ∧ ¬ B.2.1 ≤ p + nL S o h)
    · rw [if_pos cut, tr_cut w (d + 1) h t p r B e h0 (by omega)]
      exact ⟨(c3, y, yt), rfl, hc, ht⟩
    · rw [if_neg cut, tr_s]
      have hx : ∀ v, h * 4 + v = 4 * h + v := fun v => by omega
      refine pc_e5g (pc_iv6 (P := fun v a0 a1 a2 a3 a4 => a0 = iI (fol (trS S R o d h t p r) B v.toNat).1 ∧ a1 = iI (fol (trS S R o d h t p r) B v.toNat).2.1 ∧ (∃ c, a2 = iI c ∧ cE S a3 c (fol (trS S R o d h t p r) B v.toNat)) ∧ ∀ k, 0 ≤ k → k < 8 → k ≠ h → a4 k.toNat = iI (if k < h then t k else -1)) (Q := fun z => z.1 = iI (fol (trS S R o d h t p r) B 4).1 ∧ z.2.1 = iI (fol (trS S R o d h t p r) B 4).2.1 ∧ (∃ c, z.2.2.1 = iI c ∧ cE S z.2.2.2.1 c (fol (trS S R o d h t p r) B 4)) ∧ ∀ k, 0 ≤ k → k < 8 → k ≠ h → z.2.2.2.2 k.toNat = iI (if k < h then t k else -1)) 4 (by omega) (by omega) rfl ⟨rfl, rfl, ⟨c3, rfl, hc⟩, fun k k1 k2 _ => ht k k1 k2⟩ (fun v a0 a1 a2 a3 a4 v1 v2 hP => ?_) (fun a0 a1 a2 a3 a4 hP => ⟨(a0, a1, a2, a3, a4), by simp (disch := omega) only [-Int.reduceToNat, pc_ite, if_true, if_false, pc_bv, pc_lit, pc_neg, pc_add, pc_sub, pc_mul, pc_mr, pc_ar, pc_dv, pc_lt, pc_le, pc_eq, pc_nat, pc_div, pc_emod, pc_ifz, pc_ifo, pc_zb, pd_1, pd_2, pd_3, pd_4, pd_5, pd_6, pd_7, pd_8, pd_9, pd_10, pd_11, pd_12, pd_13, pd_14, pd_15, pd_16, pd_17, pd_19, pd_21, pd_22, pd_30, pd_34, pd_57, if_pos], hP⟩)) (fun a0 a1 a2 a3 a4 hQ => ?_)
      · obtain ⟨q0, q1, ⟨c, q2, q3⟩, q4⟩ := hP
        subst q0; subst q1; subst q2
        have okv := trF_ok w (p := p) (r := r) (d := d) (by omega) h0 l p1 p2 r1 r2 b v.toNat (by omega)
        have ia := x_isAllowed (ya := ya) hy (p := 4 * h + v) (by omega) (by omega)
        rw [show (4 * h + v) / 4 = h by omega, show (4 * h + v) % 4 = v by omega] at ia
        have hfp := hf (4 * h + v) (by omega) (by omega)
        rw [fol_t _ _ v1]
        generalize fol (trS S R o d h t p r) B v.toNat = Bv at okv q3 ⊢
        cases ea : al S o h v
        · have cn : clB S R o t h v = false := by unfold clB; rw [ea]; rfl
          have e : trS S R o d h t p r v Bv = Bv := by unfold trS; rw [cn]; rfl
          rw [e]
          exact ⟨_, _, _, _, _, by simp (disch := omega) only [-Int.reduceToNat, pc_ite, if_true, if_false, pc_bv, pc_lit, pc_neg, pc_add, pc_sub, pc_mul, pc_mr, pc_ar, pc_dv, pc_lt, pc_le, pc_eq, pc_nat, pc_div, pc_emod, pc_ifz, pc_ifo, pc_zb, pd_1, pd_2, pd_3, pd_4, pd_5, pd_6, pd_7, pd_8, pd_9, pd_10, pd_11, pd_12, pd_13, pd_14, pd_15, pd_16, pd_17, pd_19, pd_21, pd_22, pd_30, pd_34, pd_57, if_neg, hx, ia, ea, pc_zB0]; (try rfl), rfl, rfl, ⟨c, rfl, q3⟩, q4⟩
        · have cc := ch_cl (R := R) (ch := ch) w h0 nS v1 v2 lr hch ea
          cases c' : clB S R o t h v
          · have e : trS S R o d h t p r v Bv = Bv := by unfold trS; rw [c']; rfl
            rw [e]
            rw [c'] at cc
            have n9 : ¬ mk (fo S R o (4 * h + v)) 32 &&& ch = iI 0 := by rw [cc]; decide
            exact ⟨_, _, _, _, _, by simp (disch := omega) only [-Int.reduceToNat, pc_ite, if_true, if_false, pc_bv, pc_lit, pc_neg, pc_add, pc_sub, pc_mul, pc_mr, pc_ar, pc_dv, pc_lt, pc_le, pc_eq, pc_nat, pc_div, pc_emod, pc_ifz, pc_ifo, pc_zb, pd_1, pd_2, pd_3, pd_4, pd_5, pd_6, pd_7, pd_8, pd_9, pd_10, pd_11, pd_12, pd_13, pd_14, pd_15, pd_16, pd_17, pd_19, pd_21, pd_22, pd_30, pd_34, pd_57, if_neg, hx, ia, ea, pc_zB1, hfp, if_neg n9]; (try rfl), rfl, rfl, ⟨c, rfl, q3⟩, q4⟩
          · have e : trS S R o d h t p r v Bv = tr S R o d (h + 1) (upF t h v) (p + 1) (r + rI R h) Bv := by unfold trS; rw [c']; rfl
            rw [e]
            rw [c'] at cc
            have n9 : mk (fo S R o (4 * h + v)) 32 &&& ch = iI 0 := by rw [cc]
            obtain ⟨z, k1, k2, k3⟩ := ih g (h + 1) (upF t h v) (p + 1) (r + rI R h) c Bv a3 (upd a4 h.toNat (iI v)) (ch ||| sB (4 * h + v)) (by omega) (by omega) (by omega) (lg_one l v1 v2 c') (fun k k1 k2 => by
              rw [upd_at]
              by_cases z : k = h
              · rw [if_pos (by omega), if_pos (by omega), z, upF_at]
              · rw [if_neg (by omega), upF_ne t z, q4 k k1 k2 z]
                by_cases z2 : k < h
                · rw [if_pos z2, if_pos (by omega)]
                · rw [if_neg z2, if_neg (by omega)]) (by omega) (by omega) (by omega) (by omega) okv q3 (ch_one h0 (by omega) v1 v2 hch)
            refine ⟨_, _, _, z.2.1, z.2.2, ?_, rfl, rfl, ⟨z.1, rfl, k2⟩, fun k m1 m2 m3 => ?_⟩
            · have er : zB (R h) = iI (rI R h) := by unfold rI; cases R h <;> rfl
              simp (disch := omega) only [-Int.reduceToNat, pc_ite, if_true, if_false, pc_bv, pc_lit, pc_neg, pc_add, pc_sub, pc_mul, pc_mr, pc_ar, pc_dv, pc_lt, pc_le, pc_eq, pc_nat, pc_div, pc_emod, pc_ifz, pc_ifo, pc_zb, pd_1, pd_2, pd_3, pd_4, pd_5, pd_6, pd_7, pd_8, pd_9, pd_10, pd_11, pd_12, pd_13, pd_14, pd_15, pd_16, pd_17, pd_19, pd_21, pd_22, pd_30, pd_34, pd_57, if_neg, hx, ia, ea, pc_zB1, hfp, if_pos n9, pc_sB, pc_bt, hR h h0 nS, er]
              rw [k1, pd_5]
              try rfl
            · rw [k3 k m1 m2, upF_ne t m3]
              by_cases z2 : k < h
              · rw [if_pos z2, if_pos (by omega)]
              · rw [if_neg z2, if_neg (by omega)]
      · obtain ⟨q0, q1, ⟨c, q2, q3⟩, q4⟩ := hQ
        simp only at q0 q1 q2 q3 q4
        subst q0; subst q1; subst q2
        have okv := trF_ok w (p := p) (r := r) (d := d) (by omega) h0 l p1 p2 r1 r2 b 4 (by omega)
        obtain ⟨z, k1, k2, k3⟩ := ih g (h + 1) (upF t h (-1)) p r c (fol (trS S R o d h t p r) B 4) a3 (upd a4 h.toNat (iI (-1))) ch (by omega) (by omega) (by omega) (lg_none l) (fun k k1 k2 => by
            rw [upd_at]
            by_cases z : k = h
            · rw [if_pos (by omega), if_pos (by omega), z, upF_at]
            · rw [if_neg (by omega), upF_ne t z, q4 k k1 k2 z]
              by_cases z2 : k < h
              · rw [if_pos z2, if_pos (by omega)]
              · rw [if_neg z2, if_neg (by omega)]) p1 (by omega) r1 (by omega) okv q3 (ch_none h0 hch)
        refine ⟨z, ?_, k2, fun k m1 m2 => ?_⟩
        · simp (disch := omega) only [pc_lit, pc_neg, pc_ar, pc_nat, pc_add]
          rw [k1, pd_5]
        · rw [k3 k m1 m2]
          by_cases z2 : k < h
          · rw [if_pos z2, if_pos (by omega), upF_ne t (by omega)]
          · rw [if_neg z2]
            by_cases z3 : k = h
            · rw [z3, if_pos (by omega), upF_at]
            · rw [if_neg (by omega)]
theorem x_findBest (w : wS S) (ra : RA lOn nOn land riv ord dir hom len let' stp S) (hR : ∀ h, 0 ≤ h → h < S 2 → bt rk h = R h) (h5 : -1 ≤ o) (h6 : o ≤ 8) {a0 a1 a2 a3 : Int32} : ∃ z : (Nat → Int32) × (Nat → Int32) × (Nat → Int32) × (Nat → Int32) × (Nat → Int32) × (Nat → Int32), f_X0_findBest a0 a1 a2 a3 ya y yf nl rl yt (iI (S 0)) (iI (S 1)) (iI (S 2)) (iI (S 4)) (iI (S 5)) land riv hom len let' stp (iI o) rk = some (rk, iI (arB S R o).1, iI (arB S R o).2.1, iI (arB S R o).2.2.1, z) ∧ ∀ k, 0 ≤ k → k < S 2 → z.2.1 k.toNat = iI ((arB S R o).2.2.2 k) := by
  have hC := w.C
  unfold f_X0_findBest
  simp only [pc_bv]
  simp (disch := omega) only [pc_lit, pc_neg]
  refine pc_e3g (pc_iv4 (P := fun i a b c => ∀ k, 0 ≤ k → k < i → a k.toNat = mk (al S o k) 4 ∧ b k.toNat = iI (-1) ∧ c k.toNat = iI (-1)) (Q := fun z => ∀ k, 0 ≤ k → k < 8 → z.1 k.toNat = mk (al S o k) 4 ∧ z.2.1 k.toNat = iI (-1) ∧ z.2.2 k.toNat = iI (-1)) 8 (by omega) (by omega) rfl (fun k k1 k2 => by omega) (fun i a b c i1 i2 hi => ⟨upd a i.toNat (mk (al S o i) 4), upd b i.toNat (iI (-1)), upd c i.toNat (iI (-1)), ?_, fun k k1 k2 => ?_⟩) (fun a b c hi => ⟨(a, b, c), by simp (disch := omega) only [-Int.reduceToNat, pc_ite, if_true, if_false, pc_bv, pc_lit, pc_neg, pc_add, pc_sub, pc_mul, pc_mr, pc_ar, pc_dv, pc_lt, pc_le, pc_eq, pc_nat, pc_div, pc_emod, pc_ifz, pc_ifo, pc_zb, pd_1, pd_2, pd_3, pd_4, pd_5, pd_6, pd_7, pd_8, pd_9, pd_10, pd_11, pd_12, pd_13, pd_14, pd_15, pd_16, pd_17, pd_19, pd_21, pd_22, pd_30, pd_34, pd_57, if_pos], hi⟩)) (fun a b c hi => ?_)
  · by_cases z : i = o
    · have e : mk (al S o i) 4 = iI 0 := (mk_0 (by omega)).mpr (fun k k1 k2 => by unfold al; simp [z])
      simp (disch := omega) only [-Int.reduceToNat, pc_ite, if_true, if_false, pc_bv, pc_lit, pc_neg, pc_add, pc_sub, pc_mul, pc_mr, pc_ar, pc_dv, pc_lt, pc_le, pc_eq, pc_nat, pc_div, pc_emod, pc_ifz, pc_ifo, pc_zb, pd_1, pd_2, pd_3, pd_4, pd_5, pd_6, pd_7, pd_8, pd_9, pd_10, pd_11, pd_12, pd_13, pd_14, pd_15, pd_16, pd_17, pd_19, pd_21, pd_22, pd_30, pd_34, pd_57, if_neg, if_pos z, e]
    · simp (disch := omega) only [-Int.reduceToNat, pc_ite, if_true, if_false, pc_bv, pc_lit, pc_neg, pc_add, pc_sub, pc_mul, pc_mr, pc_ar, pc_dv, pc_lt, pc_le, pc_eq, pc_nat, pc_div, pc_emod, pc_ifz, pc_ifo, pc_zb, pd_1, pd_2, pd_3, pd_4, pd_5, pd_6, pd_7, pd_8, pd_9, pd_10, pd_11, pd_12, pd_13, pd_14, pd_15, pd_16, pd_17, pd_19, pd_21, pd_22, pd_30, pd_34, pd_57, if_neg, if_neg z, x_groundWays w ra.land ra.riverOf ra.home ra.length]
  · simp only [upd_at]
    by_cases z : k = i
    · subst z; rw [if_pos rfl, if_pos rfl, if_pos rfl]; exact ⟨rfl, rfl, rfl⟩
    · rw [if_neg (by omega), if_neg (by omega), if_neg (by omega)]; exact hi k k1 (by omega)
  · refine pc_e2g (x_countLeft w hR (fun h h1 h2 => (hi h h1 h2).1)) (fun nl' rl' hn => ?_)
    refine pc_e1g (pc_iv2 (P := fun i f => ∀ p, 0 ≤ p → p < i → f p.toNat = mk (fo S R o p) 32) (Q := fun f => ∀ p, 0 ≤ p → p < 32 → f p.toNat = mk (fo S R o p) 32) 32 (by omega) (by omega) rfl (fun k k1 k2 => by omega) (fun i f i1 i2 hf => ⟨upd f i.toNat (mk (fo S R o i) 32), ?_, fun k k1 k2 => ?_⟩) (fun f hf => ⟨f, by simp (disch := omega) only [-Int.reduceToNat, pc_ite, if_true, if_false, pc_bv, pc_lit, pc_neg, pc_add, pc_sub, pc_mul, pc_mr, pc_ar, pc_dv, pc_lt, pc_le, pc_eq, pc_nat, pc_div, pc_emod, pc_ifz, pc_ifo, pc_zb, pd_1, pd_2, pd_3, pd_4, pd_5, pd_6, pd_7, pd_8, pd_9, pd_10, pd_11, pd_12, pd_13, pd_14, pd_15, pd_16, pd_17, pd_19, pd_21, pd_22, pd_30, pd_34, pd_57, if_pos], hf⟩)) (fun f hf => ?_)
    · have ia := x_isAllowed (ya := a) (fun h h1 h2 => (hi h h1 h2).1) i1 i2
      cases ea : al S o (i / 4) (i % 4)
      · have e : mk (fo S R o i) 32 = iI 0 := (mk_0 (by omega)).mpr (fun k k1 k2 => by unfold fo; simp [ea])
        simp (disch := omega) only [-Int.reduceToNat, pc_ite, if_true, if_false, pc_bv, pc_lit, pc_neg, pc_add, pc_sub, pc_mul, pc_mr, pc_ar, pc_dv, pc_lt, pc_le, pc_eq, pc_nat, pc_div, pc_emod, pc_ifz, pc_ifo, pc_zb, pd_1, pd_2, pd_3, pd_4, pd_5, pd_6, pd_7, pd_8, pd_9, pd_10, pd_11, pd_12, pd_13, pd_14, pd_15, pd_16, pd_17, pd_19, pd_21, pd_22, pd_30, pd_34, pd_57, if_neg, ia, ea, pc_zB0, if_true, e]
      · simp (disch := omega) only [-Int.reduceToNat, pc_ite, if_true, if_false, pc_bv, pc_lit, pc_neg, pc_add, pc_sub, pc_mul, pc_mr, pc_ar, pc_dv, pc_lt, pc_le, pc_eq, pc_nat, pc_div, pc_emod, pc_ifz, pc_ifo, pc_zb, pd_1, pd_2, pd_3, pd_4, pd_5, pd_6, pd_7, pd_8, pd_9, pd_10, pd_11, pd_12, pd_13, pd_14, pd_15, pd_16, pd_17, pd_19, pd_21, pd_22, pd_30, pd_34, pd_57, if_neg, ia, ea, pc_zB1, x_foesOf w ra.home ra.length ra.letters hR (ya := a) (yf := f) (fun h h1 h2 => (hi h h1 h2).1) i1 i2 ea]
    · rw [upd_at]
      by_cases z : k = i
      · rw [if_pos (by omega), z]
      · rw [if_neg (by omega)]; exact hf k k1 (by omega)
    · obtain ⟨z, k1, k2, k3⟩ := x_seek w ra.stops hR (fun h h1 h2 => (hi h h1 h2).1) hf hn (S 2).toNat 10 0 (fun _ => -1) 0 0 0 (-1, -1, 1000000, fun _ => -1) b c (iI 0) (by omega) (by omega) (by omega) (fun k k1 k2 => by omega) (fun k k1 k2 => ((hi k k1 k2).2.2).trans (by by_cases z : k < 0 <;> simp [z])) (by omega) (by omega) (by omega) (by omega) (.inl ⟨rfl, rfl, rfl⟩) (.inl ⟨rfl, rfl⟩) (fun j j1 j2 => by unfold chB; rw [bt_0, decide_eq_false (by omega : ¬ j / 4 < 0)]; rfl)
      have ok := (arB_ok (R := R) (o := o) w).2
      have hz : z.1 = (arB S R o).2.2.1 ∧ ∀ k, 0 ≤ k → k < S 2 → z.2.1 k.toNat = iI ((arB S R o).2.2.2 k) := by
        rcases k2 with q | q
        · have := q.1
          unfold arB at ok
          omega
        · exact q.2
      refine ⟨(a, z.2.1, f, nl', rl', z.2.2), ?_, hz.2⟩
      have k1' : f_X0_seek 10 rk (iI (-1)) (iI (-1)) (iI 0) a b f nl' rl' c (iI (S 2)) (iI (S 4)) (iI (S 5)) stp (iI 0) (iI 0) (iI 0) (iI 0) = some (iI (arB S R o).1, iI (arB S R o).2.1, iI z.1, z.2.1, z.2.2) := k1
      rw [k1', pd_5, hz.1]
end
