def redIf (S : Int → Int) (a : Int) (b : Bool) : Int → Bool := fun k => if k = a then b else isR S k
section
variable {S : Int → Int} {R : Int → Bool} {o : Int} {s agn y may rt wys : Nat → Int32} {x0 x1 x2 : Int32}
theorem m_arranges (hs : mS s S) (w : wS S) (hrt : ∀ h, 0 ≤ h → h < S 2 → rt h.toNat = zB (R h)) (h5 : -1 ≤ o) (h6 : o ≤ 8) : ∃ z : (Nat → Int32) × (Nat → Int32) × (Nat → Int32) × (Nat → Int32), f_X9_arranges x0 x1 x2 agn y may rt s wys (iI o) = some (iI (arB S R o).1, iI (arB S R o).2.1, iI (arB S R o).2.2.1, z) ∧ ∀ k, 0 ≤ k → k < S 2 → z.2.1 k.toNat = iI ((arB S R o).2.2.2 k) := by
  have hC := w.C
  unfold f_X9_arranges
  obtain ⟨⟨ya, my⟩, e1, e2, e3⟩ := m_laysPairs (agn := agn) (may := may) hs w hrt h5 h6
  obtain ⟨z, k1, k2, k3⟩ := m_tries hs w e2 e3 hrt (S 2).toNat 10 0 (fun _ => -1) 0 0 (-1, -1, 1000000, fun _ => -1) y wys (by omega) (by omega) (by omega) (fun k k1 k2 => by omega) (fun k k1 k2 => by omega) (by omega) (by omega) (by omega) (by omega) (.inl ⟨rfl, rfl, rfl⟩) (.inl rfl)
  have k1' : f_X9_tries 10 (iI (-1)) (iI (-1)) (iI 1000000) ya y my rt s wys (iI 0) (iI 0) (iI 0) = some (iI (arB S R o).1, iI (arB S R o).2.1, iI (arB S R o).2.2.1, z) := k1
  have ok := (arB_ok (R := R) (o := o) w).2
  have hz : ∀ k, 0 ≤ k → k < S 2 → z.1 k.toNat = iI ((arB S R o).2.2.2 k) := by
    rcases k2 with q | q
    · have q' : (arB S R o).1 = -1 := q
      omega
    · exact q
  refine ⟨(ya, z.1, my, z.2), ?_, hz⟩
  simp only [pc_lit, pc_neg, e1, pd_2, k1']
  rfl
theorem m_redNow (hs : mS s S) (w : wS S) : ∃ a, lq2 (fun (v1 : Int32) (y4_redThen_1 : Nat → Int32) => ((
    ar 2 552 <|
    (if (s (2 : Int32).toNatClampNeg) ≤ v1 then (
      some (.inr y4_redThen_1)
    ) else (
      bd1 (f_X9_isRed s v1) fun (r19 : Int32) =>
      ar v1 8 <| bv (upd y4_redThen_1 v1.toNatClampNeg (vp_nar .boolean r19)) fun y4_redThen_3 =>
      bv (v1 + 1) fun v1_1 =>
      some (.inl (v1_1, y4_redThen_3))
    ))
    ) : Option ((Int32 × (Nat → Int32)) ⊕ ((Nat → Int32))))) 0 rt = some a ∧ ∀ h, 0 ≤ h → h < S 2 → a h.toNat = zB (isR S h) := by
  have hC := w.C
  have e2 : s (2 : Int).toNat = iI (S 2) := hs 2 (by omega) (by omega)
  refine pc_iv2 (P := fun i a => ∀ h, 0 ≤ h → h < i → a h.toNat = zB (isR S h)) (Q := fun a => ∀ h, 0 ≤ h → h < S 2 → a h.toNat = zB (isR S h)) (S 2) (by omega) (by omega) rfl (fun k k1 k2 => by omega) (fun i a i1 i2 hy => ⟨upd a i.toNat (zB (isR S i)), ?_, fun k k1 k2 => ?_⟩) (fun y hy => ⟨y, ?_, hy⟩)
  · simp (disch := omega) only [-Int.reduceToNat, pc_ite, if_true, if_false, pc_bv, pc_lit, pc_neg, pc_add, pc_sub, pc_mul, pc_mr, pc_ar, pc_dv, pc_lt, pc_le, pc_eq, pc_nat, pc_div, pc_emod, pc_ifz, pc_ifo, pc_zb, pd_1, pd_2, pd_3, pd_4, pd_5, pd_6, pd_7, pd_8, pd_9, pd_10, pd_11, pd_12, pd_13, pd_14, pd_15, pd_16, pd_17, pd_19, pd_21, pd_22, pd_30, pd_34, pd_57, if_neg, e2, m_isRed hs w, naB_b]
  rotate_left
  · simp (disch := omega) only [-Int.reduceToNat, pc_ite, if_true, if_false, pc_bv, pc_lit, pc_neg, pc_add, pc_sub, pc_mul, pc_mr, pc_ar, pc_dv, pc_lt, pc_le, pc_eq, pc_nat, pc_div, pc_emod, pc_ifz, pc_ifo, pc_zb, pd_1, pd_2, pd_3, pd_4, pd_5, pd_6, pd_7, pd_8, pd_9, pd_10, pd_11, pd_12, pd_13, pd_14, pd_15, pd_16, pd_17, pd_19, pd_21, pd_22, pd_30, pd_34, pd_57, if_pos, e2]
  rw [upd_at]
  by_cases z : k = i
  · rw [if_pos (by omega), z]
  · rw [if_neg (by omega), hy k k1 (by omega)]
theorem m_redIf (hs : mS s S) (w : wS S) {h : Int} {b : Bool} (h1 : 0 ≤ h) (h2 : h < S 2) : ∃ a, lq2 (fun (v3 : Int32) (y4_redThen_1 : Nat → Int32) => ((
    ar 2 552 <|
    (if (s (2 : Int32).toNatClampNeg) ≤ v3 then (
      some (.inr y4_redThen_1)
    ) else (
      bv (fun (t31 : Int32) => ((
        ar v3 8 <| bv (upd y4_redThen_1 v3.toNatClampNeg (vp_nar .boolean t31)) fun y4_redThen_3 =>
        bv (v3 + 1) fun v3_1 =>
        some (.inl (v3_1, y4_redThen_3))
        ) : Option ((Int32 × (Nat → Int32)) ⊕ ((Nat → Int32))))) fun j31 =>
      (if v3 = iI h then (
        j31 (zB b)
      ) else (
        bd1 (f_X9_isRed s v3) fun (r28 : Int32) =>
        j31 r28
      ))
    ))
    ) : Option ((Int32 × (Nat → Int32)) ⊕ ((Nat → Int32))))) 0 rt = some a ∧ ∀ k, 0 ≤ k → k < S 2 → a k.toNat = zB (redIf S h b k) := by
  have hC := w.C
  have e2 : s (2 : Int).toNat = iI (S 2) := hs 2 (by omega) (by omega)
  refine pc_iv2 (P := fun i a => ∀ k, 0 ≤ k → k < i → a k.toNat = zB (redIf S h b k)) (Q := fun a => ∀ k, 0 ≤ k → k < S 2 → a k.toNat = zB (redIf S h b k)) (S 2) (by omega) (by omega) rfl (fun k k1 k2 => by omega) (fun i a i1 i2 hy => ⟨upd a i.toNat (zB (redIf S h b i)), ?_, fun k k1 k2 => ?_⟩) (fun y hy => ⟨y, ?_, hy⟩)
  rotate_right
  · simp (disch := omega) only [-Int.reduceToNat, pc_ite, if_true, if_false, pc_bv, pc_lit, pc_neg, pc_add, pc_sub, pc_mul, pc_mr, pc_ar, pc_dv, pc_lt, pc_le, pc_eq, pc_nat, pc_div, pc_emod, pc_ifz, pc_ifo, pc_zb, pd_1, pd_2, pd_3, pd_4, pd_5, pd_6, pd_7, pd_8, pd_9, pd_10, pd_11, pd_12, pd_13, pd_14, pd_15, pd_16, pd_17, pd_19, pd_21, pd_22, pd_30, pd_34, pd_57, if_pos, e2]
  · by_cases z : i = h
    · have e : redIf S h b i = b := by unfold redIf; rw [if_pos z]
      simp (disch := omega) only [-Int.reduceToNat, pc_ite, if_true, if_false, pc_bv, pc_lit, pc_neg, pc_add, pc_sub, pc_mul, pc_mr, pc_ar, pc_dv, pc_lt, pc_le, pc_eq, pc_nat, pc_div, pc_emod, pc_ifz, pc_ifo, pc_zb, pd_1, pd_2, pd_3, pd_4, pd_5, pd_6, pd_7, pd_8, pd_9, pd_10, pd_11, pd_12, pd_13, pd_14, pd_15, pd_16, pd_17, pd_19, pd_21, pd_22, pd_30, pd_34, pd_57, if_neg, e2, if_pos z, e, naB_b]
    · have e : redIf S h b i = isR S i := by unfold redIf; rw [if_neg z]
      simp (disch := omega) only [-Int.reduceToNat, pc_ite, if_true, if_false, pc_bv, pc_lit, pc_neg, pc_add, pc_sub, pc_mul, pc_mr, pc_ar, pc_dv, pc_lt, pc_le, pc_eq, pc_nat, pc_div, pc_emod, pc_ifz, pc_ifo, pc_zb, pd_1, pd_2, pd_3, pd_4, pd_5, pd_6, pd_7, pd_8, pd_9, pd_10, pd_11, pd_12, pd_13, pd_14, pd_15, pd_16, pd_17, pd_19, pd_21, pd_22, pd_30, pd_34, pd_57, if_neg, e2, if_neg z, e, m_isRed hs w, naB_b]
  · rw [upd_at]
    by_cases z : k = i
    · rw [if_pos (by omega), z]
    · rw [if_neg (by omega), hy k k1 (by omega)]
theorem m_arrangesNow (hs : mS s S) (w : wS S) : ∃ z : (Nat → Int32) × (Nat → Int32) × (Nat → Int32) × (Nat → Int32) × (Nat → Int32), f_X9_arrangesNow x0 x1 x2 agn y may rt s wys = some (iI (arB S (isR S) (-1)).1, iI (arB S (isR S) (-1)).2.1, iI (arB S (isR S) (-1)).2.2.1, z) ∧ ∀ k, 0 ≤ k → k < S 2 → z.2.1 k.toNat = iI ((arB S (isR S) (-1)).2.2.2 k) := by
  obtain ⟨a, e1, e2⟩ := m_redNow (rt := rt) hs w
  obtain ⟨z, k1, k2⟩ := m_arranges (x0 := x0) (x1 := x1) (x2 := x2) (agn := agn) (y := y) (may := may) (wys := wys) (o := -1) hs w e2 (by omega) (by omega)
  refine ⟨(z.1, z.2.1, z.2.2.1, a, z.2.2.2), ?_, k2⟩
  unfold f_X9_arrangesNow
  simp only [pc_bv] at e1 ⊢
  rw [e1, pd_1, pc_lit (n := 1), pc_neg, k1, pd_7]
theorem m_arrangesIf (hs : mS s S) (w : wS S) {h : Int} {b : Bool} (h1 : 0 ≤ h) (h2 : h < S 2) : ∃ z : (Nat → Int32) × (Nat → Int32) × (Nat → Int32) × (Nat → Int32) × (Nat → Int32), f_X9_arrangesIf x0 x1 x2 agn y may rt s wys (iI h) (zB b) = some (iI (arB S (redIf S h b) (-1)).1, iI (arB S (redIf S h b) (-1)).2.1, iI (arB S (redIf S h b) (-1)).2.2.1, z) ∧ ∀ k, 0 ≤ k → k < S 2 → z.2.1 k.toNat = iI ((arB S (redIf S h b) (-1)).2.2.2 k) := by
  obtain ⟨a, e1, e2⟩ := m_redIf (rt := rt) (b := b) hs w h1 h2
  obtain ⟨z, k1, k2⟩ := m_arranges (x0 := x0) (x1 := x1) (x2 := x2) (agn := agn) (y := y) (may := may) (wys := wys) (o := -1) hs w e2 (by omega) (by omega)
  refine ⟨(z.1, z.2.1, z.2.2.1, a, z.2.2.2), ?_, k2⟩
  unfold f_X9_arrangesIf
  simp only [pc_bv] at e1 ⊢
  rw [e1, pd_1, pc_lit (n := 1), pc_neg, k1, pd_7]
theorem rM_bt (w : wS S) : ∀ h, 0 ≤ h → h < S 2 → bt (rM S) h = isR S h := by
  have hC := w.C
  intro h h1 h2
  unfold rM
  rw [bt_mk (by omega) h1 (by omega), decide_eq_true h2, Bool.true_and]
theorem x_redsIf (w : wS S) {h : Int} {b : Bool} (h1 : 0 ≤ h) (h2 : h < S 2) : ∃ rk, f_X2_redsIf (rM S) (iI h) (zB b) = some rk ∧ ∀ k, 0 ≤ k → k < S 2 → bt rk k = redIf S h b k := by
  have hC := w.C
  have hb := rM_bt w
  unfold f_X2_redsIf redIf
  cases b
  · refine ⟨rM S &&& (sB h ^^^ iI (-1)), ?_, fun k k1 k2 => ?_⟩
    · simp (disch := omega) only [-Int.reduceToNat, pc_ite, if_true, if_false, pc_bv, pc_lit, pc_neg, pc_add, pc_sub, pc_mul, pc_mr, pc_ar, pc_dv, pc_lt, pc_le, pc_eq, pc_nat, pc_div, pc_emod, pc_ifz, pc_ifo, pc_zb, pd_1, pd_2, pd_3, pd_4, pd_5, pd_6, pd_7, pd_8, pd_9, pd_10, pd_11, pd_12, pd_13, pd_14, pd_15, pd_16, pd_17, pd_19, pd_21, pd_22, pd_30, pd_34, pd_57, pc_sB, pc_zB0, if_true]
    · rw [bt_and, bt_not _ k1 (by omega), bt_sB h1 (by omega) k1 (by omega), hb k k1 k2]
      by_cases z : k = h
      · rw [if_pos z, decide_eq_true z.symm]; simp
      · rw [if_neg z, decide_eq_false (fun e => z e.symm)]; simp
  · refine ⟨rM S ||| sB h, ?_, fun k k1 k2 => ?_⟩
    · simp (disch := omega) only [-Int.reduceToNat, pc_ite, if_true, if_false, pc_bv, pc_lit, pc_neg, pc_add, pc_sub, pc_mul, pc_mr, pc_ar, pc_dv, pc_lt, pc_le, pc_eq, pc_nat, pc_div, pc_emod, pc_ifz, pc_ifo, pc_zb, pd_1, pd_2, pd_3, pd_4, pd_5, pd_6, pd_7, pd_8, pd_9, pd_10, pd_11, pd_12, pd_13, pd_14, pd_15, pd_16, pd_17, pd_19, pd_21, pd_22, pd_30, pd_34, pd_57, pc_sB, pc_zB1, if_neg]
    · rw [bt_or, bt_sB h1 (by omega) k1 (by omega), hb k k1 k2]
      by_cases z : k = h
      · rw [if_pos z, decide_eq_true z.symm]; simp
      · rw [if_neg z, decide_eq_false (fun e => z e.symm)]; simp
theorem x_bestDirection {h v : Int} (hy : y h.toNat = iI v) (h1 : 0 ≤ h) (h2 : h < 8) : f_X0_bestDirection y (iI h) = some (iI v) := by
  unfold f_X0_bestDirection
  simp (disch := omega) only [-Int.reduceToNat, pc_ite, if_true, if_false, pc_bv, pc_lit, pc_neg, pc_add, pc_sub, pc_mul, pc_mr, pc_ar, pc_dv, pc_lt, pc_le, pc_eq, pc_nat, pc_div, pc_emod, pc_ifz, pc_ifo, pc_zb, pd_1, pd_2, pd_3, pd_4, pd_5, pd_6, pd_7, pd_8, pd_9, pd_10, pd_11, pd_12, pd_13, pd_14, pd_15, pd_16, pd_17, pd_19, pd_21, pd_22, pd_30, pd_34, pd_57, if_neg, hy]
end
