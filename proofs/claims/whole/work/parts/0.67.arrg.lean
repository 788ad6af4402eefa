def bsA (S : Int → Int) : Int → Int := (arB S (isR S) (-1)).2.2.2
section
variable {S D : Int → Int} {s land riv hom dir len let' nOn lOn stp ord yb : Nat → Int32}
theorem bs_at (w : wS S) {g : Int} (g1 : 0 ≤ g) (g2 : g < S 2) : bsA S g = -1 ∨ (0 ≤ bsA S g ∧ bsA S g < 4 ∧ al S (-1) g (bsA S g) = true) := ((arB_rg (R := isR S) (o := -1) w).2.2.2.2.2 g g1 g2).1
theorem bs_lt (w : wS S) {a b : Int} (a1 : 0 ≤ a) (a2 : a < S 2) (b1 : 0 ≤ b) (h : b < a) (ha : bsA S a ≠ -1) (hb : bsA S b ≠ -1) : ag S a (bsA S a) (isR S a) b (bsA S b) (isR S b) = false := by
  have f := ((arB_rg (R := isR S) (o := -1) w).2.2.2.2.2 a a1 a2).2 b b1 h ha hb
  have f' : fo S (isR S) (-1) (4 * a + bsA S a) (4 * b + bsA S b) = false := f
  have qa : 0 ≤ bsA S a ∧ bsA S a < 4 ∧ al S (-1) a (bsA S a) = true := by rcases bs_at w a1 a2 with q | q; exact absurd q ha; exact q
  have qb : 0 ≤ bsA S b ∧ bsA S b < 4 ∧ al S (-1) b (bsA S b) = true := by rcases bs_at w b1 (by omega) with q | q; exact absurd q hb; exact q
  unfold fo at f'
  rw [show (4 * a + bsA S a) / 4 = a by omega, show (4 * a + bsA S a) % 4 = bsA S a by omega, show (4 * b + bsA S b) / 4 = b by omega, show (4 * b + bsA S b) % 4 = bsA S b by omega, qa.2.2, qb.2.2, decide_eq_true (by omega : a ≠ b), Bool.true_and, Bool.true_and, Bool.true_and] at f'
  exact f'
theorem bs_wS (w : wS S) (hD : ∀ g, 0 ≤ g → g < S 2 → D g = -1 ∨ D g = bsA S g) : wS (wyS S D) := by
  have F : ∀ g, 0 ≤ g → g < S 2 → D g ≠ -1 → D g = bsA S g ∧ 0 ≤ bsA S g ∧ bsA S g < 4 ∧ al S (-1) g (bsA S g) = true := by
    intro g g1 g2 hn
    have e : D g = bsA S g := by rcases hD g g1 g2 with q | q; exact absurd q hn; exact q
    refine ⟨e, ?_⟩
    rcases bs_at w g1 g2 with q | q
    · rw [e] at hn; exact absurd q hn
    · exact q
  refine wy_wS w (fun g g1 g2 => ?_) (fun g g1 g2 hn => ?_) (fun a b a1 a2 b1 b2 hab ha hb => ?_)
  · by_cases q : D g = -1
    · omega
    · have := F g g1 g2 q; omega
  · obtain ⟨e, e1, e2, e3⟩ := F g g1 g2 hn
    rw [e]
    have c := chR_0 w g1 g2 (al_c e3).2.2
    exact ⟨c.1, fun k k1 k2 => (cR_9 (c.2 k k1 k2)).1⟩
  · obtain ⟨e, e1, e2, e3⟩ := F a a1 a2 ha
    obtain ⟨f, f1, f2, f3⟩ := F b b1 b2 hb
    rw [e] at ha ⊢
    rw [f] at hb ⊢
    by_cases q : b < a
    · exact bs_lt w a1 a2 b1 q ha hb
    · cases z : ag S a (bsA S a) (isR S a) b (bsA S b) (isR S b)
      · rfl
      · have := ag_sym w a1 a2 e1 e2 b1 b2 z
        rw [bs_lt w b1 b2 a1 (by omega) hb ha] at this
        cases this
theorem x_layBest (w : wS S) (ra : RA lOn nOn land riv ord dir hom len let' stp S) (hb : ∀ k, 0 ≤ k → k < S 2 → yb k.toNat = iI (bsA S k)) : ∃ r, (bd1 (f_X2_placedNames (iI (S 2)) dir) fun (r44 : Int32) =>
  bd2 (f_X6_takeNames (iI (S 0)) (iI (S 1)) (iI (S 2)) nOn dir hom len r44) fun (y15_namesOn_1 : Nat → Int32) (y19_direction_1 : Nat → Int32) =>
  lq4 (fun (v1 : Int32) (y14_letterOn_1 : Nat → Int32) (y15_namesOn_2 : Nat → Int32) (y19_direction_2 : Nat → Int32) => ((
    (if iI (S 2) ≤ v1 then (
      some (.inr (y14_letterOn_1, y15_namesOn_2, y19_direction_2))
    ) else (
      bd1 (f_X0_bestDirection yb v1) fun (r71 : Int32) =>
      (if r71 = (-1) then (
        some (.inl (v1 + 1, y14_letterOn_1, y15_namesOn_2, y19_direction_2))
      ) else (
        bd3 (f_X6_putName (iI (S 0)) (iI (S 1)) (iI (S 2)) y14_letterOn_1 y15_namesOn_2 y19_direction_2 hom len let' v1 r71) fun (y14_letterOn_4 : Nat → Int32) (y15_namesOn_5 : Nat → Int32) (y19_direction_5 : Nat → Int32) =>
        some (.inl (v1 + 1, y14_letterOn_4, y15_namesOn_5, y19_direction_5))
      ))
    ))
    ) : Option ((Int32 × (Nat → Int32) × (Nat → Int32) × (Nat → Int32)) ⊕ ((Nat → Int32) × (Nat → Int32) × (Nat → Int32))))) 0 lOn y15_namesOn_1 y19_direction_1) = some r ∧ RA r.1 r.2.1 land riv ord r.2.2 hom len let' stp (wyS S (bsA S)) := by
  have hC := w.C
  obtain ⟨⟨n1, d1⟩, t1, t2⟩ := x_takeNames w ra (pN S)
  rw [x_placed w ra.direction, pd_1, t1, pd_2]
  have t3 : RA lOn n1 land riv ord d1 hom len let' stp (wyS S (fun g => if g < 0 then bsA S g else -1)) := by
    rw [wy_congr (E := lfM S (pN S)) (fun g g1 g2 => ?_)]
    · exact t2
    · rw [if_neg (by omega)]
      unfold lfM pN
      rw [bt_mk (by omega) g1 (by omega), decide_eq_true g2, Bool.true_and]
      unfold isP
      by_cases q : hv S g 2 = -1
      · rw [if_neg (by simp [q]), q]
      · rw [if_pos (by simp [q])]
  refine pc_iv4 (fun i l n d => RA l n land riv ord d hom len let' stp (wyS S (fun g => if g < i then bsA S g else -1))) (fun r => RA r.1 r.2.1 land riv ord r.2.2 hom len let' stp (wyS S (bsA S))) (S 2) (by omega) (by omega) rfl t3 (fun i l n d i1 i2 hp => ?_) (fun l n d hp => ⟨(l, n, d), ?_, ?_⟩)
  · have wi : wS (wyS S (fun g => if g < i then bsA S g else -1)) := bs_wS w (fun g g1 g2 => by by_cases q : g < i <;> simp [q])
    have wj : wS (wyS S (fun g => if g < i + 1 then bsA S g else -1)) := bs_wS w (fun g g1 g2 => by by_cases q : g < i + 1 <;> simp [q])
    have dB := x_bestDirection (y := yb) (hb i i1 i2) i1 (by omega)
    have n1 : ¬ S 2 ≤ i := by omega
    by_cases q : bsA S i = -1
    · refine ⟨l, n, d, ?_, ?_⟩
      · simp (disch := omega) only [pc_lit, pc_le, if_neg n1, dB, pd_1, pc_neg, q, if_true, pc_add]
      · rw [wy_congr (E := fun g => if g < i then bsA S g else -1)]
        · exact hp
        · intro g g1 g2
          by_cases y : g = i
          · subst y; rw [if_pos (by omega), if_neg (by omega), q]
          · by_cases y2 : g < i
            · rw [if_pos y2, if_pos (by omega)]
            · rw [if_neg y2, if_neg (by omega)]
    · obtain ⟨b1, b2, b3⟩ : 0 ≤ bsA S i ∧ bsA S i < 4 ∧ al S (-1) i (bsA S i) = true := by rcases bs_at w i1 i2 with z | z; exact absurd z q; exact z
      have e : wyS (wyS S (fun g => if g < i then bsA S g else -1)) (pt1 (wyS S (fun g => if g < i then bsA S g else -1)) i (bsA S i)) = wyS S (fun g => if g < i + 1 then bsA S g else -1) := by
        rw [wy_wy]
        refine wy_congr (fun g g1 g2 => ?_)
        unfold pt1
        by_cases y : g = i
        · subst y; rw [if_pos rfl, if_pos (by omega)]
        · rw [if_neg y, wy_hv g1 g2]
          by_cases y2 : g < i
          · rw [if_pos y2, if_pos (by omega)]
          · rw [if_neg y2, if_neg (by omega)]
      obtain ⟨⟨l', n', d'⟩, p1, p2⟩ := x_putName wi hp (h := i) (v := bsA S i) i1 (by rw [wy_2]; exact i2) b1 b2 (fun k k1 k2 => by
        rw [wy_hn (v := 3) i1 (by omega) (by omega) (by omega)] at k2
        rw [wy_hn (v := 0) i1 (by omega) (by omega) (by omega), wy_aw]
        exact al_ne w i1 b3 k k1 k2) (by rw [e]; exact wj)
      rw [wy_lo (by omega), wy_lo (by omega), wy_2] at p1
      rw [e] at p2
      refine ⟨l', n', d', ?_, p2⟩
      simp (disch := omega) only [pc_lit, pc_le, if_neg n1, dB, pd_1, pc_neg, pc_eq, if_neg q, p1, pd_3, pc_add]
  · simp (disch := omega) only [pc_le, if_pos]
  · rw [wy_congr (E := bsA S)] at hp
    · exact hp
    · intro g g1 g2; rw [if_pos g2]
theorem m_layBest (hs : mS s S) (w : wS S) (hb : ∀ k, 0 ≤ k → k < S 2 → yb k.toNat = iI (bsA S k)) : ∃ s', lq2 (fun (v1 : Int32) (y6_s_1 : Nat → Int32) => ((
    ar 2 552 <|
    (if (y6_s_1 (2 : Int32).toNatClampNeg) ≤ v1 then (
      some (.inr y6_s_1)
    ) else (
      ar v1 8 <|
      bd1 (f_X9_puts y6_s_1 v1 2 (yb v1.toNatClampNeg)) fun (y6_s_3 : Nat → Int32) =>
      bv (v1 + 1) fun v1_1 =>
      some (.inl (v1_1, y6_s_3))
    ))
    ) : Option ((Int32 × (Nat → Int32)) ⊕ ((Nat → Int32))))) 0 s = some s' ∧ mS s' (wyS S (bsA S)) := by
  have hC := w.C
  refine pc_iv2 (fun i a => mS a (wyS S (fun g => if g < i then bsA S g else hv S g 2))) (fun a => mS a (wyS S (bsA S))) (S 2) (by omega) (by omega) rfl ?_ (fun i a i1 i2 hp => ?_) (fun a hp => ?_)
  · rw [wy_congr (E := fun g => hv S g 2) (fun g g1 g2 => if_neg (by omega)), wy_id]; exact hs
  · have e2 : a (2 : Int).toNat = iI (S 2) := by rw [hp 2 (by omega) (by omega), wy_2]
    have n1 : ¬ S 2 ≤ i := by omega
    have pu := m_puts (x := bsA S i) hp i1 (by omega : i < 8) (by omega : (0 : Int) ≤ 2) (by omega : (2 : Int) < 12)
    have p2 := m_put2Q (v := bsA S i) hp (by rw [wy_2]; omega) i1 (by rw [wy_2]; exact i2)
    rw [wy_wy] at p2
    refine ⟨upd a (440 + 12 * i + 2).toNat (iI (bsA S i)), by simp (disch := omega) only [-Int.reduceToNat, pc_ite, if_true, if_false, pc_bv, pc_lit, pc_neg, pc_add, pc_sub, pc_mul, pc_mr, pc_ar, pc_dv, pc_lt, pc_le, pc_eq, pc_nat, pc_div, pc_emod, pc_ifz, pc_ifo, pc_zb, pd_1, pd_2, pd_3, pd_4, pd_5, pd_6, pd_7, pd_8, pd_9, pd_10, pd_11, pd_12, pd_13, pd_14, pd_15, pd_16, pd_17, pd_19, pd_21, pd_22, pd_30, pd_34, pd_57, e2, if_neg n1, hb i i1 i2, pu], ?_⟩
    rw [wy_congr (E := fun g => if g < i + 1 then bsA S g else hv S g 2)] at p2
    · exact p2
    · intro g g1 g2
      unfold pt1
      by_cases y : g = i
      · subst y; rw [if_pos rfl, if_pos (by omega)]
      · rw [if_neg y, wy_hv g1 g2]
        by_cases y2 : g < i
        · rw [if_pos y2, if_pos (by omega)]
        · rw [if_neg y2, if_neg (by omega)]
  · have e2 : a (2 : Int).toNat = iI (S 2) := by rw [hp 2 (by omega) (by omega), wy_2]
    refine ⟨a, by simp (disch := omega) only [-Int.reduceToNat, pc_ite, if_true, if_false, pc_bv, pc_lit, pc_neg, pc_add, pc_sub, pc_mul, pc_mr, pc_ar, pc_dv, pc_lt, pc_le, pc_eq, pc_nat, pc_div, pc_emod, pc_ifz, pc_ifo, pc_zb, pd_1, pd_2, pd_3, pd_4, pd_5, pd_6, pd_7, pd_8, pd_9, pd_10, pd_11, pd_12, pd_13, pd_14, pd_15, pd_16, pd_17, pd_19, pd_21, pd_22, pd_30, pd_34, pd_57, e2, if_pos], ?_⟩
    rw [wy_congr (E := bsA S)] at hp
    · exact hp
    · intro g g1 g2; rw [if_pos g2]
end
