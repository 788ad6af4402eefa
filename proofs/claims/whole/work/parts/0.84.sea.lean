def seaS (r c : Int) : Int → Int := fun k => if k = 0 then r else if k = 1 then c else 0
theorem sea_z {r c k : Int} (h : 2 ≤ k) : seaS r c k = 0 := by
  unfold seaS
  rw [if_neg (by omega), if_neg (by omega)]
theorem sea_wS {r c : Int} (r1 : 3 ≤ r) (r2 : r ≤ 12) (c1 : 3 ≤ c) (c2 : c ≤ 12) : wS (seaS r c) := by
  have e0 : seaS r c 0 = r := rfl
  have e1 : seaS r c 1 = c := rfl
  have z : ∀ k, 2 ≤ k → seaS r c k = 0 := fun k h => sea_z h
  refine ⟨?_, ?_, ?_, ?_, ?_, ?_, ?_, ?_, ?_, ?_⟩
  · unfold gD; rw [e0, e1]; omega
  · unfold gC; rw [z 2 (by omega), z 3 (by omega), z 4 (by omega), z 5 (by omega), z 6 (by omega), z 7 (by omega)]; omega
  · intro x h1 h2
    rw [z (8 + x) (by omega)]; omega
  · intro x h1 h2
    rw [z (152 + x) (by omega), z (296 + x) (by omega), z 3 (by omega)]; omega
  · intro h h1 h2
    rw [z 2 (by omega)] at h2; omega
  · intro h k h1 h2
    rw [z 2 (by omega)] at h2; omega
  · intro k h1 h2
    rw [z 4 (by omega)] at h2; omega
  · intro h h1 h2
    rw [z 2 (by omega)] at h2; omega
  · intro a b a1 a2
    rw [z 2 (by omega)] at a2; omega
  · intro a b a1 a2
    rw [z 2 (by omega)] at a2; omega
theorem sea_rM (r c : Int) : rM (seaS r c) = iI 0 := by
  have z : seaS r c 2 = 0 := sea_z (by omega)
  exact (mk_0 (by omega)).mpr (fun k k1 k2 => by omega)
theorem sea_RA {r c : Int} {lOn nOn land riv ord dir hom len let' stp : Nat → Int32} (h1 : ∀ k : Int, 0 ≤ k → k < 144 → nOn k.toNat = iI 0) (h2 : ∀ k : Int, 0 ≤ k → k < 144 → land k.toNat = iI 0) (h3 : ∀ k : Int, 0 ≤ k → k < 144 → riv k.toNat = iI (-1)) : RA lOn nOn land riv ord dir hom len let' stp (seaS r c) := by
  have z : ∀ k, 2 ≤ k → seaS r c k = 0 := fun k h => sea_z h
  have z2 := z 2 (by omega)
  have zn : ∀ x, nm (seaS r c) x = iI 0 := fun x => (mk_0 (by omega)).mpr (fun k k1 k2 => by omega)
  refine ⟨fun x x1 x2 x3 => absurd (zn x) x3, fun x x1 x2 => ?_, fun x x1 x2 => ?_, fun x x1 x2 => ?_, fun x x1 x2 x3 => absurd (z (152 + x) (by omega)) x3, fun h h1 h2 => ?_, fun h h1 h2 => ?_, fun h h1 h2 => ?_, fun h k h1 h2 => ?_, fun k k1 k2 => ?_⟩
  · rw [zn]; exact h1 x x1 x2
  · rw [z (8 + x) (by omega)]; exact h2 x x1 x2
  · rw [z (152 + x) (by omega)]; exact h3 x x1 x2
  · omega
  · omega
  · omega
  · omega
  · rw [z 4 (by omega)] at k2; omega
theorem x_beginSea {a0 a1 a2 a3 a4 a5 a6 a7 a8 : Int32} {lOn nOn land riv ord dir hom len let' stp : Nat → Int32} {r c : Int} : ∃ lOn' nOn' land' riv' ord', f_X6_beginSea a0 a1 a2 a3 a4 a5 a6 a7 a8 lOn nOn land riv ord (iI r) (iI c) = some (iI r, iI c, iI 0, iI 0, iI 0, iI 0, iI 0, iI 0, iI 0, lOn', nOn', land', riv', ord') ∧ RA lOn' nOn' land' riv' ord' dir hom len let' stp (seaS r c) := by
  have G : ∃ z : (Nat → Int32) × (Nat → Int32) × (Nat → Int32), f_X1_beginSea a0 a1 a2 land riv ord (iI r) (iI c) = some (iI r, iI c, iI 0, z.1, z.2.1, z.2.2) ∧ ∀ k : Int, 0 ≤ k → k < 144 → z.1 k.toNat = iI 0 ∧ z.2.1 k.toNat = iI (-1) := by
    unfold f_X1_beginSea
    simp only [pc_bv]
    refine pc_e3g (pc_iv4 (P := fun i a b _ => ∀ k : Int, 0 ≤ k → k < i → a k.toNat = iI 0 ∧ b k.toNat = iI (-1)) (Q := fun z => ∀ k : Int, 0 ≤ k → k < 144 → z.1 k.toNat = iI 0 ∧ z.2.1 k.toNat = iI (-1)) 144 (by omega) (by omega) rfl (fun k k1 k2 => by omega) (fun i a b d i1 i2 hp => ⟨upd a i.toNat (iI 0), upd b i.toNat (iI (-1)), upd d i.toNat (iI (-1)), ?_, fun k k1 k2 => ?_⟩) (fun a b d hp => ⟨(a, b, d), ?_, hp⟩)) (fun a b d hq => ⟨(a, b, d), rfl, hq⟩)
    · simp (disch := omega) only [-Int.reduceToNat, pc_ite, if_true, if_false, pc_bv, pc_lit, pc_neg, pc_add, pc_sub, pc_mul, pc_mr, pc_ar, pc_dv, pc_lt, pc_le, pc_eq, pc_nat, pc_div, pc_emod, pc_ifz, pc_ifo, pc_zb, pd_1, pd_2, pd_3, pd_4, pd_5, pd_6, pd_7, pd_8, pd_9, pd_10, pd_11, pd_12, pd_13, pd_14, pd_15, pd_16, pd_17, pd_19, pd_21, pd_22, pd_30, pd_34, pd_57, if_neg, naB_0]
    · rw [upd_at, upd_at]
      by_cases z : k = i
      · rw [if_pos (by omega), if_pos (by omega)]; exact ⟨rfl, rfl⟩
      · rw [if_neg (by omega), if_neg (by omega)]; exact hp k k1 (by omega)
    · simp (disch := omega) only [-Int.reduceToNat, pc_ite, if_true, if_false, pc_bv, pc_lit, pc_neg, pc_add, pc_sub, pc_mul, pc_mr, pc_ar, pc_dv, pc_lt, pc_le, pc_eq, pc_nat, pc_div, pc_emod, pc_ifz, pc_ifo, pc_zb, pd_1, pd_2, pd_3, pd_4, pd_5, pd_6, pd_7, pd_8, pd_9, pd_10, pd_11, pd_12, pd_13, pd_14, pd_15, pd_16, pd_17, pd_19, pd_21, pd_22, pd_30, pd_34, pd_57, if_pos]
  have N : ∃ z, lq3 (fun (v3 : Int32) (y4_letterOn_1 : Nat → Int32) (y5_namesOn_1 : Nat → Int32) => ((
    (if 144 ≤ v3 then (
      some (.inr (y4_letterOn_1, y5_namesOn_1))
    ) else (
      ar v3 144 <| ar v3 144 <|
      some (.inl (v3 + 1, upd y4_letterOn_1 v3.toNatClampNeg (-1), upd y5_namesOn_1 v3.toNatClampNeg 0))
    ))
    ) : Option ((Int32 × (Nat → Int32) × (Nat → Int32)) ⊕ ((Nat → Int32) × (Nat → Int32))))) 0 lOn nOn = some z ∧ ∀ k : Int, 0 ≤ k → k < 144 → z.2 k.toNat = iI 0 := by
    refine pc_iv3 (P := fun i a b => ∀ k : Int, 0 ≤ k → k < i → b k.toNat = iI 0) (Q := fun z => ∀ k : Int, 0 ≤ k → k < 144 → z.2 k.toNat = iI 0) 144 (by omega) (by omega) rfl (fun k k1 k2 => by omega) (fun i a b i1 i2 hp => ⟨upd a i.toNat (iI (-1)), upd b i.toNat (iI 0), ?_, fun k k1 k2 => ?_⟩) (fun a b hp => ⟨(a, b), ?_, hp⟩)
    · simp (disch := omega) only [-Int.reduceToNat, pc_ite, if_true, if_false, pc_bv, pc_lit, pc_neg, pc_add, pc_sub, pc_mul, pc_mr, pc_ar, pc_dv, pc_lt, pc_le, pc_eq, pc_nat, pc_div, pc_emod, pc_ifz, pc_ifo, pc_zb, pd_1, pd_2, pd_3, pd_4, pd_5, pd_6, pd_7, pd_8, pd_9, pd_10, pd_11, pd_12, pd_13, pd_14, pd_15, pd_16, pd_17, pd_19, pd_21, pd_22, pd_30, pd_34, pd_57, if_neg]
    · rw [upd_at]
      by_cases z : k = i
      · rw [if_pos (by omega)]
      · rw [if_neg (by omega)]; exact hp k k1 (by omega)
    · simp (disch := omega) only [-Int.reduceToNat, pc_ite, if_true, if_false, pc_bv, pc_lit, pc_neg, pc_add, pc_sub, pc_mul, pc_mr, pc_ar, pc_dv, pc_lt, pc_le, pc_eq, pc_nat, pc_div, pc_emod, pc_ifz, pc_ifo, pc_zb, pd_1, pd_2, pd_3, pd_4, pd_5, pd_6, pd_7, pd_8, pd_9, pd_10, pd_11, pd_12, pd_13, pd_14, pd_15, pd_16, pd_17, pd_19, pd_21, pd_22, pd_30, pd_34, pd_57, if_pos]
  obtain ⟨⟨g1, g2, g3⟩, e1, q1⟩ := G
  obtain ⟨⟨n1, n2⟩, e2, q2⟩ := N
  refine ⟨n1, n2, g1, g2, g3, ?_, sea_RA q2 (fun k k1 k2 => (q1 k k1 k2).1) (fun k k1 k2 => (q1 k k1 k2).2)⟩
  unfold f_X6_beginSea
  rw [e1, pd_6, show f_X2_beginEmpty a3 a4 = some (iI 0, iI 0) from rfl, pd_2, show f_X4_beginEmpty a5 a6 a7 a8 = some (iI 0, iI 0, iI 0, iI 0) from rfl, pd_4]
  simp only [pc_bv]
  rw [e2, pd_2]
theorem m_begins {s : Nat → Int32} {r c : Int} : ∃ s', f_X9_begins s (iI r) (iI c) = some s' ∧ mS s' (seaS r c) := by
  have N : ∃ z, lq2 (fun (v3 : Int32) (y1_s_1 : Nat → Int32) => ((
    (if 552 ≤ v3 then (
      some (.inr y1_s_1)
    ) else (
      ar v3 552 <|
      some (.inl (v3 + 1, upd y1_s_1 v3.toNatClampNeg 0))
    ))
    ) : Option ((Int32 × (Nat → Int32)) ⊕ ((Nat → Int32))))) 0 s = some z ∧ ∀ k : Int, 0 ≤ k → k < 552 → z k.toNat = iI 0 := by
    refine pc_iv2 (P := fun i b => ∀ k : Int, 0 ≤ k → k < i → b k.toNat = iI 0) (Q := fun z => ∀ k : Int, 0 ≤ k → k < 552 → z k.toNat = iI 0) 552 (by omega) (by omega) rfl (fun k k1 k2 => by omega) (fun i b i1 i2 hp => ⟨upd b i.toNat (iI 0), ?_, fun k k1 k2 => ?_⟩) (fun b hp => ⟨b, ?_, hp⟩)
    · simp (disch := omega) only [-Int.reduceToNat, pc_ite, if_true, if_false, pc_bv, pc_lit, pc_neg, pc_add, pc_sub, pc_mul, pc_mr, pc_ar, pc_dv, pc_lt, pc_le, pc_eq, pc_nat, pc_div, pc_emod, pc_ifz, pc_ifo, pc_zb, pd_1, pd_2, pd_3, pd_4, pd_5, pd_6, pd_7, pd_8, pd_9, pd_10, pd_11, pd_12, pd_13, pd_14, pd_15, pd_16, pd_17, pd_19, pd_21, pd_22, pd_30, pd_34, pd_57, if_neg]
    · rw [upd_at]
      by_cases z : k = i
      · rw [if_pos (by omega)]
      · rw [if_neg (by omega)]; exact hp k k1 (by omega)
    · simp (disch := omega) only [-Int.reduceToNat, pc_ite, if_true, if_false, pc_bv, pc_lit, pc_neg, pc_add, pc_sub, pc_mul, pc_mr, pc_ar, pc_dv, pc_lt, pc_le, pc_eq, pc_nat, pc_div, pc_emod, pc_ifz, pc_ifo, pc_zb, pd_1, pd_2, pd_3, pd_4, pd_5, pd_6, pd_7, pd_8, pd_9, pd_10, pd_11, pd_12, pd_13, pd_14, pd_15, pd_16, pd_17, pd_19, pd_21, pd_22, pd_30, pd_34, pd_57, if_pos]
  obtain ⟨z, e, q⟩ := N
  refine ⟨upd (upd z (0 : Int).toNat (iI r)) (1 : Int).toNat (iI c), ?_, fun k k1 k2 => ?_⟩
  · unfold f_X9_begins
    simp only [pc_bv]
    rw [e, pd_1, pc_ar0, pc_ar11]
    rfl
  · rw [upd_at, upd_at]
    unfold seaS
    by_cases z0 : k = 0
    · rw [if_neg (by omega), if_pos (by omega), if_pos z0]
    · by_cases z1 : k = 1
      · rw [if_pos (by omega), if_neg z0, if_pos z1]
      · rw [if_neg (by omega), if_neg (by omega), if_neg z0, if_neg z1]; exact q k k1 k2
