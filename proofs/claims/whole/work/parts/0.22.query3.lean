theorem pd_1 {α0 β : Type} {x0 : α0} {k : α0 → Option β} : bd1 (some x0) k = k x0 := Eq.trans (b := k x0) rfl rfl
theorem pc_srcho {ρ : Type} {f : Int32 → Option (Int32 ⊕ ρ)} (o : Int) (p : Int → Bool) (g : Int → ρ) (r0 : ρ) (n : Int) (hn : 0 ≤ n) {a : Int32} (ha : a = iI o)
    (ht : ∀ i, 0 ≤ i → i < n → p i = true → f (iI (i + o)) = some (.inr (g i))) (hf : ∀ i, 0 ≤ i → i < n → p i = false → f (iI (i + o)) = some (.inl (iI (i + 1 + o)))) (he : f (iI (n + o)) = some (.inr r0)) :
    lq1 f a = some (if fi p n = -1 then r0 else g (fi p n)) := by
  subst ha
  rcases fi_c p n with ⟨i, h1, h2, h3, h4, h5⟩ | ⟨h4, h5⟩
  · rw [h4, if_neg (by omega)]
    refine pc_run1 (fun k : Nat => iI (k + o)) i.toNat (by rw [pc_c0, Int.zero_add]) (fun k hk => ?_) ?_
    · rw [hf k (by omega) (by omega) (h5 k (by omega) (by omega))]; rfl
    · rw [show ((i.toNat : Nat) : Int) = i by omega]; exact ht i h1 h2 h3
  · rw [h4, if_pos rfl]
    refine pc_run1 (fun k : Nat => iI (k + o)) n.toNat (by rw [pc_c0, Int.zero_add]) (fun k hk => ?_) ?_
    · rw [hf k (by omega) (by omega) (h5 k (by omega) (by omega))]; rfl
    · rw [show ((n.toNat : Nat) : Int) = n by omega]; exact he
theorem aw_12 {S : Int → Int} (w : wS S) {c v : Int} (h1 : 0 ≤ c) (h2 : c < S 0 * S 1) (h3 : 0 ≤ v) (h4 : v < 4) : aw S c v 12 = -1 := by
  have hD := w.D
  have hR := g_rc w.1 h1 h2
  unfold aw
  rw [if_neg]
  have e : v = 0 ∨ v = 1 ∨ v = 2 ∨ v = 3 := by omega
  rcases e with rfl | rfl | rfl | rfl
  · rintro ⟨a1, a2, a3, a4⟩; simp at a1 a2 a3 a4; omega
  · rintro ⟨a1, a2, a3, a4⟩; simp at a1 a2 a3 a4; omega
  · rintro ⟨a1, a2, a3, a4⟩; simp at a1 a2 a3 a4; omega
  · rintro ⟨a1, a2, a3, a4⟩; simp at a1 a2 a3 a4; omega
theorem g_div {S : Int → Int} (w : wS S) {r k : Int} (h3 : 0 ≤ k) (h4 : k < S 1) : (S 1 * r + k) / S 1 = r ∧ (S 1 * r + k) % S 1 = k := by
  have hD := w.D
  constructor
  · rw [Int.add_comm, Int.add_mul_ediv_left _ _ (by omega), Int.ediv_eq_zero_of_lt h3 h4, Int.zero_add]
  · rw [Int.add_comm, Int.add_mul_emod_self_left, Int.emod_eq_of_lt h3 h4]
theorem aw_aw {S : Int → Int} (w : wS S) {c v d : Int} (h : aw S c v d ≠ -1) : aw S (aw S c v d) v 1 = aw S c v (d + 1) := by
  unfold aw at h
  have e : ∀ r k : Int, 0 ≤ k → k < S 1 → aw S (S 1 * r + k) v 1 = if 0 ≤ r + (if v = 0 then -1 else if v = 2 then 1 else 0) ∧ r + (if v = 0 then -1 else if v = 2 then 1 else 0) < S 0 ∧ 0 ≤ k + (if v = 1 then 1 else if v = 3 then -1 else 0) ∧ k + (if v = 1 then 1 else if v = 3 then -1 else 0) < S 1 then S 1 * (r + (if v = 0 then -1 else if v = 2 then 1 else 0)) + (k + (if v = 1 then 1 else if v = 3 then -1 else 0)) else -1 := by
    intro r k k1 k2
    unfold aw
    rw [(g_div w (r := r) k1 k2).1, (g_div w (r := r) k1 k2).2]
  by_cases z : 0 ≤ c / S 1 + (if v = 0 then -d else if v = 2 then d else 0) ∧ c / S 1 + (if v = 0 then -d else if v = 2 then d else 0) < S 0 ∧ 0 ≤ c % S 1 + (if v = 1 then d else if v = 3 then -d else 0) ∧ c % S 1 + (if v = 1 then d else if v = 3 then -d else 0) < S 1
  · have ee : aw S c v d = S 1 * (c / S 1 + (if v = 0 then -d else if v = 2 then d else 0)) + (c % S 1 + (if v = 1 then d else if v = 3 then -d else 0)) := by unfold aw; rw [if_pos z]
    rw [ee, e _ _ z.2.2.1 z.2.2.2]
    unfold aw
    have q1 : c / S 1 + (if v = 0 then -d else if v = 2 then d else 0) + (if v = 0 then -1 else if v = 2 then 1 else 0) = c / S 1 + (if v = 0 then -(d + 1) else if v = 2 then d + 1 else 0) := by split <;> (try split) <;> omega
    have q2 : c % S 1 + (if v = 1 then d else if v = 3 then -d else 0) + (if v = 1 then 1 else if v = 3 then -1 else 0) = c % S 1 + (if v = 1 then d + 1 else if v = 3 then -(d + 1) else 0) := by split <;> (try split) <;> omega
    rw [q1, q2]
  · rw [if_neg z] at h; exact absurd rfl h
section
variable {s : Nat → Int32} {S : Int → Int} {land riv hom dir len let' nOn lOn stp ord wys : Nat → Int32} {th : Int32}
theorem hdS_P (w : wS S) : ∀ (i : Int) (b : Int × Int × Int), 0 ≤ i → i < S 4 → (-1 ≤ b.1 ∧ b.1 < 16 ∧ 0 ≤ b.2.1 ∧ b.2.1 ≤ 2 ∧ 0 ≤ b.2.2 ∧ b.2.2 < 4) → isP S (S (536 + i)) = true → 0 ≤ qd b.2.2 (upr (hv S (S (536 + i)) 2)) ∧ qd b.2.2 (upr (hv S (S (536 + i)) 2)) ≤ 2 ∧ 0 ≤ upr (hv S (S (536 + i)) 2) ∧ upr (hv S (S (536 + i)) 2) < 4 := by
  intro i b a1 a2 hb hp
  have hu := upr_rg (v := hv S (S (536 + i)) 2)
  have hq := qd_rg hb.2.2.2.2.1 hb.2.2.2.2.2 hu.1 hu.2
  exact ⟨hq.1, hq.2, hu.1, hu.2⟩
theorem hdT_P (w : wS S) {i : Int} {b : Int × Int × Int} (a1 : 0 ≤ i) (a2 : i < S 4) (hb : -1 ≤ b.1 ∧ b.1 < 16 ∧ 0 ≤ b.2.1 ∧ b.2.1 ≤ 2 ∧ 0 ≤ b.2.2 ∧ b.2.2 < 4) : -1 ≤ (hdT S i b).1 ∧ (hdT S i b).1 < 16 ∧ 0 ≤ (hdT S i b).2.1 ∧ (hdT S i b).2.1 ≤ 2 ∧ 0 ≤ (hdT S i b).2.2 ∧ (hdT S i b).2.2 < 4 := by
  have hC := w.C
  cases e : isP S (S (536 + i))
  · rw [hdT_0 e]; exact hb
  · have hq := hdS_P w i b a1 a2 hb e
    by_cases z : b.2.1 < qd b.2.2 (upr (hv S (S (536 + i)) 2))
    · obtain ⟨q1, q2, q3⟩ := hdT_1 e z
      rw [q1, q2, q3]
      exact ⟨by omega, by omega, hq⟩
    · obtain ⟨q1, q2, q3⟩ := hdT_2 e z
      rw [q1, q2, q3]
      exact ⟨hb.1, hb.2.1, hb.2.2.1, hb.2.2.2.1, hq.2.2⟩
theorem hdS_0 (w : wS S) : -1 ≤ ((-1, 0, S 5) : Int × Int × Int).1 ∧ ((-1, 0, S 5) : Int × Int × Int).1 < 16 ∧ 0 ≤ ((-1, 0, S 5) : Int × Int × Int).2.1 ∧ ((-1, 0, S 5) : Int × Int × Int).2.1 ≤ 2 ∧ 0 ≤ ((-1, 0, S 5) : Int × Int × Int).2.2 ∧ ((-1, 0, S 5) : Int × Int × Int).2.2 < 4 := by
  have hC := w.C
  show (-1 : Int) ≤ -1 ∧ (-1 : Int) < 16 ∧ (0 : Int) ≤ 0 ∧ (0 : Int) ≤ 2 ∧ 0 ≤ S 5 ∧ S 5 < 4
  omega
theorem x_hardest (w : wS S) (hd : aH 2 dir S) (hj : aJ stp S) : f_X8_hardest (iI (S 2)) (iI (S 4)) (iI (S 5)) dir stp = some (iI (hdS S).1) := by
  have hC := w.C
  have h0 := hdS_0 w
  unfold f_X8_hardest hdS
  simp only [pc_bv]
  simp (disch := omega) only [-Int.reduceToNat, pc_ite, if_true, if_false, pc_bv, pc_lit, pc_neg, pc_add, pc_sub, pc_mul, pc_mr, pc_ar, pc_dv, pc_lt, pc_le, pc_eq, pc_nat, pc_div, pc_emod, pc_ifz, pc_ifo, pc_zb, pc_bd1, pc_bd2, pc_bd3, pc_bd4, pc_bd5, pc_bd6, pc_bd7, pc_bd8, pc_bd9, pc_bd10, pc_bd11, pc_bd12, pc_bd13, pc_bd14, pc_bd15, pc_bd16, pc_bd17, pc_bd19, pc_bd21, pc_bd22, pc_bd30, pc_bd34, pc_bd57]
  generalize hbb : ((-1, 0, S 5) : Int × Int × Int) = b0 at h0 ⊢
  refine pc_b1t (pc_fl4 0 (fun b : Int × Int × Int => iI b.1) (fun b => iI b.2.1) (fun b => iI b.2.2) (hdT S) (fun i b => -1 ≤ b.1 ∧ b.1 < 16 ∧ 0 ≤ b.2.1 ∧ b.2.1 ≤ 2 ∧ 0 ≤ b.2.2 ∧ b.2.2 < 4) (fun b => iI b.1) (S 4) (by omega) (b0 := b0) (by rw [← hbb]) (by rw [← hbb]) (by rw [← hbb]) rfl h0 (fun i b a1 a2 hb => ⟨?_, hdT_P w a1 a2 hb⟩) (fun b _ => ?_)).1 ?_
  · have hV := w.V a1 a2
    have hH := w.H hV.1 hV.2
    rw [show i + 0 = i by omega, show i + 1 + 0 = i + 1 by omega]
    simp (disch := omega) only [-Int.reduceToNat, pc_ite, if_true, if_false, pc_bv, pc_lit, pc_neg, pc_add, pc_sub, pc_mul, pc_mr, pc_ar, pc_dv, pc_lt, pc_le, pc_eq, pc_nat, pc_div, pc_emod, pc_ifz, pc_ifo, pc_zb, pc_bd1, pc_bd2, pc_bd3, pc_bd4, pc_bd5, pc_bd6, pc_bd7, pc_bd8, pc_bd9, pc_bd10, pc_bd11, pc_bd12, pc_bd13, pc_bd14, pc_bd15, pc_bd16, pc_bd17, pc_bd19, pc_bd21, pc_bd22, pc_bd30, pc_bd34, pc_bd57, x_stopAt w hj, x_directionOf w hd, if_neg]
    cases e : isP S (S (536 + i))
    · rw [hdT_0 e]
      have e2 : hv S (S (536 + i)) 2 = -1 := by unfold isP at e; simpa using e
      simp only [e2, if_true, Bool.false_eq_true, if_false]
    · have hp := isP_c w hV.1 hV.2 e
      have hq := hdS_P w i b a1 a2 hb e
      have t1 := hdT_1 (b := b) e
      have t2 := hdT_2 (b := b) e
      have k1 := x_upright (a := hv S (S (536 + i)) 2) (by omega) (by omega)
      have k2 := x_quarters (a := b.2.2) (b := upr (hv S (S (536 + i)) 2)) (by omega) (by omega) (by omega) (by omega)
      have e3 : ¬ hv S (S (536 + i)) 2 = -1 := by omega
      generalize upr (hv S (S (536 + i)) 2) = u at hq t1 t2 k1 k2
      generalize qd b.2.2 u = q at hq t1 t2 k2
      generalize hdT S i b = T at t1 t2 ⊢
      have l1 := pc_le (a := q) (b := b.2.1) (by omega) (by omega) (by omega) (by omega)
      have l2 := pc_lt (a := b.2.1) (b := q) (by omega) (by omega) (by omega) (by omega)
      by_cases z : b.2.1 < q
      · obtain ⟨q1, q2, q3⟩ := t1 z
        rw [q1, q2, q3]
        have z2 : ¬ q ≤ b.2.1 := by omega
        simp only [e3, if_true, if_false, k1, k2, pd_1, l1, l2, z, z2, pc_ite]
      · obtain ⟨q1, q2, q3⟩ := t2 z
        rw [q1, q2, q3]
        have z2 : q ≤ b.2.1 := by omega
        simp only [e3, if_true, if_false, k1, k2, pd_1, l1, l2, z, z2, pc_ite]
  · rw [show S 4 + 0 = S 4 by omega]
    simp (disch := omega) only [-Int.reduceToNat, pc_ite, if_true, if_false, pc_bv, pc_lit, pc_neg, pc_add, pc_sub, pc_mul, pc_mr, pc_ar, pc_dv, pc_lt, pc_le, pc_eq, pc_nat, pc_div, pc_emod, pc_ifz, pc_ifo, pc_zb, pc_bd1, pc_bd2, pc_bd3, pc_bd4, pc_bd5, pc_bd6, pc_bd7, pc_bd8, pc_bd9, pc_bd10, pc_bd11, pc_bd12, pc_bd13, pc_bd14, pc_bd15, pc_bd16, pc_bd17, pc_bd19, pc_bd21, pc_bd22, pc_bd30, pc_bd34, pc_bd57, if_pos]
  · rfl
theorem m_hardest (hs : mS s S) (w : wS S) : f_X9_hardest th s = some (iI (hdS S).1, iI 0) := by
  have hC := w.C
  have h0 := hdS_0 w
  unfold f_X9_hardest hdS
  simp only [pc_bv]
  simp (disch := omega) only [-Int.reduceToNat, pc_ite, if_true, if_false, pc_bv, pc_lit, pc_neg, pc_add, pc_sub, pc_mul, pc_mr, pc_ar, pc_dv, pc_lt, pc_le, pc_eq, pc_nat, pc_div, pc_emod, pc_ifz, pc_ifo, pc_zb, pc_bd1, pc_bd2, pc_bd3, pc_bd4, pc_bd5, pc_bd6, pc_bd7, pc_bd8, pc_bd9, pc_bd10, pc_bd11, pc_bd12, pc_bd13, pc_bd14, pc_bd15, pc_bd16, pc_bd17, pc_bd19, pc_bd21, pc_bd22, pc_bd30, pc_bd34, pc_bd57, hs.g]
  generalize hbb : ((-1, 0, S 5) : Int × Int × Int) = b0 at h0 ⊢
  refine pc_b1t (pc_fl4 0 (fun b : Int × Int × Int => iI b.1) (fun b => iI b.2.1) (fun b => iI b.2.2) (hdT S) (fun i b => -1 ≤ b.1 ∧ b.1 < 16 ∧ 0 ≤ b.2.1 ∧ b.2.1 ≤ 2 ∧ 0 ≤ b.2.2 ∧ b.2.2 < 4) (fun b => iI b.1) (S 4) (by omega) (b0 := b0) (by rw [← hbb]) (by rw [← hbb]) (by rw [← hbb]) rfl h0 (fun i b a1 a2 hb => ⟨?_, hdT_P w a1 a2 hb⟩) (fun b _ => ?_)).1 ?_
  · have hV := w.V a1 a2
    have hH := w.H hV.1 hV.2
    rw [show i + 0 = i by omega, show i + 1 + 0 = i + 1 by omega]
    simp (disch := omega) only [-Int.reduceToNat, pc_ite, if_true, if_false, pc_bv, pc_lit, pc_neg, pc_add, pc_sub, pc_mul, pc_mr, pc_ar, pc_dv, pc_lt, pc_le, pc_eq, pc_nat, pc_div, pc_emod, pc_ifz, pc_ifo, pc_zb, pc_bd1, pc_bd2, pc_bd3, pc_bd4, pc_bd5, pc_bd6, pc_bd7, pc_bd8, pc_bd9, pc_bd10, pc_bd11, pc_bd12, pc_bd13, pc_bd14, pc_bd15, pc_bd16, pc_bd17, pc_bd19, pc_bd21, pc_bd22, pc_bd30, pc_bd34, pc_bd57, hs.g, m_isPlaced hs w, if_neg]
    cases e : isP S (S (536 + i))
    · rw [hdT_0 e]
      have e2 : hv S (S (536 + i)) 2 = -1 := by unfold isP at e; simpa using e
      simp only [e2, if_true, Bool.false_eq_true, if_false]
    · have hp := isP_c w hV.1 hV.2 e
      have hq := hdS_P w i b a1 a2 hb e
      have t1 := hdT_1 (b := b) e
      have t2 := hdT_2 (b := b) e
      have k1 := m_uprightBy (a := hv S (S (536 + i)) 2) (by omega) (by omega)
      have k2 := m_quarters (a := b.2.2) (b := upr (hv S (S (536 + i)) 2)) (by omega) (by omega) (by omega) (by omega)
      have e3 : ¬ hv S (S (536 + i)) 2 = -1 := by omega
      generalize upr (hv S (S (536 + i)) 2) = u at hq t1 t2 k1 k2
      generalize qd b.2.2 u = q at hq t1 t2 k2
      generalize hdT S i b = T at t1 t2 ⊢
      have l1 := pc_le (a := q) (b := b.2.1) (by omega) (by omega) (by omega) (by omega)
      have l2 := pc_lt (a := b.2.1) (b := q) (by omega) (by omega) (by omega) (by omega)
      by_cases z : b.2.1 < q
      · obtain ⟨q1, q2, q3⟩ := t1 z
        rw [q1, q2, q3]
        have z2 : ¬ q ≤ b.2.1 := by omega
        simp only [e3, if_true, if_false, k1, k2, pd_1, l1, l2, z, z2, m_of hs hV.1 (by omega : S (536 + i) < 8) (by omega : (0:Int) ≤ 2) (by omega : (2:Int) < 12)]
      · obtain ⟨q1, q2, q3⟩ := t2 z
        rw [q1, q2, q3]
        have z2 : q ≤ b.2.1 := by omega
        simp only [e3, if_true, if_false, k1, k2, pd_1, l1, l2, z, z2, m_of hs hV.1 (by omega : S (536 + i) < 8) (by omega : (0:Int) ≤ 2) (by omega : (2:Int) < 12)]
  · rw [show S 4 + 0 = S 4 by omega]
    simp (disch := omega) only [-Int.reduceToNat, pc_ite, if_true, if_false, pc_bv, pc_lit, pc_neg, pc_add, pc_sub, pc_mul, pc_mr, pc_ar, pc_dv, pc_lt, pc_le, pc_eq, pc_nat, pc_div, pc_emod, pc_ifz, pc_ifo, pc_zb, pc_bd1, pc_bd2, pc_bd3, pc_bd4, pc_bd5, pc_bd6, pc_bd7, pc_bd8, pc_bd9, pc_bd10, pc_bd11, pc_bd12, pc_bd13, pc_bd14, pc_bd15, pc_bd16, pc_bd17, pc_bd19, pc_bd21, pc_bd22, pc_bd30, pc_bd34, pc_bd57, hs.g, if_pos]
  · rfl
theorem x_bestTurn (w : wS S) (hd : aH 2 dir S) (hj : aJ stp S) : f_X8_bestTurn (iI (S 4)) dir stp = some (iI (btN S)) := by
  have hC := w.C
  unfold f_X8_bestTurn btN
  simp only [pc_bv]
  simp (disch := omega) only [-Int.reduceToNat, pc_ite, if_true, if_false, pc_bv, pc_lit, pc_neg, pc_add, pc_sub, pc_mul, pc_mr, pc_ar, pc_dv, pc_lt, pc_le, pc_eq, pc_nat, pc_div, pc_emod, pc_ifz, pc_ifo, pc_zb, pc_bd1, pc_bd2, pc_bd3, pc_bd4, pc_bd5, pc_bd6, pc_bd7, pc_bd8, pc_bd9, pc_bd10, pc_bd11, pc_bd12, pc_bd13, pc_bd14, pc_bd15, pc_bd16, pc_bd17, pc_bd19, pc_bd21, pc_bd22, pc_bd30, pc_bd34, pc_bd57, x_turningNow w hj hd]
  refine pc_b1t (pc_fl3 1 (fun b => iI b) (fun b => iI (tB (dN S) S b)) (fun k b => if tB (dN S) S (k + 1) < tB (dN S) S b then k + 1 else b) (fun i b => 0 ≤ b ∧ b < 4) (fun b => iI b) 3 (by omega) (b0 := 0) rfl rfl rfl ⟨by omega, by omega⟩ (fun i b a1 a2 hb => ?_) (fun b _ => ?_)).1 rfl
  · have r1 := tB_rg w (dN_rg w) hb.1 hb.2
    have r2 := tB_rg w (dN_rg w) (t := i + 1) (by omega) (by omega)
    simp (disch := omega) only [-Int.reduceToNat, pc_ite, if_true, if_false, pc_bv, pc_lit, pc_neg, pc_add, pc_sub, pc_mul, pc_mr, pc_ar, pc_dv, pc_lt, pc_le, pc_eq, pc_nat, pc_div, pc_emod, pc_ifz, pc_ifo, pc_zb, pc_bd1, pc_bd2, pc_bd3, pc_bd4, pc_bd5, pc_bd6, pc_bd7, pc_bd8, pc_bd9, pc_bd10, pc_bd11, pc_bd12, pc_bd13, pc_bd14, pc_bd15, pc_bd16, pc_bd17, pc_bd19, pc_bd21, pc_bd22, pc_bd30, pc_bd34, pc_bd57, x_turningNow w hj hd, if_neg]
    by_cases z : tB (dN S) S (i + 1) < tB (dN S) S b
    · rw [if_neg (by omega), if_pos z]; exact ⟨rfl, by omega⟩
    · rw [if_pos (by omega), if_neg z]; exact ⟨rfl, hb⟩
  · simp (disch := omega) only [-Int.reduceToNat, pc_ite, if_true, if_false, pc_bv, pc_lit, pc_neg, pc_add, pc_sub, pc_mul, pc_mr, pc_ar, pc_dv, pc_lt, pc_le, pc_eq, pc_nat, pc_div, pc_emod, pc_ifz, pc_ifo, pc_zb, pc_bd1, pc_bd2, pc_bd3, pc_bd4, pc_bd5, pc_bd6, pc_bd7, pc_bd8, pc_bd9, pc_bd10, pc_bd11, pc_bd12, pc_bd13, pc_bd14, pc_bd15, pc_bd16, pc_bd17, pc_bd19, pc_bd21, pc_bd22, pc_bd30, pc_bd34, pc_bd57, if_pos]
theorem m_bestTurn (hs : mS s S) (w : wS S) : ∃ w', f_X9_bestTurn th s wys = some (iI (btN S), iI 0, w') := by
  have hC := w.C
  unfold f_X9_bestTurn btN
  simp only [pc_bv]
  have F := pc_fm3 (f := fun v1 v2 y2_ways_1 => if 4 ≤ v2 then some (Sum.inr (v1, y2_ways_1)) else bd2 (f_X9_turningNow s y2_ways_1 v2) fun r16 y2_ways_3 => bd2 (f_X9_turningNow s y2_ways_3 v1) fun r21 y2_ways_4 => if r21 ≤ r16 then some (Sum.inl (v1, v2 + 1, y2_ways_4)) else some (Sum.inl (v2, v2 + 1, y2_ways_4))) 1 (fun b : Int × (Nat → Int32) => iI b.1) (fun b => b.2) (fun k b => (if tB (dN S) S (k + 1) < tB (dN S) S b.1 then k + 1 else b.1, tnW S (tnW S b.2))) (fun i b => 0 ≤ b.1 ∧ b.1 < 4) (fun b => (iI b.1, b.2)) 3 (by omega) (b0 := (0, wys)) rfl rfl rfl (show (0 : Int) ≤ 0 ∧ (0 : Int) < 4 from by omega) (fun i b a1 a2 hb => ?_) (fun b _ => ?_)
  · refine ⟨(fol (fun k (b : Int × (Nat → Int32)) => (if tB (dN S) S (k + 1) < tB (dN S) S b.1 then k + 1 else b.1, tnW S (tnW S b.2))) (0, wys) (Int.toNat 3)).2, pc_b2t F.1 ?_⟩
    have e : ∀ n : Nat, (fol (fun k (b : Int × (Nat → Int32)) => (if tB (dN S) S (k + 1) < tB (dN S) S b.1 then k + 1 else b.1, tnW S (tnW S b.2))) (0, wys) n).1 = fol (fun k b => if tB (dN S) S (k + 1) < tB (dN S) S b then k + 1 else b) 0 n := by
      intro n
      induction n with
      | zero => rfl
      | succ n ih => rw [fol_s, fol_s, ih]
    rw [e]
    rfl
  · have r1 := tB_rg w (dN_rg w) hb.1 hb.2
    have r2 := tB_rg w (dN_rg w) (t := i + 1) (by omega) (by omega)
    simp (disch := omega) only [-Int.reduceToNat, pc_ite, if_true, if_false, pc_bv, pc_lit, pc_neg, pc_add, pc_sub, pc_mul, pc_mr, pc_ar, pc_dv, pc_lt, pc_le, pc_eq, pc_nat, pc_div, pc_emod, pc_ifz, pc_ifo, pc_zb, pc_bd1, pc_bd2, pc_bd3, pc_bd4, pc_bd5, pc_bd6, pc_bd7, pc_bd8, pc_bd9, pc_bd10, pc_bd11, pc_bd12, pc_bd13, pc_bd14, pc_bd15, pc_bd16, pc_bd17, pc_bd19, pc_bd21, pc_bd22, pc_bd30, pc_bd34, pc_bd57, m_turningNow hs w, if_neg]
    by_cases z : tB (dN S) S (i + 1) < tB (dN S) S b.1
    · rw [if_neg (by omega), if_pos z]; exact ⟨rfl, by show 0 ≤ i + 1 ∧ i + 1 < 4; omega⟩
    · rw [if_pos (by omega), if_neg z]; exact ⟨rfl, hb⟩
  · simp (disch := omega) only [-Int.reduceToNat, pc_ite, if_true, if_false, pc_bv, pc_lit, pc_neg, pc_add, pc_sub, pc_mul, pc_mr, pc_ar, pc_dv, pc_lt, pc_le, pc_eq, pc_nat, pc_div, pc_emod, pc_ifz, pc_ifo, pc_zb, pc_bd1, pc_bd2, pc_bd3, pc_bd4, pc_bd5, pc_bd6, pc_bd7, pc_bd8, pc_bd9, pc_bd10, pc_bd11, pc_bd12, pc_bd13, pc_bd14, pc_bd15, pc_bd16, pc_bd17, pc_bd19, pc_bd21, pc_bd22, pc_bd30, pc_bd34, pc_bd57, if_pos]
theorem x_room (w : wS S) (hl : aL land S) (hr : aV riv S) (hh : aH 0 hom S) {a v : Int} (h1 : 0 ≤ a) (h2 : a < S 2) (h3 : 0 ≤ v) (h4 : v < 4) : f_X8_room (iI (S 0)) (iI (S 1)) (iI (S 2)) land riv hom (iI a) (iI v) = some (iI (rmN S a v)) := by
  have hC := w.C
  have hN := w.N
  have hH := w.H h1 h2
  unfold f_X8_room f_X8_needHarbour f_X8_needDirection rmN
  simp only [pc_bv]
  simp (disch := omega) only [-Int.reduceToNat, pc_ite, if_true, if_false, pc_bv, pc_lit, pc_neg, pc_add, pc_sub, pc_mul, pc_mr, pc_ar, pc_dv, pc_lt, pc_le, pc_eq, pc_nat, pc_div, pc_emod, pc_ifz, pc_ifo, pc_zb, pc_bd1, pc_bd2, pc_bd3, pc_bd4, pc_bd5, pc_bd6, pc_bd7, pc_bd8, pc_bd9, pc_bd10, pc_bd11, pc_bd12, pc_bd13, pc_bd14, pc_bd15, pc_bd16, pc_bd17, pc_bd19, pc_bd21, pc_bd22, pc_bd30, pc_bd34, pc_bd57, if_neg, if_pos, x_homeOf w hh]
  refine (pc_srcho 1 (fun k => !cB S (aw S (hv S a 0) v (k + 1))) (fun k => iI k) (iI 11) 11 (by omega) rfl (fun i a1 a2 a3 => ?_) (fun i a1 a2 a3 => ?_) ?_).trans ?_
  · have hA := g_aw w.1 (hv S a 0) v (i + 1)
    rw [Bool.not_eq_true'] at a3
    simp (disch := omega) only [-Int.reduceToNat, pc_ite, if_true, if_false, pc_bv, pc_lit, pc_neg, pc_add, pc_sub, pc_mul, pc_mr, pc_ar, pc_dv, pc_lt, pc_le, pc_eq, pc_nat, pc_div, pc_emod, pc_ifz, pc_ifo, pc_zb, pc_bd1, pc_bd2, pc_bd3, pc_bd4, pc_bd5, pc_bd6, pc_bd7, pc_bd8, pc_bd9, pc_bd10, pc_bd11, pc_bd12, pc_bd13, pc_bd14, pc_bd15, pc_bd16, pc_bd17, pc_bd19, pc_bd21, pc_bd22, pc_bd30, pc_bd34, pc_bd57, if_neg, x_ahead w, x_isOpen w hl hr hh, a3, if_pos]
    rw [show i + 1 - 1 = i by omega]; rfl
  · have hA := g_aw w.1 (hv S a 0) v (i + 1)
    rw [Bool.not_eq_false'] at a3
    simp (disch := omega) only [-Int.reduceToNat, pc_ite, if_true, if_false, pc_bv, pc_lit, pc_neg, pc_add, pc_sub, pc_mul, pc_mr, pc_ar, pc_dv, pc_lt, pc_le, pc_eq, pc_nat, pc_div, pc_emod, pc_ifz, pc_ifo, pc_zb, pc_bd1, pc_bd2, pc_bd3, pc_bd4, pc_bd5, pc_bd6, pc_bd7, pc_bd8, pc_bd9, pc_bd10, pc_bd11, pc_bd12, pc_bd13, pc_bd14, pc_bd15, pc_bd16, pc_bd17, pc_bd19, pc_bd21, pc_bd22, pc_bd30, pc_bd34, pc_bd57, if_neg, x_ahead w, x_isOpen w hl hr hh, a3, if_pos]
  · simp (disch := omega) only [-Int.reduceToNat, pc_ite, if_true, if_false, pc_bv, pc_lit, pc_neg, pc_add, pc_sub, pc_mul, pc_mr, pc_ar, pc_dv, pc_lt, pc_le, pc_eq, pc_nat, pc_div, pc_emod, pc_ifz, pc_ifo, pc_zb, pc_bd1, pc_bd2, pc_bd3, pc_bd4, pc_bd5, pc_bd6, pc_bd7, pc_bd8, pc_bd9, pc_bd10, pc_bd11, pc_bd12, pc_bd13, pc_bd14, pc_bd15, pc_bd16, pc_bd17, pc_bd19, pc_bd21, pc_bd22, pc_bd30, pc_bd34, pc_bd57, if_pos]
  · split <;> rfl
theorem m_roomL (hs : mS s S) (w : wS S) {a v : Int} (h1 : 0 ≤ a) (h2 : a < S 2) (h3 : 0 ≤ v) (h4 : v < 4) : f_X9_room th s (iI a) (iI v) = some (iI (rmN S a v), iI 0) := by
  have hC := w.C
  have hN := w.N
  have hH := w.H h1 h2
  have hA1 := g_aw w.1 (hv S a 0) v 1
  unfold f_X9_room
  simp only [pc_bv]
  simp (disch := omega) only [-Int.reduceToNat, pc_ite, if_true, if_false, pc_bv, pc_lit, pc_neg, pc_add, pc_sub, pc_mul, pc_mr, pc_ar, pc_dv, pc_lt, pc_le, pc_eq, pc_nat, pc_div, pc_emod, pc_ifz, pc_ifo, pc_zb, pc_bd1, pc_bd2, pc_bd3, pc_bd4, pc_bd5, pc_bd6, pc_bd7, pc_bd8, pc_bd9, pc_bd10, pc_bd11, pc_bd12, pc_bd13, pc_bd14, pc_bd15, pc_bd16, pc_bd17, pc_bd19, pc_bd21, pc_bd22, pc_bd30, pc_bd34, pc_bd57, m_isHarbour hs w, m_isWay, m_passes, m_of hs, m_away hs w]
  have ok1 : (0 ≤ a ∧ a ≤ S 2 - 1) := by omega
  have ok2 : (0 ≤ v ∧ v ≤ 3) := by omega
  simp only [ok1, ok2, decide_true, Bool.and_true, and_self, if_true]
  have stop : ∀ n, 0 ≤ n → n ≤ 11 → cB S (aw S (hv S a 0) v (n + 1)) = false → (bd1 (f_X9_isLand s (iI (aw S (hv S a 0) v (n + 1)))) fun r37 => if r37 = iI 0 then some (Sum.inr (iI n)) else bd1 (f_X9_isRiver s (iI (aw S (hv S a 0) v (n + 1)))) fun r46 => if r46 = iI 0 then bd1 (f_X9_harbourAt s (iI (aw S (hv S a 0) v (n + 1))) (iI (-1))) fun r56 => if r56 = iI (-1) then bd1 (f_X9_away s (iI (aw S (hv S a 0) v (n + 1))) (iI v) (iI 1)) fun r71 => some (Sum.inl (iI n + iI 1, r71)) else some (Sum.inr (iI n)) else some (Sum.inr (iI n))) = (some (.inr (iI n)) : Option ((Int32 × Int32) ⊕ Int32)) := by
    intro n n1 n2 hc
    have hAw := g_aw w.1 (hv S a 0) v (n + 1)
    have hh := fi_rg (fun h => decide (h ≠ -1) && decide (hv S h 0 = (aw S (hv S a 0) v (n + 1)))) (S 2)
    rw [show fi _ _ = hA S (aw S (hv S a 0) v (n + 1)) (-1) from rfl] at hh
    unfold cB at hc
    simp (disch := omega) only [-Int.reduceToNat, pc_ite, if_true, if_false, pc_bv, pc_lit, pc_neg, pc_add, pc_sub, pc_mul, pc_mr, pc_ar, pc_dv, pc_lt, pc_le, pc_eq, pc_nat, pc_div, pc_emod, pc_ifz, pc_ifo, pc_zb, pc_bd1, pc_bd2, pc_bd3, pc_bd4, pc_bd5, pc_bd6, pc_bd7, pc_bd8, pc_bd9, pc_bd10, pc_bd11, pc_bd12, pc_bd13, pc_bd14, pc_bd15, pc_bd16, pc_bd17, pc_bd19, pc_bd21, pc_bd22, pc_bd30, pc_bd34, pc_bd57, m_isLand hs w, m_isRiver hs w, m_harbourAt hs w]
    cases e1 : isL S (aw S (hv S a 0) v (n + 1))
    · rfl
    · cases e2 : isV S (aw S (hv S a 0) v (n + 1))
      · rw [e1, e2] at hc
        simp at hc
        simp [hc]
      · rfl
  have hrm : ∃ n : Int, 0 ≤ n ∧ n ≤ 11 ∧ (∀ k, 0 ≤ k → k < n → cB S (aw S (hv S a 0) v (k + 1)) = true) ∧ cB S (aw S (hv S a 0) v (n + 1)) = false ∧ rmN S a v = n := by
    rcases fi_c (fun k => !cB S (aw S (hv S a 0) v (k + 1))) 11 with ⟨i, b1, b2, b3, b4, b5⟩ | ⟨b4, b5⟩
    · refine ⟨i, b1, by omega, fun k k1 k2 => ?_, by simpa using b3, ?_⟩
      · simpa using b5 k k1 k2
      · unfold rmN; rw [b4, if_neg (by omega)]
    · refine ⟨11, by omega, by omega, fun k k1 k2 => by simpa using b5 k k1 k2, ?_, ?_⟩
      · rw [show (11 : Int) + 1 = 12 by omega, aw_12 w hH.1 hH.2.1 h3 h4]; simp [cB, isL]
      · unfold rmN; rw [b4, if_pos rfl]
  obtain ⟨n, n0, n1, na, ns, ne⟩ := hrm
  rw [ne]
  refine pc_b1t (pc_run2 (fun k : Nat => iI k) (fun k : Nat => iI (aw S (hv S a 0) v (k + 1))) n.toNat rfl (by rw [pc_c0, Int.zero_add]) (fun k hk => ?_) (r := iI n) ?_) rfl
  · have hcb := na k (by omega) (by omega)
    have hAw := g_aw w.1 (hv S a 0) v (k + 1)
    have hne : aw S (hv S a 0) v (k + 1) ≠ -1 := by
      intro z; rw [z] at hcb; simp [cB, isL] at hcb
    have hh := fi_rg (fun h => decide (h ≠ -1) && decide (hv S h 0 = (aw S (hv S a 0) v (k + 1)))) (S 2)
    rw [show fi _ _ = hA S (aw S (hv S a 0) v (k + 1)) (-1) from rfl] at hh
    unfold cB at hcb
    simp only [Bool.and_eq_true, Bool.not_eq_true', decide_eq_true_iff] at hcb
    simp (disch := omega) only [-Int.reduceToNat, pc_ite, if_true, if_false, pc_bv, pc_lit, pc_neg, pc_add, pc_sub, pc_mul, pc_mr, pc_ar, pc_dv, pc_lt, pc_le, pc_eq, pc_nat, pc_div, pc_emod, pc_ifz, pc_ifo, pc_zb, pc_bd1, pc_bd2, pc_bd3, pc_bd4, pc_bd5, pc_bd6, pc_bd7, pc_bd8, pc_bd9, pc_bd10, pc_bd11, pc_bd12, pc_bd13, pc_bd14, pc_bd15, pc_bd16, pc_bd17, pc_bd19, pc_bd21, pc_bd22, pc_bd30, pc_bd34, pc_bd57, m_isLand hs w, m_isRiver hs w, m_harbourAt hs w, hcb.1.1, hcb.1.2, Bool.false_eq_true, if_pos hcb.2, m_away hs w, aw_aw w hne]
    rw [show ((k + 1 : Nat) : Int) = (k : Int) + 1 by omega]
  · rw [show ((n.toNat : Nat) : Int) = n by omega]
    exact stop n n0 n1 ns
end
