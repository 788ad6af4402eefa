def KI (S M : Int → Int) (B : Int) (K : Int → Int) : Prop := ∀ v, 0 ≤ v → v < S 0 * S 1 → (K v = -1 ∨ (1 ≤ K v ∧ M v ≤ K v ∧ M v < 1000000 ∧ K v ≤ B)) ∧ (cB S v = false → K v = -1)
def kle (S K' K : Int → Int) : Prop := ∀ v, 0 ≤ v → v < S 0 * S 1 → K v ≠ -1 → K' v ≠ -1 ∧ K' v ≤ K v
def krl (S K' K : Int → Int) (v x : Int) : Prop := aw S v x 1 ≠ -1 → K (aw S v x 1) ≠ -1 → K' v ≠ -1 ∧ K' v ≤ K (aw S v x 1) + cst S v
def yC (S : Int → Int) (y : Nat → Int32) : Prop := ∀ c, 0 ≤ c → c < S 0 * S 1 → y c.toNat = iI (if cB S c = true then cst S c else 0)
section
variable {s : Nat → Int32} {S M : Int → Int} {land riv hom dir len let' nOn lOn stp ord : Nat → Int32}
theorem sol_le (w : wS S) (h : solM S M) {v x : Int} (v1 : 0 ≤ v) (v2 : v < S 0 * S 1) (e : cB S v = true) (x1 : 0 ≤ x) (x2 : x < 4) (hn : aw S v x 1 ≠ -1) (hf : M (aw S v x 1) < 1000000) : M v ≤ M (aw S v x 1) + cst S v ∧ M v < 1000000 := by
  have hA := aw_in w hn
  have hs := M_sm w h hA.1 hA.2
  have hu := h.1 _ hA.1 hA.2
  have hv := h.1 v v1 v2
  have hc := cst_rg S v
  cases e2 : eB S v
  · have := h.2 v v1 v2 e e2 x x1 x2 hn hf
    omega
  · have := hv.2.2.2.1 e e2
    omega
theorem x_sumN {y : Nat → Int32} : f_X7_sumOf y (iI (-1)) = some (iI (-1)) := rfl
theorem x_sumOf {y : Nat → Int32} {u : Int} (u1 : 0 ≤ u) (u2 : u < 144) : f_X7_sumOf y (iI u) = some (y u.toNat) := by
  unfold f_X7_sumOf
  simp (disch := omega) only [-Int.reduceToNat, pc_ite, if_true, if_false, pc_bv, pc_lit, pc_neg, pc_add, pc_sub, pc_mul, pc_mr, pc_ar, pc_dv, pc_lt, pc_le, pc_eq, pc_nat, pc_div, pc_emod, pc_ifz, pc_ifo, pc_zb, pd_1, pd_2, pd_3, pd_4, pd_5, pd_6, pd_7, pd_8, pd_9, pd_10, pd_11, pd_12, pd_13, pd_14, pd_15, pd_16, pd_17, pd_19, pd_21, pd_22, pd_30, pd_34, pd_57, if_neg]
theorem kle_t {K K' K'' : Int → Int} (a : kle S K' K) (b : kle S K'' K') : kle S K'' K := by
  intro v v1 v2 h
  have h1 := a v v1 v2 h
  have h2 := b v v1 v2 h1.1
  exact ⟨h2.1, by omega⟩
theorem x_improve (w : wS S) (hM : solM S M) {co y : Nat → Int32} {K : Int → Int} {B : Int} (hc : yC S co) (hy : yM S K y) (hK : KI S M B K) (B1 : 11 ≤ B) (B2 : B ≤ 2000000) : ∃ r, f_X7_improve co y (iI (S 0)) (iI (S 1)) (iI (S 0 * S 1)) = some r ∧ ∃ b K', r.1 = zB b ∧ yM S K' r.2 ∧ KI S M (B + 6336) K' ∧ kle S K' K ∧ (∀ v, 0 ≤ v → v < S 0 * S 1 → cB S v = true → ∀ x, 0 ≤ x → x < 4 → krl S K' K v x) ∧ (b = false → ∀ v, 0 ≤ v → v < S 0 * S 1 → K' v = K v) := by
  have hN := w.N
  have hD := w.D
  have kmono : ∀ {B B' : Int} {K}, KI S M B K → B ≤ B' → KI S M B' K := by
    intro B B' K h hb v v1 v2
    have := h v v1 v2
    refine ⟨?_, this.2⟩
    rcases this.1 with q | q
    · exact .inl q
    · exact .inr ⟨q.1, q.2.1, q.2.2.1, by omega⟩
  unfold f_X7_improve
  simp only [pc_bv]
  refine pc_e2 (Q := fun r => ∃ b K', r.1 = zB b ∧ yM S K' r.2 ∧ KI S M (B + 6336) K' ∧ kle S K' K ∧ (∀ v, 0 ≤ v → v < S 0 * S 1 → cB S v = true → ∀ x, 0 ≤ x → x < 4 → krl S K' K v x) ∧ (b = false → ∀ v, 0 ≤ v → v < S 0 * S 1 → K' v = K v))
    (pc_im3 (fun i z y => ∃ b K', z = zB b ∧ yM S K' y ∧ KI S M (B + 44 * i) K' ∧ kle S K' K ∧ (∀ v, 0 ≤ v → v < i → cB S v = true → ∀ x, 0 ≤ x → x < 4 → krl S K' K v x) ∧ (b = false → ∀ v, 0 ≤ v → v < S 0 * S 1 → K' v = K v)) _ (S 0 * S 1) (by omega) (by omega) rfl ⟨false, K, rfl, hy, by rw [Int.mul_zero, Int.add_zero]; exact hK, fun v _ _ h => ⟨h, Int.le_refl _⟩, fun v v1 v2 => by omega, fun _ v _ _ => rfl⟩ (fun i z y a1 a2 hp => ?_) (fun z y hp => ?_)) (fun z y h => ?_)
  · obtain ⟨b, K', hz, hy', hK', hl, hr, hb⟩ := hp
    subst hz
    have hci := hc i a1 a2
    have hcr := cst_rg S i
    have hle : ¬ iI (S 0 * S 1) ≤ iI i := by rw [pc_le (by omega) (by omega) (by omega) (by omega)]; omega
    have ari : ∀ {α : Type} {k : Option α}, ar (iI i) 144 k = k := fun {_ _} => pc_ar a1 (by omega) (by omega)
    have ni : (iI i).toNatClampNeg = i.toNat := pc_nat (by omega) (by omega)
    have pl : iI i + 1 = iI (i + 1) := by rw [show (1 : Int32) = iI 1 from rfl, pc_add]
    have inner : ∀ {f : Int32 → Int32 → (Nat → Int32) → Option ((Int32 × Int32 × (Nat → Int32)) ⊕ (Int32 × (Nat → Int32)))}, f = (fun v3_2 v5 y2_sums_3 => if 4 ≤ v5 then some (Sum.inr (v3_2, y2_sums_3)) else ar (iI i) 144 (if co (iI i).toNatClampNeg = 0 then some (Sum.inr (v3_2, y2_sums_3)) else bd1 (f_X1_ahead (iI (S 0)) (iI (S 1)) (iI i) v5 1) fun r37 => bd1 (f_X7_sumOf y2_sums_3 r37) fun r40 => if r40 = -1 then some (Sum.inl (v3_2, v5 + 1, y2_sums_3)) else ar (iI i) 144 (if y2_sums_3 (iI i).toNatClampNeg = -1 then ar (iI i) 144 (ar (iI i) 144 (some (Sum.inl (1, v5 + 1, upd y2_sums_3 (iI i).toNatClampNeg (r40 + co (iI i).toNatClampNeg))))) else ar (iI i) 144 (ar (iI i) 144 (if y2_sums_3 (iI i).toNatClampNeg ≤ r40 + co (iI i).toNatClampNeg then some (Sum.inl (v3_2, v5 + 1, y2_sums_3)) else ar (iI i) 144 (ar (iI i) 144 (some (Sum.inl (1, v5 + 1, upd y2_sums_3 (iI i).toNatClampNeg (r40 + co (iI i).toNatClampNeg)))))))))) → ∃ r, lq3 f (zB b) 0 y = some r ∧ ∃ b' K'', r.1 = zB b' ∧ yM S K'' r.2 ∧ KI S M (B + 44 * (i + 1)) K'' ∧ kle S K'' K ∧ (∀ v, 0 ≤ v → v < i + 1 → cB S v = true → ∀ x, 0 ≤ x → x < 4 → krl S K'' K v x) ∧ (b' = false → ∀ v, 0 ≤ v → v < S 0 * S 1 → K'' v = K v) := by
      intro f hf
      subst hf
      refine pc_im3 (fun j z y => ∃ b' K'', z = zB b' ∧ yM S K'' y ∧ KI S M (B + 44 * i + 11 * j) K'' ∧ kle S K'' K ∧ (∀ v, 0 ≤ v → v < i → cB S v = true → ∀ x, 0 ≤ x → x < 4 → krl S K'' K v x) ∧ (cB S i = true → ∀ x, 0 ≤ x → x < j → krl S K'' K i x) ∧ (b' = false → ∀ v, 0 ≤ v → v < S 0 * S 1 → K'' v = K v)) _ (if cB S i = true then 4 else 0) (by split <;> omega) (by split <;> omega) rfl ⟨b, K', rfl, hy', by rw [Int.mul_zero, Int.add_zero]; exact hK', hl, hr, fun _ x x1 x2 => by omega, hb⟩ (fun j z y j1 j2 hp => ?_) (fun z y hp => ?_)
      · obtain ⟨b', K'', hz, hy'', hK'', hl', hr', hr2, hb'⟩ := hp
        subst hz
        cases e : cB S i
        · rw [e] at j2; simp at j2; omega
        · rw [if_pos e] at j2 hci
          have hA := g_aw w.1 i j 1
          have ahd := x_ahead w a1 a2 j1 j2 (by omega : (0 : Int) ≤ 1) (by omega)
          have zc : ¬ cst S i = 0 := by omega
          have yi := hy'' i a1 a2
          have ki := hK'' i a1 a2
          have kmv : (∀ (b2 : Bool), (aw S i j 1 = -1 ∨ K'' (aw S i j 1) = -1 ∨ (K'' i ≠ -1 ∧ K'' i ≤ K'' (aw S i j 1) + cst S i)) → (b2 = false → b' = false) → ∃ b'' K3, zB b2 = zB b'' ∧ yM S K3 y ∧ KI S M (B + 44 * i + 11 * (j + 1)) K3 ∧ kle S K3 K ∧ (∀ v, 0 ≤ v → v < i → cB S v = true → ∀ x, 0 ≤ x → x < 4 → krl S K3 K v x) ∧ (true = true → ∀ x, 0 ≤ x → x < j + 1 → krl S K3 K i x) ∧ (b'' = false → ∀ v, 0 ≤ v → v < S 0 * S 1 → K3 v = K v)) := by
            intro b2 h hbb
            refine ⟨b2, K'', rfl, hy'', kmono hK'' (by omega), hl', hr', fun _ x x1 x2 => ?_, fun q => hb' (hbb q)⟩
            by_cases zx : x = j
            · subst zx
              intro n1 n2
              rcases h with q | q | q
              · exact absurd q n1
              · have hA2 := aw_in w n1
                exact absurd q (hl' _ hA2.1 hA2.2 n2).1
              · have hA2 := aw_in w n1
                have := hl' _ hA2.1 hA2.2 n2
                exact ⟨q.1, by omega⟩
            · exact hr2 e x x1 (by omega)
          by_cases n0 : aw S i j 1 = -1
          · refine ⟨zB b', y, ?_, kmv b' (.inl n0) id⟩
            rw [n0] at ahd
            simp (disch := omega) only [-Int.reduceToNat, pc_ite, if_true, if_false, pc_bv, pc_lit, pc_neg, pc_add, pc_sub, pc_mul, pc_mr, pc_ar, pc_dv, pc_lt, pc_le, pc_eq, pc_nat, pc_div, pc_emod, pc_ifz, pc_ifo, pc_zb, pd_1, pd_2, pd_3, pd_4, pd_5, pd_6, pd_7, pd_8, pd_9, pd_10, pd_11, pd_12, pd_13, pd_14, pd_15, pd_16, pd_17, pd_19, pd_21, pd_22, pd_30, pd_34, pd_57, ari, ni, hci, zc, if_neg, ahd, x_sumN]
          · have hA2 := aw_in w n0
            have yu := hy'' _ hA2.1 hA2.2
            have ku := hK'' _ hA2.1 hA2.2
            by_cases n1 : K'' (aw S i j 1) = -1
            · refine ⟨zB b', y, ?_, kmv b' (.inr (.inl n1)) id⟩
              rw [n1] at yu
              simp (disch := omega) only [-Int.reduceToNat, pc_ite, if_true, if_false, pc_bv, pc_lit, pc_neg, pc_add, pc_sub, pc_mul, pc_mr, pc_ar, pc_dv, pc_lt, pc_le, pc_eq, pc_nat, pc_div, pc_emod, pc_ifz, pc_ifo, pc_zb, pd_1, pd_2, pd_3, pd_4, pd_5, pd_6, pd_7, pd_8, pd_9, pd_10, pd_11, pd_12, pd_13, pd_14, pd_15, pd_16, pd_17, pd_19, pd_21, pd_22, pd_30, pd_34, pd_57, ari, ni, hci, zc, if_neg, ahd, x_sumOf, yu]
            · have ku2 : 1 ≤ K'' (aw S i j 1) ∧ M (aw S i j 1) ≤ K'' (aw S i j 1) ∧ M (aw S i j 1) < 1000000 ∧ K'' (aw S i j 1) ≤ B + 44 * i + 11 * j := by
                rcases ku.1 with q | q
                · exact absurd q n1
                · exact q
              have sl := sol_le w hM a1 a2 e j1 j2 n0 ku2.2.2.1
              have upd' : (K'' i = -1 ∨ K'' (aw S i j 1) + cst S i < K'' i) → ∃ b'' K3, iI 1 = zB b'' ∧ yM S K3 (upd y i.toNat (iI (K'' (aw S i j 1) + cst S i))) ∧ KI S M (B + 44 * i + 11 * (j + 1)) K3 ∧ kle S K3 K ∧ (∀ v, 0 ≤ v → v < i → cB S v = true → ∀ x, 0 ≤ x → x < 4 → krl S K3 K v x) ∧ (true = true → ∀ x, 0 ≤ x → x < j + 1 → krl S K3 K i x) ∧ (b'' = false → ∀ v, 0 ≤ v → v < S 0 * S 1 → K3 v = K v) := by
                intro hcase
                refine ⟨true, wr1 K'' i (K'' (aw S i j 1) + cst S i), rfl, yM_up hy'' a1, fun v v1 v2 => ?_, fun v v1 v2 hv => ?_, fun v v1 v2 ev x x1 x2 => ?_, fun _ x x1 x2 n2 n3 => ?_, fun q => by cases q⟩
                · by_cases zv : v = i
                  · rw [zv, wr1_at]
                    refine ⟨.inr ⟨by omega, by omega, by omega, by omega⟩, fun q => ?_⟩
                    rw [e] at q; cases q
                  · rw [wr1_no zv]
                    exact kmono hK'' (by omega : B + 44 * i + 11 * j ≤ B + 44 * i + 11 * (j + 1)) v v1 v2
                · have h0 := hl' v v1 v2 hv
                  by_cases zv : v = i
                  · rw [zv] at h0 ⊢
                    rw [wr1_at]
                    refine ⟨by omega, ?_⟩
                    rcases hcase with q | q
                    · exact absurd q h0.1
                    · omega
                  · rw [wr1_no zv]; exact h0
                · have := hr' v v1 v2 ev x x1 x2
                  intro n2 n3
                  have h0 := this n2 n3
                  rw [wr1_no (by omega)]; exact h0
                · rw [wr1_at]
                  refine ⟨by omega, ?_⟩
                  by_cases zx : x = j
                  · subst zx
                    have h0 := hl' _ hA2.1 hA2.2 n3
                    omega
                  · have h0 := hr2 e x x1 (by omega) n2 n3
                    rcases hcase with q | q
                    · exact absurd q h0.1
                    · omega
              by_cases n2 : K'' i = -1
              · refine ⟨iI 1, upd y i.toNat (iI (K'' (aw S i j 1) + cst S i)), ?_, upd' (.inl n2)⟩
                rw [n2] at yi
                simp (disch := omega) only [-Int.reduceToNat, pc_ite, if_true, if_false, pc_bv, pc_lit, pc_neg, pc_add, pc_sub, pc_mul, pc_mr, pc_ar, pc_dv, pc_lt, pc_le, pc_eq, pc_nat, pc_div, pc_emod, pc_ifz, pc_ifo, pc_zb, pd_1, pd_2, pd_3, pd_4, pd_5, pd_6, pd_7, pd_8, pd_9, pd_10, pd_11, pd_12, pd_13, pd_14, pd_15, pd_16, pd_17, pd_19, pd_21, pd_22, pd_30, pd_34, pd_57, ari, ni, hci, zc, if_neg, ahd, x_sumOf, yu, n1, yi]
              · by_cases n3 : K'' i ≤ K'' (aw S i j 1) + cst S i
                · refine ⟨zB b', y, ?_, kmv b' (.inr (.inr ⟨n2, n3⟩)) id⟩
                  rcases ki.1 with q | q
                  · exact absurd q n2
                  · simp (disch := omega) only [-Int.reduceToNat, pc_ite, if_true, if_false, pc_bv, pc_lit, pc_neg, pc_add, pc_sub, pc_mul, pc_mr, pc_ar, pc_dv, pc_lt, pc_le, pc_eq, pc_nat, pc_div, pc_emod, pc_ifz, pc_ifo, pc_zb, pd_1, pd_2, pd_3, pd_4, pd_5, pd_6, pd_7, pd_8, pd_9, pd_10, pd_11, pd_12, pd_13, pd_14, pd_15, pd_16, pd_17, pd_19, pd_21, pd_22, pd_30, pd_34, pd_57, ari, ni, hci, zc, if_neg, ahd, x_sumOf, yu, n1, yi, n2, n3]
                · refine ⟨iI 1, upd y i.toNat (iI (K'' (aw S i j 1) + cst S i)), ?_, upd' (.inr (by omega))⟩
                  rcases ki.1 with q | q
                  · exact absurd q n2
                  · simp (disch := omega) only [-Int.reduceToNat, pc_ite, if_true, if_false, pc_bv, pc_lit, pc_neg, pc_add, pc_sub, pc_mul, pc_mr, pc_ar, pc_dv, pc_lt, pc_le, pc_eq, pc_nat, pc_div, pc_emod, pc_ifz, pc_ifo, pc_zb, pd_1, pd_2, pd_3, pd_4, pd_5, pd_6, pd_7, pd_8, pd_9, pd_10, pd_11, pd_12, pd_13, pd_14, pd_15, pd_16, pd_17, pd_19, pd_21, pd_22, pd_30, pd_34, pd_57, ari, ni, hci, zc, if_neg, ahd, x_sumOf, yu, n1, yi, n2, n3]
      · obtain ⟨b', K'', hz, hy'', hK'', hl', hr', hr2, hb'⟩ := hp
        subst hz
        refine ⟨(zB b', y), ?_, b', K'', rfl, hy'', kmono hK'' (by split <;> omega), hl', fun v v1 v2 ev x x1 x2 => ?_, hb'⟩
        · cases e : cB S i
          · rw [if_neg (by rw [e]; decide)] at hci
            simp (disch := omega) only [-Int.reduceToNat, pc_ite, if_true, if_false, pc_bv, pc_lit, pc_neg, pc_add, pc_sub, pc_mul, pc_mr, pc_ar, pc_dv, pc_lt, pc_le, pc_eq, pc_nat, pc_div, pc_emod, pc_ifz, pc_ifo, pc_zb, pd_1, pd_2, pd_3, pd_4, pd_5, pd_6, pd_7, pd_8, pd_9, pd_10, pd_11, pd_12, pd_13, pd_14, pd_15, pd_16, pd_17, pd_19, pd_21, pd_22, pd_30, pd_34, pd_57, ari, ni, hci, Bool.false_eq_true, Int.reduceLE]
          · simp (disch := omega) only [-Int.reduceToNat, pc_ite, if_true, if_false, pc_bv, pc_lit, pc_neg, pc_add, pc_sub, pc_mul, pc_mr, pc_ar, pc_dv, pc_lt, pc_le, pc_eq, pc_nat, pc_div, pc_emod, pc_ifz, pc_ifo, pc_zb, pd_1, pd_2, pd_3, pd_4, pd_5, pd_6, pd_7, pd_8, pd_9, pd_10, pd_11, pd_12, pd_13, pd_14, pd_15, pd_16, pd_17, pd_19, pd_21, pd_22, pd_30, pd_34, pd_57, Int.reduceLE]
        · by_cases zv : v = i
          · subst zv; exact hr2 ev x x1 (by rw [if_pos ev]; exact x2)
          · exact hr' v v1 (by omega) ev x x1 x2
    obtain ⟨⟨r1, r2⟩, e1, b', K'', q1, q2, q3, q4, q5, q6⟩ := inner rfl
    refine ⟨r1, r2, ?_, b', K'', q1, q2, q3, q4, q5, q6⟩
    rw [if_neg hle]
    refine pc_b2t e1 ?_
    rw [pl]
  · obtain ⟨b, K', hz, hy', hK', hl, hr, hb⟩ := hp
    refine ⟨(z, y), ?_, b, K', hz, hy', kmono hK' (by omega), hl, hr, hb⟩
    rw [if_pos (by rw [pc_le (by omega) (by omega) (by omega) (by omega)]; omega)]
  · obtain ⟨b, K', hz, h'⟩ := h
    simp only at hz
    subst hz
    exact ⟨(zB b, y), by rw [pc_zb], b, K', rfl, h'⟩
end
