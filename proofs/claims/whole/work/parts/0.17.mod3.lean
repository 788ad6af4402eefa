def dxB (S : Int → Int) (a b : Int) : Bool := isP S a && an (fun k => decide (lOf S b (aw S (hv S a 0) (hv S a 2) (k + 1)) ≠ -1)) (hv S a 3)
def xs8 (S : Int → Int) (a : Int) : Int32 := mk (fun h => decide (h ≠ a) && dxB S a h) (S 2)
def agA (S : Int → Int) (a v b : Int) : Bool := ag S a v (isR S a) b (hv S b 2) (isR S b)
def rsn (S : Int → Int) (a v : Int) : Int := if chR S a v (-1) = 0 then (if an (fun h => decide (h ≠ a) && isP S h && agA S a v h) (S 2) then 6 else 0) else chR S a v (-1)
def upr (v : Int) : Int := (v + 3) % 4
def qd (a b : Int) : Int := if 4 - (if 0 ≤ a - b then a - b else 0 - (a - b)) < (if 0 ≤ a - b then a - b else 0 - (a - b)) then 4 - (if 0 ≤ a - b then a - b else 0 - (a - b)) else (if 0 ≤ a - b then a - b else 0 - (a - b))
theorem cR_rg (S : Int → Int) (c o : Int) : cR S c o = 2 ∨ cR S c o = 3 ∨ cR S c o = 4 ∨ cR S c o = 5 ∨ cR S c o = 9 := by
  unfold cR
  split
  · exact .inl rfl
  · split
    · split
      · exact .inr (.inr (.inl rfl))
      · split
        · exact .inr (.inr (.inr (.inr rfl)))
        · exact .inr (.inr (.inr (.inl rfl)))
    · exact .inr (.inl rfl)
theorem qd_rg {a b : Int} (h1 : 0 ≤ a) (h2 : a < 4) (h3 : 0 ≤ b) (h4 : b < 4) : 0 ≤ qd a b ∧ qd a b ≤ 2 := by
  unfold qd
  split <;> split <;> omega
section
variable {s : Nat → Int32} {S : Int → Int}
theorem m_chartReason (hs : mS s S) (w : wS S) {h v o : Int} (h1 : 0 ≤ h) (h2 : h < S 2) (h3 : 0 ≤ v) (h4 : v < 4) (h5 : -1 ≤ o) (h6 : o ≤ 8) : f_X9_chartReason s (iI h) (iI v) (iI o) = some (iI (chR S h v o)) := by
  have hC := w.C
  have hN := w.N
  have hH := w.H h1 h2
  have hAx := g_aw w.1 (hv S h 0) ((v + 2) % 4) 1
  unfold f_X9_chartReason chR
  simp (disch := omega) only [-Int.reduceToNat, pc_ite, if_true, if_false, pc_bv, pc_lit, pc_neg, pc_add, pc_sub, pc_mul, pc_mr, pc_ar, pc_dv, pc_lt, pc_le, pc_eq, pc_nat, pc_div, pc_emod, pc_ifz, pc_ifo, pc_zb, pc_bd1, pc_bd2, pc_bd3, pc_bd4, pc_bd5, pc_bd6, pc_bd7, pc_bd8, pc_bd9, pc_bd10, pc_bd11, pc_bd12, pc_bd13, pc_bd14, pc_bd15, pc_bd16, pc_bd17, pc_bd19, pc_bd21, pc_bd22, pc_bd30, pc_bd34, pc_bd57, m_of hs, m_away hs w, m_isLand hs w]
  cases e1 : isL S (aw S (hv S h 0) ((v + 2) % 4) 1)
  · rw [if_neg (by decide), if_neg (by decide)]
    refine pc_b1p (pc_foldo 1 iI (fun k b => if cR S (aw S (hv S h 0) v (k + 1)) o < b then cR S (aw S (hv S h 0) v (k + 1)) o else b) (fun _ b => b = 2 ∨ b = 3 ∨ b = 4 ∨ b = 5 ∨ b = 9) iI (hv S h 3) (by omega) (b0 := 9) rfl rfl (by omega) (fun i b a1 a2 hb => ?_) (fun b _ => ?_)) (fun F2 => ?_)
    · have hAw := g_aw w.1 (hv S h 0) v (i + 1)
      have hc := cR_rg S (aw S (hv S h 0) v (i + 1)) o
      refine ⟨?_, ?_⟩
      · unfold cR
        simp (disch := omega) only [-Int.reduceToNat, pc_ite, if_true, if_false, pc_bv, pc_lit, pc_neg, pc_add, pc_sub, pc_mul, pc_mr, pc_ar, pc_dv, pc_lt, pc_le, pc_eq, pc_nat, pc_div, pc_emod, pc_ifz, pc_ifo, pc_zb, pc_bd1, pc_bd2, pc_bd3, pc_bd4, pc_bd5, pc_bd6, pc_bd7, pc_bd8, pc_bd9, pc_bd10, pc_bd11, pc_bd12, pc_bd13, pc_bd14, pc_bd15, pc_bd16, pc_bd17, pc_bd19, pc_bd21, pc_bd22, pc_bd30, pc_bd34, pc_bd57, m_of hs, if_neg, m_away hs w]
        generalize aw S (hv S h 0) v (i + 1) = c at *
        have hh := fi_rg (fun h => decide (h ≠ o) && decide (hv S h 0 = c)) (S 2)
        rw [show fi _ _ = hA S c o from rfl] at hh
        by_cases q1 : c = -1
        · simp (disch := omega) only [-Int.reduceToNat, pc_ite, if_true, if_false, pc_bv, pc_lit, pc_neg, pc_add, pc_sub, pc_mul, pc_mr, pc_ar, pc_dv, pc_lt, pc_le, pc_eq, pc_nat, pc_div, pc_emod, pc_ifz, pc_ifo, pc_zb, pc_bd1, pc_bd2, pc_bd3, pc_bd4, pc_bd5, pc_bd6, pc_bd7, pc_bd8, pc_bd9, pc_bd10, pc_bd11, pc_bd12, pc_bd13, pc_bd14, pc_bd15, pc_bd16, pc_bd17, pc_bd19, pc_bd21, pc_bd22, pc_bd30, pc_bd34, pc_bd57, if_pos q1]
        · simp (disch := omega) only [-Int.reduceToNat, pc_ite, if_true, if_false, pc_bv, pc_lit, pc_neg, pc_add, pc_sub, pc_mul, pc_mr, pc_ar, pc_dv, pc_lt, pc_le, pc_eq, pc_nat, pc_div, pc_emod, pc_ifz, pc_ifo, pc_zb, pc_bd1, pc_bd2, pc_bd3, pc_bd4, pc_bd5, pc_bd6, pc_bd7, pc_bd8, pc_bd9, pc_bd10, pc_bd11, pc_bd12, pc_bd13, pc_bd14, pc_bd15, pc_bd16, pc_bd17, pc_bd19, pc_bd21, pc_bd22, pc_bd30, pc_bd34, pc_bd57, if_neg q1, m_isLand hs w, m_isRiver hs w, m_harbourAt hs w]
          cases isL S c
          · rfl
          · cases isV S c
            · have hb9 : ¬ 9 < b := by omega
              by_cases q2 : hA S c o = -1
              · simp [q2, hb9]
              · simp [q2]
            · rfl
      · split
        · omega
        · exact hb
    · simp (disch := omega) only [-Int.reduceToNat, pc_ite, if_true, if_false, pc_bv, pc_lit, pc_neg, pc_add, pc_sub, pc_mul, pc_mr, pc_ar, pc_dv, pc_lt, pc_le, pc_eq, pc_nat, pc_div, pc_emod, pc_ifz, pc_ifo, pc_zb, pc_bd1, pc_bd2, pc_bd3, pc_bd4, pc_bd5, pc_bd6, pc_bd7, pc_bd8, pc_bd9, pc_bd10, pc_bd11, pc_bd12, pc_bd13, pc_bd14, pc_bd15, pc_bd16, pc_bd17, pc_bd19, pc_bd21, pc_bd22, pc_bd30, pc_bd34, pc_bd57, m_of hs, if_pos]
    · generalize fol _ _ _ = z at F2 ⊢
      rcases F2 with rfl | rfl | rfl | rfl | rfl <;> rfl
  · rfl
theorem chR_rg (S : Int → Int) (h v o : Int) : 0 ≤ chR S h v o ∧ chR S h v o < 9 := by
  unfold chR
  split
  · omega
  · omega
theorem m_areAgainst (hs : mS s S) (w : wS S) {a v b u : Int} (r q : Bool) (h1 : 0 ≤ a) (h2 : a < S 2) (h3 : 0 ≤ v) (h4 : v < 4) (g1 : 0 ≤ b) (g2 : b < S 2) (g3 : 0 ≤ u) (g4 : u < 4) : f_X9_areAgainst s (iI a) (iI v) (zB r) (iI b) (iI u) (zB q) = some (zB (ag S a v r b u q)) := by
  have hC := w.C
  have hN := w.N
  have hH := w.H h1 h2
  have hG := w.H g1 g2
  unfold f_X9_areAgainst ag
  simp only [pc_bv]
  refine pc_b1t (pc_any (agP S a v r b u q) zB (hv S a 3) (by omega) rfl rfl (fun i a1 a2 => ?_) (fun i a1 a2 => ?_) (fun x => ?_)) (by rw [pc_zb])
  · have hA := g_aw w.1 (hv S a 0) v (i + 1)
    have hl := lIn_rg w (v := u) (c := aw S (hv S a 0) v (i + 1)) g1 g2
    have hT := w.T h1 h2 a1 a2
    simp (disch := omega) only [-Int.reduceToNat, pc_ite, if_true, if_false, pc_bv, pc_lit, pc_neg, pc_add, pc_sub, pc_mul, pc_mr, pc_ar, pc_dv, pc_lt, pc_le, pc_eq, pc_nat, pc_div, pc_emod, pc_ifz, pc_ifo, pc_zb, pc_bd1, pc_bd2, pc_bd3, pc_bd4, pc_bd5, pc_bd6, pc_bd7, pc_bd8, pc_bd9, pc_bd10, pc_bd11, pc_bd12, pc_bd13, pc_bd14, pc_bd15, pc_bd16, pc_bd17, pc_bd19, pc_bd21, pc_bd22, pc_bd30, pc_bd34, pc_bd57, m_of hs, m_away hs w, m_letterIn hs w, if_neg]
  · have hA := g_aw w.1 (hv S a 0) v (i + 1)
    have hl := lIn_rg w (v := u) (c := aw S (hv S a 0) v (i + 1)) g1 g2
    have hT := w.T h1 h2 a1 a2
    simp (disch := omega) only [-Int.reduceToNat, pc_ite, if_true, if_false, pc_bv, pc_lit, pc_neg, pc_add, pc_sub, pc_mul, pc_mr, pc_ar, pc_dv, pc_lt, pc_le, pc_eq, pc_nat, pc_div, pc_emod, pc_ifz, pc_ifo, pc_zb, pc_bd1, pc_bd2, pc_bd3, pc_bd4, pc_bd5, pc_bd6, pc_bd7, pc_bd8, pc_bd9, pc_bd10, pc_bd11, pc_bd12, pc_bd13, pc_bd14, pc_bd15, pc_bd16, pc_bd17, pc_bd19, pc_bd21, pc_bd22, pc_bd30, pc_bd34, pc_bd57, m_of hs, m_away hs w, m_letterIn hs w, if_neg]
    unfold agP
    have hT2 : ¬ hv S a (4 + i) = -1 := by omega
    cases r <;> cases q <;> by_cases z : lIn S b u (aw S (hv S a 0) v (i + 1)) = -1 <;> by_cases y : lIn S b u (aw S (hv S a 0) v (i + 1)) = hv S a (4 + i) <;> simp [z, y, zB, hT2]
  · simp (disch := omega) only [-Int.reduceToNat, pc_ite, if_true, if_false, pc_bv, pc_lit, pc_neg, pc_add, pc_sub, pc_mul, pc_mr, pc_ar, pc_dv, pc_lt, pc_le, pc_eq, pc_nat, pc_div, pc_emod, pc_ifz, pc_ifo, pc_zb, pc_bd1, pc_bd2, pc_bd3, pc_bd4, pc_bd5, pc_bd6, pc_bd7, pc_bd8, pc_bd9, pc_bd10, pc_bd11, pc_bd12, pc_bd13, pc_bd14, pc_bd15, pc_bd16, pc_bd17, pc_bd19, pc_bd21, pc_bd22, pc_bd30, pc_bd34, pc_bd57, m_of hs, if_pos]
theorem m_reason (hs : mS s S) (w : wS S) {a v : Int} (h1 : 0 ≤ a) (h2 : a < S 2) (h3 : 0 ≤ v) (h4 : v < 4) : f_X9_reason s (iI a) (iI v) = some (iI (rsn S a v)) := by
  have hC := w.C
  have hch := chR_rg S a v (-1)
  unfold f_X9_reason
  simp only [pc_bv]
  simp (disch := omega) only [-Int.reduceToNat, pc_ite, if_true, if_false, pc_bv, pc_lit, pc_neg, pc_add, pc_sub, pc_mul, pc_mr, pc_ar, pc_dv, pc_lt, pc_le, pc_eq, pc_nat, pc_div, pc_emod, pc_ifz, pc_ifo, pc_zb, pc_bd1, pc_bd2, pc_bd3, pc_bd4, pc_bd5, pc_bd6, pc_bd7, pc_bd8, pc_bd9, pc_bd10, pc_bd11, pc_bd12, pc_bd13, pc_bd14, pc_bd15, pc_bd16, pc_bd17, pc_bd19, pc_bd21, pc_bd22, pc_bd30, pc_bd34, pc_bd57, m_chartReason hs w]
  by_cases z : chR S a v (-1) = 0
  · have e : rsn S a v = if an (fun h => decide (h ≠ a) && isP S h && agA S a v h) (S 2) then 6 else 0 := by unfold rsn; rw [if_pos z]
    rw [z, e, fi_an]
    have step : ∀ i, 0 ≤ i → i < S 2 → (if i = a then some (Sum.inl (iI 0, iI (i + 1))) else bd1 (f_X9_isPlaced s (iI i)) fun r35 => if r35 = iI 0 then some (Sum.inl (iI 0, iI (i + 1))) else bd1 (f_X9_isRed s (iI a)) fun r46 => bd1 (f_X9_of s (iI i) (iI 2)) fun r55 => bd1 (f_X9_isRed s (iI i)) fun r61 => bd1 (f_X9_areAgainst s (iI a) (iI v) r46 (iI i) r55 r61) fun r64 => if r64 = iI 0 then some (Sum.inl (iI 0, iI (i + 1))) else some (Sum.inl (iI 6, iI (i + 1)))) = (some (Sum.inl (iI (if (decide (i ≠ a) && isP S i && agA S a v i) = true then 6 else 0), iI (i + 1))) : Option ((Int32 × Int32) ⊕ Int32)) := by
      intro i a1 a2
      by_cases y : i = a
      · simp [y]
      · simp (disch := omega) only [-Int.reduceToNat, pc_ite, if_true, if_false, pc_bv, pc_lit, pc_neg, pc_add, pc_sub, pc_mul, pc_mr, pc_ar, pc_dv, pc_lt, pc_le, pc_eq, pc_nat, pc_div, pc_emod, pc_ifz, pc_ifo, pc_zb, pc_bd1, pc_bd2, pc_bd3, pc_bd4, pc_bd5, pc_bd6, pc_bd7, pc_bd8, pc_bd9, pc_bd10, pc_bd11, pc_bd12, pc_bd13, pc_bd14, pc_bd15, pc_bd16, pc_bd17, pc_bd19, pc_bd21, pc_bd22, pc_bd30, pc_bd34, pc_bd57, if_neg y, m_isPlaced hs w]
        cases q : isP S i
        · simp
        · have hp := isP_c w a1 a2 q
          simp (disch := omega) only [-Int.reduceToNat, pc_ite, if_true, if_false, pc_bv, pc_lit, pc_neg, pc_add, pc_sub, pc_mul, pc_mr, pc_ar, pc_dv, pc_lt, pc_le, pc_eq, pc_nat, pc_div, pc_emod, pc_ifz, pc_ifo, pc_zb, pc_bd1, pc_bd2, pc_bd3, pc_bd4, pc_bd5, pc_bd6, pc_bd7, pc_bd8, pc_bd9, pc_bd10, pc_bd11, pc_bd12, pc_bd13, pc_bd14, pc_bd15, pc_bd16, pc_bd17, pc_bd19, pc_bd21, pc_bd22, pc_bd30, pc_bd34, pc_bd57, m_isRed hs w, m_of hs, m_areAgainst hs w]
          unfold agA
          cases ag S a v (isR S a) i (hv S i 2) (isR S i) <;> simp [y]
    rcases fi_c (fun h => decide (h ≠ a) && isP S h && agA S a v h) (S 2) with ⟨i, a1, a2, a3, a4, a5⟩ | ⟨a4, a5⟩
    · rw [a4]
      refine pc_b1t (pc_run2 (fun k : Nat => iI (if (k : Int) ≤ i then 0 else 6)) (fun k : Nat => iI k) (i.toNat + 1) ?_ rfl (fun k hk => ?_) (r := iI 6) ?_) ?_
      · rw [if_pos (by omega)]
      · have hk2 : (k : Int) ≤ i := by omega
        rw [if_pos hk2]
        have st := step k (by omega) (by omega)
        simp (disch := omega) only [-Int.reduceToNat, pc_ite, if_true, if_false, pc_bv, pc_lit, pc_neg, pc_add, pc_sub, pc_mul, pc_mr, pc_ar, pc_dv, pc_lt, pc_le, pc_eq, pc_nat, pc_div, pc_emod, pc_ifz, pc_ifo, pc_zb, pc_bd1, pc_bd2, pc_bd3, pc_bd4, pc_bd5, pc_bd6, pc_bd7, pc_bd8, pc_bd9, pc_bd10, pc_bd11, pc_bd12, pc_bd13, pc_bd14, pc_bd15, pc_bd16, pc_bd17, pc_bd19, pc_bd21, pc_bd22, pc_bd30, pc_bd34, pc_bd57, hs.g, if_neg]
        rw [show ((k + 1 : Nat) : Int) = (k : Int) + 1 by omega]
        refine st.trans ?_
        by_cases y : (k : Int) = i
        · have y2 : ¬ (k : Int) + 1 ≤ i := by omega
          rw [y] at y2 ⊢
          rw [a3, if_pos rfl, if_neg y2]
        · have y2 : (k : Int) + 1 ≤ i := by omega
          rw [a5 k (by omega) (by omega)]; simp [y2]
      · have hn : ¬ (((i.toNat + 1 : Nat) : Int) ≤ i) := by omega
        simp only [hn, if_false]
        simp (disch := omega) only [-Int.reduceToNat, pc_ite, if_true, if_false, pc_bv, pc_lit, pc_neg, pc_add, pc_sub, pc_mul, pc_mr, pc_ar, pc_dv, pc_lt, pc_le, pc_eq, pc_nat, pc_div, pc_emod, pc_ifz, pc_ifo, pc_zb, pc_bd1, pc_bd2, pc_bd3, pc_bd4, pc_bd5, pc_bd6, pc_bd7, pc_bd8, pc_bd9, pc_bd10, pc_bd11, pc_bd12, pc_bd13, pc_bd14, pc_bd15, pc_bd16, pc_bd17, pc_bd19, pc_bd21, pc_bd22, pc_bd30, pc_bd34, pc_bd57, hs.g]
        by_cases y : S 2 ≤ ((i.toNat + 1 : Nat) : Int)
        · rw [if_pos y]
        · rw [if_neg y]; rfl
      · rw [if_pos (by have : i ≠ -1 := by omega
                       simpa using this)]
    · rw [a4]
      refine pc_b1t (pc_run2 (fun k : Nat => iI 0) (fun k : Nat => iI k) (S 2).toNat rfl rfl (fun k hk => ?_) (r := iI 0) ?_) ?_
      · have st := step k (by omega) (by omega)
        simp (disch := omega) only [-Int.reduceToNat, pc_ite, if_true, if_false, pc_bv, pc_lit, pc_neg, pc_add, pc_sub, pc_mul, pc_mr, pc_ar, pc_dv, pc_lt, pc_le, pc_eq, pc_nat, pc_div, pc_emod, pc_ifz, pc_ifo, pc_zb, pc_bd1, pc_bd2, pc_bd3, pc_bd4, pc_bd5, pc_bd6, pc_bd7, pc_bd8, pc_bd9, pc_bd10, pc_bd11, pc_bd12, pc_bd13, pc_bd14, pc_bd15, pc_bd16, pc_bd17, pc_bd19, pc_bd21, pc_bd22, pc_bd30, pc_bd34, pc_bd57, hs.g, if_neg]
        rw [show ((k + 1 : Nat) : Int) = (k : Int) + 1 by omega]
        refine st.trans ?_
        rw [a5 k (by omega) (by omega)]; rfl
      · simp (disch := omega) only [-Int.reduceToNat, pc_ite, if_true, if_false, pc_bv, pc_lit, pc_neg, pc_add, pc_sub, pc_mul, pc_mr, pc_ar, pc_dv, pc_lt, pc_le, pc_eq, pc_nat, pc_div, pc_emod, pc_ifz, pc_ifo, pc_zb, pc_bd1, pc_bd2, pc_bd3, pc_bd4, pc_bd5, pc_bd6, pc_bd7, pc_bd8, pc_bd9, pc_bd10, pc_bd11, pc_bd12, pc_bd13, pc_bd14, pc_bd15, pc_bd16, pc_bd17, pc_bd19, pc_bd21, pc_bd22, pc_bd30, pc_bd34, pc_bd57, hs.g, if_pos]
      · rfl
  · have e : rsn S a v = chR S a v (-1) := by unfold rsn; rw [if_neg z]
    rw [e]
    refine pc_b1t (pc_run2 (fun _ => iI (chR S a v (-1))) (fun _ => iI 0) 0 rfl rfl (fun i h => by omega) (r := iI (chR S a v (-1))) ?_) rfl
    simp (disch := omega) only [-Int.reduceToNat, pc_ite, if_true, if_false, pc_bv, pc_lit, pc_neg, pc_add, pc_sub, pc_mul, pc_mr, pc_ar, pc_dv, pc_lt, pc_le, pc_eq, pc_nat, pc_div, pc_emod, pc_ifz, pc_ifo, pc_zb, pc_bd1, pc_bd2, pc_bd3, pc_bd4, pc_bd5, pc_bd6, pc_bd7, pc_bd8, pc_bd9, pc_bd10, pc_bd11, pc_bd12, pc_bd13, pc_bd14, pc_bd15, pc_bd16, pc_bd17, pc_bd19, pc_bd21, pc_bd22, pc_bd30, pc_bd34, pc_bd57, hs.g, if_neg]
theorem m_doCross (hs : mS s S) (w : wS S) {a b : Int} (h1 : 0 ≤ a) (h2 : a < S 2) (g1 : 0 ≤ b) (g2 : b < S 2) : f_X9_doCross s (iI a) (iI b) = some (zB (dxB S a b)) := by
  have hC := w.C
  have hN := w.N
  have hH := w.H h1 h2
  unfold f_X9_doCross dxB
  simp only [pc_bv]
  cases e : isP S a
  · refine pc_b1t (pc_run2 (fun _ => iI 0) (fun _ => iI 0) 0 rfl rfl (fun i h => by omega) (r := iI 0) ?_) rfl
    simp (disch := omega) only [-Int.reduceToNat, pc_ite, if_true, if_false, pc_bv, pc_lit, pc_neg, pc_add, pc_sub, pc_mul, pc_mr, pc_ar, pc_dv, pc_lt, pc_le, pc_eq, pc_nat, pc_div, pc_emod, pc_ifz, pc_ifo, pc_zb, pc_bd1, pc_bd2, pc_bd3, pc_bd4, pc_bd5, pc_bd6, pc_bd7, pc_bd8, pc_bd9, pc_bd10, pc_bd11, pc_bd12, pc_bd13, pc_bd14, pc_bd15, pc_bd16, pc_bd17, pc_bd19, pc_bd21, pc_bd22, pc_bd30, pc_bd34, pc_bd57, m_of hs, m_isPlaced hs w, e, if_neg]
    rfl
  · have hp := isP_c w h1 h2 e
    refine pc_b1t (pc_any (fun k => decide (lOf S b (aw S (hv S a 0) (hv S a 2) (k + 1)) ≠ -1)) zB (hv S a 3) (by omega) rfl rfl (fun i a1 a2 => ?_) (fun i a1 a2 => ?_) (fun x => ?_)) (by rw [pc_zb]; rfl)
    · simp (disch := omega) only [-Int.reduceToNat, pc_ite, if_true, if_false, pc_bv, pc_lit, pc_neg, pc_add, pc_sub, pc_mul, pc_mr, pc_ar, pc_dv, pc_lt, pc_le, pc_eq, pc_nat, pc_div, pc_emod, pc_ifz, pc_ifo, pc_zb, pc_bd1, pc_bd2, pc_bd3, pc_bd4, pc_bd5, pc_bd6, pc_bd7, pc_bd8, pc_bd9, pc_bd10, pc_bd11, pc_bd12, pc_bd13, pc_bd14, pc_bd15, pc_bd16, pc_bd17, pc_bd19, pc_bd21, pc_bd22, pc_bd30, pc_bd34, pc_bd57, m_of hs, m_isPlaced hs w, e, if_neg]
    · have hA := g_aw w.1 (hv S a 0) (hv S a 2) (i + 1)
      have hl := lOf_rg w (c := aw S (hv S a 0) (hv S a 2) (i + 1)) g1 g2
      simp (disch := omega) only [-Int.reduceToNat, pc_ite, if_true, if_false, pc_bv, pc_lit, pc_neg, pc_add, pc_sub, pc_mul, pc_mr, pc_ar, pc_dv, pc_lt, pc_le, pc_eq, pc_nat, pc_div, pc_emod, pc_ifz, pc_ifo, pc_zb, pc_bd1, pc_bd2, pc_bd3, pc_bd4, pc_bd5, pc_bd6, pc_bd7, pc_bd8, pc_bd9, pc_bd10, pc_bd11, pc_bd12, pc_bd13, pc_bd14, pc_bd15, pc_bd16, pc_bd17, pc_bd19, pc_bd21, pc_bd22, pc_bd30, pc_bd34, pc_bd57, m_of hs, m_isPlaced hs w, e, if_neg, m_away hs w, m_letterOf hs w]
      by_cases z : lOf S b (aw S (hv S a 0) (hv S a 2) (i + 1)) = -1 <;> simp [z, zB]
    · simp (disch := omega) only [-Int.reduceToNat, pc_ite, if_true, if_false, pc_bv, pc_lit, pc_neg, pc_add, pc_sub, pc_mul, pc_mr, pc_ar, pc_dv, pc_lt, pc_le, pc_eq, pc_nat, pc_div, pc_emod, pc_ifz, pc_ifo, pc_zb, pc_bd1, pc_bd2, pc_bd3, pc_bd4, pc_bd5, pc_bd6, pc_bd7, pc_bd8, pc_bd9, pc_bd10, pc_bd11, pc_bd12, pc_bd13, pc_bd14, pc_bd15, pc_bd16, pc_bd17, pc_bd19, pc_bd21, pc_bd22, pc_bd30, pc_bd34, pc_bd57, m_of hs, if_pos]
theorem m_crossedBy (hs : mS s S) (w : wS S) {a : Int} (h1 : 0 ≤ a) (h2 : a < S 2) : f_X9_crossedBy s (iI a) = some (xs8 S a) := by
  have hC := w.C
  unfold f_X9_crossedBy
  simp only [pc_bv]
  refine pc_b1t (pc_fold id (fun h b => if (decide (h ≠ a) && dxB S a h) = true then b ||| sB h else b) (fun _ _ => True) id (S 2) (by omega) (b0 := iI 0) rfl rfl trivial (fun i b a1 a2 _ => ⟨?_, trivial⟩) (fun b _ => ?_)).1 rfl
  · simp (disch := omega) only [-Int.reduceToNat, pc_ite, if_true, if_false, pc_bv, pc_lit, pc_neg, pc_add, pc_sub, pc_mul, pc_mr, pc_ar, pc_dv, pc_lt, pc_le, pc_eq, pc_nat, pc_div, pc_emod, pc_ifz, pc_ifo, pc_zb, pc_bd1, pc_bd2, pc_bd3, pc_bd4, pc_bd5, pc_bd6, pc_bd7, pc_bd8, pc_bd9, pc_bd10, pc_bd11, pc_bd12, pc_bd13, pc_bd14, pc_bd15, pc_bd16, pc_bd17, pc_bd19, pc_bd21, pc_bd22, pc_bd30, pc_bd34, pc_bd57, hs.g, m_doCross hs w, if_neg, pc_sB, pc_or0, id]
    by_cases z : i = a <;> cases dxB S a i <;> simp [z]
  · simp (disch := omega) only [-Int.reduceToNat, pc_ite, if_true, if_false, pc_bv, pc_lit, pc_neg, pc_add, pc_sub, pc_mul, pc_mr, pc_ar, pc_dv, pc_lt, pc_le, pc_eq, pc_nat, pc_div, pc_emod, pc_ifz, pc_ifo, pc_zb, pc_bd1, pc_bd2, pc_bd3, pc_bd4, pc_bd5, pc_bd6, pc_bd7, pc_bd8, pc_bd9, pc_bd10, pc_bd11, pc_bd12, pc_bd13, pc_bd14, pc_bd15, pc_bd16, pc_bd17, pc_bd19, pc_bd21, pc_bd22, pc_bd30, pc_bd34, pc_bd57, hs.g, if_pos]
theorem m_quarters {a b : Int} (h1 : 0 ≤ a) (h2 : a < 4) (h3 : 0 ≤ b) (h4 : b < 4) : f_X9_quarters (iI a) (iI b) = some (iI (qd a b)) := by
  unfold f_X9_quarters qd
  simp (disch := omega) only [-Int.reduceToNat, pc_ite, if_true, if_false, pc_bv, pc_lit, pc_neg, pc_add, pc_sub, pc_mul, pc_mr, pc_ar, pc_dv, pc_lt, pc_le, pc_eq, pc_nat, pc_div, pc_emod, pc_ifz, pc_ifo, pc_zb, pc_bd1, pc_bd2, pc_bd3, pc_bd4, pc_bd5, pc_bd6, pc_bd7, pc_bd8, pc_bd9, pc_bd10, pc_bd11, pc_bd12, pc_bd13, pc_bd14, pc_bd15, pc_bd16, pc_bd17, pc_bd19, pc_bd21, pc_bd22, pc_bd30, pc_bd34, pc_bd57]
theorem m_uprightBy {a : Int} (h1 : 0 ≤ a) (h2 : a < 4) : f_X9_uprightBy (iI a) = some (iI (upr a)) := by
  unfold f_X9_uprightBy upr
  simp (disch := omega) only [-Int.reduceToNat, pc_ite, if_true, if_false, pc_bv, pc_lit, pc_neg, pc_add, pc_sub, pc_mul, pc_mr, pc_ar, pc_dv, pc_lt, pc_le, pc_eq, pc_nat, pc_div, pc_emod, pc_ifz, pc_ifo, pc_zb, pc_bd1, pc_bd2, pc_bd3, pc_bd4, pc_bd5, pc_bd6, pc_bd7, pc_bd8, pc_bd9, pc_bd10, pc_bd11, pc_bd12, pc_bd13, pc_bd14, pc_bd15, pc_bd16, pc_bd17, pc_bd19, pc_bd21, pc_bd22, pc_bd30, pc_bd34, pc_bd57]
theorem x_quarters {a b : Int} (h1 : 0 ≤ a) (h2 : a < 4) (h3 : 0 ≤ b) (h4 : b < 4) : f_X8_quartersBetween (iI a) (iI b) = some (iI (qd a b)) := m_quarters h1 h2 h3 h4
theorem x_upright {a : Int} (h1 : 0 ≤ a) (h2 : a < 4) : f_X8_uprightTurn (iI a) = some (iI (upr a)) := m_uprightBy h1 h2
end
