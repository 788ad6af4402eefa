theorem pc_foldo {α β ρ : Type} {f : α → Int32 → Option ((α × Int32) ⊕ ρ)} (o : Int) (e : β → α) (st : Int → β → β) (P : Int → β → Prop) (out : β → ρ) (n : Int) (hn : 0 ≤ n) {b0 : β} {a : α} {c : Int32} (ha : a = e b0) (hc : c = iI o) (h0 : P 0 b0)
    (hs : ∀ i b, 0 ≤ i → i < n → P i b → f (e b) (iI (i + o)) = some (.inl (e (st i b), iI (i + 1 + o))) ∧ P (i + 1) (st i b)) (he : ∀ b, P n b → f (e b) (iI (n + o)) = some (.inr (out b))) :
    lq2 f a c = some (out (fol st b0 n.toNat)) ∧ P n (fol st b0 n.toNat) := by
  subst ha hc
  have H : ∀ k : Nat, (k : Int) ≤ n → P k (fol st b0 k) := by
    intro k
    induction k with
    | zero => intro _; exact h0
    | succ k ih => intro h; exact (hs k _ (by omega) (by omega) (ih (by omega))).2
  have hP : P n (fol st b0 n.toNat) := by have := H n.toNat (by omega); rw [show ((n.toNat : Nat) : Int) = n by omega] at this; exact this
  refine ⟨pc_run2 (fun k : Nat => e (fol st b0 k)) (fun k : Nat => iI (k + o)) n.toNat rfl (by rw [pc_c0, Int.zero_add]) (fun k hk => ?_) ?_, hP⟩
  · exact (hs k _ (by omega) (by omega) (H k (by omega))).1
  · show f (e (fol st b0 n.toNat)) (iI (((n.toNat : Nat) : Int) + o)) = _
    rw [show ((n.toNat : Nat) : Int) = n by omega]; exact he _ hP
theorem wS.D {S : Int → Int} (w : wS S) : 3 ≤ S 0 ∧ S 0 ≤ 12 ∧ 3 ≤ S 1 ∧ S 1 ≤ 12 := w.1
theorem wS.C {S : Int → Int} (w : wS S) : 0 ≤ S 2 ∧ S 2 ≤ 8 ∧ 0 ≤ S 3 ∧ S 3 ≤ 8 ∧ 0 ≤ S 4 ∧ S 4 ≤ 16 ∧ 0 ≤ S 5 ∧ S 5 ≤ 3 ∧ 0 ≤ S 6 ∧ (S 6 < S 4 ∨ S 6 = 0) ∧ -2147483648 ≤ S 7 ∧ S 7 < 2147483648 := w.2.1
theorem wS.L {S : Int → Int} (w : wS S) {c : Int} (h1 : 0 ≤ c) (h2 : c < 144) : 0 ≤ S (8 + c) ∧ S (8 + c) ≤ 1 ∧ (S 0 * S 1 ≤ c → S (8 + c) = 0) := w.2.2.1 c h1 h2
theorem wS.R {S : Int → Int} (w : wS S) {c : Int} (h1 : 0 ≤ c) (h2 : c < 144) : 0 ≤ S (152 + c) ∧ S (152 + c) ≤ S 3 ∧ (S 0 * S 1 ≤ c → S (152 + c) = 0) ∧ 0 ≤ S (296 + c) ∧ S (296 + c) < 144 := w.2.2.2.1 c h1 h2
theorem wS.H {S : Int → Int} (w : wS S) {h : Int} (h1 : 0 ≤ h) (h2 : h < S 2) : 0 ≤ hv S h 0 ∧ hv S h 0 < S 0 * S 1 ∧ isL S (hv S h 0) = true ∧ 0 ≤ hv S h 1 ∧ hv S h 1 ≤ 1 ∧ -1 ≤ hv S h 2 ∧ hv S h 2 ≤ 3 ∧ 1 ≤ hv S h 3 ∧ hv S h 3 ≤ 8 := w.2.2.2.2.1 h h1 h2
theorem wS.T {S : Int → Int} (w : wS S) {h k : Int} (h1 : 0 ≤ h) (h2 : h < S 2) (h3 : 0 ≤ k) (h4 : k < hv S h 3) : 97 ≤ hv S h (4 + k) ∧ hv S h (4 + k) ≤ 122 := w.2.2.2.2.2.1 h k h1 h2 h3 h4
theorem wS.V {S : Int → Int} (w : wS S) {k : Int} (h1 : 0 ≤ k) (h2 : k < S 4) : 0 ≤ S (536 + k) ∧ S (536 + k) < S 2 := w.2.2.2.2.2.2.1 k h1 h2
theorem wS.P {S : Int → Int} (w : wS S) : gP S := w.2.2.2.2.2.2.2.1
theorem wS.X {S : Int → Int} (w : wS S) : gX S := w.2.2.2.2.2.2.2.2.1
theorem wS.U {S : Int → Int} (w : wS S) : gU S := w.2.2.2.2.2.2.2.2.2
theorem wS.N {S : Int → Int} (w : wS S) : 9 ≤ S 0 * S 1 ∧ S 0 * S 1 ≤ 144 := gN w.1
theorem isP_c {S : Int → Int} (w : wS S) {h : Int} (h1 : 0 ≤ h) (h2 : h < S 2) (hp : isP S h = true) : 0 ≤ hv S h 2 ∧ hv S h 2 ≤ 3 := by
  have := w.H h1 h2
  unfold isP at hp
  rw [decide_eq_true_iff] at hp
  omega
theorem lIn_rg {S : Int → Int} (w : wS S) {h v c : Int} (h1 : 0 ≤ h) (h2 : h < S 2) : lIn S h v c = -1 ∨ (97 ≤ lIn S h v c ∧ lIn S h v c ≤ 122) := by
  unfold lIn
  by_cases z : c = -1
  · rw [if_pos z]; exact .inl rfl
  · rw [if_neg z]
    unfold lIx
    rcases fi_rg (fun k => decide (aw S (hv S h 0) v (k + 1) = c)) (hv S h 3) with e | ⟨e1, e2, e3⟩
    · rw [if_pos e]; exact .inl rfl
    · rw [if_neg (by omega)]; exact .inr (w.T h1 h2 e1 e2)
theorem lOf_rg {S : Int → Int} (w : wS S) {h c : Int} (h1 : 0 ≤ h) (h2 : h < S 2) : lOf S h c = -1 ∨ (97 ≤ lOf S h c ∧ lOf S h c ≤ 122) := by
  unfold lOf
  by_cases z : isP S h = true
  · rw [if_pos z]; exact lIn_rg w h1 h2
  · rw [if_neg z]; exact .inl rfl
theorem m_cnt {s : Nat → Int32} {S : Int → Int} (hs : mS s S) : s (iI 2).toNatClampNeg = iI (S 2) := by rw [pc_nat (by omega) (by omega)]; exact hs 2 (by omega) (by omega)
section
variable {s : Nat → Int32} {S : Int → Int}
theorem m_isPlaced (hs : mS s S) (w : wS S) {h : Int} (h1 : 0 ≤ h) (h2 : h < S 2) : f_X9_isPlaced s (iI h) = some (zB (isP S h)) := by
  have hC := w.C
  have hH := w.H h1 h2
  unfold f_X9_isPlaced isP
  simp (disch := omega) only [-Int.reduceToNat, pc_ite, if_true, if_false, pc_bv, pc_lit, pc_neg, pc_add, pc_sub, pc_mul, pc_mr, pc_ar, pc_dv, pc_lt, pc_le, pc_eq, pc_nat, pc_div, pc_emod, pc_ifz, pc_ifo, pc_zb, pc_bd1, pc_bd2, pc_bd3, pc_bd4, pc_bd5, pc_bd6, pc_bd7, pc_bd8, pc_bd9, pc_bd10, pc_bd11, pc_bd12, pc_bd13, pc_bd14, pc_bd15, pc_bd16, pc_bd17, pc_bd19, pc_bd21, pc_bd22, pc_bd30, pc_bd34, pc_bd57, m_of hs]
  by_cases z : hv S h 2 = -1
  · simp [z, zB]
  · simp [z, zB]
theorem m_isRed (hs : mS s S) (w : wS S) {h : Int} (h1 : 0 ≤ h) (h2 : h < S 2) : f_X9_isRed s (iI h) = some (zB (isR S h)) := by
  have hC := w.C
  have hH := w.H h1 h2
  unfold f_X9_isRed isR
  simp (disch := omega) only [-Int.reduceToNat, pc_ite, if_true, if_false, pc_bv, pc_lit, pc_neg, pc_add, pc_sub, pc_mul, pc_mr, pc_ar, pc_dv, pc_lt, pc_le, pc_eq, pc_nat, pc_div, pc_emod, pc_ifz, pc_ifo, pc_zb, pc_bd1, pc_bd2, pc_bd3, pc_bd4, pc_bd5, pc_bd6, pc_bd7, pc_bd8, pc_bd9, pc_bd10, pc_bd11, pc_bd12, pc_bd13, pc_bd14, pc_bd15, pc_bd16, pc_bd17, pc_bd19, pc_bd21, pc_bd22, pc_bd30, pc_bd34, pc_bd57, m_of hs]
  by_cases z : hv S h 1 = 1
  · simp [z, zB]
  · simp [z, zB]
theorem m_harbourAt (hs : mS s S) (w : wS S) {c o : Int} (h1 : -1 ≤ c) (h2 : c < 144) (h3 : -1 ≤ o) (h4 : o ≤ 8) : f_X9_harbourAt s (iI c) (iI o) = some (iI (hA S c o)) := by
  have hC := w.C
  have hN := w.N
  unfold f_X9_harbourAt
  simp only [pc_bv]
  refine (pc_srch (fun h => decide (h ≠ o) && decide (hv S h 0 = c)) (fun i => iI i) (iI (-1)) (S 2) (by omega) rfl (fun i a1 a2 a3 => ?_) (fun i a1 a2 a3 => ?_) ?_).trans ?_
  · have hH := w.H a1 a2
    simp only [Bool.and_eq_true, decide_eq_true_iff] at a3
    simp (disch := omega) only [-Int.reduceToNat, pc_ite, if_true, if_false, pc_bv, pc_lit, pc_neg, pc_add, pc_sub, pc_mul, pc_mr, pc_ar, pc_dv, pc_lt, pc_le, pc_eq, pc_nat, pc_div, pc_emod, pc_ifz, pc_ifo, pc_zb, pc_bd1, pc_bd2, pc_bd3, pc_bd4, pc_bd5, pc_bd6, pc_bd7, pc_bd8, pc_bd9, pc_bd10, pc_bd11, pc_bd12, pc_bd13, pc_bd14, pc_bd15, pc_bd16, pc_bd17, pc_bd19, pc_bd21, pc_bd22, pc_bd30, pc_bd34, pc_bd57, m_of hs, hs.g, if_neg a3.1, if_pos a3.2, if_neg]
  · have hH := w.H a1 a2
    simp only [Bool.and_eq_false_iff, decide_eq_false_iff_not, Decidable.not_not] at a3
    simp (disch := omega) only [-Int.reduceToNat, pc_ite, if_true, if_false, pc_bv, pc_lit, pc_neg, pc_add, pc_sub, pc_mul, pc_mr, pc_ar, pc_dv, pc_lt, pc_le, pc_eq, pc_nat, pc_div, pc_emod, pc_ifz, pc_ifo, pc_zb, pc_bd1, pc_bd2, pc_bd3, pc_bd4, pc_bd5, pc_bd6, pc_bd7, pc_bd8, pc_bd9, pc_bd10, pc_bd11, pc_bd12, pc_bd13, pc_bd14, pc_bd15, pc_bd16, pc_bd17, pc_bd19, pc_bd21, pc_bd22, pc_bd30, pc_bd34, pc_bd57, m_of hs, hs.g, if_neg]
    by_cases z : i = o
    · rw [if_pos z]
    · rw [if_neg z]
  · simp (disch := omega) only [-Int.reduceToNat, pc_ite, if_true, if_false, pc_bv, pc_lit, pc_neg, pc_add, pc_sub, pc_mul, pc_mr, pc_ar, pc_dv, pc_lt, pc_le, pc_eq, pc_nat, pc_div, pc_emod, pc_ifz, pc_ifo, pc_zb, pc_bd1, pc_bd2, pc_bd3, pc_bd4, pc_bd5, pc_bd6, pc_bd7, pc_bd8, pc_bd9, pc_bd10, pc_bd11, pc_bd12, pc_bd13, pc_bd14, pc_bd15, pc_bd16, pc_bd17, pc_bd19, pc_bd21, pc_bd22, pc_bd30, pc_bd34, pc_bd57, m_of hs, hs.g, if_pos]
  · rw [show fi _ _ = hA S c o from rfl]
    by_cases z : hA S c o = -1
    · rw [if_pos z, z]
    · rw [if_neg z]
theorem m_letterIn (hs : mS s S) (w : wS S) {h v c : Int} (h1 : 0 ≤ h) (h2 : h < S 2) (h3 : 0 ≤ v) (h4 : v < 4) (h5 : -1 ≤ c) (h6 : c < 144) : f_X9_letterIn s (iI h) (iI v) (iI c) = some (iI (lIn S h v c)) := by
  have hC := w.C
  have hN := w.N
  have hH := w.H h1 h2
  unfold f_X9_letterIn
  simp only [pc_bv]
  by_cases z : c = -1
  · refine (pc_srch (fun _ => true) (fun _ => iI (-1)) (iI (-1)) (hv S h 3) (by omega) rfl (fun i a1 a2 a3 => ?_) (fun i a1 a2 a3 => by cases a3) ?_).trans ?_
    · simp (disch := omega) only [-Int.reduceToNat, pc_ite, if_true, if_false, pc_bv, pc_lit, pc_neg, pc_add, pc_sub, pc_mul, pc_mr, pc_ar, pc_dv, pc_lt, pc_le, pc_eq, pc_nat, pc_div, pc_emod, pc_ifz, pc_ifo, pc_zb, pc_bd1, pc_bd2, pc_bd3, pc_bd4, pc_bd5, pc_bd6, pc_bd7, pc_bd8, pc_bd9, pc_bd10, pc_bd11, pc_bd12, pc_bd13, pc_bd14, pc_bd15, pc_bd16, pc_bd17, pc_bd19, pc_bd21, pc_bd22, pc_bd30, pc_bd34, pc_bd57, m_of hs, if_neg, if_pos z]
    · simp (disch := omega) only [-Int.reduceToNat, pc_ite, if_true, if_false, pc_bv, pc_lit, pc_neg, pc_add, pc_sub, pc_mul, pc_mr, pc_ar, pc_dv, pc_lt, pc_le, pc_eq, pc_nat, pc_div, pc_emod, pc_ifz, pc_ifo, pc_zb, pc_bd1, pc_bd2, pc_bd3, pc_bd4, pc_bd5, pc_bd6, pc_bd7, pc_bd8, pc_bd9, pc_bd10, pc_bd11, pc_bd12, pc_bd13, pc_bd14, pc_bd15, pc_bd16, pc_bd17, pc_bd19, pc_bd21, pc_bd22, pc_bd30, pc_bd34, pc_bd57, m_of hs, if_pos]
    · unfold lIn
      rw [if_pos z, ite_self]
  · refine (pc_srch (fun k => decide (aw S (hv S h 0) v (k + 1) = c)) (fun k => iI (hv S h (4 + k))) (iI (-1)) (hv S h 3) (by omega) rfl (fun i a1 a2 a3 => ?_) (fun i a1 a2 a3 => ?_) ?_).trans ?_
    · have hA := g_aw w.1 (hv S h 0) v (i + 1)
      rw [decide_eq_true_iff] at a3
      simp (disch := omega) only [-Int.reduceToNat, pc_ite, if_true, if_false, pc_bv, pc_lit, pc_neg, pc_add, pc_sub, pc_mul, pc_mr, pc_ar, pc_dv, pc_lt, pc_le, pc_eq, pc_nat, pc_div, pc_emod, pc_ifz, pc_ifo, pc_zb, pc_bd1, pc_bd2, pc_bd3, pc_bd4, pc_bd5, pc_bd6, pc_bd7, pc_bd8, pc_bd9, pc_bd10, pc_bd11, pc_bd12, pc_bd13, pc_bd14, pc_bd15, pc_bd16, pc_bd17, pc_bd19, pc_bd21, pc_bd22, pc_bd30, pc_bd34, pc_bd57, m_of hs, m_away hs w, if_neg, if_neg z, if_pos a3]
    · have hA := g_aw w.1 (hv S h 0) v (i + 1)
      rw [decide_eq_false_iff_not] at a3
      simp (disch := omega) only [-Int.reduceToNat, pc_ite, if_true, if_false, pc_bv, pc_lit, pc_neg, pc_add, pc_sub, pc_mul, pc_mr, pc_ar, pc_dv, pc_lt, pc_le, pc_eq, pc_nat, pc_div, pc_emod, pc_ifz, pc_ifo, pc_zb, pc_bd1, pc_bd2, pc_bd3, pc_bd4, pc_bd5, pc_bd6, pc_bd7, pc_bd8, pc_bd9, pc_bd10, pc_bd11, pc_bd12, pc_bd13, pc_bd14, pc_bd15, pc_bd16, pc_bd17, pc_bd19, pc_bd21, pc_bd22, pc_bd30, pc_bd34, pc_bd57, m_of hs, m_away hs w, if_neg, if_neg z, if_neg a3]
    · simp (disch := omega) only [-Int.reduceToNat, pc_ite, if_true, if_false, pc_bv, pc_lit, pc_neg, pc_add, pc_sub, pc_mul, pc_mr, pc_ar, pc_dv, pc_lt, pc_le, pc_eq, pc_nat, pc_div, pc_emod, pc_ifz, pc_ifo, pc_zb, pc_bd1, pc_bd2, pc_bd3, pc_bd4, pc_bd5, pc_bd6, pc_bd7, pc_bd8, pc_bd9, pc_bd10, pc_bd11, pc_bd12, pc_bd13, pc_bd14, pc_bd15, pc_bd16, pc_bd17, pc_bd19, pc_bd21, pc_bd22, pc_bd30, pc_bd34, pc_bd57, m_of hs, if_pos]
    · unfold lIn
      rw [if_neg z, show fi _ _ = lIx S h v c from rfl]
      by_cases y : lIx S h v c = -1
      · rw [if_pos y, if_pos y]
      · rw [if_neg y, if_neg y]
theorem m_letterOf (hs : mS s S) (w : wS S) {h c : Int} (h1 : 0 ≤ h) (h2 : h < S 2) (h5 : -1 ≤ c) (h6 : c < 144) : f_X9_letterOf s (iI h) (iI c) = some (iI (lOf S h c)) := by
  have hC := w.C
  have hH := w.H h1 h2
  unfold f_X9_letterOf lOf
  simp (disch := omega) only [-Int.reduceToNat, pc_ite, if_true, if_false, pc_bv, pc_lit, pc_neg, pc_add, pc_sub, pc_mul, pc_mr, pc_ar, pc_dv, pc_lt, pc_le, pc_eq, pc_nat, pc_div, pc_emod, pc_ifz, pc_ifo, pc_zb, pc_bd1, pc_bd2, pc_bd3, pc_bd4, pc_bd5, pc_bd6, pc_bd7, pc_bd8, pc_bd9, pc_bd10, pc_bd11, pc_bd12, pc_bd13, pc_bd14, pc_bd15, pc_bd16, pc_bd17, pc_bd19, pc_bd21, pc_bd22, pc_bd30, pc_bd34, pc_bd57, m_isPlaced hs w]
  by_cases z : isP S h = true
  · have hp := isP_c w h1 h2 z
    simp (disch := omega) only [-Int.reduceToNat, pc_ite, if_true, if_false, pc_bv, pc_lit, pc_neg, pc_add, pc_sub, pc_mul, pc_mr, pc_ar, pc_dv, pc_lt, pc_le, pc_eq, pc_nat, pc_div, pc_emod, pc_ifz, pc_ifo, pc_zb, pc_bd1, pc_bd2, pc_bd3, pc_bd4, pc_bd5, pc_bd6, pc_bd7, pc_bd8, pc_bd9, pc_bd10, pc_bd11, pc_bd12, pc_bd13, pc_bd14, pc_bd15, pc_bd16, pc_bd17, pc_bd19, pc_bd21, pc_bd22, pc_bd30, pc_bd34, pc_bd57, m_of hs, m_letterIn hs w, if_pos z]
  · rw [if_neg z, if_neg z]
theorem m_namesIn (hs : mS s S) (w : wS S) {c : Int} (h5 : -1 ≤ c) (h6 : c < 144) : f_X9_namesIn s (iI c) = some (nm S c) := by
  have hC := w.C
  unfold f_X9_namesIn
  simp only [pc_bv]
  refine pc_b1t (pc_fold id (fun h b => if decide (lOf S h c ≠ -1) = true then b ||| sB h else b) (fun _ _ => True) id (S 2) (by omega) (b0 := iI 0) rfl rfl trivial (fun i b a1 a2 _ => ⟨?_, trivial⟩) (fun b _ => ?_)).1 rfl
  · have hl := lOf_rg w (c := c) a1 a2
    simp (disch := omega) only [-Int.reduceToNat, pc_ite, if_true, if_false, pc_bv, pc_lit, pc_neg, pc_add, pc_sub, pc_mul, pc_mr, pc_ar, pc_dv, pc_lt, pc_le, pc_eq, pc_nat, pc_div, pc_emod, pc_ifz, pc_ifo, pc_zb, pc_bd1, pc_bd2, pc_bd3, pc_bd4, pc_bd5, pc_bd6, pc_bd7, pc_bd8, pc_bd9, pc_bd10, pc_bd11, pc_bd12, pc_bd13, pc_bd14, pc_bd15, pc_bd16, pc_bd17, pc_bd19, pc_bd21, pc_bd22, pc_bd30, pc_bd34, pc_bd57, hs.g, m_letterOf hs w, if_neg, pc_sB, pc_or0, id]
    by_cases z : lOf S i c = -1
    · rw [if_pos z, if_neg (by simp [z])]
    · rw [if_neg z, if_pos (by simp [z])]
  · simp (disch := omega) only [-Int.reduceToNat, pc_ite, if_true, if_false, pc_bv, pc_lit, pc_neg, pc_add, pc_sub, pc_mul, pc_mr, pc_ar, pc_dv, pc_lt, pc_le, pc_eq, pc_nat, pc_div, pc_emod, pc_ifz, pc_ifo, pc_zb, pc_bd1, pc_bd2, pc_bd3, pc_bd4, pc_bd5, pc_bd6, pc_bd7, pc_bd8, pc_bd9, pc_bd10, pc_bd11, pc_bd12, pc_bd13, pc_bd14, pc_bd15, pc_bd16, pc_bd17, pc_bd19, pc_bd21, pc_bd22, pc_bd30, pc_bd34, pc_bd57, hs.g, if_pos]
theorem lAt_rg (w : wS S) (c : Int) : lAt S c = -1 ∨ (97 ≤ lAt S c ∧ lAt S c ≤ 122) := by
  have hC := w.C
  unfold lAt
  refine fol_ind (fun _ b => b = -1 ∨ (97 ≤ b ∧ b ≤ 122)) (.inl rfl) (S 2).toNat (fun i b h1 h2 hb => ?_)
  have hl := lOf_rg w (c := c) h1 (by omega)
  show (if b < lOf S i c then lOf S i c else b) = -1 ∨ _
  by_cases z : b < lOf S i c
  · rw [if_pos z]; exact hl
  · rw [if_neg z]; exact hb
theorem m_letterAt (hs : mS s S) (w : wS S) {c : Int} (h5 : -1 ≤ c) (h6 : c < 144) : f_X9_letterAt s (iI c) = some (iI (lAt S c)) := by
  have hC := w.C
  unfold f_X9_letterAt
  simp only [pc_bv]
  refine pc_b1t (pc_fold iI (fun h b => if b < lOf S h c then lOf S h c else b) (fun _ b => b = -1 ∨ (97 ≤ b ∧ b ≤ 122)) iI (S 2) (by omega) (b0 := -1) rfl rfl (.inl rfl) (fun i b a1 a2 hb => ?_) (fun b _ => ?_)).1 rfl
  · have hl := lOf_rg w (c := c) a1 a2
    simp (disch := omega) only [-Int.reduceToNat, pc_ite, if_true, if_false, pc_bv, pc_lit, pc_neg, pc_add, pc_sub, pc_mul, pc_mr, pc_ar, pc_dv, pc_lt, pc_le, pc_eq, pc_nat, pc_div, pc_emod, pc_ifz, pc_ifo, pc_zb, pc_bd1, pc_bd2, pc_bd3, pc_bd4, pc_bd5, pc_bd6, pc_bd7, pc_bd8, pc_bd9, pc_bd10, pc_bd11, pc_bd12, pc_bd13, pc_bd14, pc_bd15, pc_bd16, pc_bd17, pc_bd19, pc_bd21, pc_bd22, pc_bd30, pc_bd34, pc_bd57, hs.g, m_letterOf hs w, if_neg]
    by_cases z : b < lOf S i c
    · rw [if_pos z]; exact ⟨trivial, hl⟩
    · rw [if_neg z]; exact ⟨trivial, hb⟩
  · simp (disch := omega) only [-Int.reduceToNat, pc_ite, if_true, if_false, pc_bv, pc_lit, pc_neg, pc_add, pc_sub, pc_mul, pc_mr, pc_ar, pc_dv, pc_lt, pc_le, pc_eq, pc_nat, pc_div, pc_emod, pc_ifz, pc_ifo, pc_zb, pc_bd1, pc_bd2, pc_bd3, pc_bd4, pc_bd5, pc_bd6, pc_bd7, pc_bd8, pc_bd9, pc_bd10, pc_bd11, pc_bd12, pc_bd13, pc_bd14, pc_bd15, pc_bd16, pc_bd17, pc_bd19, pc_bd21, pc_bd22, pc_bd30, pc_bd34, pc_bd57, hs.g, if_pos]
theorem m_canBegin (hs : mS s S) (w : wS S) {c : Int} (h5 : -1 ≤ c) (h6 : c < 144) : f_X9_canBegin s (iI c) = some (zB (cB S c)) := by
  have hC := w.C
  have hh := fi_rg (fun h => decide (h ≠ -1) && decide (hv S h 0 = c)) (S 2)
  rw [show fi _ _ = hA S c (-1) from rfl] at hh
  unfold f_X9_canBegin cB
  simp (disch := omega) only [-Int.reduceToNat, pc_ite, if_true, if_false, pc_bv, pc_lit, pc_neg, pc_add, pc_sub, pc_mul, pc_mr, pc_ar, pc_dv, pc_lt, pc_le, pc_eq, pc_nat, pc_div, pc_emod, pc_ifz, pc_ifo, pc_zb, pc_bd1, pc_bd2, pc_bd3, pc_bd4, pc_bd5, pc_bd6, pc_bd7, pc_bd8, pc_bd9, pc_bd10, pc_bd11, pc_bd12, pc_bd13, pc_bd14, pc_bd15, pc_bd16, pc_bd17, pc_bd19, pc_bd21, pc_bd22, pc_bd30, pc_bd34, pc_bd57, m_isLand hs w, m_isRiver hs w, m_harbourAt hs w]
  cases e1 : isL S c <;> cases e2 : isV S c <;> by_cases e3 : hA S c (-1) = -1 <;> simp [e3, zB]
theorem m_isCoast (hs : mS s S) (w : wS S) {c : Int} (h5 : 0 ≤ c) (h6 : c < S 0 * S 1) : f_X9_isCoast s (iI c) = some (zB (coB S c)) := by
  have hN := w.N
  unfold f_X9_isCoast coB
  simp (disch := omega) only [-Int.reduceToNat, pc_ite, if_true, if_false, pc_bv, pc_lit, pc_neg, pc_add, pc_sub, pc_mul, pc_mr, pc_ar, pc_dv, pc_lt, pc_le, pc_eq, pc_nat, pc_div, pc_emod, pc_ifz, pc_ifo, pc_zb, pc_bd1, pc_bd2, pc_bd3, pc_bd4, pc_bd5, pc_bd6, pc_bd7, pc_bd8, pc_bd9, pc_bd10, pc_bd11, pc_bd12, pc_bd13, pc_bd14, pc_bd15, pc_bd16, pc_bd17, pc_bd19, pc_bd21, pc_bd22, pc_bd30, pc_bd34, pc_bd57, m_isLand hs w]
  cases e1 : isL S c
  · rfl
  · rw [if_pos rfl]
    refine pc_b1t (pc_any (fun w => !isL S (aw S c w 1)) zB 4 (by omega) rfl rfl (fun i a1 a2 => ?_) (fun i a1 a2 => ?_) (fun b => ?_)) ?_
    · simp (disch := omega) only [-Int.reduceToNat, pc_ite, if_true, if_false, pc_bv, pc_lit, pc_neg, pc_add, pc_sub, pc_mul, pc_mr, pc_ar, pc_dv, pc_lt, pc_le, pc_eq, pc_nat, pc_div, pc_emod, pc_ifz, pc_ifo, pc_zb, pc_bd1, pc_bd2, pc_bd3, pc_bd4, pc_bd5, pc_bd6, pc_bd7, pc_bd8, pc_bd9, pc_bd10, pc_bd11, pc_bd12, pc_bd13, pc_bd14, pc_bd15, pc_bd16, pc_bd17, pc_bd19, pc_bd21, pc_bd22, pc_bd30, pc_bd34, pc_bd57, if_neg]
    · have hA := g_aw w.1 c i 1
      simp (disch := omega) only [-Int.reduceToNat, pc_ite, if_true, if_false, pc_bv, pc_lit, pc_neg, pc_add, pc_sub, pc_mul, pc_mr, pc_ar, pc_dv, pc_lt, pc_le, pc_eq, pc_nat, pc_div, pc_emod, pc_ifz, pc_ifo, pc_zb, pc_bd1, pc_bd2, pc_bd3, pc_bd4, pc_bd5, pc_bd6, pc_bd7, pc_bd8, pc_bd9, pc_bd10, pc_bd11, pc_bd12, pc_bd13, pc_bd14, pc_bd15, pc_bd16, pc_bd17, pc_bd19, pc_bd21, pc_bd22, pc_bd30, pc_bd34, pc_bd57, if_neg, m_away hs w, m_isLand hs w, if_pos]
      cases isL S (aw S c i 1) <;> rfl
    · simp (disch := omega) only [-Int.reduceToNat, pc_ite, if_true, if_false, pc_bv, pc_lit, pc_neg, pc_add, pc_sub, pc_mul, pc_mr, pc_ar, pc_dv, pc_lt, pc_le, pc_eq, pc_nat, pc_div, pc_emod, pc_ifz, pc_ifo, pc_zb, pc_bd1, pc_bd2, pc_bd3, pc_bd4, pc_bd5, pc_bd6, pc_bd7, pc_bd8, pc_bd9, pc_bd10, pc_bd11, pc_bd12, pc_bd13, pc_bd14, pc_bd15, pc_bd16, pc_bd17, pc_bd19, pc_bd21, pc_bd22, pc_bd30, pc_bd34, pc_bd57, if_pos]
    · rw [pc_zb]; rfl
theorem m_isEnd (hs : mS s S) (w : wS S) {c : Int} (h5 : 0 ≤ c) (h6 : c < S 0 * S 1) : f_X9_isEnd s (iI c) = some (zB (eB S c)) := by
  have hN := w.N
  unfold f_X9_isEnd eB
  simp (disch := omega) only [-Int.reduceToNat, pc_ite, if_true, if_false, pc_bv, pc_lit, pc_neg, pc_add, pc_sub, pc_mul, pc_mr, pc_ar, pc_dv, pc_lt, pc_le, pc_eq, pc_nat, pc_div, pc_emod, pc_ifz, pc_ifo, pc_zb, pc_bd1, pc_bd2, pc_bd3, pc_bd4, pc_bd5, pc_bd6, pc_bd7, pc_bd8, pc_bd9, pc_bd10, pc_bd11, pc_bd12, pc_bd13, pc_bd14, pc_bd15, pc_bd16, pc_bd17, pc_bd19, pc_bd21, pc_bd22, pc_bd30, pc_bd34, pc_bd57, m_isCoast hs w]
  refine pc_b1t (pc_fold zB (fun i b => b || isV S (aw S c i 1)) (fun _ _ => True) zB 4 (by omega) (b0 := coB S c) rfl rfl trivial (fun i b a1 a2 _ => ⟨?_, trivial⟩) (fun b _ => ?_)).1 ?_
  · have hA := g_aw w.1 c i 1
    simp (disch := omega) only [-Int.reduceToNat, pc_ite, if_true, if_false, pc_bv, pc_lit, pc_neg, pc_add, pc_sub, pc_mul, pc_mr, pc_ar, pc_dv, pc_lt, pc_le, pc_eq, pc_nat, pc_div, pc_emod, pc_ifz, pc_ifo, pc_zb, pc_bd1, pc_bd2, pc_bd3, pc_bd4, pc_bd5, pc_bd6, pc_bd7, pc_bd8, pc_bd9, pc_bd10, pc_bd11, pc_bd12, pc_bd13, pc_bd14, pc_bd15, pc_bd16, pc_bd17, pc_bd19, pc_bd21, pc_bd22, pc_bd30, pc_bd34, pc_bd57, if_neg, m_away hs w, m_isRiver hs w, if_pos]
    cases b <;> cases isV S (aw S c i 1) <;> rfl
  · simp (disch := omega) only [-Int.reduceToNat, pc_ite, if_true, if_false, pc_bv, pc_lit, pc_neg, pc_add, pc_sub, pc_mul, pc_mr, pc_ar, pc_dv, pc_lt, pc_le, pc_eq, pc_nat, pc_div, pc_emod, pc_ifz, pc_ifo, pc_zb, pc_bd1, pc_bd2, pc_bd3, pc_bd4, pc_bd5, pc_bd6, pc_bd7, pc_bd8, pc_bd9, pc_bd10, pc_bd11, pc_bd12, pc_bd13, pc_bd14, pc_bd15, pc_bd16, pc_bd17, pc_bd19, pc_bd21, pc_bd22, pc_bd30, pc_bd34, pc_bd57, if_pos]
  · rw [pc_zb]
    cases coB S c
    · rfl
    · rfl
theorem m_costOf (hs : mS s S) (w : wS S) {c : Int} (h5 : 0 ≤ c) (h6 : c < S 0 * S 1) : f_X9_costOf s (iI c) = some (iI (if nm S c = iI 0 then 1 else 11)) := by
  have hN := w.N
  unfold f_X9_costOf
  simp (disch := omega) only [-Int.reduceToNat, pc_ite, if_true, if_false, pc_bv, pc_lit, pc_neg, pc_add, pc_sub, pc_mul, pc_mr, pc_ar, pc_dv, pc_lt, pc_le, pc_eq, pc_nat, pc_div, pc_emod, pc_ifz, pc_ifo, pc_zb, pc_bd1, pc_bd2, pc_bd3, pc_bd4, pc_bd5, pc_bd6, pc_bd7, pc_bd8, pc_bd9, pc_bd10, pc_bd11, pc_bd12, pc_bd13, pc_bd14, pc_bd15, pc_bd16, pc_bd17, pc_bd19, pc_bd21, pc_bd22, pc_bd30, pc_bd34, pc_bd57, m_namesIn hs w]
  by_cases z : nm S c = iI 0
  · rw [if_pos z, if_pos z]
  · rw [if_neg z, if_neg z]
end
