def nK (t : Int → Int) (n a lo hi : Int) : Int := if 0 < tdl t n a then (if lo ≤ tnv t n a ∧ tnv t n a ≤ hi then 0 else 2) else 1
def nE (t : Int → Int) (n a : Int) : Int := tws t n a + tdl t n a
theorem pc_iw2 {α0 ρ : Type} {f : Int32 → α0 → Option ((Int32 × α0) ⊕ ρ)} (P : Int → α0 → Prop) (Q : ρ → Prop) (b n : Int) (hb : 0 ≤ b) (hn : b ≤ n) (hN : n < 2147483648) {x0 : α0} {c : Int32} (hc : c = iI b) (h0 : P b x0)
    (hs : ∀ i a0, b ≤ i → i < n → P i a0 → ∃ b0, f (iI i) a0 = some (.inl (iI (i + 1), b0)) ∧ P (i + 1) b0) (he : ∀ a0, P n a0 → ∃ r, f (iI n) a0 = some (.inr r) ∧ Q r) : ∃ r, lq2 f c x0 = some r ∧ Q r := by
  refine pc_inv2 (fun c a0 => ∃ i : Int, c = iI i ∧ b ≤ i ∧ i ≤ n ∧ P i a0) (fun c a0 => (n - c.toInt).toNat) Q (fun c a0 h => ?_) c x0 ⟨b, hc, by omega, hn, h0⟩
  obtain ⟨i, e, i1, i2, hp⟩ := h
  subst e
  by_cases z : i = n
  · subst z
    exact .inr (he a0 hp)
  · obtain ⟨b0, e1, e2⟩ := hs i a0 i1 (by omega) hp
    refine .inl ⟨iI (i + 1), b0, e1, ⟨i + 1, rfl, by omega, by omega, e2⟩, ?_⟩
    rw [pc_toInt (by omega) (by omega), pc_toInt (by omega) (by omega)]
    omega
theorem nK_c (t : Int → Int) (n a lo hi : Int) : nK t n a lo hi = 0 ∨ nK t n a lo hi = 1 ∨ nK t n a lo hi = 2 := by unfold nK; (repeat' split) <;> omega
theorem pc_ne0 {k : Int} (h0 : k ≠ 0) (h1 : 0 ≤ k) (h2 : k ≤ 4) : ¬ iI k = iI 0 := by rw [pc_eq (by omega) (by omega) (by omega) (by omega)]; exact h0
section
variable {n : Int} {t : Int → Int} {y : Nat → Int32} {S : Int → Int} {s : Nat → Int32}
theorem nK_0 {a lo hi : Int} (k : nK t n a lo hi = 0) : 0 < tdl t n a ∧ lo ≤ tnv t n a ∧ tnv t n a ≤ hi := by
  unfold nK at k
  by_cases z : 0 < tdl t n a
  · rw [if_pos z] at k
    by_cases q : lo ≤ tnv t n a ∧ tnv t n a ≤ hi
    · exact ⟨z, q⟩
    · rw [if_neg q] at k; omega
  · rw [if_neg z] at k; omega
theorem nE_c (h : tT n t) {a : Int} (a0 : 0 ≤ a) (a1 : a ≤ n) : a ≤ nE t n a ∧ nE t n a ≤ n := by
  have := tws_c h a0 a1
  have := tdl_c h a0 a1
  unfold nE
  omega
theorem x_numOk (h : tT n t) (hy : tX n t y) {a : Int} (a0 : 0 ≤ a) (a1 : a ≤ n) {v2 v3 e ea : Int32} {lo hi : Int} (l0 : 0 ≤ lo) (l1 : lo < 1000) (h0 : -1 ≤ hi) (h1 : hi < 1000) (k : nK t n a lo hi = 0) : f_X5_takeNumber (iI n) (iI a) v2 v3 e ea y (iI lo) (iI hi) = some (iI 1, iI (nE t n a), iI (tws t n a), iI (tnv t n a), e, ea) :=
  x_num1 h hy a0 a1 l0 l1 h0 h1 (nK_0 k).1 (nK_0 k).2
theorem x_numKo (h : tT n t) (hy : tX n t y) {a : Int} (a0 : 0 ≤ a) (a1 : a ≤ n) {v2 v3 e ea : Int32} {lo hi : Int} (l0 : 0 ≤ lo) (l1 : lo < 1000) (h0 : -1 ≤ hi) (h1 : hi < 1000) (k : ¬ nK t n a lo hi = 0) : ∃ z1 z2 z3, f_X5_takeNumber (iI n) (iI a) v2 v3 e ea y (iI lo) (iI hi) = some (iI 0, z1, z2, z3, iI (nK t n a lo hi), iI (tws t n a)) := by
  unfold nK at k ⊢
  by_cases z : 0 < tdl t n a
  · rw [if_pos z] at k ⊢
    by_cases q : lo ≤ tnv t n a ∧ tnv t n a ≤ hi
    · rw [if_pos q] at k; omega
    · rw [if_neg q]
      exact ⟨_, _, _, x_num2 h hy a0 a1 l0 l1 h0 h1 z q⟩
  · rw [if_neg z]
    exact ⟨_, _, _, x_num0 h hy a0 a1 z⟩
theorem m_numOk (h : tT n t) (hy : tX n t y) {a : Int} (a0 : 0 ≤ a) (a1 : a ≤ n) {fr ea : Int32} {lo hi : Int} (l0 : 0 ≤ lo) (l1 : lo < 1000) (h0 : -1 ≤ hi) (h1 : hi < 1000) (k : nK t n a lo hi = 0) : f_X9_number (iI n) (iI a) fr (iI 0) ea y (iI lo) (iI hi) = some (iI (tnv t n a), iI (nE t n a), iI (tws t n a), iI 0, ea) :=
  m_num1 h hy a0 a1 l0 l1 h0 h1 (nK_0 k).1 (nK_0 k).2
theorem m_numKo (h : tT n t) (hy : tX n t y) {a : Int} (a0 : 0 ≤ a) (a1 : a ≤ n) {fr ea : Int32} {lo hi : Int} (l0 : 0 ≤ lo) (l1 : lo < 1000) (h0 : -1 ≤ hi) (h1 : hi < 1000) (k : ¬ nK t n a lo hi = 0) : ∃ z1, f_X9_number (iI n) (iI a) fr (iI 0) ea y (iI lo) (iI hi) = some (iI lo, iI z1, iI (tws t n a), iI (nK t n a lo hi), iI (tws t n a)) ∧ 0 ≤ z1 ∧ z1 ≤ n := by
  have c := tws_c h a0 a1
  have c2 := tdl_c h a0 a1
  unfold nK at k ⊢
  by_cases z : 0 < tdl t n a
  · rw [if_pos z] at k ⊢
    by_cases q : lo ≤ tnv t n a ∧ tnv t n a ≤ hi
    · rw [if_pos q] at k; omega
    · rw [if_neg q]
      exact ⟨_, m_num2 h hy a0 a1 l0 l1 h0 h1 z q, by omega, by omega⟩
  · rw [if_neg z]
    exact ⟨_, m_num0 h hy a0 a1 z, by omega, by omega⟩
theorem m_failE {fr e ea p k : Int32} (he : ¬ e = iI 0) : f_X9_failsIf fr e ea p k = some (e, ea) := by
  unfold f_X9_failsIf f_X9_fails
  rw [pc_lit 0]
  by_cases z : p = iI 0
  · rw [if_pos z]
  · rw [if_neg z, if_neg he]
    rfl
theorem m_fail0 {fr e ea k : Int32} : f_X9_failsIf fr e ea (iI 0) k = some (e, ea) := rfl
theorem m_fail1 {fr ea k : Int32} : f_X9_failsIf fr (iI 0) ea (iI 1) k = some (k, fr) := rfl
def cK1 (t : Int → Int) (n : Int) (S : Int → Int) (a : Int) : Int := nK t n a 0 (S 0 - 1)
def cK2 (t : Int → Int) (n : Int) (S : Int → Int) (a : Int) : Int := nK t n (nE t n a) 0 (S 1 - 1)
def cC (t : Int → Int) (n : Int) (S : Int → Int) (a : Int) : Int := S 1 * tnv t n a + tnv t n (nE t n a)
theorem cC_c (w : wS S) {a : Int} (k1 : cK1 t n S a = 0) (k2 : cK2 t n S a = 0) : 0 ≤ cC t n S a ∧ cC t n S a < S 0 * S 1 ∧ 0 ≤ S 1 * tnv t n a ∧ 0 ≤ tnv t n a ∧ tnv t n a < S 0 ∧ 0 ≤ tnv t n (nE t n a) ∧ tnv t n (nE t n a) < S 1 := by
  have q1 := nK_0 k1
  have q2 := nK_0 k2
  have g := g_cell w.1 (r := tnv t n a) (k := tnv t n (nE t n a)) (by omega) (by omega) (by omega) (by omega)
  unfold cC
  omega
theorem x_cellOk (h : tT n t) (hy : tX n t y) (w : wS S) {a : Int} (a0 : 0 ≤ a) (a1 : a ≤ n) {v2 v3 v4 e ea : Int32} (k1 : cK1 t n S a = 0) (k2 : cK2 t n S a = 0) : f_X5_takeCell (iI n) (iI a) v2 v3 v4 e ea y (iI (S 0)) (iI (S 1)) = some (iI 1, iI (nE t n (nE t n a)), iI (tws t n (nE t n a)), iI (tnv t n (nE t n a)), iI (cC t n S a), e, ea) := by
  have hD := w.D
  have c := nE_c h a0 a1
  have u1 := x_numOk h hy a0 a1 (v2 := v2) (v3 := v3) (e := e) (ea := ea) (lo := 0) (hi := S 0 - 1) (by omega) (by omega) (by omega) (by omega) k1
  have u2 := x_numOk h hy (a := nE t n a) (by omega) (by omega) (v2 := iI (tws t n a)) (v3 := iI (tnv t n a)) (e := e) (ea := ea) (lo := 0) (hi := S 1 - 1) (by omega) (by omega) (by omega) (by omega) k2
  unfold f_X5_takeCell
  simp only [pc_bv, pc_lit, pc_sub, u1, pd_6, pc_10, if_false, u2, pc_mul, pc_add]
  rw [show tnv t n a * S 1 + tnv t n (nE t n a) = cC t n S a by unfold cC; rw [Int.mul_comm]]
theorem x_cellKo1 (h : tT n t) (hy : tX n t y) (w : wS S) {a : Int} (a0 : 0 ≤ a) (a1 : a ≤ n) {v2 v3 v4 e ea : Int32} (k1 : ¬ cK1 t n S a = 0) : ∃ z1 z2 z3 z4, f_X5_takeCell (iI n) (iI a) v2 v3 v4 e ea y (iI (S 0)) (iI (S 1)) = some (iI 0, z1, z2, z3, z4, iI (cK1 t n S a), iI (tws t n a)) := by
  have hD := w.D
  obtain ⟨z1, z2, z3, u1⟩ := x_numKo h hy a0 a1 (v2 := v2) (v3 := v3) (e := e) (ea := ea) (lo := 0) (hi := S 0 - 1) (by omega) (by omega) (by omega) (by omega) k1
  refine ⟨z1, z2, z3, v4, ?_⟩
  unfold f_X5_takeCell
  simp only [pc_bv, pc_lit, pc_sub, u1, pd_6, if_true]
  rfl
theorem x_cellKo2 (h : tT n t) (hy : tX n t y) (w : wS S) {a : Int} (a0 : 0 ≤ a) (a1 : a ≤ n) {v2 v3 v4 e ea : Int32} (k1 : cK1 t n S a = 0) (k2 : ¬ cK2 t n S a = 0) : ∃ z1 z2 z3 z4, f_X5_takeCell (iI n) (iI a) v2 v3 v4 e ea y (iI (S 0)) (iI (S 1)) = some (iI 0, z1, z2, z3, z4, iI (cK2 t n S a), iI (tws t n (nE t n a))) := by
  have hD := w.D
  have c := nE_c h a0 a1
  have u1 := x_numOk h hy a0 a1 (v2 := v2) (v3 := v3) (e := e) (ea := ea) (lo := 0) (hi := S 0 - 1) (by omega) (by omega) (by omega) (by omega) k1
  obtain ⟨z1, z2, z3, u2⟩ := x_numKo h hy (a := nE t n a) (by omega) (by omega) (v2 := iI (tws t n a)) (v3 := iI (tnv t n a)) (e := e) (ea := ea) (lo := 0) (hi := S 1 - 1) (by omega) (by omega) (by omega) (by omega) k2
  refine ⟨z1, z2, z3, v4, ?_⟩
  unfold f_X5_takeCell
  simp only [pc_bv, pc_lit, pc_sub, u1, pd_6, pc_10, if_false, u2, if_true]
  rfl
def lgF (S : Int → Int) (lo hi : Int) : Int → Int := fun j => if 8 + lo ≤ j ∧ j ≤ 8 + hi then 1 else S j
theorem lgF_no {lo hi j : Int} (h : ¬ (8 + lo ≤ j ∧ j ≤ 8 + hi)) : lgF S lo hi j = S j := if_neg h
theorem lgF_wS (w : wS S) (h2 : S 2 = 0) (h3 : S 3 = 0) {lo hi : Int} (l0 : 0 ≤ lo) (l1 : hi < S 0 * S 1) : wS (lgF S lo hi) := by
  have hC := w.C
  have hD := w.D
  have hN := w.N
  have E : ∀ j, j < 8 ∨ 152 ≤ j → lgF S lo hi j = S j := fun j hj => lgF_no (by omega)
  have e2 : lgF S lo hi 2 = 0 := by rw [E 2 (by omega), h2]
  refine ⟨?_, ?_, ?_, ?_, ?_, ?_, ?_, ?_, ?_, ?_⟩
  · unfold gD; rw [E 0 (by omega), E 1 (by omega)]; exact w.1
  · unfold gC; rw [E 2 (by omega), E 3 (by omega), E 4 (by omega), E 5 (by omega), E 6 (by omega), E 7 (by omega)]; exact w.2.1
  · intro c h1 h2
    have := w.L h1 h2
    rw [E 0 (by omega), E 1 (by omega)]
    unfold lgF
    by_cases z : 8 + lo ≤ 8 + c ∧ 8 + c ≤ 8 + hi
    · rw [if_pos z]; omega
    · rw [if_neg z]; exact this
  · intro c h1 h2
    rw [E 0 (by omega), E 1 (by omega), E 3 (by omega), E (152 + c) (by omega), E (296 + c) (by omega)]
    exact w.R h1 h2
  · intro h h1 h2; omega
  · intro h k h1 h2; omega
  · intro k h1 h2
    rw [E 4 (by omega)] at h2
    have := w.V h1 h2
    omega
  · intro h h1 h2; omega
  · intro a b a1 a2; omega
  · intro a b a1 a2; omega
end
