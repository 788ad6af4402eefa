def lc (S : Int → Int) : Int := su (fun k => S (8 + k)) (S 0 * S 1)
def ad (a b : Int) : Int := if 0 ≤ a - b then a - b else 0 - (a - b)
def dep (S : Int → Int) (c : Int) : Int := fol (fun k b => if isL S k then b else if ad (k / S 1) (c / S 1) + ad (k % S 1) (c % S 1) < b then ad (k / S 1) (c / S 1) + ad (k % S 1) (c % S 1) else b) (if (if S 1 - c % S 1 < c % S 1 + 1 then S 1 - c % S 1 else c % S 1 + 1) < (if S 0 - c / S 1 < c / S 1 + 1 then S 0 - c / S 1 else c / S 1 + 1) then (if S 1 - c % S 1 < c % S 1 + 1 then S 1 - c % S 1 else c % S 1 + 1) else (if S 0 - c / S 1 < c / S 1 + 1 then S 0 - c / S 1 else c / S 1 + 1)) (S 0 * S 1).toNat
def rvc (S : Int → Int) (r x : Int) : Int := fi (fun k => decide (S (152 + k) - 1 = r) && decide (S (296 + k) = x)) (S 0 * S 1)
def tsp (D : Int → Int) (S : Int → Int) (t0 : Int) : Int × Int := fol (fun k b => if D (S (536 + k)) = -1 then b else (upr (D (S (536 + k))), b.2 + qd b.1 (upr (D (S (536 + k)))))) (t0, 0) (S 4).toNat
def tB (D : Int → Int) (S : Int → Int) (t0 : Int) : Int := (tsp D S t0).2
def dN (S : Int → Int) (h : Int) : Int := hv S h 2
def tmS (S : Int → Int) (h : Int) : Int := su (fun k => if S (536 + k) = h then 1 else 0) (S 4)
def pN (S : Int → Int) : Int32 := mk (fun h => isP S h) (S 2)
theorem su_ext {f : Int → Int} {n m : Int} (h0 : 0 ≤ n) (h : n ≤ m) (hz : ∀ k, n ≤ k → k < m → f k = 0) : su f m = su f n := by
  have H : ∀ d : Nat, n + d ≤ m → su f (n + d) = su f n := by
    intro d
    induction d with
    | zero => intro _; rw [pc_c0, Int.add_zero]
    | succ d ih =>
      intro h
      rw [← ih (by omega)]
      unfold su
      rw [show (n + ((d + 1 : Nat) : Int)).toNat = (n + (d : Int)).toNat + 1 by omega, fol_s]
      show _ + f (((n + (d : Int)).toNat : Nat) : Int) = _
      rw [hz _ (by omega) (by omega), Int.add_zero]
  have := H (m - n).toNat (by omega)
  rw [show n + (((m - n).toNat : Nat) : Int) = m by omega] at this
  exact this
theorem fi_ext {p : Int → Bool} {n m : Int} (h : n ≤ m) (hz : ∀ k, n ≤ k → 0 ≤ k → k < m → p k = false) : fi p m = fi p n := by
  rcases fi_c p n with ⟨i, a1, a2, a3, a4, a5⟩ | ⟨a4, a5⟩
  · rw [a4]; exact fi_eq a1 (by omega) a3 a5
  · rw [a4]
    refine fi_no (fun j b1 b2 => ?_)
    by_cases z : j < n
    · exact a5 j b1 z
    · exact hz j (by omega) b1 b2
theorem su_rg {f : Int → Int} {n lo hi : Int} (h0 : 0 ≤ n) (h : ∀ k, 0 ≤ k → k < n → lo ≤ f k ∧ f k ≤ hi) : n * lo ≤ su f n ∧ su f n ≤ n * hi := by
  unfold su
  have := fol_ind (st := fun i b => b + f i) (b := 0) (fun i b => i * lo ≤ b ∧ b ≤ i * hi) ⟨by omega, by omega⟩ n.toNat (fun i b h1 h2 hb => by
    have := h i h1 (by omega)
    rw [Int.add_mul, Int.add_mul]
    omega)
  rw [show ((n.toNat : Nat) : Int) = n by omega] at this
  exact this
theorem lc_rg {S : Int → Int} (w : wS S) : 0 ≤ lc S ∧ lc S ≤ 144 := by
  have hN := w.N
  have := su_rg (f := fun k => S (8 + k)) (n := S 0 * S 1) (lo := 0) (hi := 1) (by omega) (fun k h1 h2 => by have := w.L h1 (by omega : k < 144); exact ⟨this.1, this.2.1⟩)
  unfold lc
  omega
theorem ad_rg {a b : Int} (h1 : 0 ≤ a) (h2 : a < 12) (h3 : 0 ≤ b) (h4 : b < 12) : 0 ≤ ad a b ∧ ad a b < 12 := by unfold ad; split <;> omega
section
variable {s : Nat → Int32} {S : Int → Int} {land riv hom dir len let' nOn lOn stp ord wys : Nat → Int32} {th : Int32}
theorem m_landCells (hs : mS s S) (w : wS S) : f_X9_landCells s = some (iI (lc S)) := by
  have hN := w.N
  unfold f_X9_landCells lc su
  simp only [pc_bv]
  refine pc_b1t (pc_fold iI (fun i b => b + S (8 + i)) (fun i b => 0 ≤ b ∧ b ≤ i) iI (S 0 * S 1) (by omega) (b0 := 0) rfl rfl (by omega) (fun i b a1 a2 hb => ?_) (fun b _ => ?_)).1 rfl
  · have hL := w.L a1 (by omega : i < 144)
    simp (disch := omega) only [-Int.reduceToNat, pc_ite, if_true, if_false, pc_bv, pc_lit, pc_neg, pc_add, pc_sub, pc_mul, pc_mr, pc_ar, pc_dv, pc_lt, pc_le, pc_eq, pc_nat, pc_div, pc_emod, pc_ifz, pc_ifo, pc_zb, pc_bd1, pc_bd2, pc_bd3, pc_bd4, pc_bd5, pc_bd6, pc_bd7, pc_bd8, pc_bd9, pc_bd10, pc_bd11, pc_bd12, pc_bd13, pc_bd14, pc_bd15, pc_bd16, pc_bd17, pc_bd19, pc_bd21, pc_bd22, pc_bd30, pc_bd34, pc_bd57, m_cells hs, hs.g, if_neg]
    exact ⟨trivial, by omega⟩
  · simp (disch := omega) only [-Int.reduceToNat, pc_ite, if_true, if_false, pc_bv, pc_lit, pc_neg, pc_add, pc_sub, pc_mul, pc_mr, pc_ar, pc_dv, pc_lt, pc_le, pc_eq, pc_nat, pc_div, pc_emod, pc_ifz, pc_ifo, pc_zb, pc_bd1, pc_bd2, pc_bd3, pc_bd4, pc_bd5, pc_bd6, pc_bd7, pc_bd8, pc_bd9, pc_bd10, pc_bd11, pc_bd12, pc_bd13, pc_bd14, pc_bd15, pc_bd16, pc_bd17, pc_bd19, pc_bd21, pc_bd22, pc_bd30, pc_bd34, pc_bd57, m_cells hs, if_pos]
theorem x_landCells (w : wS S) (hl : aL land S) : f_X1_landCells land = some (iI (lc S)) := by
  have hN := w.N
  unfold f_X1_landCells lc
  rw [← su_ext (m := 144) (by omega) hN.2 (fun k h1 h2 => (w.L (by omega) h2).2.2 h1)]
  unfold su
  simp only [pc_bv]
  refine pc_b1t (pc_fold iI (fun i b => b + S (8 + i)) (fun i b => 0 ≤ b ∧ b ≤ i) iI 144 (by omega) (b0 := 0) rfl rfl (by omega) (fun i b a1 a2 hb => ?_) (fun b _ => ?_)).1 rfl
  · have hL := w.L a1 a2
    have hg := hl i a1 a2
    simp (disch := omega) only [-Int.reduceToNat, pc_ite, if_true, if_false, pc_bv, pc_lit, pc_neg, pc_add, pc_sub, pc_mul, pc_mr, pc_ar, pc_dv, pc_lt, pc_le, pc_eq, pc_nat, pc_div, pc_emod, pc_ifz, pc_ifo, pc_zb, pc_bd1, pc_bd2, pc_bd3, pc_bd4, pc_bd5, pc_bd6, pc_bd7, pc_bd8, pc_bd9, pc_bd10, pc_bd11, pc_bd12, pc_bd13, pc_bd14, pc_bd15, pc_bd16, pc_bd17, pc_bd19, pc_bd21, pc_bd22, pc_bd30, pc_bd34, pc_bd57, hg, if_neg]
    by_cases z : S (8 + i) = 0
    · rw [if_pos z, z, Int.add_zero]; exact ⟨rfl, by omega⟩
    · rw [if_neg z, show S (8 + i) = 1 by omega]; exact ⟨rfl, by omega⟩
  · simp (disch := omega) only [-Int.reduceToNat, pc_ite, if_true, if_false, pc_bv, pc_lit, pc_neg, pc_add, pc_sub, pc_mul, pc_mr, pc_ar, pc_dv, pc_lt, pc_le, pc_eq, pc_nat, pc_div, pc_emod, pc_ifz, pc_ifo, pc_zb, pc_bd1, pc_bd2, pc_bd3, pc_bd4, pc_bd5, pc_bd6, pc_bd7, pc_bd8, pc_bd9, pc_bd10, pc_bd11, pc_bd12, pc_bd13, pc_bd14, pc_bd15, pc_bd16, pc_bd17, pc_bd19, pc_bd21, pc_bd22, pc_bd30, pc_bd34, pc_bd57, if_pos]
theorem m_depthOf (hs : mS s S) (w : wS S) {c : Int} (h1 : 0 ≤ c) (h2 : c < S 0 * S 1) : f_X9_depthOf s (iI c) = some (iI (dep S c)) ∧ 0 ≤ dep S c ∧ dep S c ≤ 12 := by
  have hN := w.N
  have hD := w.D
  have hR := g_rc w.1 h1 h2
  unfold f_X9_depthOf dep
  simp only [pc_bv]
  simp (disch := omega) only [-Int.reduceToNat, pc_ite, if_true, if_false, pc_bv, pc_lit, pc_neg, pc_add, pc_sub, pc_mul, pc_mr, pc_ar, pc_dv, pc_lt, pc_le, pc_eq, pc_nat, pc_div, pc_emod, pc_ifz, pc_ifo, pc_zb, pc_bd1, pc_bd2, pc_bd3, pc_bd4, pc_bd5, pc_bd6, pc_bd7, pc_bd8, pc_bd9, pc_bd10, pc_bd11, pc_bd12, pc_bd13, pc_bd14, pc_bd15, pc_bd16, pc_bd17, pc_bd19, pc_bd21, pc_bd22, pc_bd30, pc_bd34, pc_bd57, hs.g]
  have F := pc_fold (f := fun v4_1 v5 => bd1 (f_X9_cells s) fun r57 => if r57 ≤ v5 then some (Sum.inr v4_1) else bd1 (f_X9_isLand s v5) fun r66 => if r66 = iI 0 then some (Sum.inl (if (if iI 0 ≤ v5 / iI (S 1) - iI (c / S 1) then v5 / iI (S 1) - iI (c / S 1) else iI 0 - (v5 / iI (S 1) - iI (c / S 1))) + (if iI 0 ≤ v5 - v5 / iI (S 1) * iI (S 1) - iI (c % S 1) then v5 - v5 / iI (S 1) * iI (S 1) - iI (c % S 1) else iI 0 - (v5 - v5 / iI (S 1) * iI (S 1) - iI (c % S 1))) < v4_1 then (if iI 0 ≤ v5 / iI (S 1) - iI (c / S 1) then v5 / iI (S 1) - iI (c / S 1) else iI 0 - (v5 / iI (S 1) - iI (c / S 1))) + (if iI 0 ≤ v5 - v5 / iI (S 1) * iI (S 1) - iI (c % S 1) then v5 - v5 / iI (S 1) * iI (S 1) - iI (c % S 1) else iI 0 - (v5 - v5 / iI (S 1) * iI (S 1) - iI (c % S 1))) else v4_1, v5 + iI 1)) else some (Sum.inl (v4_1, v5 + iI 1))) iI (fun k b => if isL S k then b else if ad (k / S 1) (c / S 1) + ad (k % S 1) (c % S 1) < b then ad (k / S 1) (c / S 1) + ad (k % S 1) (c % S 1) else b) (fun _ b => 0 ≤ b ∧ b ≤ 12) iI (S 0 * S 1) (by omega) (b0 := (if (if S 1 - c % S 1 < c % S 1 + 1 then S 1 - c % S 1 else c % S 1 + 1) < (if S 0 - c / S 1 < c / S 1 + 1 then S 0 - c / S 1 else c / S 1 + 1) then (if S 1 - c % S 1 < c % S 1 + 1 then S 1 - c % S 1 else c % S 1 + 1) else (if S 0 - c / S 1 < c / S 1 + 1 then S 0 - c / S 1 else c / S 1 + 1))) (a := iI (if (if S 1 - c % S 1 < c % S 1 + 1 then S 1 - c % S 1 else c % S 1 + 1) < (if S 0 - c / S 1 < c / S 1 + 1 then S 0 - c / S 1 else c / S 1 + 1) then (if S 1 - c % S 1 < c % S 1 + 1 then S 1 - c % S 1 else c % S 1 + 1) else (if S 0 - c / S 1 < c / S 1 + 1 then S 0 - c / S 1 else c / S 1 + 1))) (c := iI 0) rfl rfl (by split <;> split <;> split <;> omega) (fun i b a1 a2 hb => ?_) (fun b _ => ?_)
  · refine ⟨pc_b1t F.1 rfl, F.2⟩
  · have hR2 := g_rc w.1 a1 a2
    have r1 := ad_rg (a := i / S 1) (b := c / S 1) (by omega) (by omega) (by omega) (by omega)
    have r2 := ad_rg (a := i % S 1) (b := c % S 1) (by omega) (by omega) (by omega) (by omega)
    simp (disch := omega) only [-Int.reduceToNat, pc_ite, if_true, if_false, pc_bv, pc_lit, pc_neg, pc_add, pc_sub, pc_mul, pc_mr, pc_ar, pc_dv, pc_lt, pc_le, pc_eq, pc_nat, pc_div, pc_emod, pc_ifz, pc_ifo, pc_zb, pc_bd1, pc_bd2, pc_bd3, pc_bd4, pc_bd5, pc_bd6, pc_bd7, pc_bd8, pc_bd9, pc_bd10, pc_bd11, pc_bd12, pc_bd13, pc_bd14, pc_bd15, pc_bd16, pc_bd17, pc_bd19, pc_bd21, pc_bd22, pc_bd30, pc_bd34, pc_bd57, m_cells hs, m_isLand hs w, if_neg]
    rw [show (if 0 ≤ i / S 1 - c / S 1 then i / S 1 - c / S 1 else 0 - (i / S 1 - c / S 1)) = ad (i / S 1) (c / S 1) from rfl, show (if 0 ≤ i % S 1 - c % S 1 then i % S 1 - c % S 1 else 0 - (i % S 1 - c % S 1)) = ad (i % S 1) (c % S 1) from rfl]
    cases isL S i
    · refine ⟨rfl, ?_⟩
      rw [if_neg (by decide)]
      split <;> omega
    · exact ⟨rfl, hb⟩
  · simp (disch := omega) only [-Int.reduceToNat, pc_ite, if_true, if_false, pc_bv, pc_lit, pc_neg, pc_add, pc_sub, pc_mul, pc_mr, pc_ar, pc_dv, pc_lt, pc_le, pc_eq, pc_nat, pc_div, pc_emod, pc_ifz, pc_ifo, pc_zb, pc_bd1, pc_bd2, pc_bd3, pc_bd4, pc_bd5, pc_bd6, pc_bd7, pc_bd8, pc_bd9, pc_bd10, pc_bd11, pc_bd12, pc_bd13, pc_bd14, pc_bd15, pc_bd16, pc_bd17, pc_bd19, pc_bd21, pc_bd22, pc_bd30, pc_bd34, pc_bd57, m_cells hs, if_pos]
theorem dep_sea (w : wS S) {c : Int} (h1 : 0 ≤ c) (h2 : c < S 0 * S 1) (hl : isL S c = false) : dep S c = 0 := by
  have hN := w.N
  have hD := w.D
  have hR := g_rc w.1 h1 h2
  unfold dep
  have F := fol_ind (st := fun k b => if isL S k then b else if ad (k / S 1) (c / S 1) + ad (k % S 1) (c % S 1) < b then ad (k / S 1) (c / S 1) + ad (k % S 1) (c % S 1) else b) (b := (if (if S 1 - c % S 1 < c % S 1 + 1 then S 1 - c % S 1 else c % S 1 + 1) < (if S 0 - c / S 1 < c / S 1 + 1 then S 0 - c / S 1 else c / S 1 + 1) then (if S 1 - c % S 1 < c % S 1 + 1 then S 1 - c % S 1 else c % S 1 + 1) else (if S 0 - c / S 1 < c / S 1 + 1 then S 0 - c / S 1 else c / S 1 + 1))) (fun i b => 0 ≤ b ∧ (c < i → b = 0)) ⟨by split <;> split <;> split <;> omega, fun h => by omega⟩ (S 0 * S 1).toNat (fun i b q1 q2 hb => by
    have hR2 := g_rc w.1 q1 (by omega : i < S 0 * S 1)
    have r1 := ad_rg (a := i / S 1) (b := c / S 1) (by omega) (by omega) (by omega) (by omega)
    have r2 := ad_rg (a := i % S 1) (b := c % S 1) (by omega) (by omega) (by omega) (by omega)
    cases e : isL S i
    · rw [if_neg (by decide)]
      refine ⟨by split <;> omega, fun z => ?_⟩
      by_cases y : i = c
      · subst y
        have : ∀ x : Int, ad x x = 0 := by intro x; unfold ad; split <;> omega
        rw [this, this]
        split <;> omega
      · have := hb.2 (by omega)
        split <;> omega
    · rw [if_pos rfl]
      refine ⟨hb.1, fun z => ?_⟩
      by_cases y : i = c
      · subst y; rw [hl] at e; cases e
      · exact hb.2 (by omega))
  exact F.2 (by omega)
theorem x_depthOf (w : wS S) (hl : aL land S) {c : Int} (h1 : 0 ≤ c) (h2 : c < S 0 * S 1) : f_X1_depthOf (iI (S 0)) (iI (S 1)) land (iI c) = some (iI (dep S c)) := by
  have hN := w.N
  have hD := w.D
  have hR := g_rc w.1 h1 h2
  unfold f_X1_depthOf
  simp only [pc_bv]
  simp (disch := omega) only [-Int.reduceToNat, pc_ite, if_true, if_false, pc_bv, pc_lit, pc_neg, pc_add, pc_sub, pc_mul, pc_mr, pc_ar, pc_dv, pc_lt, pc_le, pc_eq, pc_nat, pc_div, pc_emod, pc_ifz, pc_ifo, pc_zb, pc_bd1, pc_bd2, pc_bd3, pc_bd4, pc_bd5, pc_bd6, pc_bd7, pc_bd8, pc_bd9, pc_bd10, pc_bd11, pc_bd12, pc_bd13, pc_bd14, pc_bd15, pc_bd16, pc_bd17, pc_bd19, pc_bd21, pc_bd22, pc_bd30, pc_bd34, pc_bd57, x_isLand w hl, if_pos]
  cases e : isL S c
  · rw [dep_sea w h1 h2 e]; rfl
  · rw [if_pos rfl]
    unfold dep
    refine pc_b1t (pc_fold iI (fun k b => if isL S k then b else if ad (k / S 1) (c / S 1) + ad (k % S 1) (c % S 1) < b then ad (k / S 1) (c / S 1) + ad (k % S 1) (c % S 1) else b) (fun _ b => 0 ≤ b ∧ b ≤ 12) iI (S 0 * S 1) (by omega) (b0 := (if (if S 1 - c % S 1 < c % S 1 + 1 then S 1 - c % S 1 else c % S 1 + 1) < (if S 0 - c / S 1 < c / S 1 + 1 then S 0 - c / S 1 else c / S 1 + 1) then (if S 1 - c % S 1 < c % S 1 + 1 then S 1 - c % S 1 else c % S 1 + 1) else (if S 0 - c / S 1 < c / S 1 + 1 then S 0 - c / S 1 else c / S 1 + 1))) rfl rfl (by split <;> split <;> split <;> omega) (fun i b a1 a2 hb => ?_) (fun b _ => ?_)).1 rfl
    · have hR2 := g_rc w.1 a1 a2
      have r1 := ad_rg (a := i / S 1) (b := c / S 1) (by omega) (by omega) (by omega) (by omega)
      have r2 := ad_rg (a := i % S 1) (b := c % S 1) (by omega) (by omega) (by omega) (by omega)
      simp (disch := omega) only [-Int.reduceToNat, pc_ite, if_true, if_false, pc_bv, pc_lit, pc_neg, pc_add, pc_sub, pc_mul, pc_mr, pc_ar, pc_dv, pc_lt, pc_le, pc_eq, pc_nat, pc_div, pc_emod, pc_ifz, pc_ifo, pc_zb, pc_bd1, pc_bd2, pc_bd3, pc_bd4, pc_bd5, pc_bd6, pc_bd7, pc_bd8, pc_bd9, pc_bd10, pc_bd11, pc_bd12, pc_bd13, pc_bd14, pc_bd15, pc_bd16, pc_bd17, pc_bd19, pc_bd21, pc_bd22, pc_bd30, pc_bd34, pc_bd57, x_cells, x_isLand w hl, if_neg]
      rw [show (if 0 ≤ i / S 1 - c / S 1 then i / S 1 - c / S 1 else 0 - (i / S 1 - c / S 1)) = ad (i / S 1) (c / S 1) from rfl, show (if 0 ≤ i % S 1 - c % S 1 then i % S 1 - c % S 1 else 0 - (i % S 1 - c % S 1)) = ad (i % S 1) (c % S 1) from rfl]
      cases isL S i
      · refine ⟨rfl, ?_⟩
        rw [if_neg (by decide)]
        split <;> omega
      · exact ⟨rfl, hb⟩
    · simp (disch := omega) only [-Int.reduceToNat, pc_ite, if_true, if_false, pc_bv, pc_lit, pc_neg, pc_add, pc_sub, pc_mul, pc_mr, pc_ar, pc_dv, pc_lt, pc_le, pc_eq, pc_nat, pc_div, pc_emod, pc_ifz, pc_ifo, pc_zb, pc_bd1, pc_bd2, pc_bd3, pc_bd4, pc_bd5, pc_bd6, pc_bd7, pc_bd8, pc_bd9, pc_bd10, pc_bd11, pc_bd12, pc_bd13, pc_bd14, pc_bd15, pc_bd16, pc_bd17, pc_bd19, pc_bd21, pc_bd22, pc_bd30, pc_bd34, pc_bd57, x_cells, if_pos]
theorem x_riverCell (w : wS S) (hr : aV riv S) (ho : aO ord S) {r x : Int} (h1 : 0 ≤ r) (h2 : r < 8) (h3 : -2147483648 ≤ x) (h4 : x < 2147483648) : f_X1_riverCell riv ord (iI r) (iI x) = some (iI (rvc S r x)) := by
  have hN := w.N
  have hC := w.C
  unfold f_X1_riverCell rvc
  rw [← fi_ext (m := 144) hN.2 (fun k b1 b0 b2 => by
    have := (w.R b0 b2).2.2.1 b1
    simp [this]; omega)]
  simp only [pc_bv]
  refine (pc_srch (fun k => decide (S (152 + k) - 1 = r) && decide (S (296 + k) = x)) (fun i => iI i) (iI (-1)) 144 (by omega) rfl (fun i a1 a2 a3 => ?_) (fun i a1 a2 a3 => ?_) ?_).trans ?_
  · have hR := w.R a1 a2
    have hg := hr i a1 a2
    simp only [Bool.and_eq_true, decide_eq_true_iff] at a3
    have hg2 := ho i a1 a2 (by omega)
    simp (disch := omega) only [-Int.reduceToNat, pc_ite, if_true, if_false, pc_bv, pc_lit, pc_neg, pc_add, pc_sub, pc_mul, pc_mr, pc_ar, pc_dv, pc_lt, pc_le, pc_eq, pc_nat, pc_div, pc_emod, pc_ifz, pc_ifo, pc_zb, pc_bd1, pc_bd2, pc_bd3, pc_bd4, pc_bd5, pc_bd6, pc_bd7, pc_bd8, pc_bd9, pc_bd10, pc_bd11, pc_bd12, pc_bd13, pc_bd14, pc_bd15, pc_bd16, pc_bd17, pc_bd19, pc_bd21, pc_bd22, pc_bd30, pc_bd34, pc_bd57, hg, hg2, if_neg, if_pos a3.1, if_pos a3.2]
  · have hR := w.R a1 a2
    have hg := hr i a1 a2
    simp only [Bool.and_eq_false_iff, decide_eq_false_iff_not] at a3
    simp (disch := omega) only [-Int.reduceToNat, pc_ite, if_true, if_false, pc_bv, pc_lit, pc_neg, pc_add, pc_sub, pc_mul, pc_mr, pc_ar, pc_dv, pc_lt, pc_le, pc_eq, pc_nat, pc_div, pc_emod, pc_ifz, pc_ifo, pc_zb, pc_bd1, pc_bd2, pc_bd3, pc_bd4, pc_bd5, pc_bd6, pc_bd7, pc_bd8, pc_bd9, pc_bd10, pc_bd11, pc_bd12, pc_bd13, pc_bd14, pc_bd15, pc_bd16, pc_bd17, pc_bd19, pc_bd21, pc_bd22, pc_bd30, pc_bd34, pc_bd57, hg, if_neg]
    by_cases z : x < 0
    · rw [if_pos z]
    · rw [if_neg z]
      by_cases y : S (152 + i) - 1 = r
      · have hg2 := ho i a1 a2 (by omega)
        have y2 : ¬ S (296 + i) = x := by rcases a3 with q | q; exact absurd y q; exact q
        simp (disch := omega) only [-Int.reduceToNat, pc_ite, if_true, if_false, pc_bv, pc_lit, pc_neg, pc_add, pc_sub, pc_mul, pc_mr, pc_ar, pc_dv, pc_lt, pc_le, pc_eq, pc_nat, pc_div, pc_emod, pc_ifz, pc_ifo, pc_zb, pc_bd1, pc_bd2, pc_bd3, pc_bd4, pc_bd5, pc_bd6, pc_bd7, pc_bd8, pc_bd9, pc_bd10, pc_bd11, pc_bd12, pc_bd13, pc_bd14, pc_bd15, pc_bd16, pc_bd17, pc_bd19, pc_bd21, pc_bd22, pc_bd30, pc_bd34, pc_bd57, hg2, if_pos y, if_neg y2]
      · rw [if_neg y]
  · simp (disch := omega) only [-Int.reduceToNat, pc_ite, if_true, if_false, pc_bv, pc_lit, pc_neg, pc_add, pc_sub, pc_mul, pc_mr, pc_ar, pc_dv, pc_lt, pc_le, pc_eq, pc_nat, pc_div, pc_emod, pc_ifz, pc_ifo, pc_zb, pc_bd1, pc_bd2, pc_bd3, pc_bd4, pc_bd5, pc_bd6, pc_bd7, pc_bd8, pc_bd9, pc_bd10, pc_bd11, pc_bd12, pc_bd13, pc_bd14, pc_bd15, pc_bd16, pc_bd17, pc_bd19, pc_bd21, pc_bd22, pc_bd30, pc_bd34, pc_bd57, if_pos]
  · by_cases z : fi (fun k => decide (S (152 + k) - 1 = r) && decide (S (296 + k) = x)) 144 = -1
    · rw [if_pos z, z]
    · rw [if_neg z]
theorem x_stopAt (w : wS S) (hj : aJ stp S) {k : Int} (h1 : 0 ≤ k) (h2 : k < S 4) : f_X4_stopAt (iI (S 4)) stp (iI k) = some (iI (S (536 + k))) := by
  have hC := w.C
  have hg := hj k h1 h2
  unfold f_X4_stopAt
  simp (disch := omega) only [-Int.reduceToNat, pc_ite, if_true, if_false, pc_bv, pc_lit, pc_neg, pc_add, pc_sub, pc_mul, pc_mr, pc_ar, pc_dv, pc_lt, pc_le, pc_eq, pc_nat, pc_div, pc_emod, pc_ifz, pc_ifo, pc_zb, pc_bd1, pc_bd2, pc_bd3, pc_bd4, pc_bd5, pc_bd6, pc_bd7, pc_bd8, pc_bd9, pc_bd10, pc_bd11, pc_bd12, pc_bd13, pc_bd14, pc_bd15, pc_bd16, pc_bd17, pc_bd19, pc_bd21, pc_bd22, pc_bd30, pc_bd34, pc_bd57, hg, if_neg]
theorem x_timesOf (w : wS S) (hj : aJ stp S) {h : Int} (h1 : 0 ≤ h) (h2 : h < S 2) : f_X4_timesOf (iI (S 4)) stp (iI h) = some (iI (tmS S h)) := by
  have hC := w.C
  unfold f_X4_timesOf tmS su
  simp only [pc_bv]
  refine pc_b1t (pc_fold iI (fun i b => b + if S (536 + i) = h then 1 else 0) (fun i b => 0 ≤ b ∧ b ≤ i) iI (S 4) (by omega) (b0 := 0) rfl rfl (by omega) (fun i b a1 a2 hb => ?_) (fun b _ => ?_)).1 rfl
  · have hV := w.V a1 a2
    simp (disch := omega) only [-Int.reduceToNat, pc_ite, if_true, if_false, pc_bv, pc_lit, pc_neg, pc_add, pc_sub, pc_mul, pc_mr, pc_ar, pc_dv, pc_lt, pc_le, pc_eq, pc_nat, pc_div, pc_emod, pc_ifz, pc_ifo, pc_zb, pc_bd1, pc_bd2, pc_bd3, pc_bd4, pc_bd5, pc_bd6, pc_bd7, pc_bd8, pc_bd9, pc_bd10, pc_bd11, pc_bd12, pc_bd13, pc_bd14, pc_bd15, pc_bd16, pc_bd17, pc_bd19, pc_bd21, pc_bd22, pc_bd30, pc_bd34, pc_bd57, x_stopAt w hj, if_neg]
    by_cases z : S (536 + i) = h
    · simp only [z, if_true]; exact ⟨trivial, by omega⟩
    · simp only [z, if_false, Int.add_zero]; exact ⟨trivial, by omega⟩
  · simp (disch := omega) only [-Int.reduceToNat, pc_ite, if_true, if_false, pc_bv, pc_lit, pc_neg, pc_add, pc_sub, pc_mul, pc_mr, pc_ar, pc_dv, pc_lt, pc_le, pc_eq, pc_nat, pc_div, pc_emod, pc_ifz, pc_ifo, pc_zb, pc_bd1, pc_bd2, pc_bd3, pc_bd4, pc_bd5, pc_bd6, pc_bd7, pc_bd8, pc_bd9, pc_bd10, pc_bd11, pc_bd12, pc_bd13, pc_bd14, pc_bd15, pc_bd16, pc_bd17, pc_bd19, pc_bd21, pc_bd22, pc_bd30, pc_bd34, pc_bd57, if_pos]
theorem m_timesIn (hs : mS s S) (w : wS S) {h : Int} (h1 : 0 ≤ h) (h2 : h < S 2) : f_X9_timesIn s (iI h) = some (iI (tmS S h)) := by
  have hC := w.C
  unfold f_X9_timesIn tmS su
  simp only [pc_bv]
  refine pc_b1t (pc_fold iI (fun i b => b + if S (536 + i) = h then 1 else 0) (fun i b => 0 ≤ b ∧ b ≤ i) iI (S 4) (by omega) (b0 := 0) rfl rfl (by omega) (fun i b a1 a2 hb => ?_) (fun b _ => ?_)).1 rfl
  · have hV := w.V a1 a2
    simp (disch := omega) only [-Int.reduceToNat, pc_ite, if_true, if_false, pc_bv, pc_lit, pc_neg, pc_add, pc_sub, pc_mul, pc_mr, pc_ar, pc_dv, pc_lt, pc_le, pc_eq, pc_nat, pc_div, pc_emod, pc_ifz, pc_ifo, pc_zb, pc_bd1, pc_bd2, pc_bd3, pc_bd4, pc_bd5, pc_bd6, pc_bd7, pc_bd8, pc_bd9, pc_bd10, pc_bd11, pc_bd12, pc_bd13, pc_bd14, pc_bd15, pc_bd16, pc_bd17, pc_bd19, pc_bd21, pc_bd22, pc_bd30, pc_bd34, pc_bd57, hs.g, if_neg]
    by_cases z : S (536 + i) = h
    · simp only [z, if_true]; exact ⟨trivial, by omega⟩
    · simp only [z, if_false, Int.add_zero]; exact ⟨trivial, by omega⟩
  · simp (disch := omega) only [-Int.reduceToNat, pc_ite, if_true, if_false, pc_bv, pc_lit, pc_neg, pc_add, pc_sub, pc_mul, pc_mr, pc_ar, pc_dv, pc_lt, pc_le, pc_eq, pc_nat, pc_div, pc_emod, pc_ifz, pc_ifo, pc_zb, pc_bd1, pc_bd2, pc_bd3, pc_bd4, pc_bd5, pc_bd6, pc_bd7, pc_bd8, pc_bd9, pc_bd10, pc_bd11, pc_bd12, pc_bd13, pc_bd14, pc_bd15, pc_bd16, pc_bd17, pc_bd19, pc_bd21, pc_bd22, pc_bd30, pc_bd34, pc_bd57, hs.g, if_pos]
theorem upr_rg {v : Int} : 0 ≤ upr v ∧ upr v < 4 := by unfold upr; omega
theorem m_turningBy (hs : mS s S) (w : wS S) {D : Int → Int} (hD : ∀ h, 0 ≤ h → h < S 2 → wys h.toNat = iI (D h) ∧ -1 ≤ D h ∧ D h < 4) {t : Int} (h1 : 0 ≤ t) (h2 : t < 4) : f_X9_turningBy s wys (iI t) = some (iI (tB D S t)) := by
  have hC := w.C
  unfold f_X9_turningBy tB tsp
  simp only [pc_bv]
  refine pc_b1t (pc_fl3 0 (fun b => iI b.1) (fun b => iI b.2) (fun k b => if D (S (536 + k)) = -1 then b else (upr (D (S (536 + k))), b.2 + qd b.1 (upr (D (S (536 + k)))))) (fun i b => 0 ≤ b.1 ∧ b.1 < 4 ∧ 0 ≤ b.2 ∧ b.2 ≤ 2 * i) (fun b => iI b.2) (S 4) (by omega) (b0 := (t, 0)) rfl rfl rfl ⟨h1, h2, by omega, by omega⟩ (fun i b a1 a2 hb => ?_) (fun b _ => ?_)).1 rfl
  · have hV := w.V a1 a2
    have hg := hD (S (536 + i)) hV.1 hV.2
    have e0 : i + 0 = i := by omega
    have hu := upr_rg (v := D (S (536 + i)))
    have hq := qd_rg hb.1 hb.2.1 hu.1 hu.2
    simp (disch := omega) only [-Int.reduceToNat, pc_ite, if_true, if_false, pc_bv, pc_lit, pc_neg, pc_add, pc_sub, pc_mul, pc_mr, pc_ar, pc_dv, pc_lt, pc_le, pc_eq, pc_nat, pc_div, pc_emod, pc_ifz, pc_ifo, pc_zb, pc_bd1, pc_bd2, pc_bd3, pc_bd4, pc_bd5, pc_bd6, pc_bd7, pc_bd8, pc_bd9, pc_bd10, pc_bd11, pc_bd12, pc_bd13, pc_bd14, pc_bd15, pc_bd16, pc_bd17, pc_bd19, pc_bd21, pc_bd22, pc_bd30, pc_bd34, pc_bd57, e0, hs.g, if_neg, hg.1]
    by_cases z : D (S (536 + i)) = -1
    · simp only [z, if_true]
      exact ⟨by rw [show i + 1 + 0 = i + 1 by omega], by omega⟩
    · simp (disch := omega) only [-Int.reduceToNat, pc_ite, if_true, if_false, pc_bv, pc_lit, pc_neg, pc_add, pc_sub, pc_mul, pc_mr, pc_ar, pc_dv, pc_lt, pc_le, pc_eq, pc_nat, pc_div, pc_emod, pc_ifz, pc_ifo, pc_zb, pc_bd1, pc_bd2, pc_bd3, pc_bd4, pc_bd5, pc_bd6, pc_bd7, pc_bd8, pc_bd9, pc_bd10, pc_bd11, pc_bd12, pc_bd13, pc_bd14, pc_bd15, pc_bd16, pc_bd17, pc_bd19, pc_bd21, pc_bd22, pc_bd30, pc_bd34, pc_bd57, if_neg z, m_uprightBy, m_quarters]
      refine ⟨?_, ?_⟩
      · rw [show i + 1 + 0 = i + 1 by omega]
      · exact ⟨hu.1, hu.2, by show 0 ≤ b.2 + qd b.1 _; omega, by show b.2 + qd b.1 _ ≤ _; omega⟩
  · have e0 : S 4 + 0 = S 4 := by omega
    simp (disch := omega) only [-Int.reduceToNat, pc_ite, if_true, if_false, pc_bv, pc_lit, pc_neg, pc_add, pc_sub, pc_mul, pc_mr, pc_ar, pc_dv, pc_lt, pc_le, pc_eq, pc_nat, pc_div, pc_emod, pc_ifz, pc_ifo, pc_zb, pc_bd1, pc_bd2, pc_bd3, pc_bd4, pc_bd5, pc_bd6, pc_bd7, pc_bd8, pc_bd9, pc_bd10, pc_bd11, pc_bd12, pc_bd13, pc_bd14, pc_bd15, pc_bd16, pc_bd17, pc_bd19, pc_bd21, pc_bd22, pc_bd30, pc_bd34, pc_bd57, e0, hs.g, if_pos]
theorem x_turningBy (w : wS S) (hj : aJ stp S) {D : Int → Int} (hD : ∀ h, 0 ≤ h → h < S 2 → wys h.toNat = iI (D h) ∧ -1 ≤ D h ∧ D h < 4) {t : Int} (h1 : 0 ≤ t) (h2 : t < 4) : f_X4_turningBy (iI (S 4)) stp wys (iI t) = some (iI (tB D S t)) := by
  have hC := w.C
  unfold f_X4_turningBy tB tsp
  simp only [pc_bv]
  refine pc_b1t (pc_fl3 0 (fun b => iI b.2) (fun b => iI b.1) (fun k b => if D (S (536 + k)) = -1 then b else (upr (D (S (536 + k))), b.2 + qd b.1 (upr (D (S (536 + k)))))) (fun i b => 0 ≤ b.1 ∧ b.1 < 4 ∧ 0 ≤ b.2 ∧ b.2 ≤ 2 * i) (fun b => iI b.2) (S 4) (by omega) (b0 := (t, 0)) rfl rfl rfl ⟨h1, h2, by omega, by omega⟩ (fun i b a1 a2 hb => ?_) (fun b _ => ?_)).1 rfl
  · have hV := w.V a1 a2
    have hg := hD (S (536 + i)) hV.1 hV.2
    have e0 : i + 0 = i := by omega
    have hu := upr_rg (v := D (S (536 + i)))
    have hq := qd_rg hb.1 hb.2.1 hu.1 hu.2
    simp (disch := omega) only [-Int.reduceToNat, pc_ite, if_true, if_false, pc_bv, pc_lit, pc_neg, pc_add, pc_sub, pc_mul, pc_mr, pc_ar, pc_dv, pc_lt, pc_le, pc_eq, pc_nat, pc_div, pc_emod, pc_ifz, pc_ifo, pc_zb, pc_bd1, pc_bd2, pc_bd3, pc_bd4, pc_bd5, pc_bd6, pc_bd7, pc_bd8, pc_bd9, pc_bd10, pc_bd11, pc_bd12, pc_bd13, pc_bd14, pc_bd15, pc_bd16, pc_bd17, pc_bd19, pc_bd21, pc_bd22, pc_bd30, pc_bd34, pc_bd57, e0, x_stopAt w hj, if_neg, hg.1]
    by_cases z : D (S (536 + i)) = -1
    · simp only [z, if_true]
      exact ⟨by rw [show i + 1 + 0 = i + 1 by omega], by omega⟩
    · simp (disch := omega) only [-Int.reduceToNat, pc_ite, if_true, if_false, pc_bv, pc_lit, pc_neg, pc_add, pc_sub, pc_mul, pc_mr, pc_ar, pc_dv, pc_lt, pc_le, pc_eq, pc_nat, pc_div, pc_emod, pc_ifz, pc_ifo, pc_zb, pc_bd1, pc_bd2, pc_bd3, pc_bd4, pc_bd5, pc_bd6, pc_bd7, pc_bd8, pc_bd9, pc_bd10, pc_bd11, pc_bd12, pc_bd13, pc_bd14, pc_bd15, pc_bd16, pc_bd17, pc_bd19, pc_bd21, pc_bd22, pc_bd30, pc_bd34, pc_bd57, if_neg z, x_upright, x_quarters]
      refine ⟨?_, ?_⟩
      · rw [show i + 1 + 0 = i + 1 by omega]
      · exact ⟨hu.1, hu.2, by show 0 ≤ b.2 + qd b.1 _; omega, by show b.2 + qd b.1 _ ≤ _; omega⟩
  · have e0 : S 4 + 0 = S 4 := by omega
    simp (disch := omega) only [-Int.reduceToNat, pc_ite, if_true, if_false, pc_bv, pc_lit, pc_neg, pc_add, pc_sub, pc_mul, pc_mr, pc_ar, pc_dv, pc_lt, pc_le, pc_eq, pc_nat, pc_div, pc_emod, pc_ifz, pc_ifo, pc_zb, pc_bd1, pc_bd2, pc_bd3, pc_bd4, pc_bd5, pc_bd6, pc_bd7, pc_bd8, pc_bd9, pc_bd10, pc_bd11, pc_bd12, pc_bd13, pc_bd14, pc_bd15, pc_bd16, pc_bd17, pc_bd19, pc_bd21, pc_bd22, pc_bd30, pc_bd34, pc_bd57, e0, if_pos]
end
