def wyS (S D : Int → Int) : Int → Int := fun j => if 442 ≤ j ∧ j < 442 + 12 * S 2 ∧ (j - 442) % 12 = 0 then D ((j - 442) / 12) else S j
theorem wy_congr {S D E : Int → Int} (h : ∀ g, 0 ≤ g → g < S 2 → D g = E g) : wyS S D = wyS S E := by
  funext j
  unfold wyS
  by_cases z : 442 ≤ j ∧ j < 442 + 12 * S 2 ∧ (j - 442) % 12 = 0
  · rw [if_pos z, if_pos z]; exact h _ (by omega) (by omega)
  · rw [if_neg z, if_neg z]
theorem wy_lo {S D : Int → Int} {j : Int} (h : j < 442) : wyS S D j = S j := by unfold wyS; rw [if_neg (by omega)]
theorem wy_wy {S D E : Int → Int} : wyS (wyS S D) E = wyS S E := by
  funext j
  have e2 : wyS S D 2 = S 2 := wy_lo (by omega)
  by_cases z : 442 ≤ j ∧ j < 442 + 12 * S 2 ∧ (j - 442) % 12 = 0
  · show (if 442 ≤ j ∧ j < 442 + 12 * wyS S D 2 ∧ (j - 442) % 12 = 0 then E ((j - 442) / 12) else wyS S D j) = if _ then _ else _
    rw [e2, if_pos z, if_pos z]
  · show (if 442 ≤ j ∧ j < 442 + 12 * wyS S D 2 ∧ (j - 442) % 12 = 0 then E ((j - 442) / 12) else wyS S D j) = if _ then _ else _
    rw [e2, if_neg z, if_neg z]
    unfold wyS
    rw [if_neg z]
theorem wy_id (S : Int → Int) : wyS S (fun g => hv S g 2) = S := by
  funext j
  unfold wyS
  by_cases z : 442 ≤ j ∧ j < 442 + 12 * S 2 ∧ (j - 442) % 12 = 0
  · rw [if_pos z]
    show S (440 + 12 * ((j - 442) / 12) + 2) = S j
    congr 1; omega
  · rw [if_neg z]
theorem an_s {p : Int → Bool} {i : Int} (h : 0 ≤ i) : an p (i + 1) = (an p i || p i) := by
  unfold an
  rw [show (i + 1).toNat = i.toNat + 1 by omega, fol_s, show ((i.toNat : Nat) : Int) = i by omega]
theorem isL_ne {S : Int → Int} {c : Int} (h : isL S c = true) : c ≠ -1 := by
  rintro rfl; simp [isL] at h
section
variable {S D : Int → Int}
theorem wy_hi (w : wS S) {j : Int} (h : 536 ≤ j) : wyS S D j = S j := by
  have hC := w.C
  unfold wyS; rw [if_neg (by omega)]
theorem wy_hv {h : Int} (h1 : 0 ≤ h) (h2 : h < S 2) : hv (wyS S D) h 2 = D h := by
  unfold hv wyS
  rw [if_pos (by omega)]
  congr 1; omega
theorem wy_hn {h v : Int} (h1 : 0 ≤ h) (h3 : 0 ≤ v) (h4 : v < 12) (h5 : v ≠ 2) : hv (wyS S D) h v = hv S h v := by
  unfold hv wyS
  rw [if_neg (by omega)]
theorem wy_aw (c v d : Int) : aw (wyS S D) c v d = aw S c v d := by
  have e0 : wyS S D 0 = S 0 := wy_lo (by omega)
  have e1 : wyS S D 1 = S 1 := wy_lo (by omega)
  unfold aw
  rw [e0, e1]
theorem wy_2 : wyS S D 2 = S 2 := wy_lo (by omega)
theorem wy_isL {c : Int} (h : c < 144) : isL (wyS S D) c = isL S c := by unfold isL; rw [wy_lo (by omega)]
theorem wy_isV {c : Int} (h : c < 144) : isV (wyS S D) c = isV S c := by unfold isV; rw [wy_lo (by omega)]
theorem wy_isR {h : Int} (h1 : 0 ≤ h) : isR (wyS S D) h = isR S h := by unfold isR; rw [wy_hn h1 (by omega) (by omega) (by omega)]
theorem wy_lIn (w : wS S) {h v c : Int} (h1 : 0 ≤ h) (h2 : h < S 2) : lIn (wyS S D) h v c = lIn S h v c := by
  have hH := w.H h1 h2
  have e : lIx (wyS S D) h v c = lIx S h v c := by
    unfold lIx
    rw [wy_hn (v := 3) h1 (by omega) (by omega) (by omega), wy_hn (v := 0) h1 (by omega) (by omega) (by omega)]
    exact fi_congr (fun k _ _ => by rw [wy_aw])
  unfold lIn
  rw [e]
  rcases fi_rg (fun k => decide (aw S (hv S h 0) v (k + 1) = c)) (hv S h 3) with q | ⟨q1, q2, q3⟩
  · rw [show fi _ _ = lIx S h v c from rfl] at q
    rw [q, if_pos rfl, if_pos rfl]
  · rw [show fi _ _ = lIx S h v c from rfl] at q1 q2
    rw [wy_hn (v := 4 + lIx S h v c) h1 (by omega) (by omega) (by omega)]
theorem wy_lOf (w : wS S) {h c : Int} (h1 : 0 ≤ h) (h2 : h < S 2) : lOf (wyS S D) h c = if D h = -1 then -1 else lIn S h (D h) c := by
  unfold lOf isP
  rw [wy_hv h1 h2, wy_lIn w h1 h2]
  by_cases z : D h = -1 <;> simp [z]
theorem wy_ag (w : wS S) {a v b u : Int} {r q : Bool} (h1 : 0 ≤ a) (h2 : a < S 2) (g1 : 0 ≤ b) (g2 : b < S 2) : ag (wyS S D) a v r b u q = ag S a v r b u q := by
  have hH := w.H h1 h2
  unfold ag
  rw [wy_hn (v := 3) h1 (by omega) (by omega) (by omega)]
  refine an_congr (fun k k1 k2 => ?_)
  unfold agP
  rw [wy_hn (v := 0) h1 (by omega) (by omega) (by omega), wy_aw, wy_lIn w g1 g2, wy_hn (v := 4 + k) h1 (by omega) (by omega) (by omega)]
theorem wy_wS (w : wS S) (hD : ∀ g, 0 ≤ g → g < S 2 → -1 ≤ D g ∧ D g ≤ 3) (hP : ∀ g, 0 ≤ g → g < S 2 → D g ≠ -1 → isL S (aw S (hv S g 0) ((D g + 2) % 4) 1) = false ∧ ∀ k, 0 ≤ k → k < hv S g 3 → aw S (hv S g 0) (D g) (k + 1) ≠ -1)
    (hX : ∀ a b, 0 ≤ a → a < S 2 → 0 ≤ b → b < S 2 → a ≠ b → D a ≠ -1 → D b ≠ -1 → ag S a (D a) (isR S a) b (D b) (isR S b) = false) : wS (wyS S D) := by
  have hC := w.C
  have hN := w.N
  have e0 : wyS S D 0 = S 0 := wy_lo (by omega)
  have e1 : wyS S D 1 = S 1 := wy_lo (by omega)
  have e2 : wyS S D 2 = S 2 := wy_lo (by omega)
  have e3 : wyS S D 3 = S 3 := wy_lo (by omega)
  have e4 : wyS S D 4 = S 4 := wy_lo (by omega)
  have e5 : wyS S D 5 = S 5 := wy_lo (by omega)
  have e6 : wyS S D 6 = S 6 := wy_lo (by omega)
  have e7 : wyS S D 7 = S 7 := wy_lo (by omega)
  refine ⟨?_, ?_, ?_, ?_, ?_, ?_, ?_, ?_, ?_, ?_⟩
  · unfold gD; rw [e0, e1]; exact w.1
  · unfold gC; rw [e2, e3, e4, e5, e6, e7]; exact w.2.1
  · intro c h1 h2
    rw [e0, e1, wy_lo (by omega)]; exact w.L h1 h2
  · intro c h1 h2
    rw [e0, e1, e3, wy_lo (by omega), wy_lo (by omega)]; exact w.R h1 h2
  · intro h h1 h2
    rw [e2] at h2
    have hH := w.H h1 h2
    have hd := hD h h1 h2
    rw [e0, e1, wy_hn (v := 0) h1 (by omega) (by omega) (by omega), wy_hn (v := 1) h1 (by omega) (by omega) (by omega), wy_hn (v := 3) h1 (by omega) (by omega) (by omega), wy_hv h1 h2, wy_isL (by omega)]
    exact ⟨hH.1, hH.2.1, hH.2.2.1, hH.2.2.2.1, hH.2.2.2.2.1, hd.1, hd.2, hH.2.2.2.2.2.2.2⟩
  · intro h k h1 h2 h3 h4
    rw [e2] at h2
    have hH := w.H h1 h2
    rw [wy_hn (v := 3) h1 (by omega) (by omega) (by omega)] at h4
    rw [wy_hn (v := 4 + k) h1 (by omega) (by omega) (by omega)]
    exact w.T h1 h2 h3 h4
  · intro k h1 h2
    rw [e4] at h2
    rw [e2, wy_hi w (by omega)]; exact w.V h1 h2
  · intro h h1 h2 h3
    rw [e2] at h2
    have hH := w.H h1 h2
    unfold isP at h3
    rw [wy_hv h1 h2, decide_eq_true_iff] at h3
    have := hP h h1 h2 h3
    have hA := g_aw w.1 (hv S h 0) ((D h + 2) % 4) 1
    rw [wy_hv h1 h2, wy_hn (v := 0) h1 (by omega) (by omega) (by omega), wy_aw, wy_isL (by omega)]
    refine ⟨this.1, fun k k1 k2 => ?_⟩
    rw [wy_hn (v := 3) h1 (by omega) (by omega) (by omega)] at k2
    rw [wy_aw]; exact this.2 k k1 k2
  · intro a b a1 a2 b1 b2 hab pa pb
    rw [e2] at a2 b2
    unfold isP at pa pb
    rw [wy_hv a1 a2, decide_eq_true_iff] at pa
    rw [wy_hv b1 b2, decide_eq_true_iff] at pb
    rw [wy_hv a1 a2, wy_hv b1 b2, wy_isR a1, wy_isR b1, wy_ag w a1 a2 b1 b2]
    exact hX a b a1 a2 b1 b2 hab pa pb
  · intro a b a1 a2 b1 b2 hab
    rw [e2] at a2 b2
    rw [wy_hn (v := 0) a1 (by omega) (by omega) (by omega), wy_hn (v := 0) b1 (by omega) (by omega) (by omega)] at hab
    exact w.U a b a1 a2 b1 b2 hab
theorem wy_lift (w : wS S) (hD : ∀ g, 0 ≤ g → g < S 2 → D g = -1 ∨ D g = hv S g 2) : wS (wyS S D) := by
  refine wy_wS w (fun g g1 g2 => ?_) (fun g g1 g2 hn => ?_) (fun a b a1 a2 b1 b2 hab ha hb => ?_)
  · have hH := w.H g1 g2
    rcases hD g g1 g2 with e | e <;> omega
  · rcases hD g g1 g2 with e | e
    · exact absurd e hn
    · rw [e] at hn ⊢
      exact w.P g g1 g2 (by unfold isP; exact decide_eq_true hn)
  · rcases hD a a1 a2 with e | e
    · exact absurd e ha
    · rcases hD b b1 b2 with f | f
      · exact absurd f hb
      · rw [e] at ha ⊢
        rw [f] at hb ⊢
        exact w.X a b a1 a2 b1 b2 hab (by unfold isP; exact decide_eq_true ha) (by unfold isP; exact decide_eq_true hb)
theorem aw_inj (w : wS S) {c v d e : Int} (h3 : 0 ≤ v) (h4 : v < 4) (h : aw S c v d = aw S c v e) (hn : aw S c v d ≠ -1) : d = e := by
  have hn2 : aw S c v e ≠ -1 := by rw [← h]; exact hn
  unfold aw at h hn hn2
  generalize hr1 : c / S 1 + (if v = 0 then -d else if v = 2 then d else 0) = r1 at h hn
  generalize hk1 : c % S 1 + (if v = 1 then d else if v = 3 then -d else 0) = k1 at h hn
  generalize hr2 : c / S 1 + (if v = 0 then -e else if v = 2 then e else 0) = r2 at h hn2
  generalize hk2 : c % S 1 + (if v = 1 then e else if v = 3 then -e else 0) = k2 at h hn2
  by_cases z1 : 0 ≤ r1 ∧ r1 < S 0 ∧ 0 ≤ k1 ∧ k1 < S 1
  · by_cases z2 : 0 ≤ r2 ∧ r2 < S 0 ∧ 0 ≤ k2 ∧ k2 < S 1
    · rw [if_pos z1, if_pos z2] at h
      have g1 := g_div w (r := r1) z1.2.2.1 z1.2.2.2
      have g2 := g_div w (r := r2) z2.2.2.1 z2.2.2.2
      rw [h] at g1
      have er : r1 = r2 := by rw [← g1.1, g2.1]
      have ek : k1 = k2 := by rw [← g1.2, g2.2]
      have hv : v = 0 ∨ v = 1 ∨ v = 2 ∨ v = 3 := by omega
      rcases hv with rfl | rfl | rfl | rfl <;> simp at hr1 hk1 hr2 hk2 <;> omega
    · rw [if_neg z2] at hn2; exact absurd rfl hn2
  · rw [if_neg z1] at hn; exact absurd rfl hn
theorem lIn_at (w : wS S) {h v k : Int} (h1 : 0 ≤ h) (h2 : h < S 2) (h3 : 0 ≤ v) (h4 : v < 4) (k1 : 0 ≤ k) (k2 : k < hv S h 3) (hn : aw S (hv S h 0) v (k + 1) ≠ -1) : lIn S h v (aw S (hv S h 0) v (k + 1)) = hv S h (4 + k) := by
  unfold lIn
  rw [if_neg hn]
  have e : lIx S h v (aw S (hv S h 0) v (k + 1)) = k := by
    unfold lIx
    refine fi_eq k1 k2 (by simp) (fun j j1 j2 => ?_)
    rw [decide_eq_false_iff_not]
    intro z
    have := aw_inj w h3 h4 z.symm hn
    omega
  rw [e, if_neg (by omega)]
theorem ag_sym (w : wS S) {a v b u : Int} {r q : Bool} (h1 : 0 ≤ a) (h2 : a < S 2) (h3 : 0 ≤ v) (h4 : v < 4) (g1 : 0 ≤ b) (g2 : b < S 2) (h : ag S a v r b u q = true) : ag S b u q a v r = true := by
  unfold ag at h ⊢
  rw [an_iff] at h ⊢
  obtain ⟨k, k1, k2, k3⟩ := h
  unfold agP at k3 ⊢
  simp only [Bool.and_eq_true, Bool.or_eq_true, decide_eq_true_iff] at k3 ⊢
  obtain ⟨c1, c2, c3, c4, c5⟩ := lIx_c w g1 g2 k3.1
  refine ⟨lIx S b u (aw S (hv S a 0) v (k + 1)), c2, c3, ?_⟩
  have hT := w.T h1 h2 k1 k2
  rw [c4, lIn_at w h1 h2 h3 h4 k1 k2 c1]
  refine ⟨by omega, ?_⟩
  rcases k3.2 with (e | e) | e
  · exact .inl (.inr e)
  · exact .inl (.inl e)
  · right; rw [c5] at e; exact fun z => e z.symm
theorem chR_0 (w : wS S) {h v o : Int} (h1 : 0 ≤ h) (h2 : h < S 2) (e : chR S h v o = 0) : isL S (aw S (hv S h 0) ((v + 2) % 4) 1) = false ∧ ∀ k, 0 ≤ k → k < hv S h 3 → cR S (aw S (hv S h 0) v (k + 1)) o = 9 := by
  have hH := w.H h1 h2
  unfold chR at e
  cases z : isL S (aw S (hv S h 0) ((v + 2) % 4) 1)
  · rw [z, if_neg (by decide)] at e
    refine ⟨rfl, fun k k1 k2 => ?_⟩
    have F := fol_ind (st := fun k b => if cR S (aw S (hv S h 0) v (k + 1)) o < b then cR S (aw S (hv S h 0) v (k + 1)) o else b) (b := 9) (fun i b => (b = 2 ∨ b = 3 ∨ b = 4 ∨ b = 5 ∨ b = 9) ∧ ∀ k, 0 ≤ k → k < i → b ≤ cR S (aw S (hv S h 0) v (k + 1)) o) ⟨by omega, fun k a1 a2 => by omega⟩ (hv S h 3).toNat (fun i b a1 a2 hb => by
      have hc := cR_rg S (aw S (hv S h 0) v (i + 1)) o
      refine ⟨?_, fun k b1 b2 => ?_⟩
      · show (if cR S (aw S (hv S h 0) v (i + 1)) o < b then cR S (aw S (hv S h 0) v (i + 1)) o else b) = 2 ∨ (if cR S (aw S (hv S h 0) v (i + 1)) o < b then cR S (aw S (hv S h 0) v (i + 1)) o else b) = 3 ∨ (if cR S (aw S (hv S h 0) v (i + 1)) o < b then cR S (aw S (hv S h 0) v (i + 1)) o else b) = 4 ∨ (if cR S (aw S (hv S h 0) v (i + 1)) o < b then cR S (aw S (hv S h 0) v (i + 1)) o else b) = 5 ∨ (if cR S (aw S (hv S h 0) v (i + 1)) o < b then cR S (aw S (hv S h 0) v (i + 1)) o else b) = 9
        split <;> omega
      · show (if cR S (aw S (hv S h 0) v (i + 1)) o < b then cR S (aw S (hv S h 0) v (i + 1)) o else b) ≤ _
        by_cases q : k = i
        · subst q; split <;> omega
        · have := hb.2 k b1 (by omega)
          split <;> omega)
    have f1 := F.2 k k1 (by omega)
    have hc := cR_rg S (aw S (hv S h 0) v (k + 1)) o
    omega
  · rw [z, if_pos rfl] at e; omega
theorem cR_9 {c o : Int} (h : cR S c o = 9) : c ≠ -1 ∧ isL S c = true ∧ isV S c = false ∧ hA S c o = -1 := by
  unfold cR at h
  by_cases z : c = -1
  · rw [if_pos z] at h; omega
  · rw [if_neg z] at h
    refine ⟨z, ?_⟩
    cases e1 : isL S c
    · rw [e1, if_neg (by decide)] at h; omega
    · rw [e1, if_pos rfl] at h
      cases e2 : isV S c
      · rw [e2, if_neg (by decide)] at h
        by_cases y : hA S c o = -1
        · exact ⟨rfl, rfl, y⟩
        · rw [if_neg y] at h; omega
      · rw [e2, if_pos rfl] at h; omega
theorem wy_place (w : wS S) {h v : Int} (h1 : 0 ≤ h) (h2 : h < S 2) (h3 : 0 ≤ v) (h4 : v < 4) (hr : rsn S h v = 0) : wS (wyS S (fun g => if g = h then v else hv S g 2)) := by
  have hch : chR S h v (-1) = 0 ∧ an (fun g => decide (g ≠ h) && isP S g && agA S h v g) (S 2) = false := by
    unfold rsn at hr
    by_cases z : chR S h v (-1) = 0
    · rw [if_pos z] at hr
      refine ⟨z, ?_⟩
      cases e : an (fun g => decide (g ≠ h) && isP S g && agA S h v g) (S 2)
      · rfl
      · rw [e, if_pos rfl] at hr; omega
    · rw [if_neg z] at hr; exact absurd hr z
  have c0 := chR_0 w h1 h2 hch.1
  have no : ∀ g, 0 ≤ g → g < S 2 → g ≠ h → hv S g 2 ≠ -1 → ag S h v (isR S h) g (hv S g 2) (isR S g) = false := by
    intro g g1 g2 gn gp
    have := an_false.mp hch.2 g g1 g2
    have p : isP S g = true := by unfold isP; exact decide_eq_true gp
    rw [p, decide_eq_true gn] at this
    exact this
  refine wy_wS w (fun g g1 g2 => ?_) (fun g g1 g2 hn => ?_) (fun a b a1 a2 b1 b2 hab ha hb => ?_)
  · have hH := w.H g1 g2
    show -1 ≤ (if g = h then v else hv S g 2) ∧ (if g = h then v else hv S g 2) ≤ 3
    split <;> omega
  · by_cases z : g = h
    · rw [if_pos z, z]
      exact ⟨c0.1, fun k k1 k2 => (cR_9 (c0.2 k k1 k2)).1⟩
    · rw [if_neg z] at hn ⊢
      exact w.P g g1 g2 (by unfold isP; exact decide_eq_true hn)
  · by_cases za : a = h
    · have zb : ¬ b = h := by omega
      rw [if_neg zb] at hb ⊢
      rw [if_pos za, za]
      exact no b b1 b2 zb hb
    · rw [if_neg za] at ha ⊢
      by_cases zb : b = h
      · rw [if_pos zb, zb]
        have pa := isP_c w a1 a2 (by unfold isP; exact decide_eq_true ha)
        cases e : ag S a (hv S a 2) (isR S a) h v (isR S h)
        · rfl
        · have := ag_sym w a1 a2 pa.1 (by omega) h1 h2 e
          rw [no a a1 a2 za ha] at this
          cases this
      · rw [if_neg zb] at hb ⊢
        exact w.X a b a1 a2 b1 b2 hab (by unfold isP; exact decide_eq_true ha) (by unfold isP; exact decide_eq_true hb)
end
