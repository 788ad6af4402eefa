def SameN (S S' : Int → Int) : Prop := S' 0 = S 0 ∧ S' 1 = S 1 ∧ S' 2 = S 2 ∧ ∀ j, 440 ≤ j → j < 536 → (j - 441) % 12 ≠ 0 → S' j = S j
section
variable {S S' : Int → Int} {land riv hom dir len let' nOn lOn stp ord land' riv' ord' stp' : Nat → Int32}
theorem SameN.eHv (sn : SameN S S') (w : wS S) {h k : Int} (h1 : 0 ≤ h) (h2 : h < S 2) (k1 : 0 ≤ k) (k2 : k < 12) (k3 : k ≠ 1) : hv S' h k = hv S h k := by
  have hC := w.C
  unfold hv
  exact sn.2.2.2 _ (by omega) (by omega) (by omega)
theorem SameN.eAw (sn : SameN S S') (c v d : Int) : aw S' c v d = aw S c v d := by
  unfold aw
  rw [sn.1, sn.2.1]
theorem SameN.eLIn (sn : SameN S S') (w : wS S) {h v c : Int} (h1 : 0 ≤ h) (h2 : h < S 2) : lIn S' h v c = lIn S h v c := by
  have hH := w.H h1 h2
  have e : lIx S' h v c = lIx S h v c := by
    unfold lIx
    rw [sn.eHv w (k := 3) h1 h2 (by omega) (by omega) (by omega), sn.eHv w (k := 0) h1 h2 (by omega) (by omega) (by omega)]
    exact fi_congr (fun k _ _ => by rw [sn.eAw])
  unfold lIn
  rw [e]
  rcases fi_rg (fun k => decide (aw S (hv S h 0) v (k + 1) = c)) (hv S h 3) with q | ⟨q1, q2, q3⟩
  · rw [show fi _ _ = lIx S h v c from rfl] at q
    rw [q, if_pos rfl, if_pos rfl]
  · rw [show fi _ _ = lIx S h v c from rfl] at q1 q2
    rw [sn.eHv w (k := 4 + lIx S h v c) h1 h2 (by omega) (by omega) (by omega)]
theorem SameN.eLOf (sn : SameN S S') (w : wS S) {h c : Int} (h1 : 0 ≤ h) (h2 : h < S 2) : lOf S' h c = lOf S h c := by
  rw [lOf_hv, lOf_hv, sn.eHv w (k := 2) h1 h2 (by omega) (by omega) (by omega), sn.eLIn w h1 h2]
theorem SameN.eNm (sn : SameN S S') (w : wS S) (c : Int) : nm S' c = nm S c := by
  unfold nm
  rw [sn.2.2.1]
  exact mk_congr (fun i i1 i2 => by rw [sn.eLOf w i1 i2])
theorem SameN.eLAt (sn : SameN S S') (w : wS S) (c : Int) : lAt S' c = lAt S c := by
  have hC := w.C
  unfold lAt
  rw [sn.2.2.1]
  exact fol_ext (fun i b i1 i2 => by rw [sn.eLOf w i1 (by omega)])
theorem SameN.eAg (sn : SameN S S') (w : wS S) {a v b u : Int} {r q : Bool} (h1 : 0 ≤ a) (h2 : a < S 2) (g1 : 0 ≤ b) (g2 : b < S 2) : ag S' a v r b u q = ag S a v r b u q := by
  have hH := w.H h1 h2
  unfold ag
  rw [sn.eHv w (k := 3) h1 h2 (by omega) (by omega) (by omega)]
  refine an_congr (fun k k1 k2 => ?_)
  unfold agP
  rw [sn.eHv w (k := 0) h1 h2 (by omega) (by omega) (by omega), sn.eAw, sn.eLIn w g1 g2, sn.eHv w (k := 4 + k) h1 h2 (by omega) (by omega) (by omega)]
theorem SameN.eHA (sn : SameN S S') (w : wS S) (c o : Int) : hA S' c o = hA S c o := by
  unfold hA
  rw [sn.2.2.1]
  exact fi_congr (fun i i1 i2 => by rw [sn.eHv w (k := 0) i1 i2 (by omega) (by omega) (by omega)])
theorem sn_wS (w : wS S) (sn : SameN S S') (hC : gC S') (hL : gL S') (hR : gR S') (hV : gV S') (hh : ∀ h, 0 ≤ h → h < S 2 → isL S' (hv S h 0) = true ∧ 0 ≤ hv S' h 1 ∧ hv S' h 1 ≤ 1)
    (hP : ∀ h, 0 ≤ h → h < S 2 → hv S h 2 ≠ -1 → isL S' (aw S (hv S h 0) ((hv S h 2 + 2) % 4) 1) = false)
    (hX : ∀ a b, 0 ≤ a → a < S 2 → 0 ≤ b → b < S 2 → a ≠ b → hv S a 2 ≠ -1 → hv S b 2 ≠ -1 → ag S a (hv S a 2) (isR S' a) b (hv S b 2) (isR S' b) = false) : wS S' := by
  have e2 := sn.2.2.1
  refine ⟨?_, hC, hL, hR, ?_, ?_, hV, ?_, ?_, ?_⟩
  · unfold gD; rw [sn.1, sn.2.1]; exact w.1
  · intro h h1 h2
    rw [e2] at h2
    have hH := w.H h1 h2
    have hq := hh h h1 h2
    rw [sn.1, sn.2.1, sn.eHv w (k := 0) h1 h2 (by omega) (by omega) (by omega), sn.eHv w (k := 2) h1 h2 (by omega) (by omega) (by omega), sn.eHv w (k := 3) h1 h2 (by omega) (by omega) (by omega)]
    exact ⟨hH.1, hH.2.1, hq.1, hq.2.1, hq.2.2, hH.2.2.2.2.2⟩
  · intro h k h1 h2 h3 h4
    rw [e2] at h2
    have hH := w.H h1 h2
    rw [sn.eHv w (k := 3) h1 h2 (by omega) (by omega) (by omega)] at h4
    rw [sn.eHv w (k := 4 + k) h1 h2 (by omega) (by omega) (by omega)]
    exact w.T h1 h2 h3 h4
  · intro h h1 h2 h3
    rw [e2] at h2
    unfold isP at h3
    rw [sn.eHv w (k := 2) h1 h2 (by omega) (by omega) (by omega), decide_eq_true_iff] at h3
    have hp := w.P h h1 h2 (by unfold isP; exact decide_eq_true h3)
    rw [sn.eHv w (k := 2) h1 h2 (by omega) (by omega) (by omega), sn.eHv w (k := 0) h1 h2 (by omega) (by omega) (by omega), sn.eHv w (k := 3) h1 h2 (by omega) (by omega) (by omega), sn.eAw]
    refine ⟨hP h h1 h2 h3, fun k k1 k2 => ?_⟩
    rw [sn.eAw]; exact hp.2 k k1 k2
  · intro a b a1 a2 b1 b2 hab pa pb
    rw [e2] at a2 b2
    unfold isP at pa pb
    rw [sn.eHv w (k := 2) a1 a2 (by omega) (by omega) (by omega), decide_eq_true_iff] at pa
    rw [sn.eHv w (k := 2) b1 b2 (by omega) (by omega) (by omega), decide_eq_true_iff] at pb
    rw [sn.eHv w (k := 2) a1 a2 (by omega) (by omega) (by omega), sn.eHv w (k := 2) b1 b2 (by omega) (by omega) (by omega), sn.eAg w a1 a2 b1 b2]
    exact hX a b a1 a2 b1 b2 hab pa pb
  · intro a b a1 a2 b1 b2 hab
    rw [e2] at a2 b2
    rw [sn.eHv w (k := 0) a1 a2 (by omega) (by omega) (by omega), sn.eHv w (k := 0) b1 b2 (by omega) (by omega) (by omega)] at hab
    exact w.U a b a1 a2 b1 b2 hab
theorem sn_X (w : wS S) (hr : ∀ h, 0 ≤ h → h < S 2 → isR S' h = isR S h) : ∀ a b, 0 ≤ a → a < S 2 → 0 ≤ b → b < S 2 → a ≠ b → hv S a 2 ≠ -1 → hv S b 2 ≠ -1 → ag S a (hv S a 2) (isR S' a) b (hv S b 2) (isR S' b) = false := by
  intro a b a1 a2 b1 b2 hab pa pb
  rw [hr a a1 a2, hr b b1 b2]
  exact w.X a b a1 a2 b1 b2 hab (by unfold isP; exact decide_eq_true pa) (by unfold isP; exact decide_eq_true pb)
theorem sn_P (w : wS S) (hl : ∀ c, 0 ≤ c → c < 144 → isL S' c = true → isL S c = true) : ∀ h, 0 ≤ h → h < S 2 → hv S h 2 ≠ -1 → isL S' (aw S (hv S h 0) ((hv S h 2 + 2) % 4) 1) = false := by
  intro h h1 h2 h3
  have hN := w.N
  have hp := w.P h h1 h2 (by unfold isP; exact decide_eq_true h3)
  have hA := g_aw w.1 (hv S h 0) ((hv S h 2 + 2) % 4) 1
  cases e : isL S' (aw S (hv S h 0) ((hv S h 2 + 2) % 4) 1)
  · rfl
  · have := hl _ (by have := isL_ne e; omega) (by omega) e
    rw [hp.1] at this; cases this
theorem sn_RA (w : wS S) (ra : RA lOn nOn land riv ord dir hom len let' stp S) (sn : SameN S S') (hl : aL land' S') (hr : aV riv' S') (ho : aO ord' S') (hj : aJ stp' S') : RA lOn nOn land' riv' ord' dir hom len let' stp' S' := by
  have e2 := sn.2.2.1
  refine ⟨fun c h1 h2 h3 => ?_, fun c h1 h2 => ?_, hl, hr, ho, fun c h1 h2 => ?_, fun c h1 h2 => ?_, fun c h1 h2 => ?_, fun c k h1 h2 h3 h4 => ?_, hj⟩
  · rw [sn.eNm w] at h3; rw [sn.eLAt w]; exact ra.letterOn c h1 h2 h3
  · rw [sn.eNm w]; exact ra.namesOn c h1 h2
  · rw [e2] at h2; rw [sn.eHv w (k := 2) h1 h2 (by omega) (by omega) (by omega)]; exact ra.direction c h1 h2
  · rw [e2] at h2; rw [sn.eHv w (k := 0) h1 h2 (by omega) (by omega) (by omega)]; exact ra.home c h1 h2
  · rw [e2] at h2; rw [sn.eHv w (k := 3) h1 h2 (by omega) (by omega) (by omega)]; exact ra.length c h1 h2
  · rw [e2] at h2
    have hH := w.H h1 h2
    rw [sn.eHv w (k := 3) h1 h2 (by omega) (by omega) (by omega)] at h4
    rw [sn.eHv w (k := 4 + k) h1 h2 (by omega) (by omega) (by omega)]; exact ra.letters c k h1 h2 h3 h4
end
def wr1 (S : Int → Int) (j v : Int) : Int → Int := fun k => if k = j then v else S k
theorem wr1_at (S : Int → Int) (j v : Int) : wr1 S j v j = v := if_pos rfl
theorem wr1_no {S : Int → Int} {j v k : Int} (h : k ≠ j) : wr1 S j v k = S k := if_neg h
theorem mS_wr {s : Nat → Int32} {S : Int → Int} (hs : mS s S) {j v : Int} (j1 : 0 ≤ j) : mS (upd s j.toNat (iI v)) (wr1 S j v) := by
  intro k k1 k2
  rw [upd_at]
  unfold wr1
  by_cases z : k = j
  · rw [if_pos (by omega), if_pos z]
  · rw [if_neg (by omega), if_neg z]; exact hs k k1 k2
theorem sn_wr {S : Int → Int} {j v : Int} (h : 2 < j ∧ j < 440 ∨ 536 ≤ j) : SameN S (wr1 S j v) := ⟨wr1_no (by omega), wr1_no (by omega), wr1_no (by omega), fun k k1 k2 _ => wr1_no (by omega)⟩
theorem SameN.tr {S T U : Int → Int} (a : SameN S T) (b : SameN T U) : SameN S U := ⟨b.1.trans a.1, b.2.1.trans a.2.1, b.2.2.1.trans a.2.2.1, fun j j1 j2 j3 => (b.2.2.2 j j1 j2 j3).trans (a.2.2.2 j j1 j2 j3)⟩
