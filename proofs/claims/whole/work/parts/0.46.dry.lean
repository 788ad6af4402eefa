def dvN (r x : Int) : Int := if x - 1 = r then 0 else if r < x - 1 then x - 1 else x
def dryS (S : Int → Int) (r : Int) : Int → Int := fun j => if j = 3 then S 3 - 1 else if 152 ≤ j ∧ j < 296 then dvN r (S j) else if 296 ≤ j ∧ j < 440 then (if S (j - 144) - 1 = r then 0 else S j) else S j
def dryI (S : Int → Int) (r i : Int) : Int → Int := fun j => if 152 ≤ j ∧ j < 152 + i then dvN r (S j) else if 296 ≤ j ∧ j < 296 + i then (if S (j - 144) - 1 = r then 0 else S j) else S j
def dryN (S : Int → Int) (r n : Int) : Int := su (fun c => if S (152 + c) - 1 = r then 1 else 0) n
theorem su_s {f : Int → Int} {i : Int} (h : 0 ≤ i) : su f (i + 1) = su f i + f i := by
  unfold su
  rw [show (i + 1).toNat = i.toNat + 1 by omega, fol_s, show ((i.toNat : Nat) : Int) = i by omega]
theorem cpF_k {n : Nat} {f g y : Nat → Int32} (h : f n = y n) : cpF n f y = cpF (n + 1) f y := by
  rw [← cpF_s]
  funext j
  rw [upd_at]
  by_cases z : j = n
  · rw [if_pos z, z, h]; unfold cpF; rw [if_neg (by omega)]
  · rw [if_neg z]
section
variable {s : Nat → Int32} {S S' : Int → Int} {land riv hom dir len let' nOn lOn stp ord stp' : Nat → Int32} {th acts a' : Int32} {past p' : Nat → Int32}
theorem dry_lo {r j : Int} (h : j < 152) (h3 : j ≠ 3) : dryS S r j = S j := by unfold dryS; rw [if_neg h3, if_neg (by omega), if_neg (by omega)]
theorem dry_hi {r j : Int} (h : 440 ≤ j) : dryS S r j = S j := by unfold dryS; rw [if_neg (by omega), if_neg (by omega), if_neg (by omega)]
theorem dry_sn (r : Int) : SameN S (dryS S r) := ⟨dry_lo (by omega) (by omega), dry_lo (by omega) (by omega), dry_lo (by omega) (by omega), fun j j1 j2 _ => dry_hi j1⟩
theorem dry_V {r c : Int} (c1 : 0 ≤ c) (c2 : c < 144) : dryS S r (152 + c) = dvN r (S (152 + c)) := by unfold dryS; rw [if_neg (by omega), if_pos (by omega)]
theorem dry_O {r c : Int} (c1 : 0 ≤ c) (c2 : c < 144) : dryS S r (296 + c) = if S (152 + c) - 1 = r then 0 else S (296 + c) := by
  unfold dryS; rw [if_neg (by omega), if_neg (by omega), if_pos (by omega), show 296 + c - 144 = 152 + c by omega]
theorem dry_wS (w : wS S) {r : Int} (r1 : 0 ≤ r) (r2 : r < S 3) : wS (dryS S r) := by
  have hC := w.C
  have e3 : dryS S r 3 = S 3 - 1 := by unfold dryS; rw [if_pos rfl]
  refine sn_wS w (dry_sn r) ?_ (fun c c1 c2 => ?_) (fun c c1 c2 => ?_) (fun k k1 k2 => ?_) (fun h a1 a2 => ?_) (sn_P w (fun c c0 c1 c2 => ?_)) (sn_X w (fun h a1 a2 => ?_))
  · unfold gC
    rw [e3, dry_lo (by omega) (by omega), dry_lo (by omega) (by omega), dry_lo (by omega) (by omega), dry_lo (by omega) (by omega), dry_lo (by omega) (by omega)]
    omega
  · rw [dry_lo (by omega) (by omega), dry_lo (by omega) (by omega), dry_lo (by omega) (by omega)]; exact w.L c1 c2
  · have hR := w.R c1 c2
    rw [e3, dry_V c1 c2, dry_O c1 c2, dry_lo (by omega) (by omega), dry_lo (by omega) (by omega)]
    unfold dvN
    refine ⟨?_, ?_, fun h => ?_, ?_, ?_⟩
    · split
      · omega
      · split <;> omega
    · split
      · omega
      · split <;> omega
    · rw [hR.2.2.1 h, if_neg (by omega), if_neg (by omega)]
    · split <;> omega
    · split <;> omega
  · rw [dry_lo (by omega) (by omega)] at k2
    rw [dry_hi (by omega), dry_lo (by omega) (by omega)]; exact w.V k1 k2
  · have hN := w.N
    have hH := w.H a1 a2
    rw [show isL (dryS S r) (hv S h 0) = isL S (hv S h 0) from by unfold isL; rw [dry_lo (by omega) (by omega)], show hv (dryS S r) h 1 = hv S h 1 from dry_hi (by omega)]
    exact ⟨hH.2.2.1, hH.2.2.2.1, hH.2.2.2.2.1⟩
  · unfold isL at c2 ⊢; rw [dry_lo (by omega) (by omega)] at c2; exact c2
  · unfold isR hv; rw [dry_hi (by omega)]
def nvR (S : Int → Int) (r : Int) : Nat → Int32 := fun j => iI (dvN r (S (152 + (j : Int))) - 1)
def nvO (S : Int → Int) (r : Int) (y : Nat → Int32) : Nat → Int32 := fun j => if S (152 + (j : Int)) - 1 = r then iI (-1) else y j
theorem dry_RA (w : wS S) (ra : RA lOn nOn land riv ord dir hom len let' stp S) {r : Int} (r1 : 0 ≤ r) : RA lOn nOn land (cpF 144 (nvR S r) riv) (cpF 144 (nvO S r ord) ord) dir hom len let' stp (dryS S r) := by
  refine sn_RA w ra (dry_sn r) (fun c c1 c2 => ?_) (fun c c1 c2 => ?_) (fun c c1 c2 c3 => ?_) (fun c c1 c2 => ?_)
  · rw [dry_lo (by omega) (by omega)]; exact ra.land c c1 c2
  · rw [cpF_at c1 (by omega), dry_V c1 c2]
    unfold nvR
    rw [show ((c.toNat : Nat) : Int) = c by omega]
  · rw [dry_V c1 c2] at c3
    rw [cpF_at c1 (by omega), dry_O c1 c2]
    unfold nvO
    rw [show ((c.toNat : Nat) : Int) = c by omega]
    by_cases z : S (152 + c) - 1 = r
    · unfold dvN at c3; rw [if_pos z] at c3; exact absurd rfl c3
    · rw [if_neg z, if_neg z]
      refine ra.riverPlace c c1 c2 (fun q => c3 ?_)
      rw [q]; unfold dvN; rw [if_neg (by omega), if_neg (by omega)]
  · rw [dry_lo (by omega) (by omega)] at c2; rw [dry_hi (by omega)]; exact ra.stops c c1 c2
theorem dryN_rg (r : Int) {n : Int} (h : 0 ≤ n) : 0 ≤ dryN S r n ∧ dryN S r n ≤ n := by
  have := su_rg (f := fun c => if S (152 + c) - 1 = r then 1 else 0) (n := n) (lo := 0) (hi := 1) h (fun k h1 h2 => by split <;> omega)
  unfold dryN; omega
theorem x_dry (w : wS S) (hr : aV riv S) {r : Int} (r1 : 0 ≤ r) (r2 : r < S 3) : f_X1_dryRiver (iI (S 3)) riv ord (iI r) = some (iI (dryN S r (S 0 * S 1)), iI (S 3 - 1), cpF 144 (nvR S r) riv, cpF 144 (nvO S r ord) ord) := by
  have hC := w.C
  have hN := w.N
  have e : dryN S r (S 0 * S 1) = dryN S r 144 := (su_ext (by omega) hN.2 (fun k k1 k2 => by rw [(w.R (c := k) (by omega) k2).2.2.1 k1]; rw [if_neg (by omega)])).symm
  rw [e]
  unfold f_X1_dryRiver
  simp only [pc_bv]
  refine pc_b3t (x0 := iI (dryN S r 144)) (x1 := cpF 144 (nvR S r) riv) (x2 := cpF 144 (nvO S r ord) ord) (pc_run4 (fun k : Nat => iI (dryN S r k)) (fun k : Nat => iI k) (fun k => cpF k (nvR S r) riv) (fun k => cpF k (nvO S r ord) ord) 144 rfl rfl (cpF_0 _ _) (cpF_0 _ _) (fun k hk => ?_) ?_) ?_
  · have hR := w.R (c := (k : Int)) (by omega) (by omega)
    have hn := dryN_rg (S := S) r (n := (k : Int)) (by omega)
    have ek : dryN S r ((k + 1 : Nat) : Int) = dryN S r k + if S (152 + (k : Int)) - 1 = r then 1 else 0 := by
      rw [show ((k + 1 : Nat) : Int) = (k : Int) + 1 by omega]; exact su_s (by omega)
    have e1 : cpF k (nvR S r) riv k = iI (S (152 + (k : Int)) - 1) := by
      unfold cpF; rw [if_neg (by omega)]
      have := hr k (by omega) (by omega)
      rw [show ((k : Int)).toNat = k by omega] at this; exact this
    have z : ¬ (144 : Int) ≤ k := by omega
    have e2 : (k : Int) + 1 = ((k + 1 : Nat) : Int) := by omega
    have f1 : nvR S r k = iI (dvN r (S (152 + (k : Int))) - 1) := rfl
    have f2 : nvO S r ord k = if S (152 + (k : Int)) - 1 = r then iI (-1) else ord k := rfl
    by_cases y : S (152 + (k : Int)) - 1 = r
    · have g1 : nvR S r k = iI (-1) := by rw [f1]; unfold dvN; rw [if_pos y]; rfl
      have g2 : nvO S r ord k = iI (-1) := by rw [f2, if_pos y]
      rw [← cpF_s, ← cpF_s, g1, g2]
      simp (disch := omega) only [-Int.reduceToNat, pc_ite, if_true, if_false, pc_bv, pc_lit, pc_neg, pc_add, pc_sub, pc_mul, pc_mr, pc_ar, pc_dv, pc_lt, pc_le, pc_eq, pc_nat, pc_div, pc_emod, pc_ifz, pc_ifo, pc_zb, pd_1, pd_2, pd_3, pd_4, pd_5, pd_6, pd_7, pd_8, pd_9, pd_10, pd_11, pd_12, pd_13, pd_14, pd_15, pd_16, pd_17, pd_19, pd_21, pd_22, pd_30, pd_34, pd_57, z, e1, y, ek, e2, Int.toNat_natCast]
    · have g2 : nvO S r ord k = ord k := by rw [f2, if_neg y]
      rw [← cpF_k (g := ord) (y := ord) g2]
      by_cases x : S (152 + (k : Int)) - 1 ≤ r
      · have g1 : nvR S r k = riv k := by
          rw [f1]; unfold dvN; rw [if_neg y, if_neg (by omega)]
          have := hr k (by omega) (by omega)
          rw [show ((k : Int)).toNat = k by omega] at this; exact this.symm
        rw [← cpF_k (g := riv) (y := riv) g1]
        simp (disch := omega) only [-Int.reduceToNat, pc_ite, if_true, if_false, pc_bv, pc_lit, pc_neg, pc_add, pc_sub, pc_mul, pc_mr, pc_ar, pc_dv, pc_lt, pc_le, pc_eq, pc_nat, pc_div, pc_emod, pc_ifz, pc_ifo, pc_zb, pd_1, pd_2, pd_3, pd_4, pd_5, pd_6, pd_7, pd_8, pd_9, pd_10, pd_11, pd_12, pd_13, pd_14, pd_15, pd_16, pd_17, pd_19, pd_21, pd_22, pd_30, pd_34, pd_57, z, e1, y, x, ek, e2, Int.toNat_natCast, Int.add_zero]
      · have g1 : nvR S r k = iI (S (152 + (k : Int)) - 1 - 1) := by
          rw [f1]; unfold dvN; rw [if_neg y, if_pos (by omega)]
        rw [← cpF_s, g1]
        simp (disch := omega) only [-Int.reduceToNat, pc_ite, if_true, if_false, pc_bv, pc_lit, pc_neg, pc_add, pc_sub, pc_mul, pc_mr, pc_ar, pc_dv, pc_lt, pc_le, pc_eq, pc_nat, pc_div, pc_emod, pc_ifz, pc_ifo, pc_zb, pd_1, pd_2, pd_3, pd_4, pd_5, pd_6, pd_7, pd_8, pd_9, pd_10, pd_11, pd_12, pd_13, pd_14, pd_15, pd_16, pd_17, pd_19, pd_21, pd_22, pd_30, pd_34, pd_57, z, e1, y, x, ek, e2, Int.toNat_natCast, Int.add_zero]
  · simp (disch := omega) only [-Int.reduceToNat, pc_ite, if_true, if_false, pc_bv, pc_lit, pc_neg, pc_add, pc_sub, pc_mul, pc_mr, pc_ar, pc_dv, pc_lt, pc_le, pc_eq, pc_nat, pc_div, pc_emod, pc_ifz, pc_ifo, pc_zb, pd_1, pd_2, pd_3, pd_4, pd_5, pd_6, pd_7, pd_8, pd_9, pd_10, pd_11, pd_12, pd_13, pd_14, pd_15, pd_16, pd_17, pd_19, pd_21, pd_22, pd_30, pd_34, pd_57, if_pos]
    rfl
  · simp (disch := omega) only [-Int.reduceToNat, pc_ite, if_true, if_false, pc_bv, pc_lit, pc_neg, pc_add, pc_sub, pc_mul, pc_mr, pc_ar, pc_dv, pc_lt, pc_le, pc_eq, pc_nat, pc_div, pc_emod, pc_ifz, pc_ifo, pc_zb, pd_1, pd_2, pd_3, pd_4, pd_5, pd_6, pd_7, pd_8, pd_9, pd_10, pd_11, pd_12, pd_13, pd_14, pd_15, pd_16, pd_17, pd_19, pd_21, pd_22, pd_30, pd_34, pd_57]
theorem dryI_at {r i k : Int} (h1 : 0 ≤ i) (h2 : i < 144) : dryI S r (i + 1) k = wr1 (wr1 (dryI S r i) (152 + i) (dvN r (S (152 + i)))) (296 + i) (if S (152 + i) - 1 = r then 0 else S (296 + i)) k := by
  unfold wr1
  by_cases a : k = 296 + i
  · rw [if_pos a, a]
    unfold dryI
    rw [if_neg (by omega), if_pos (by omega), show 296 + i - 144 = 152 + i by omega]
  · rw [if_neg a]
    by_cases b : k = 152 + i
    · rw [if_pos b, b]
      unfold dryI
      rw [if_pos (by omega)]
    · rw [if_neg b]
      unfold dryI
      by_cases c : 152 ≤ k ∧ k < 152 + i
      · rw [if_pos (by omega), if_pos c]
      · rw [if_neg (by omega), if_neg c]
        by_cases d : 296 ≤ k ∧ k < 296 + i
        · rw [if_pos (by omega), if_pos d]
        · rw [if_neg (by omega), if_neg d]
theorem m_dry (hs : mS s S) (w : wS S) {r : Int} (r1 : 0 ≤ r) (r2 : r < S 3) (hk : f_X9_keeps acts past s = some (a', p')) : ∃ s', f_X9_dropRiver acts th past s (iI r) = some (iI (dryN S r (S 0 * S 1)), a', iI 0, p', s') ∧ mS s' (dryS S r) := by
  have hC := w.C
  have hN := w.N
  have n1 : 0 ≤ r ∧ r ≤ S 3 - 1 := by omega
  have i1 : f_X9_mayRiver th s (iI r) = some (zB true, iI 0) := by rw [m_mayR hs w (by omega) (by omega), decide_eq_true n1, if_pos n1]
  have F : ∃ x, ∀ (k : Int32 → (Nat → Int32) → Option (Int32 × Int32 × Int32 × (Nat → Int32) × (Nat → Int32))), True := ⟨0, fun _ => trivial⟩
  unfold f_X9_dropRiver
  simp only [pc_bv]
  rw [i1, pd_2, if_neg (by decide), hk, pd_2]
  have fin : ∀ b, mS b (dryI S r (S 0 * S 1)) → mS (upd b (3 : Int).toNat (iI (S 3 - 1))) (dryS S r) := by
    intro b hb k k1 k2
    rw [mS_wr hb (by omega) k k1 k2]
    congr 1
    unfold wr1 dryS
    by_cases z : k = 3
    · rw [if_pos z, if_pos z]
    · rw [if_neg z, if_neg z]
      unfold dryI
      by_cases c : 152 ≤ k ∧ k < 296
      · rw [if_pos c]
        by_cases c2 : k < 152 + S 0 * S 1
        · rw [if_pos (by omega)]
        · rw [if_neg (by omega), if_neg (by omega)]
          have := (w.R (c := k - 152) (by omega) (by omega)).2.2.1 (by omega)
          rw [show 152 + (k - 152) = k by omega] at this
          rw [this]; unfold dvN; rw [if_neg (by omega), if_neg (by omega)]
      · rw [if_neg c, if_neg (by omega)]
        by_cases d : 296 ≤ k ∧ k < 440
        · rw [if_pos d]
          by_cases d2 : k < 296 + S 0 * S 1
          · rw [if_pos (by omega)]
          · rw [if_neg (by omega)]
            have := (w.R (c := k - 296) (by omega) (by omega)).2.2.1 (by omega)
            rw [show 152 + (k - 296) = k - 144 by omega] at this
            rw [this, if_neg (by omega)]
        · rw [if_neg d, if_neg (by omega)]
  have L := pc_im3 (f := fun v2 v3 y2_s_1 => bd1 (f_X9_cells y2_s_1) fun r20 => if r20 ≤ v3 then some (Sum.inr (v2, y2_s_1)) else bd1 (f_X9_riverAt y2_s_1 v3) fun r28 => if r28 = iI r then ar (152 + v3) 552 (ar (296 + v3) 552 (some (Sum.inl (v2 + 1, v3 + 1, upd (upd y2_s_1 (152 + v3).toNatClampNeg 0) (296 + v3).toNatClampNeg 0)))) else if r28 ≤ iI r then ar (152 + v3) 552 (ar (296 + v3) 552 (ar (296 + v3) 552 (some (Sum.inl (v2 + 0, v3 + 1, upd (upd y2_s_1 (152 + v3).toNatClampNeg (r28 + 1)) (296 + v3).toNatClampNeg (upd y2_s_1 (152 + v3).toNatClampNeg (r28 + 1) (296 + v3).toNatClampNeg)))))) else ar (152 + v3) 552 (ar (296 + v3) 552 (ar (296 + v3) 552 (some (Sum.inl (v2 + 0, v3 + 1, upd (upd y2_s_1 (152 + v3).toNatClampNeg r28) (296 + v3).toNatClampNeg (upd y2_s_1 (152 + v3).toNatClampNeg r28 (296 + v3).toNatClampNeg))))))) (fun i x b => x = iI (dryN S r i) ∧ mS b (dryI S r i)) (fun q => q.1 = iI (dryN S r (S 0 * S 1)) ∧ mS q.2 (dryI S r (S 0 * S 1))) (S 0 * S 1) (by omega) (by omega) (x0 := iI 0) (x1 := s) (c := iI 0) rfl ⟨rfl, ?_⟩ (fun i x b a1 a2 hp => ?_) (fun x b hp => ?_)
  · obtain ⟨⟨q1, q2⟩, l1, l2, l3⟩ := L
    refine ⟨upd q2 (3 : Int).toNat (iI (S 3 - 1)), ?_, fin q2 l3⟩
    have e3 : q2 (3 : Int).toNat = iI (S 3) := by
      rw [show q2 (3 : Int).toNat = iI (dryI S r (S 0 * S 1) 3) from l3 3 (by omega) (by omega)]; unfold dryI; rw [if_neg (by omega), if_neg (by omega)]
    refine pc_b2t (x0 := q1) (x1 := q2) ?_ ?_
    · refine Eq.trans ?_ l1
      congr 1
      funext v2 v3 y
      congr 1
      funext r20
      split
      · rfl
      · congr 1
        funext r28
        by_cases h1 : r28 = iI r
        · simp only [h1, if_true]
        · simp only [h1, if_false]
    · simp only at l2
      rw [l2]
      simp (disch := omega) only [-Int.reduceToNat, pc_ite, if_true, if_false, pc_bv, pc_lit, pc_neg, pc_add, pc_sub, pc_mul, pc_mr, pc_ar, pc_dv, pc_lt, pc_le, pc_eq, pc_nat, pc_div, pc_emod, pc_ifz, pc_ifo, pc_zb, pd_1, pd_2, pd_3, pd_4, pd_5, pd_6, pd_7, pd_8, pd_9, pd_10, pd_11, pd_12, pd_13, pd_14, pd_15, pd_16, pd_17, pd_19, pd_21, pd_22, pd_30, pd_34, pd_57, e3]
  · have : dryI S r 0 = S := by
      funext k; unfold dryI; rw [if_neg (by omega), if_neg (by omega)]
    rw [this]; exact hs
  · obtain ⟨hx, hb⟩ := hp
    subst hx
    have hR := w.R (c := i) a1 (by omega)
    have hn := dryN_rg (S := S) r (n := i) a1
    have ek : dryN S r (i + 1) = dryN S r i + if S (152 + i) - 1 = r then 1 else 0 := su_s a1
    have d0 : dryI S r i 0 = S 0 := by unfold dryI; rw [if_neg (by omega), if_neg (by omega)]
    have d1 : dryI S r i 1 = S 1 := by unfold dryI; rw [if_neg (by omega), if_neg (by omega)]
    have dv : dryI S r i (152 + i) = S (152 + i) := by unfold dryI; rw [if_neg (by omega), if_neg (by omega)]
    have do' : dryI S r i (296 + i) = S (296 + i) := by unfold dryI; rw [if_neg (by omega), if_neg (by omega)]
    have mc := m_cells hb
    rw [d0, d1] at mc
    have mr := m_riverAt hb (c := i) a1 (by omega)
    rw [dv] at mr
    have h1 := mS_wr (v := dvN r (S (152 + i))) hb (by omega : 0 ≤ 152 + i)
    have h2 := mS_wr (v := if S (152 + i) - 1 = r then 0 else S (296 + i)) h1 (by omega : 0 ≤ 296 + i)
    refine ⟨iI (dryN S r (i + 1)), _, ?_, rfl, fun k k1 k2 => (h2 k k1 k2).trans (by rw [dryI_at a1 (by omega)])⟩
    have eo : ∀ x, upd b (152 + i).toNat x (296 + i).toNat = iI (S (296 + i)) := by
      intro x
      rw [upd_at, if_neg (by omega), hb _ (by omega) (by omega), do']
    by_cases y : S (152 + i) - 1 = r
    · have g : dvN r (S (152 + i)) = 0 := by unfold dvN; rw [if_pos y]
      rw [ek, g]
      simp (disch := omega) only [-Int.reduceToNat, pc_ite, if_true, if_false, pc_bv, pc_lit, pc_neg, pc_add, pc_sub, pc_mul, pc_mr, pc_ar, pc_dv, pc_lt, pc_le, pc_eq, pc_nat, pc_div, pc_emod, pc_ifz, pc_ifo, pc_zb, pd_1, pd_2, pd_3, pd_4, pd_5, pd_6, pd_7, pd_8, pd_9, pd_10, pd_11, pd_12, pd_13, pd_14, pd_15, pd_16, pd_17, pd_19, pd_21, pd_22, pd_30, pd_34, pd_57, mc, mr, if_neg, y]
    · by_cases x : S (152 + i) - 1 ≤ r
      · have g : dvN r (S (152 + i)) = S (152 + i) := by unfold dvN; rw [if_neg y, if_neg (by omega)]
        have g2 : S (152 + i) - 1 + 1 = S (152 + i) := by omega
        rw [ek, g]
        simp (disch := omega) only [-Int.reduceToNat, pc_ite, if_true, if_false, pc_bv, pc_lit, pc_neg, pc_add, pc_sub, pc_mul, pc_mr, pc_ar, pc_dv, pc_lt, pc_le, pc_eq, pc_nat, pc_div, pc_emod, pc_ifz, pc_ifo, pc_zb, pd_1, pd_2, pd_3, pd_4, pd_5, pd_6, pd_7, pd_8, pd_9, pd_10, pd_11, pd_12, pd_13, pd_14, pd_15, pd_16, pd_17, pd_19, pd_21, pd_22, pd_30, pd_34, pd_57, mc, mr, if_neg, y, x, eo, g2, Int.add_zero]
      · have g : dvN r (S (152 + i)) = S (152 + i) - 1 := by unfold dvN; rw [if_neg y, if_pos (by omega)]
        rw [ek, g]
        simp (disch := omega) only [-Int.reduceToNat, pc_ite, if_true, if_false, pc_bv, pc_lit, pc_neg, pc_add, pc_sub, pc_mul, pc_mr, pc_ar, pc_dv, pc_lt, pc_le, pc_eq, pc_nat, pc_div, pc_emod, pc_ifz, pc_ifo, pc_zb, pd_1, pd_2, pd_3, pd_4, pd_5, pd_6, pd_7, pd_8, pd_9, pd_10, pd_11, pd_12, pd_13, pd_14, pd_15, pd_16, pd_17, pd_19, pd_21, pd_22, pd_30, pd_34, pd_57, mc, mr, if_neg, y, x, eo, Int.add_zero]
  · obtain ⟨hx, hb⟩ := hp
    have d0 : dryI S r (S 0 * S 1) 0 = S 0 := by unfold dryI; rw [if_neg (by omega), if_neg (by omega)]
    have d1 : dryI S r (S 0 * S 1) 1 = S 1 := by unfold dryI; rw [if_neg (by omega), if_neg (by omega)]
    have mc := m_cells hb
    rw [d0, d1] at mc
    refine ⟨(x, b), ?_, hx, hb⟩
    simp (disch := omega) only [-Int.reduceToNat, pc_ite, if_true, if_false, pc_bv, pc_lit, pc_neg, pc_add, pc_sub, pc_mul, pc_mr, pc_ar, pc_dv, pc_lt, pc_le, pc_eq, pc_nat, pc_div, pc_emod, pc_ifz, pc_ifo, pc_zb, pd_1, pd_2, pd_3, pd_4, pd_5, pd_6, pd_7, pd_8, pd_9, pd_10, pd_11, pd_12, pd_13, pd_14, pd_15, pd_16, pd_17, pd_19, pd_21, pd_22, pd_30, pd_34, pd_57, mc, if_pos]
end
