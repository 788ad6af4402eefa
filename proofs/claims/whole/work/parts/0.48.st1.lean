def cst (S : Int → Int) (v : Int) : Int := if nm S v = iI 0 then 1 else 11
def invM (S M : Int → Int) : Prop := ∀ v, 0 ≤ v → v < S 0 * S 1 → 1 ≤ M v ∧ M v ≤ 1000000 ∧ (cB S v = false → M v = 1000000) ∧ (cB S v = true → eB S v = true → M v = cst S v) ∧ (cB S v = true → eB S v = false → M v = 1000000 ∨ ∃ w, 0 ≤ w ∧ w < 4 ∧ aw S v w 1 ≠ -1 ∧ M (aw S v w 1) < 1000000 ∧ M (aw S v w 1) + cst S v ≤ M v)
def fixV (S M : Int → Int) (v : Int) : Prop := cB S v = true → eB S v = false → ∀ w, 0 ≤ w → w < 4 → aw S v w 1 ≠ -1 → M (aw S v w 1) < 1000000 → M v ≤ M (aw S v w 1) + cst S v
def solM (S M : Int → Int) : Prop := invM S M ∧ ∀ v, 0 ≤ v → v < S 0 * S 1 → fixV S M v
def rk (S M : Int → Int) (v : Int) : Int := su (fun u => if M u < M v then 1 else 0) (S 0 * S 1)
def lst (S M : Int → Int) (v : Int) (n : Nat) : Int := fol (fun w b => if aw S v w 1 = -1 then b else if M (aw S v w 1) < b then M (aw S v w 1) else b) 1000000 n
def smM (S M : Int → Int) (v : Int) : Int := if lst S M v 4 = 1000000 then 1000000 else lst S M v 4 + cst S v
theorem cst_rg (S : Int → Int) (v : Int) : cst S v = 1 ∨ cst S v = 11 := by unfold cst; split <;> omega
theorem su_le {f g : Int → Int} : ∀ n : Nat, (∀ k, 0 ≤ k → k < (n : Int) → f k ≤ g k) → su f n ≤ su g n := by
  intro n
  induction n with
  | zero => intro _; exact Int.le_refl _
  | succ n ih =>
    intro h
    have := ih (fun k h1 h2 => h k h1 (by omega))
    have h2 := h n (by omega) (by omega)
    rw [show ((n + 1 : Nat) : Int) = (n : Int) + 1 by omega, su_s (by omega), su_s (by omega)]
    omega
theorem su_lt {f g : Int → Int} {k0 : Int} : ∀ n : Nat, (∀ k, 0 ≤ k → k < (n : Int) → f k ≤ g k) → 0 ≤ k0 → k0 < (n : Int) → f k0 < g k0 → su f n < su g n := by
  intro n
  induction n with
  | zero => intro _ h1 h2; omega
  | succ n ih =>
    intro h h1 h2 h3
    have hn := h n (by omega) (by omega)
    rw [show ((n + 1 : Nat) : Int) = (n : Int) + 1 by omega, su_s (by omega), su_s (by omega)]
    by_cases z : k0 = n
    · have := su_le (f := f) (g := g) n (fun k a b => h k a (by omega))
      rw [z] at h3; omega
    · have := ih (fun k a b => h k a (by omega)) h1 (by omega) h3
      omega
section
variable {s : Nat → Int32} {S M : Int → Int}
theorem rk_lt (w : wS S) {u v : Int} (u1 : 0 ≤ u) (u2 : u < S 0 * S 1) (h : M u < M v) : rk S M u < rk S M v := by
  have hN := w.N
  have := su_lt (f := fun x => if M x < M u then 1 else 0) (g := fun x => if M x < M v then 1 else 0) (k0 := u) (S 0 * S 1).toNat (fun k _ _ => by split <;> split <;> omega) u1 (by omega) (by
    show (if M u < M u then (1 : Int) else 0) < if M u < M v then 1 else 0
    rw [if_neg (by omega), if_pos h]; omega)
  rw [show (((S 0 * S 1).toNat : Nat) : Int) = S 0 * S 1 by omega] at this
  exact this
theorem rk_rg (w : wS S) {v : Int} (v1 : 0 ≤ v) (v2 : v < S 0 * S 1) : 0 ≤ rk S M v ∧ rk S M v < S 0 * S 1 := by
  have hN := w.N
  constructor
  · have := su_rg (f := fun x => if M x < M v then 1 else 0) (n := S 0 * S 1) (lo := 0) (hi := 1) (by omega) (fun k _ _ => by split <;> omega)
    unfold rk; omega
  · have := su_lt (f := fun x => if M x < M v then 1 else 0) (g := fun _ => 1) (k0 := v) (S 0 * S 1).toNat (fun k _ _ => by split <;> omega) v1 (by omega) (by
      show (if M v < M v then (1 : Int) else 0) < 1
      rw [if_neg (by omega)]; omega)
    rw [show (((S 0 * S 1).toNat : Nat) : Int) = S 0 * S 1 by omega] at this
    have e := su_rg (f := fun _ => 1) (n := S 0 * S 1) (lo := 1) (hi := 1) (by omega) (fun k _ _ => by omega)
    unfold rk; omega
theorem aw_in (w : wS S) {v x : Int} (hn : aw S v x 1 ≠ -1) : 0 ≤ aw S v x 1 ∧ aw S v x 1 < S 0 * S 1 := by
  have := g_aw w.1 v x 1
  omega
theorem M_small (w : wS S) (hs : solM S M) : ∀ n : Nat, ∀ v, 0 ≤ v → v < S 0 * S 1 → rk S M v < n → M v < 1000000 → M v ≤ 11 * (rk S M v + 1) := by
  intro n
  induction n with
  | zero => intro v v1 v2 hr hf; have := (rk_rg (M := M) w v1 v2).1; omega
  | succ n ih =>
    intro v v1 v2 hr hf
    obtain ⟨a1, a2, a3, a4, a5⟩ := hs.1 v v1 v2
    have hc := cst_rg S v
    have hr0 := (rk_rg (M := M) w v1 v2).1
    cases e1 : cB S v
    · have := a3 e1; omega
    · cases e2 : eB S v
      · rcases a5 e1 e2 with q | ⟨x, x1, x2, x3, x4, x5⟩
        · omega
        · have hA := aw_in w x3
          have h1 := rk_lt (M := M) w hA.1 hA.2 (v := v) (by omega)
          have h2 := ih _ hA.1 hA.2 (by omega) x4
          have h3 := hs.2 v v1 v2 e1 e2 x x1 x2 x3 x4
          omega
      · rw [a4 e1 e2]; omega
theorem M_sm (w : wS S) (hs : solM S M) {v : Int} (v1 : 0 ≤ v) (v2 : v < S 0 * S 1) : M v = 1000000 ∨ M v ≤ 1584 := by
  have hN := w.N
  have hr := rk_rg (M := M) w v1 v2
  have ha := hs.1 v v1 v2
  by_cases z : M v < 1000000
  · have := M_small w hs 145 v v1 v2 (by omega) z
    omega
  · omega
theorem lst_c (w : wS S) (v : Int) : ∀ n : Nat, n ≤ 4 → lst S M v n ≤ 1000000 ∧ (∀ x, 0 ≤ x → x < (n : Int) → aw S v x 1 ≠ -1 → lst S M v n ≤ M (aw S v x 1)) ∧ (lst S M v n = 1000000 ∨ ∃ x, 0 ≤ x ∧ x < (n : Int) ∧ aw S v x 1 ≠ -1 ∧ lst S M v n = M (aw S v x 1)) := by
  intro n
  induction n with
  | zero => intro _; exact ⟨Int.le_refl _, fun x h1 h2 => by omega, .inl rfl⟩
  | succ n ih =>
    intro hn
    obtain ⟨a, b, c⟩ := ih (by omega)
    unfold lst at a b c ⊢
    rw [fol_s]
    generalize fol (fun w b => if aw S v w 1 = -1 then b else if M (aw S v w 1) < b then M (aw S v w 1) else b) 1000000 n = t at a b c ⊢
    have up : ∀ t', t' ≤ t → (t' = t ∨ (aw S v n 1 ≠ -1 ∧ t' = M (aw S v n 1))) → (aw S v n 1 ≠ -1 → t' ≤ M (aw S v n 1)) → t' ≤ 1000000 ∧ (∀ x, 0 ≤ x → x < ((n + 1 : Nat) : Int) → aw S v x 1 ≠ -1 → t' ≤ M (aw S v x 1)) ∧ (t' = 1000000 ∨ ∃ x, 0 ≤ x ∧ x < ((n + 1 : Nat) : Int) ∧ aw S v x 1 ≠ -1 ∧ t' = M (aw S v x 1)) := by
      intro t' h1 h2 h3
      refine ⟨by omega, fun x x1 x2 x3 => ?_, ?_⟩
      · by_cases z : x = n
        · subst z; exact h3 x3
        · have := b x x1 (by omega) x3; omega
      · rcases h2 with rfl | ⟨q1, q2⟩
        · rcases c with q | ⟨x, x1, x2, x3, x4⟩
          · exact .inl q
          · exact .inr ⟨x, x1, by omega, x3, x4⟩
        · exact .inr ⟨n, by omega, by omega, q1, q2⟩
    by_cases z : aw S v n 1 = -1
    · rw [if_pos z]; exact up t (Int.le_refl _) (.inl rfl) (fun q => absurd z q)
    · rw [if_neg z]
      by_cases y : M (aw S v n 1) < t
      · rw [if_pos y]; exact up _ (by omega) (.inr ⟨z, rfl⟩) (fun _ => Int.le_refl _)
      · rw [if_neg y]; exact up t (Int.le_refl _) (.inl rfl) (fun _ => by omega)
def yM (S M : Int → Int) (y : Nat → Int32) : Prop := ∀ c, 0 ≤ c → c < S 0 * S 1 → y c.toNat = iI (M c)
theorem yM_up {y : Nat → Int32} {v x : Int} (h : yM S M y) (v1 : 0 ≤ v) : yM S (wr1 M v x) (upd y v.toNat (iI x)) := by
  intro c c1 c2
  rw [upd_at]
  unfold wr1
  by_cases z : c = v
  · rw [if_pos (by omega), if_pos z]
  · rw [if_neg (by omega), if_neg z]; exact h c c1 c2
theorem inv_up (w : wS S) (h : invM S M) {v : Int} (v1 : 0 ≤ v) (v2 : v < S 0 * S 1) (e1 : cB S v = true) (e2 : eB S v = false) : invM S (wr1 M v (if M v < smM S M v then M v else smM S M v)) ∧ (∀ u, wr1 M v (if M v < smM S M v then M v else smM S M v) u ≤ M u) ∧ (¬ smM S M v < M v → fixV S M v) := by
  have hl := lst_c (M := M) w v 4 (by omega)
  have hc := cst_rg S v
  have hv := h v v1 v2
  have hs : smM S M v = 1000000 ∧ lst S M v 4 = 1000000 ∨ (lst S M v 4 < 1000000 ∧ smM S M v = lst S M v 4 + cst S v) := by
    unfold smM
    by_cases z : lst S M v 4 = 1000000
    · rw [if_pos z]; exact .inl ⟨rfl, z⟩
    · rw [if_neg z]; exact .inr ⟨by omega, rfl⟩
  have hle : (if M v < smM S M v then M v else smM S M v) ≤ M v := by split <;> omega
  refine ⟨fun u u1 u2 => ?_, fun u => ?_, fun hn _ _ x x1 x2 x3 x4 => ?_⟩
  · by_cases z : u = v
    · subst z
      rw [wr1_at]
      obtain ⟨a1, a2, a3, a4, a5⟩ := hv
      refine ⟨?_, by omega, fun q => (by rw [e1] at q; cases q), fun _ q => (by rw [e2] at q; cases q), fun _ _ => ?_⟩
      · split
        · omega
        · rcases hs with q | ⟨q1, q2⟩
          · omega
          · rcases hl.2.2 with r | ⟨x, x1, x2, x3, x4⟩
            · omega
            · have hA := aw_in w x3
              have := (h _ hA.1 hA.2).1
              omega
      · by_cases y : M u < smM S M u
        · rw [if_pos y]
          rcases a5 e1 e2 with q | ⟨x, x1, x2, x3, x4, x5⟩
          · exact .inl q
          · refine .inr ⟨x, x1, x2, x3, ?_⟩
            have hne : aw S u x 1 ≠ u := by intro q; rw [q] at x5; omega
            rw [wr1_no hne]; exact ⟨x4, x5⟩
        · rw [if_neg y]
          rcases hs with q | ⟨q1, q2⟩
          · exact .inl q.1
          · rcases hl.2.2 with r | ⟨x, x1, x2, x3, x4⟩
            · omega
            · refine .inr ⟨x, x1, by omega, x3, ?_⟩
              have hne : aw S u x 1 ≠ u := by
                intro q
                rw [q] at x4
                omega
              rw [wr1_no hne]; omega
    · rw [wr1_no z]
      obtain ⟨a1, a2, a3, a4, a5⟩ := h u u1 u2
      refine ⟨a1, a2, a3, a4, fun q1 q2 => ?_⟩
      rcases a5 q1 q2 with q | ⟨x, x1, x2, x3, x4, x5⟩
      · exact .inl q
      · refine .inr ⟨x, x1, x2, x3, ?_⟩
        unfold wr1
        split
        · rename_i q
          rw [q] at x4 x5
          omega
        · exact ⟨x4, x5⟩
  · unfold wr1
    split
    · rename_i q; rw [q]; exact hle
    · exact Int.le_refl _
  · have := hl.2.1 x x1 (by omega) x3
    rcases hs with q | ⟨q1, q2⟩
    · omega
    · omega
theorem m_least (hs : mS s S) (w : wS S) {y : Nat → Int32} (hy : yM S M y) (hi : invM S M) {v : Int} (v1 : 0 ≤ v) (v2 : v < S 0 * S 1) {f : Int32 → Int32 → Option ((Int32 × Int32) ⊕ Int32)} (hf : f = fun v3 v4 => if 4 ≤ v4 then some (Sum.inr v3) else bd1 (f_X9_away s (iI v) v4 1) fun r102 => if r102 = -1 then some (Sum.inl (v3, v4 + 1)) else ar r102 144 (some (Sum.inl (if y r102.toNatClampNeg < v3 then y r102.toNatClampNeg else v3, v4 + 1)))) {a c : Int32} (ha : a = iI 1000000) (hc : c = iI 0) : lq2 f a c = some (iI (lst S M v 4)) := by
  have hN := w.N
  subst hf
  refine (pc_fold iI (fun w b => if aw S v w 1 = -1 then b else if M (aw S v w 1) < b then M (aw S v w 1) else b) (fun _ b => 1 ≤ b ∧ b ≤ 1000000) iI 4 (by omega) (b0 := 1000000) ha hc ⟨by omega, by omega⟩ (fun i b a1 a2 hb => ?_) (fun b _ => ?_)).1
  · have hA := g_aw w.1 v i 1
    by_cases z : aw S v i 1 = -1
    · refine ⟨?_, ?_⟩
      · simp (disch := omega) only [-Int.reduceToNat, pc_ite, if_true, if_false, pc_bv, pc_lit, pc_neg, pc_add, pc_sub, pc_mul, pc_mr, pc_ar, pc_dv, pc_lt, pc_le, pc_eq, pc_nat, pc_div, pc_emod, pc_ifz, pc_ifo, pc_zb, pd_1, pd_2, pd_3, pd_4, pd_5, pd_6, pd_7, pd_8, pd_9, pd_10, pd_11, pd_12, pd_13, pd_14, pd_15, pd_16, pd_17, pd_19, pd_21, pd_22, pd_30, pd_34, pd_57, m_away hs w, if_neg, z]
      · rw [if_pos z]; exact hb
    · have hA2 := aw_in w z
      have hm := hi _ hA2.1 hA2.2
      have e := hy _ hA2.1 hA2.2
      refine ⟨?_, ?_⟩
      · simp (disch := omega) only [-Int.reduceToNat, pc_ite, if_true, if_false, pc_bv, pc_lit, pc_neg, pc_add, pc_sub, pc_mul, pc_mr, pc_ar, pc_dv, pc_lt, pc_le, pc_eq, pc_nat, pc_div, pc_emod, pc_ifz, pc_ifo, pc_zb, pd_1, pd_2, pd_3, pd_4, pd_5, pd_6, pd_7, pd_8, pd_9, pd_10, pd_11, pd_12, pd_13, pd_14, pd_15, pd_16, pd_17, pd_19, pd_21, pd_22, pd_30, pd_34, pd_57, m_away hs w, if_neg, z, e]
      · rw [if_neg z]; split <;> omega
  · simp (disch := omega) only [-Int.reduceToNat, pc_ite, if_true, if_false, pc_bv, pc_lit, pc_neg, pc_add, pc_sub, pc_mul, pc_mr, pc_ar, pc_dv, pc_lt, pc_le, pc_eq, pc_nat, pc_div, pc_emod, pc_ifz, pc_ifo, pc_zb, pd_1, pd_2, pd_3, pd_4, pd_5, pd_6, pd_7, pd_8, pd_9, pd_10, pd_11, pd_12, pd_13, pd_14, pd_15, pd_16, pd_17, pd_19, pd_21, pd_22, pd_30, pd_34, pd_57, if_pos]
theorem m_round (hs : mS s S) (w : wS S) {y : Nat → Int32} (hy : yM S M y) (hi : invM S M) {f : Int32 → Int32 → (Nat → Int32) → Option ((Int32 × Int32 × (Nat → Int32)) ⊕ (Int32 × (Nat → Int32)))} {a c : Int32} (ha : a = iI 0) (hc : c = iI 0) (hf : ∀ b i M' y', 0 ≤ i → i < S 0 * S 1 → yM S M' y' → invM S M' → f (zB b) (iI i) y' = some (.inl (zB (if cB S i && !eB S i then b || decide (smM S M' i < M' i) else b), iI (i + 1), if cB S i && !eB S i then upd y' i.toNat (iI (if M' i < smM S M' i then M' i else smM S M' i)) else y'))) (he : ∀ b y', f (zB b) (iI (S 0 * S 1)) y' = some (.inr (zB b, y')))   : ∃ r, lq3 f a c y = some r ∧ ∃ b M', r.1 = zB b ∧ yM S M' r.2 ∧ invM S M' ∧ (b = false → M' = M ∧ ∀ v, 0 ≤ v → v < S 0 * S 1 → fixV S M v) ∧ (b = true → su M' (S 0 * S 1) < su M (S 0 * S 1)) := by
  have hN := w.N
  refine pc_im3 (fun i x y' => ∃ b M', x = zB b ∧ yM S M' y' ∧ invM S M' ∧ (∀ u, M' u ≤ M u) ∧ (b = false → M' = M ∧ ∀ v, 0 ≤ v → v < i → fixV S M v) ∧ (b = true → ∃ u, 0 ≤ u ∧ u < S 0 * S 1 ∧ M' u < M u)) _ (S 0 * S 1) (by omega) (by omega) hc ⟨false, M, ha, hy, hi, fun u => Int.le_refl _, fun _ => ⟨rfl, fun v v1 v2 => by omega⟩, fun q => by cases q⟩ (fun i x y' a1 a2 hp => ?_) (fun x y' hp => ?_)
  · obtain ⟨b, M', hx, hy', hi', hle, hb0, hb1⟩ := hp
    subst hx
    refine ⟨_, _, hf b i M' y' a1 a2 hy' hi', ?_⟩
    cases e1 : cB S i
    · refine ⟨b, M', by simp, by simpa using hy', hi', hle, fun q => ⟨(hb0 q).1, fun v v1 v2 => ?_⟩, hb1⟩
      by_cases z : v = i
      · subst z; intro q1; rw [e1] at q1; cases q1
      · exact (hb0 q).2 v v1 (by omega)
    · cases e2 : eB S i
      · obtain ⟨u1, u2, u3⟩ := inv_up w hi' a1 a2 e1 e2
        refine ⟨b || decide (smM S M' i < M' i), wr1 M' i (if M' i < smM S M' i then M' i else smM S M' i), by simp, by simpa using yM_up hy' a1, u1, fun u => by have := u2 u; have := hle u; omega, fun q => ?_, fun q => ?_⟩
        · rw [Bool.or_eq_false_iff, decide_eq_false_iff_not] at q
          obtain ⟨q1, q2⟩ := hb0 q.1
          subst q1
          refine ⟨?_, fun v v1 v2 => ?_⟩
          · funext u
            unfold wr1
            split
            · rename_i z; rw [z]; split <;> omega
            · rfl
          · by_cases z : v = i
            · subst z; exact u3 q.2
            · exact q2 v v1 (by omega)
        · rw [Bool.or_eq_true, decide_eq_true_iff] at q
          rcases q with q | q
          · obtain ⟨u, x1, x2, x3⟩ := hb1 q
            exact ⟨u, x1, x2, by have := u2 u; omega⟩
          · refine ⟨i, a1, a2, ?_⟩
            rw [wr1_at, if_neg (by omega)]
            have := hle i; omega
      · refine ⟨b, M', by simp, by simpa using hy', hi', hle, fun q => ⟨(hb0 q).1, fun v v1 v2 => ?_⟩, hb1⟩
        by_cases z : v = i
        · subst z; intro _ q1; rw [e2] at q1; cases q1
        · exact (hb0 q).2 v v1 (by omega)
  · obtain ⟨b, M', hx, hy', hi', hle, hb0, hb1⟩ := hp
    subst hx
    refine ⟨(zB b, y'), he b y', b, M', rfl, hy', hi', hb0, fun q => ?_⟩
    obtain ⟨u, x1, x2, x3⟩ := hb1 q
    have := su_lt (f := M') (g := M) (k0 := u) (S 0 * S 1).toNat (fun k _ _ => hle k) x1 (by omega) x3
    rw [show (((S 0 * S 1).toNat : Nat) : Int) = S 0 * S 1 by omega] at this
    exact this
end
