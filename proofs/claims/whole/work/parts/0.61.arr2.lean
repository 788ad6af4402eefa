def upF (t : Int → Int) (h v : Int) : Int → Int := fun k => if k = h then v else t k
def clB (S : Int → Int) (R : Int → Bool) (o : Int) (t : Int → Int) (h v : Int) : Bool := al S o h v && !an (fun k => decide (t k ≠ -1) && fo S R o (4 * h + v) (4 * k + t k)) h
def wgF (S : Int → Int) (t : Int → Int) (p r : Int) (B : Int × Int × Int × (Int → Int)) : Int × Int × Int × (Int → Int) := if r < B.1 ∨ (r = B.1 ∧ p < B.2.1) then B else if r = B.1 ∧ p = B.2.1 ∧ B.2.2.1 ≤ tB t S (S 5) then B else (r, p, tB t S (S 5), t)
def rI (R : Int → Bool) (h : Int) : Int := if R h then 1 else 0
def tr (S : Int → Int) (R : Int → Bool) (o : Int) : Nat → Int → (Int → Int) → Int → Int → Int × Int × Int × (Int → Int) → Int × Int × Int × (Int → Int)
  | 0, _, t, p, r, B => wgF S t p r B
  | d + 1, h, t, p, r, B => tr S R o d (h + 1) (upF t h (-1)) p r (fol (fun v B => if clB S R o t h v then tr S R o d (h + 1) (upF t h v) (p + 1) (r + rI R h) B else B) B 4)
def trS (S : Int → Int) (R : Int → Bool) (o : Int) (d : Nat) (h : Int) (t : Int → Int) (p r : Int) (v : Int) (B : Int × Int × Int × (Int → Int)) : Int × Int × Int × (Int → Int) := if clB S R o t h v then tr S R o d (h + 1) (upF t h v) (p + 1) (r + rI R h) B else B
def lgT (S : Int → Int) (R : Int → Bool) (o : Int) (t : Int → Int) (h : Int) : Prop := ∀ k, 0 ≤ k → k < h → (t k = -1 ∨ (0 ≤ t k ∧ t k < 4 ∧ al S o k (t k) = true)) ∧ ∀ j, 0 ≤ j → j < k → t k ≠ -1 → t j ≠ -1 → fo S R o (4 * k + t k) (4 * j + t j) = false
def okB (S : Int → Int) (R : Int → Bool) (o : Int) (B : Int × Int × Int × (Int → Int)) : Prop := (B.1 = -1 ∧ B.2.1 = -1 ∧ B.2.2.1 = 1000000) ∨ (0 ≤ B.1 ∧ B.1 ≤ 8 ∧ 0 ≤ B.2.1 ∧ B.2.1 ≤ 8 ∧ 0 ≤ B.2.2.1 ∧ B.2.2.1 ≤ 32 ∧ lgT S R o B.2.2.2 (S 2))
theorem tr_s (S : Int → Int) (R : Int → Bool) (o : Int) (d : Nat) (h : Int) (t : Int → Int) (p r : Int) (B : Int × Int × Int × (Int → Int)) : tr S R o (d + 1) h t p r B = tr S R o d (h + 1) (upF t h (-1)) p r (fol (trS S R o d h t p r) B 4) := rfl
theorem upF_at (t : Int → Int) (h v : Int) : upF t h v h = v := if_pos rfl
theorem upF_ne (t : Int → Int) {h v k : Int} (e : k ≠ h) : upF t h v k = t k := if_neg e
theorem rI_c (R : Int → Bool) (h : Int) : 0 ≤ rI R h ∧ rI R h ≤ 1 := by unfold rI; split <;> omega
section
variable {S : Int → Int} {R : Int → Bool} {o : Int}
theorem lg_none {t : Int → Int} {h : Int} (l : lgT S R o t h) : lgT S R o (upF t h (-1)) (h + 1) := by
  intro k k1 k2
  by_cases e : k = h
  · subst e
    rw [upF_at]
    exact ⟨.inl rfl, fun j j1 j2 q => absurd rfl q⟩
  · obtain ⟨l1, l2⟩ := l k k1 (by omega)
    rw [upF_ne t e]
    refine ⟨l1, fun j j1 j2 q1 q2 => ?_⟩
    rw [upF_ne t (by omega)] at q2 ⊢
    exact l2 j j1 j2 q1 q2
theorem lg_one {t : Int → Int} {h v : Int} (l : lgT S R o t h) (v1 : 0 ≤ v) (v2 : v < 4) (c : clB S R o t h v = true) : lgT S R o (upF t h v) (h + 1) := by
  unfold clB at c
  rw [Bool.and_eq_true, Bool.not_eq_true', an_false] at c
  intro k k1 k2
  by_cases e : k = h
  · subst e
    rw [upF_at]
    refine ⟨.inr ⟨v1, v2, c.1⟩, fun j j1 j2 q1 q2 => ?_⟩
    rw [upF_ne t (by omega)] at q2 ⊢
    have := c.2 j j1 j2
    rw [Bool.and_eq_false_iff, decide_eq_false_iff_not] at this
    rcases this with h | h
    · exact absurd q2 h
    · exact h
  · obtain ⟨l1, l2⟩ := l k k1 (by omega)
    rw [upF_ne t e]
    refine ⟨l1, fun j j1 j2 q1 q2 => ?_⟩
    rw [upF_ne t (by omega)] at q2 ⊢
    exact l2 j j1 j2 q1 q2
theorem lg_rg {t : Int → Int} {h : Int} (l : lgT S R o t h) : ∀ k, 0 ≤ k → k < h → -1 ≤ t k ∧ t k < 4 := by
  intro k k1 k2
  rcases (l k k1 k2).1 with h | h <;> omega
theorem wg_ok (w : wS S) {t : Int → Int} {p r : Int} {B : Int × Int × Int × (Int → Int)} (l : lgT S R o t (S 2)) (p1 : 0 ≤ p) (p2 : p ≤ 8) (r1 : 0 ≤ r) (r2 : r ≤ 8) (b : okB S R o B) : okB S R o (wgF S t p r B) ∧ 0 ≤ (wgF S t p r B).1 := by
  have hC := w.C
  have hT := tB_rg w (lg_rg l) (t := S 5) (by omega) (by omega)
  unfold wgF
  have hB : 0 ≤ B.1 ∨ B.1 = -1 := by rcases b with h | h <;> omega
  split
  · rename_i c; exact ⟨b, by omega⟩
  · split
    · rename_i c; exact ⟨b, by omega⟩
    · exact ⟨.inr ⟨r1, r2, p1, p2, hT.1, hT.2, l⟩, r1⟩
theorem tr_ok (w : wS S) : ∀ (d : Nat) (h : Int) (t : Int → Int) (p r : Int) (B : Int × Int × Int × (Int → Int)), h + d = S 2 → 0 ≤ h → lgT S R o t h → 0 ≤ p → p ≤ h → 0 ≤ r → r ≤ h → okB S R o B → okB S R o (tr S R o d h t p r B) ∧ 0 ≤ (tr S R o d h t p r B).1 := by
  have hC := w.C
  intro d
  induction d with
  | zero =>
    intro h t p r B e h0 l p1 p2 r1 r2 b
    have e : h = S 2 := by omega
    subst e
    exact wg_ok w l p1 (by omega) r1 (by omega) b
  | succ d ih =>
    intro h t p r B e h0 l p1 p2 r1 r2 b
    rw [tr_s]
    have hr := rI_c R h
    refine ih (h + 1) _ p r _ (by omega) (by omega) (lg_none l) p1 (by omega) r1 (by omega) ?_
    refine fol_ind (fun _ B => okB S R o B) b 4 (fun v B v1 v2 hb => ?_)
    unfold trS
    split
    · rename_i c
      exact (ih (h + 1) _ (p + 1) (r + rI R h) B (by omega) (by omega) (lg_one l v1 (by omega) c) (by omega) (by omega) (by omega) (by omega) hb).1
    · exact hb
theorem trF_ok (w : wS S) {d : Nat} {h : Int} {t : Int → Int} {p r : Int} {B : Int × Int × Int × (Int → Int)} (e : h + 1 + d = S 2) (h0 : 0 ≤ h) (l : lgT S R o t h) (p1 : 0 ≤ p) (p2 : p ≤ h) (r1 : 0 ≤ r) (r2 : r ≤ h) (b : okB S R o B) (n : Nat) (hn : n ≤ 4) : okB S R o (fol (trS S R o d h t p r) B n) := by
  have hr := rI_c R h
  refine fol_ind (fun _ B => okB S R o B) b n (fun v B v1 v2 hb => ?_)
  unfold trS
  split
  · rename_i c
    exact (tr_ok w d (h + 1) _ (p + 1) (r + rI R h) B (by omega) (by omega) (lg_one l v1 (by omega) c) (by omega) (by omega) (by omega) (by omega) hb).1
  · exact hb
def nF (S : Int → Int) (o h : Int) : Int := if mk (al S o h) 4 = iI 0 then 0 else 1
def nL (S : Int → Int) (o h : Int) : Int := su (nF S o) 8 - su (nF S o) h
def rL (S : Int → Int) (R : Int → Bool) (o h : Int) : Int := su (fun k => nF S o k * rI R k) 8 - su (fun k => nF S o k * rI R k) h
theorem nF_c (S : Int → Int) (o h : Int) : 0 ≤ nF S o h ∧ nF S o h ≤ 1 := by unfold nF; split <;> omega
theorem nR_c (S : Int → Int) (R : Int → Bool) (o h : Int) : 0 ≤ nF S o h * rI R h ∧ nF S o h * rI R h ≤ 1 := by
  have a := nF_c S o h
  have b := rI_c R h
  have : nF S o h = 0 ∨ nF S o h = 1 := by omega
  rcases this with e | e <;> rw [e] <;> omega
theorem nF_hi {o h : Int} (e : S 2 ≤ h) : nF S o h = 0 := by
  unfold nF
  rw [if_pos ((mk_0 (by omega)).mpr (fun k _ _ => by unfold al; simp [show ¬ h < S 2 by omega]))]
theorem nF_one {o h v : Int} (v1 : 0 ≤ v) (v2 : v < 4) (e : al S o h v = true) : nF S o h = 1 := by
  unfold nF
  rw [if_neg]
  intro z
  have := (mk_0 (by omega)).mp z v v1 v2
  rw [e] at this
  cases this
theorem nL_s {h : Int} (h0 : 0 ≤ h) : nL S o h = nL S o (h + 1) + nF S o h := by unfold nL; rw [su_s h0]; omega
theorem rL_s {h : Int} (h0 : 0 ≤ h) : rL S R o h = rL S R o (h + 1) + nF S o h * rI R h := by unfold rL; rw [su_s h0]; omega
theorem nL_end (w : wS S) : nL S o (S 2) = 0 := by
  have hC := w.C
  unfold nL
  rw [su_ext (f := nF S o) (n := S 2) (m := 8) (by omega) (by omega) (fun k k1 k2 => nF_hi k1)]
  omega
theorem rL_end (w : wS S) : rL S R o (S 2) = 0 := by
  have hC := w.C
  unfold rL
  rw [su_ext (f := fun k => nF S o k * rI R k) (n := S 2) (m := 8) (by omega) (by omega) (fun k k1 k2 => by show nF S o k * _ = 0; rw [nF_hi k1, Int.zero_mul])]
  omega
theorem tr_cut (w : wS S) : ∀ (d : Nat) (h : Int) (t : Int → Int) (p r : Int) (B : Int × Int × Int × (Int → Int)), h + d = S 2 → 0 ≤ h → (r + rL S R o h < B.1 ∨ (r + rL S R o h = B.1 ∧ p + nL S o h < B.2.1)) → tr S R o d h t p r B = B := by
  intro d
  induction d with
  | zero =>
    intro h t p r B e h0 c
    have e : h = S 2 := by omega
    subst e
    rw [nL_end w, rL_end w] at c
    show wgF S t p r B = B
    unfold wgF
    rw [if_pos (by omega)]
  | succ d ih =>
    intro h t p r B e h0 c
    have a1 := nL_s (S := S) (o := o) h0
    have a2 := rL_s (S := S) (R := R) (o := o) h0
    have b1 := nF_c S o h
    have b2 := nR_c S R o h
    rw [tr_s]
    have F : ∀ n : Nat, n ≤ 4 → fol (trS S R o d h t p r) B n = B := by
      intro n
      induction n with
      | zero => intro _; rfl
      | succ n ihn =>
        intro hn
        rw [fol_s, ihn (by omega)]
        unfold trS
        split
        · rename_i q
          unfold clB at q
          rw [Bool.and_eq_true] at q
          have e1 := nF_one (by omega) (by omega) q.1
          rw [e1, Int.one_mul] at a2
          exact ih (h + 1) _ _ _ B (by omega) (by omega) (by omega)
        · rfl
    rw [F 4 (by omega)]
    exact ih (h + 1) _ _ _ B (by omega) (by omega) (by omega)
end
