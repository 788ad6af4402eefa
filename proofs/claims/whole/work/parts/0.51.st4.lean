def kM (M : Int → Int) (c : Int) : Int := if M c = 1000000 then -1 else M c
def K0 (S : Int → Int) (c : Int) : Int := if (cB S c && eB S c) = true then cst S c else -1
def kEn (S M K : Int → Int) : Prop := ∀ v, 0 ≤ v → v < S 0 * S 1 → cB S v = true → eB S v = true → K v = M v
def kFi (S M K : Int → Int) (n : Int) : Prop := ∀ v, 0 ≤ v → v < S 0 * S 1 → M v < 1000000 → rk S M v ≤ n → K v = M v
section
variable {s : Nat → Int32} {S M : Int → Int} {land riv hom dir len let' nOn lOn stp ord : Nat → Int32}
theorem kFi_s (w : wS S) (hM : solM S M) {K K' : Int → Int} {B : Int} {n : Int} (hK : KI S M B K') (he : kEn S M K') (hf : kFi S M K n) (hr : ∀ v, 0 ≤ v → v < S 0 * S 1 → cB S v = true → ∀ x, 0 ≤ x → x < 4 → krl S K' K v x) : kFi S M K' (n + 1) := by
  intro v v1 v2 vf vr
  obtain ⟨a1, a2, a3, a4, a5⟩ := hM.1 v v1 v2
  cases e1 : cB S v
  · have := a3 e1; omega
  · cases e2 : eB S v
    · rcases a5 e1 e2 with q | ⟨x, x1, x2, x3, x4, x5⟩
      · omega
      · have hA := aw_in w x3
        have hc := cst_rg S v
        have h1 := rk_lt (M := M) w hA.1 hA.2 (v := v) (by omega)
        have h2 := hf _ hA.1 hA.2 x4 (by omega)
        have h3 := (hM.1 _ hA.1 hA.2).1
        have h4 := hr v v1 v2 e1 x x1 x2 x3 (by omega)
        have h5 := (hK v v1 v2).1
        rw [h2] at h4
        rcases h5 with q | q
        · exact absurd q h4.1
        · omega
    · exact he v v1 v2 e1 e2
theorem kFi_0 (w : wS S) (hM : solM S M) {K : Int → Int} (he : kEn S M K) : kFi S M K 0 := by
  intro v v1 v2 vf vr
  obtain ⟨a1, a2, a3, a4, a5⟩ := hM.1 v v1 v2
  cases e1 : cB S v
  · have := a3 e1; omega
  · cases e2 : eB S v
    · rcases a5 e1 e2 with q | ⟨x, x1, x2, x3, x4, x5⟩
      · omega
      · have hA := aw_in w x3
        have hc := cst_rg S v
        have h1 := rk_lt (M := M) w hA.1 hA.2 (v := v) (by omega)
        have h2 := (rk_rg (M := M) w hA.1 hA.2).1
        omega
    · exact he v v1 v2 e1 e2
theorem kFi_e (w : wS S) (hM : solM S M) {K : Int → Int} {B : Int} (hK : KI S M B K) (h : kFi S M K (S 0 * S 1)) {y : Nat → Int32} (hy : yM S K y) : yM S (kM M) y := by
  intro c c1 c2
  rw [hy c c1 c2]
  congr 1
  have hk := hK c c1 c2
  have hm := hM.1 c c1 c2
  have hr := rk_rg (M := M) w c1 c2
  unfold kM
  by_cases z : M c = 1000000
  · rw [if_pos z]
    rcases hk.1 with q | q
    · exact q
    · omega
  · rw [if_neg z]; exact h c c1 c2 (by omega) (by omega)
theorem kEn_m {K K' : Int → Int} {B : Int} (hM : solM S M) (hK : KI S M B K') (he : kEn S M K) (hl : kle S K' K) : kEn S M K' := by
  intro v v1 v2 e1 e2
  have h1 := he v v1 v2 e1 e2
  have h2 := (hM.1 v v1 v2).1
  have h3 := hl v v1 v2 (by omega)
  rcases (hK v v1 v2).1 with q | q
  · exact absurd q h3.1
  · omega
theorem x_survey (w : wS S) (hl : aL land S) (hr : aV riv S) (hh : aH 0 hom S) (hn : aN nOn S) (hM : solM S M) (co0 y0 : Nat → Int32) : ∃ r, f_X7_survey co0 y0 (iI (S 0)) (iI (S 1)) (iI (S 2)) nOn land riv hom = some r ∧ yC S r.1 ∧ yM S (kM M) r.2 := by
  have hN := w.N
  unfold f_X7_survey
  simp only [pc_bv]
  have e144 : (if (144 : Int32) < iI (S 0 * S 1) then (144 : Int32) else iI (S 0 * S 1)) = iI (S 0 * S 1) := by
    rw [if_neg]
    rw [show (144 : Int32) = iI 144 from rfl, pc_lt (by omega) (by omega) (by omega) (by omega)]
    omega
  rw [x_cells, pd_1, e144]
  refine pc_e2 (Q := fun r => yC S r.1 ∧ yM S (K0 S) r.2) (pc_iv3 (fun i co y => (∀ c, 0 ≤ c → c < i → co c.toNat = iI (if cB S c = true then cst S c else 0)) ∧ (∀ c, 0 ≤ c → c < i → y c.toNat = iI (K0 S c))) _ (S 0 * S 1) (by omega) (by omega) rfl ⟨fun c c1 c2 => by omega, fun c c1 c2 => by omega⟩ (fun i co y a1 a2 hp => ?_) (fun co y hp => ?_)) (fun co y h => ?_)
  · have hle : ¬ iI (S 0 * S 1) ≤ iI i := by rw [pc_le (by omega) (by omega) (by omega) (by omega)]; omega
    have ari : ∀ {α : Type} {k : Option α}, ar (iI i) 144 k = k := fun {_ _} => pc_ar a1 (by omega) (by omega)
    have ni : (iI i).toNatClampNeg = i.toNat := pc_nat (by omega) (by omega)
    have pl : iI i + 1 = iI (i + 1) := by rw [show (1 : Int32) = iI 1 from rfl, pc_add]
    have up : ∀ x z, x = (if cB S i = true then cst S i else 0) → z = K0 S i → (∀ c, 0 ≤ c → c < i + 1 → upd co i.toNat (iI x) c.toNat = iI (if cB S c = true then cst S c else 0)) ∧ (∀ c, 0 ≤ c → c < i + 1 → upd y i.toNat (iI z) c.toNat = iI (K0 S c)) := by
      intro x z hx hz
      constructor
      · intro c c1 c2
        rw [upd_at]
        by_cases q : c = i
        · rw [if_pos (by omega), hx, q]
        · rw [if_neg (by omega)]; exact hp.1 c c1 (by omega)
      · intro c c1 c2
        rw [upd_at]
        by_cases q : c = i
        · rw [if_pos (by omega), hz, q]
        · rw [if_neg (by omega)]; exact hp.2 c c1 (by omega)
    rw [if_neg hle, x_isOpen w hl hr hh (by omega) (by omega), pd_1]
    cases e1 : cB S i
    · refine ⟨upd co i.toNat (iI 0), upd y i.toNat (iI (-1)), ?_, up 0 (-1) (by simp [e1]) (by unfold K0; simp [e1])⟩
      rw [if_pos (by decide), ari, ni, if_pos (by decide), ari, pl]; rfl
    · have il := cB_N w e1
      have en := x_endsRiver w hl hr a1 a2
      rw [eB_x il] at en
      have nmE := x_namesIn hn a1 (by omega : i < 144)
      rw [if_neg (by decide), nmE, pd_1]
      have cc : ∀ x, x = cst S i → ((ar (iI i) 144 (if zB true = 0 then ar (iI i) 144 (some (Sum.inl (iI i + 1, upd co (iI i).toNatClampNeg (iI x), upd y (iI i).toNatClampNeg (-1)))) else bd1 (f_X1_endsRiver (iI (S 0)) (iI (S 1)) land riv (iI i)) fun r72 => if r72 = 0 then ar (iI i) 144 (some (Sum.inl (iI i + 1, upd co (iI i).toNatClampNeg (iI x), upd y (iI i).toNatClampNeg (-1)))) else ar (iI i) 144 (ar (iI i) 144 (some (Sum.inl (iI i + 1, upd co (iI i).toNatClampNeg (iI x), upd y (iI i).toNatClampNeg (upd co (iI i).toNatClampNeg (iI x) (iI i).toNatClampNeg)))))) : Option ((Int32 × (Nat → Int32) × (Nat → Int32)) ⊕ ((Nat → Int32) × (Nat → Int32)))) = some (.inl (iI (i + 1), upd co i.toNat (iI x), upd y i.toNat (iI (K0 S i))))) := by
        intro x hx
        rw [ari, if_neg (by decide), en, pd_1, ni, pl]
        cases e2 : eB S i
        · rw [if_pos (by decide), ari]
          have : K0 S i = -1 := by unfold K0; simp [e2]
          rw [this]; rfl
        · rw [if_neg (by decide), ari, ari, upd_at, if_pos rfl]
          have : K0 S i = cst S i := by unfold K0; simp [e1, e2]
          rw [this, hx]
      by_cases z : nm S i = iI 0
      · refine ⟨upd co i.toNat (iI 1), upd y i.toNat (iI (K0 S i)), ?_, up 1 _ (by unfold cst; simp [e1, z]) rfl⟩
        rw [if_pos (show nm S i = 0 from z)]
        exact cc 1 (by unfold cst; rw [if_pos z])
      · refine ⟨upd co i.toNat (iI 11), upd y i.toNat (iI (K0 S i)), ?_, up 11 _ (by unfold cst; simp [e1, z]) rfl⟩
        rw [if_neg (show ¬ nm S i = 0 from z)]
        exact cc 11 (by unfold cst; rw [if_neg z])
  · refine ⟨(co, y), ?_, hp⟩
    rw [if_pos (by rw [pc_le (by omega) (by omega) (by omega) (by omega)]; omega)]
  · obtain ⟨hco, hy⟩ := h
    refine pc_e1 (Q := fun y => yM S (kM M) y) ?_ (fun y hy => ⟨(co, y), rfl, hco, hy⟩)
    have k0 : KI S M 11 (K0 S) := by
      intro v v1 v2
      have hm := hM.1 v v1 v2
      have hc := cst_rg S v
      unfold K0
      cases e1 : cB S v
      · simp
      · cases e2 : eB S v
        · simp
        · have := hm.2.2.2.1 e1 e2
          simp; omega
    have en0 : kEn S M (K0 S) := by
      intro v v1 v2 e1 e2
      have hm := hM.1 v v1 v2
      unfold K0
      rw [e1, e2]; exact (hm.2.2.2.1 e1 e2).symm
    refine pc_inv3 (fun a c y => ∃ b i K, a = zB b ∧ c = iI i ∧ 0 ≤ i ∧ i ≤ S 0 * S 1 ∧ yM S K y ∧ KI S M (11 + 6336 * i) K ∧ kEn S M K ∧ kFi S M K i ∧ (b = false → kFi S M K (S 0 * S 1))) (fun a c y => (S 0 * S 1 - c.toInt).toNat) _ (fun a c y hp => ?_) 1 0 y ⟨true, 0, K0 S, rfl, rfl, by omega, by omega, hy, by rw [Int.mul_zero, Int.add_zero]; exact k0, en0, kFi_0 w hM en0, fun q => by cases q⟩
    obtain ⟨b, i, K, ha, hc, i1, i2, hy', hK, hE, hF, hB⟩ := hp
    subst ha hc
    by_cases z : i = S 0 * S 1
    · right
      refine ⟨y, ?_, kFi_e w hM hK (by rw [← z]; exact hF) hy'⟩
      rw [if_pos (by rw [pc_le (by omega) (by omega) (by omega) (by omega)]; omega)]
    · have hle : ¬ iI (S 0 * S 1) ≤ iI i := by rw [pc_le (by omega) (by omega) (by omega) (by omega)]; omega
      have pl : iI i + 1 = iI (i + 1) := by rw [show (1 : Int32) = iI 1 from rfl, pc_add]
      cases b
      · right
        refine ⟨y, ?_, kFi_e w hM hK (hB rfl) hy'⟩
        rw [if_neg hle, if_pos (by decide)]
      · left
        obtain ⟨⟨r1, r2⟩, e, b', K', q1, q2, q3, q4, q5, q6⟩ := x_improve w hM hco hy' hK (by omega) (by omega)
        simp only at q1 q2
        have hE' := kEn_m hM q3 hE q4
        refine ⟨r1, iI (i + 1), r2, ?_, ⟨b', i + 1, K', q1, rfl, by omega, by omega, q2, by rw [Int.mul_add, Int.mul_one, ← Int.add_assoc]; exact q3, hE', kFi_s w hM q3 hE' hF q5, fun hb => ?_⟩, ?_⟩
        · rw [if_neg hle, if_neg (by decide), e, pd_2, pl]
        · have same := q6 hb
          have all : ∀ n : Nat, kFi S M K' n := by
            intro n
            induction n with
            | zero => exact kFi_0 w hM hE'
            | succ n ih =>
              rw [show ((n + 1 : Nat) : Int) = (n : Int) + 1 by omega]
              refine kFi_s w hM q3 hE' ih (fun v v1 v2 ev x x1 x2 n1 n2 => ?_)
              have hA := aw_in w n1
              have := q5 v v1 v2 ev x x1 x2 n1 (by rw [← same _ hA.1 hA.2]; exact n2)
              rw [← same _ hA.1 hA.2] at this
              exact this
          have := all (S 0 * S 1).toNat
          rw [show (((S 0 * S 1).toNat : Nat) : Int) = S 0 * S 1 by omega] at this
          exact this
        · show (S 0 * S 1 - (iI (i + 1)).toInt).toNat < (S 0 * S 1 - (iI i).toInt).toNat
          rw [pc_toInt (by omega) (by omega), pc_toInt (by omega) (by omega)]
          omega
end
