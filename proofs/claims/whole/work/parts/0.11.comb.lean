theorem pc_mr {α σ : Type} (a : α) : (mr (some a) : Option (σ ⊕ α)) = some (.inr a) := rfl
def fol {β : Type} (st : Int → β → β) (b : β) : Nat → β
  | 0 => b
  | k + 1 => st (k : Int) (fol st b k)
def an (p : Int → Bool) (n : Int) : Bool := fol (fun i b => b || p i) false n.toNat
def fi (p : Int → Bool) (n : Int) : Int := fol (fun i b => if b = -1 ∧ p i = true then i else b) (-1) n.toNat
def sB (h : Int) : Int32 := iI 1 <<< (iI h &&& iI 31)
def mk (p : Int → Bool) (n : Int) : Int32 := fol (fun i b => if p i then b ||| sB i else b) (iI 0) n.toNat
def su (f : Int → Int) (n : Int) : Int := fol (fun i b => b + f i) 0 n.toNat
theorem pc_sB (h : Int) : iI 1 <<< (iI h &&& iI 31) = sB h := rfl
theorem pc_or0 (x : Int32) : x ||| iI 0 = x := Int32.or_zero
theorem fol_s {β : Type} (st : Int → β → β) (b : β) (k : Nat) : fol st b (k + 1) = st k (fol st b k) := rfl
theorem fol_ext {β : Type} {st st' : Int → β → β} {b : β} : ∀ {n : Nat}, (∀ i b, 0 ≤ i → i < (n : Int) → st i b = st' i b) → fol st b n = fol st' b n := by
  intro n
  induction n with
  | zero => intro _; rfl
  | succ n ih =>
    intro h
    rw [fol_s, fol_s, ih (fun i b h1 h2 => h i b h1 (by omega)), h n _ (by omega) (by omega)]
theorem fol_ind {β : Type} {st : Int → β → β} {b : β} (P : Int → β → Prop) (h0 : P 0 b) : ∀ (n : Nat), (∀ i b, 0 ≤ i → i < (n : Int) → P i b → P (i + 1) (st i b)) → P n (fol st b n) := by
  intro n
  induction n with
  | zero => intro _; exact h0
  | succ n ih =>
    intro h
    rw [fol_s]
    have := h n _ (by omega) (by omega) (ih (fun i b h1 h2 => h i b h1 (by omega)))
    exact this
theorem an_iff {p : Int → Bool} {n : Int} : an p n = true ↔ ∃ i, 0 ≤ i ∧ i < n ∧ p i = true := by
  unfold an
  have H : ∀ k : Nat, fol (fun i b => b || p i) false k = true ↔ ∃ i, 0 ≤ i ∧ i < (k : Int) ∧ p i = true := by
    intro k
    induction k with
    | zero => simp only [fol]; constructor
              · intro h; cases h
              · rintro ⟨i, h1, h2, _⟩; omega
    | succ k ih =>
      rw [fol_s, Bool.or_eq_true, ih]
      constructor
      · rintro (⟨i, h1, h2, h3⟩ | h)
        · exact ⟨i, h1, by omega, h3⟩
        · exact ⟨k, by omega, by omega, h⟩
      · rintro ⟨i, h1, h2, h3⟩
        by_cases e : i = k
        · subst e; exact .inr h3
        · exact .inl ⟨i, h1, by omega, h3⟩
  rw [H]
  constructor
  · rintro ⟨i, h1, h2, h3⟩; exact ⟨i, h1, by omega, h3⟩
  · rintro ⟨i, h1, h2, h3⟩; exact ⟨i, h1, by omega, h3⟩
theorem an_false {p : Int → Bool} {n : Int} : an p n = false ↔ ∀ i, 0 ≤ i → i < n → p i = false := by
  rw [← Bool.not_eq_true, an_iff]
  constructor
  · intro h i h1 h2
    cases e : p i with
    | false => rfl
    | true => exact absurd ⟨i, h1, h2, e⟩ h
  · rintro h ⟨i, h1, h2, h3⟩
    rw [h i h1 h2] at h3
    cases h3
theorem an_congr {p q : Int → Bool} {n : Int} (h : ∀ i, 0 ≤ i → i < n → p i = q i) : an p n = an q n := by
  unfold an
  exact fol_ext (fun i b h1 h2 => by rw [h i h1 (by omega)])
theorem mk_congr {p q : Int → Bool} {n : Int} (h : ∀ i, 0 ≤ i → i < n → p i = q i) : mk p n = mk q n := by
  unfold mk
  exact fol_ext (fun i b h1 h2 => by rw [h i h1 (by omega)])
theorem su_congr {p q : Int → Int} {n : Int} (h : ∀ i, 0 ≤ i → i < n → p i = q i) : su p n = su q n := by
  unfold su
  exact fol_ext (fun i b h1 h2 => by rw [h i h1 (by omega)])
theorem fi_congr {p q : Int → Bool} {n : Int} (h : ∀ i, 0 ≤ i → i < n → p i = q i) : fi p n = fi q n := by
  unfold fi
  exact fol_ext (fun i b h1 h2 => by rw [h i h1 (by omega)])
theorem fi_c (p : Int → Bool) (n : Int) : (∃ i, 0 ≤ i ∧ i < n ∧ p i = true ∧ fi p n = i ∧ ∀ j, 0 ≤ j → j < i → p j = false) ∨ (fi p n = -1 ∧ ∀ j, 0 ≤ j → j < n → p j = false) := by
  unfold fi
  have H : ∀ k : Nat, (∃ i, 0 ≤ i ∧ i < (k : Int) ∧ p i = true ∧ fol (fun i b => if b = -1 ∧ p i = true then i else b) (-1) k = i ∧ ∀ j, 0 ≤ j → j < i → p j = false) ∨ (fol (fun i b => if b = -1 ∧ p i = true then i else b) (-1) k = -1 ∧ ∀ j, 0 ≤ j → j < (k : Int) → p j = false) := by
    intro k
    induction k with
    | zero => exact .inr ⟨rfl, fun j h1 h2 => by omega⟩
    | succ k ih =>
      rw [fol_s]
      rcases ih with ⟨i, h1, h2, h3, h4, h5⟩ | ⟨h4, h5⟩
      · refine .inl ⟨i, h1, by omega, h3, ?_, h5⟩
        rw [h4, if_neg (by omega)]
      · rw [h4]
        by_cases e : p k = true
        · refine .inl ⟨k, by omega, by omega, e, ?_, h5⟩
          rw [if_pos ⟨rfl, e⟩]
        · refine .inr ⟨?_, fun j h1 h2 => ?_⟩
          · rw [if_neg (fun z => e z.2)]
          · by_cases q : j = k
            · subst q; exact Bool.not_eq_true _ ▸ e
            · exact h5 j h1 (by omega)
  rcases H n.toNat with ⟨i, h1, h2, h3, h4, h5⟩ | ⟨h4, h5⟩
  · exact .inl ⟨i, h1, by omega, h3, h4, h5⟩
  · exact .inr ⟨h4, fun j h1 h2 => h5 j h1 (by omega)⟩
theorem fi_rg (p : Int → Bool) (n : Int) : fi p n = -1 ∨ (0 ≤ fi p n ∧ fi p n < n ∧ p (fi p n) = true) := by
  rcases fi_c p n with ⟨i, h1, h2, h3, h4, h5⟩ | ⟨h4, h5⟩
  · rw [h4]; exact .inr ⟨h1, h2, h3⟩
  · exact .inl h4
theorem fi_an (p : Int → Bool) (n : Int) : an p n = decide (fi p n ≠ -1) := by
  rcases fi_c p n with ⟨i, h1, h2, h3, h4, h5⟩ | ⟨h4, h5⟩
  · rw [h4, an_iff.mpr ⟨i, h1, h2, h3⟩]
    have : i ≠ -1 := by omega
    simp [this]
  · rw [h4, an_false.mpr h5]; rfl
theorem fi_eq {p : Int → Bool} {n i : Int} (h1 : 0 ≤ i) (h2 : i < n) (h3 : p i = true) (h5 : ∀ j, 0 ≤ j → j < i → p j = false) : fi p n = i := by
  rcases fi_c p n with ⟨k, a1, a2, a3, a4, a5⟩ | ⟨a4, a5⟩
  · rw [a4]
    rcases Int.lt_trichotomy i k with h | h | h
    · rw [a5 i h1 h] at h3; cases h3
    · exact h.symm
    · rw [h5 k a1 h] at a3; cases a3
  · rw [a5 i h1 h2] at h3; cases h3
theorem fi_no {p : Int → Bool} {n : Int} (h : ∀ j, 0 ≤ j → j < n → p j = false) : fi p n = -1 := by
  rcases fi_c p n with ⟨k, a1, a2, a3, a4, a5⟩ | ⟨a4, a5⟩
  · rw [h k a1 a2] at a3; cases a3
  · exact a4
theorem pc_c0 : ((0 : Nat) : Int) = 0 := rfl
theorem pc_srch {ρ : Type} {f : Int32 → Option (Int32 ⊕ ρ)} (p : Int → Bool) (g : Int → ρ) (r0 : ρ) (n : Int) (hn : 0 ≤ n) {a : Int32} (ha : a = iI 0)
    (ht : ∀ i, 0 ≤ i → i < n → p i = true → f (iI i) = some (.inr (g i))) (hf : ∀ i, 0 ≤ i → i < n → p i = false → f (iI i) = some (.inl (iI (i + 1)))) (he : f (iI n) = some (.inr r0)) :
    lq1 f a = some (if fi p n = -1 then r0 else g (fi p n)) := by
  subst ha
  rcases fi_c p n with ⟨i, h1, h2, h3, h4, h5⟩ | ⟨h4, h5⟩
  · rw [h4, if_neg (by omega)]
    refine pc_run1 (fun k : Nat => iI k) i.toNat rfl (fun k hk => ?_) ?_
    · rw [hf k (by omega) (by omega) (h5 k (by omega) (by omega))]; rfl
    · rw [show ((i.toNat : Nat) : Int) = i by omega]; exact ht i h1 h2 h3
  · rw [h4, if_pos rfl]
    refine pc_run1 (fun k : Nat => iI k) n.toNat rfl (fun k hk => ?_) ?_
    · rw [hf k (by omega) (by omega) (h5 k (by omega) (by omega))]; rfl
    · rw [show ((n.toNat : Nat) : Int) = n by omega]; exact he
theorem pc_srchB {f : Int32 → Option (Int32 ⊕ Int32)} (p : Int → Bool) (n : Int) (hn : 0 ≤ n) {a : Int32} (ha : a = iI 0)
    (ht : ∀ i, 0 ≤ i → i < n → p i = true → f (iI i) = some (.inr (iI 1))) (hf : ∀ i, 0 ≤ i → i < n → p i = false → f (iI i) = some (.inl (iI (i + 1)))) (he : f (iI n) = some (.inr (iI 0))) :
    lq1 f a = some (zB (an p n)) := by
  rw [pc_srch p (fun _ => iI 1) (iI 0) n hn ha ht hf he, fi_an]
  by_cases h : fi p n = -1
  · rw [if_pos h]; simp [h, zB]
  · rw [if_neg h]; simp [h, zB]
theorem pc_fold {α β ρ : Type} {f : α → Int32 → Option ((α × Int32) ⊕ ρ)} (e : β → α) (st : Int → β → β) (P : Int → β → Prop) (out : β → ρ) (n : Int) (hn : 0 ≤ n) {b0 : β} {a : α} {c : Int32} (ha : a = e b0) (hc : c = iI 0) (h0 : P 0 b0)
    (hs : ∀ i b, 0 ≤ i → i < n → P i b → f (e b) (iI i) = some (.inl (e (st i b), iI (i + 1))) ∧ P (i + 1) (st i b)) (he : ∀ b, P n b → f (e b) (iI n) = some (.inr (out b))) :
    lq2 f a c = some (out (fol st b0 n.toNat)) ∧ P n (fol st b0 n.toNat) := by
  subst ha hc
  have H : ∀ k : Nat, (k : Int) ≤ n → P k (fol st b0 k) := by
    intro k
    induction k with
    | zero => intro _; exact h0
    | succ k ih => intro h; exact (hs k _ (by omega) (by omega) (ih (by omega))).2
  have hP : P n (fol st b0 n.toNat) := by have := H n.toNat (by omega); rw [show ((n.toNat : Nat) : Int) = n by omega] at this; exact this
  refine ⟨pc_run2 (fun k : Nat => e (fol st b0 k)) (fun k : Nat => iI k) n.toNat rfl rfl (fun k hk => ?_) ?_, hP⟩
  · exact (hs k _ (by omega) (by omega) (H k (by omega))).1
  · show f (e (fol st b0 n.toNat)) (iI ((n.toNat : Nat) : Int)) = _
    rw [show ((n.toNat : Nat) : Int) = n by omega]; exact he _ hP
theorem pc_foldc {α β ρ : Type} {f : Int32 → α → Option ((Int32 × α) ⊕ ρ)} (e : β → α) (st : Int → β → β) (P : Int → β → Prop) (out : β → ρ) (n : Int) (hn : 0 ≤ n) {b0 : β} {a : α} {c : Int32} (ha : a = e b0) (hc : c = iI 0) (h0 : P 0 b0)
    (hs : ∀ i b, 0 ≤ i → i < n → P i b → f (iI i) (e b) = some (.inl (iI (i + 1), e (st i b))) ∧ P (i + 1) (st i b)) (he : ∀ b, P n b → f (iI n) (e b) = some (.inr (out b))) :
    lq2 f c a = some (out (fol st b0 n.toNat)) ∧ P n (fol st b0 n.toNat) := by
  subst ha hc
  have H : ∀ k : Nat, (k : Int) ≤ n → P k (fol st b0 k) := by
    intro k
    induction k with
    | zero => intro _; exact h0
    | succ k ih => intro h; exact (hs k _ (by omega) (by omega) (ih (by omega))).2
  have hP : P n (fol st b0 n.toNat) := by have := H n.toNat (by omega); rw [show ((n.toNat : Nat) : Int) = n by omega] at this; exact this
  refine ⟨pc_run2 (fun k : Nat => iI k) (fun k : Nat => e (fol st b0 k)) n.toNat rfl rfl (fun k hk => ?_) ?_, hP⟩
  · exact (hs k _ (by omega) (by omega) (H k (by omega))).1
  · show f (iI ((n.toNat : Nat) : Int)) (e (fol st b0 n.toNat)) = _
    rw [show ((n.toNat : Nat) : Int) = n by omega]; exact he _ hP
theorem pc_any {ρ : Type} {f : Int32 → Int32 → Option ((Int32 × Int32) ⊕ ρ)} (p : Int → Bool) (out : Bool → ρ) (n : Int) (hn : 0 ≤ n) {a c : Int32} (ha : a = iI 0) (hc : c = iI 0)
    (ht : ∀ i, 0 ≤ i → i < n → f (iI 1) (iI i) = some (.inl (iI 1, iI (i + 1)))) (hs : ∀ i, 0 ≤ i → i < n → f (iI 0) (iI i) = some (.inl (zB (p i), iI (i + 1)))) (he : ∀ b, f (zB b) (iI n) = some (.inr (out b))) :
    lq2 f a c = some (out (an p n)) := by
  refine (pc_fold zB (fun i b => b || p i) (fun _ _ => True) out n hn (b0 := false) (by rw [ha]; rfl) hc trivial (fun i b h1 h2 _ => ⟨?_, trivial⟩) (fun b _ => he b)).1
  cases b with
  | false => exact hs i h1 h2
  | true => exact ht i h1 h2
