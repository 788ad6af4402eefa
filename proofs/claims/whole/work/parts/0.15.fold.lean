theorem pc_fl2 {α0 β ρ : Type} {f : α0 → Int32 → Option ((α0 × Int32) ⊕ ρ)} (o : Int) (e0 : β → α0) (st : Int → β → β) (P : Int → β → Prop) (out : β → ρ) (n : Int) (hn : 0 ≤ n) {b0 : β} {a0 : α0} {c : Int32} (g0 : a0 = e0 b0) (hc : c = iI o) (h0 : P 0 b0)
    (hs : ∀ i b, 0 ≤ i → i < n → P i b → f (e0 b) (iI (i + o)) = some (.inl (e0 (st i b), iI (i + 1 + o))) ∧ P (i + 1) (st i b)) (he : ∀ b, P n b → f (e0 b) (iI (n + o)) = some (.inr (out b))) :
    lq2 f a0 c = some (out (fol st b0 n.toNat)) ∧ P n (fol st b0 n.toNat) := by
  subst g0 hc
  have H : ∀ k : Nat, (k : Int) ≤ n → P k (fol st b0 k) := by
    intro k
    induction k with
    | zero => intro _; exact h0
    | succ k ih => intro h; exact (hs k _ (by omega) (by omega) (ih (by omega))).2
  have hP : P n (fol st b0 n.toNat) := by have := H n.toNat (by omega); rw [show ((n.toNat : Nat) : Int) = n by omega] at this; exact this
  refine ⟨pc_run2 (fun k : Nat => e0 (fol st b0 k)) (fun k : Nat => iI (k + o)) n.toNat rfl (by rw [pc_c0, Int.zero_add]) (fun k hk => ?_) ?_, hP⟩
  · exact (hs k _ (by omega) (by omega) (H k (by omega))).1
  · have e : ((n.toNat : Nat) : Int) = n := by omega
    show f (e0 (fol st b0 n.toNat)) (iI (((n.toNat : Nat) : Int) + o)) = _
    rw [e]; exact he _ hP
theorem pc_ff2 {α0 β ρ : Type} {f : Int32 → α0 → Option ((Int32 × α0) ⊕ ρ)} (o : Int) (e0 : β → α0) (st : Int → β → β) (P : Int → β → Prop) (out : β → ρ) (n : Int) (hn : 0 ≤ n) {b0 : β} {a0 : α0} {c : Int32} (g0 : a0 = e0 b0) (hc : c = iI o) (h0 : P 0 b0)
    (hs : ∀ i b, 0 ≤ i → i < n → P i b → f (iI (i + o)) (e0 b) = some (.inl (iI (i + 1 + o), e0 (st i b))) ∧ P (i + 1) (st i b)) (he : ∀ b, P n b → f (iI (n + o)) (e0 b) = some (.inr (out b))) :
    lq2 f c a0 = some (out (fol st b0 n.toNat)) ∧ P n (fol st b0 n.toNat) := by
  subst g0 hc
  have H : ∀ k : Nat, (k : Int) ≤ n → P k (fol st b0 k) := by
    intro k
    induction k with
    | zero => intro _; exact h0
    | succ k ih => intro h; exact (hs k _ (by omega) (by omega) (ih (by omega))).2
  have hP : P n (fol st b0 n.toNat) := by have := H n.toNat (by omega); rw [show ((n.toNat : Nat) : Int) = n by omega] at this; exact this
  refine ⟨pc_run2 (fun k : Nat => iI (k + o)) (fun k : Nat => e0 (fol st b0 k)) n.toNat (by rw [pc_c0, Int.zero_add]) rfl (fun k hk => ?_) ?_, hP⟩
  · exact (hs k _ (by omega) (by omega) (H k (by omega))).1
  · have e : ((n.toNat : Nat) : Int) = n := by omega
    show f (iI (((n.toNat : Nat) : Int) + o)) (e0 (fol st b0 n.toNat)) = _
    rw [e]; exact he _ hP
theorem pc_fl3 {α0 α1 β ρ : Type} {f : α0 → α1 → Int32 → Option ((α0 × α1 × Int32) ⊕ ρ)} (o : Int) (e0 : β → α0) (e1 : β → α1) (st : Int → β → β) (P : Int → β → Prop) (out : β → ρ) (n : Int) (hn : 0 ≤ n) {b0 : β} {a0 : α0} {a1 : α1} {c : Int32} (g0 : a0 = e0 b0) (g1 : a1 = e1 b0) (hc : c = iI o) (h0 : P 0 b0)
    (hs : ∀ i b, 0 ≤ i → i < n → P i b → f (e0 b) (e1 b) (iI (i + o)) = some (.inl (e0 (st i b), e1 (st i b), iI (i + 1 + o))) ∧ P (i + 1) (st i b)) (he : ∀ b, P n b → f (e0 b) (e1 b) (iI (n + o)) = some (.inr (out b))) :
    lq3 f a0 a1 c = some (out (fol st b0 n.toNat)) ∧ P n (fol st b0 n.toNat) := by
  subst g0 g1 hc
  have H : ∀ k : Nat, (k : Int) ≤ n → P k (fol st b0 k) := by
    intro k
    induction k with
    | zero => intro _; exact h0
    | succ k ih => intro h; exact (hs k _ (by omega) (by omega) (ih (by omega))).2
  have hP : P n (fol st b0 n.toNat) := by have := H n.toNat (by omega); rw [show ((n.toNat : Nat) : Int) = n by omega] at this; exact this
  refine ⟨pc_run3 (fun k : Nat => e0 (fol st b0 k)) (fun k : Nat => e1 (fol st b0 k)) (fun k : Nat => iI (k + o)) n.toNat rfl rfl (by rw [pc_c0, Int.zero_add]) (fun k hk => ?_) ?_, hP⟩
  · exact (hs k _ (by omega) (by omega) (H k (by omega))).1
  · have e : ((n.toNat : Nat) : Int) = n := by omega
    show f (e0 (fol st b0 n.toNat)) (e1 (fol st b0 n.toNat)) (iI (((n.toNat : Nat) : Int) + o)) = _
    rw [e]; exact he _ hP
theorem pc_ff3 {α0 α1 β ρ : Type} {f : Int32 → α0 → α1 → Option ((Int32 × α0 × α1) ⊕ ρ)} (o : Int) (e0 : β → α0) (e1 : β → α1) (st : Int → β → β) (P : Int → β → Prop) (out : β → ρ) (n : Int) (hn : 0 ≤ n) {b0 : β} {a0 : α0} {a1 : α1} {c : Int32} (g0 : a0 = e0 b0) (g1 : a1 = e1 b0) (hc : c = iI o) (h0 : P 0 b0)
    (hs : ∀ i b, 0 ≤ i → i < n → P i b → f (iI (i + o)) (e0 b) (e1 b) = some (.inl (iI (i + 1 + o), e0 (st i b), e1 (st i b))) ∧ P (i + 1) (st i b)) (he : ∀ b, P n b → f (iI (n + o)) (e0 b) (e1 b) = some (.inr (out b))) :
    lq3 f c a0 a1 = some (out (fol st b0 n.toNat)) ∧ P n (fol st b0 n.toNat) := by
  subst g0 g1 hc
  have H : ∀ k : Nat, (k : Int) ≤ n → P k (fol st b0 k) := by
    intro k
    induction k with
    | zero => intro _; exact h0
    | succ k ih => intro h; exact (hs k _ (by omega) (by omega) (ih (by omega))).2
  have hP : P n (fol st b0 n.toNat) := by have := H n.toNat (by omega); rw [show ((n.toNat : Nat) : Int) = n by omega] at this; exact this
  refine ⟨pc_run3 (fun k : Nat => iI (k + o)) (fun k : Nat => e0 (fol st b0 k)) (fun k : Nat => e1 (fol st b0 k)) n.toNat (by rw [pc_c0, Int.zero_add]) rfl rfl (fun k hk => ?_) ?_, hP⟩
  · exact (hs k _ (by omega) (by omega) (H k (by omega))).1
  · have e : ((n.toNat : Nat) : Int) = n := by omega
    show f (iI (((n.toNat : Nat) : Int) + o)) (e0 (fol st b0 n.toNat)) (e1 (fol st b0 n.toNat)) = _
    rw [e]; exact he _ hP
theorem pc_fm3 {α0 α1 β ρ : Type} {f : α0 → Int32 → α1 → Option ((α0 × Int32 × α1) ⊕ ρ)} (o : Int) (e0 : β → α0) (e1 : β → α1) (st : Int → β → β) (P : Int → β → Prop) (out : β → ρ) (n : Int) (hn : 0 ≤ n) {b0 : β} {a0 : α0} {a1 : α1} {c : Int32} (g0 : a0 = e0 b0) (g1 : a1 = e1 b0) (hc : c = iI o) (h0 : P 0 b0)
    (hs : ∀ i b, 0 ≤ i → i < n → P i b → f (e0 b) (iI (i + o)) (e1 b) = some (.inl (e0 (st i b), iI (i + 1 + o), e1 (st i b))) ∧ P (i + 1) (st i b)) (he : ∀ b, P n b → f (e0 b) (iI (n + o)) (e1 b) = some (.inr (out b))) :
    lq3 f a0 c a1 = some (out (fol st b0 n.toNat)) ∧ P n (fol st b0 n.toNat) := by
  subst g0 g1 hc
  have H : ∀ k : Nat, (k : Int) ≤ n → P k (fol st b0 k) := by
    intro k
    induction k with
    | zero => intro _; exact h0
    | succ k ih => intro h; exact (hs k _ (by omega) (by omega) (ih (by omega))).2
  have hP : P n (fol st b0 n.toNat) := by have := H n.toNat (by omega); rw [show ((n.toNat : Nat) : Int) = n by omega] at this; exact this
  refine ⟨pc_run3 (fun k : Nat => e0 (fol st b0 k)) (fun k : Nat => iI (k + o)) (fun k : Nat => e1 (fol st b0 k)) n.toNat rfl (by rw [pc_c0, Int.zero_add]) rfl (fun k hk => ?_) ?_, hP⟩
  · exact (hs k _ (by omega) (by omega) (H k (by omega))).1
  · have e : ((n.toNat : Nat) : Int) = n := by omega
    show f (e0 (fol st b0 n.toNat)) (iI (((n.toNat : Nat) : Int) + o)) (e1 (fol st b0 n.toNat)) = _
    rw [e]; exact he _ hP
theorem pc_fl4 {α0 α1 α2 β ρ : Type} {f : α0 → α1 → α2 → Int32 → Option ((α0 × α1 × α2 × Int32) ⊕ ρ)} (o : Int) (e0 : β → α0) (e1 : β → α1) (e2 : β → α2) (st : Int → β → β) (P : Int → β → Prop) (out : β → ρ) (n : Int) (hn : 0 ≤ n) {b0 : β} {a0 : α0} {a1 : α1} {a2 : α2} {c : Int32} (g0 : a0 = e0 b0) (g1 : a1 = e1 b0) (g2 : a2 = e2 b0) (hc : c = iI o) (h0 : P 0 b0)
    (hs : ∀ i b, 0 ≤ i → i < n → P i b → f (e0 b) (e1 b) (e2 b) (iI (i + o)) = some (.inl (e0 (st i b), e1 (st i b), e2 (st i b), iI (i + 1 + o))) ∧ P (i + 1) (st i b)) (he : ∀ b, P n b → f (e0 b) (e1 b) (e2 b) (iI (n + o)) = some (.inr (out b))) :
    lq4 f a0 a1 a2 c = some (out (fol st b0 n.toNat)) ∧ P n (fol st b0 n.toNat) := by
  subst g0 g1 g2 hc
  have H : ∀ k : Nat, (k : Int) ≤ n → P k (fol st b0 k) := by
    intro k
    induction k with
    | zero => intro _; exact h0
    | succ k ih => intro h; exact (hs k _ (by omega) (by omega) (ih (by omega))).2
  have hP : P n (fol st b0 n.toNat) := by have := H n.toNat (by omega); rw [show ((n.toNat : Nat) : Int) = n by omega] at this; exact this
  refine ⟨pc_run4 (fun k : Nat => e0 (fol st b0 k)) (fun k : Nat => e1 (fol st b0 k)) (fun k : Nat => e2 (fol st b0 k)) (fun k : Nat => iI (k + o)) n.toNat rfl rfl rfl (by rw [pc_c0, Int.zero_add]) (fun k hk => ?_) ?_, hP⟩
  · exact (hs k _ (by omega) (by omega) (H k (by omega))).1
  · have e : ((n.toNat : Nat) : Int) = n := by omega
    show f (e0 (fol st b0 n.toNat)) (e1 (fol st b0 n.toNat)) (e2 (fol st b0 n.toNat)) (iI (((n.toNat : Nat) : Int) + o)) = _
    rw [e]; exact he _ hP
theorem pc_ff4 {α0 α1 α2 β ρ : Type} {f : Int32 → α0 → α1 → α2 → Option ((Int32 × α0 × α1 × α2) ⊕ ρ)} (o : Int) (e0 : β → α0) (e1 : β → α1) (e2 : β → α2) (st : Int → β → β) (P : Int → β → Prop) (out : β → ρ) (n : Int) (hn : 0 ≤ n) {b0 : β} {a0 : α0} {a1 : α1} {a2 : α2} {c : Int32} (g0 : a0 = e0 b0) (g1 : a1 = e1 b0) (g2 : a2 = e2 b0) (hc : c = iI o) (h0 : P 0 b0)
    (hs : ∀ i b, 0 ≤ i → i < n → P i b → f (iI (i + o)) (e0 b) (e1 b) (e2 b) = some (.inl (iI (i + 1 + o), e0 (st i b), e1 (st i b), e2 (st i b))) ∧ P (i + 1) (st i b)) (he : ∀ b, P n b → f (iI (n + o)) (e0 b) (e1 b) (e2 b) = some (.inr (out b))) :
    lq4 f c a0 a1 a2 = some (out (fol st b0 n.toNat)) ∧ P n (fol st b0 n.toNat) := by
  subst g0 g1 g2 hc
  have H : ∀ k : Nat, (k : Int) ≤ n → P k (fol st b0 k) := by
    intro k
    induction k with
    | zero => intro _; exact h0
    | succ k ih => intro h; exact (hs k _ (by omega) (by omega) (ih (by omega))).2
  have hP : P n (fol st b0 n.toNat) := by have := H n.toNat (by omega); rw [show ((n.toNat : Nat) : Int) = n by omega] at this; exact this
  refine ⟨pc_run4 (fun k : Nat => iI (k + o)) (fun k : Nat => e0 (fol st b0 k)) (fun k : Nat => e1 (fol st b0 k)) (fun k : Nat => e2 (fol st b0 k)) n.toNat (by rw [pc_c0, Int.zero_add]) rfl rfl rfl (fun k hk => ?_) ?_, hP⟩
  · exact (hs k _ (by omega) (by omega) (H k (by omega))).1
  · have e : ((n.toNat : Nat) : Int) = n := by omega
    show f (iI (((n.toNat : Nat) : Int) + o)) (e0 (fol st b0 n.toNat)) (e1 (fol st b0 n.toNat)) (e2 (fol st b0 n.toNat)) = _
    rw [e]; exact he _ hP
theorem pc_fl5 {α0 α1 α2 α3 β ρ : Type} {f : α0 → α1 → α2 → α3 → Int32 → Option ((α0 × α1 × α2 × α3 × Int32) ⊕ ρ)} (o : Int) (e0 : β → α0) (e1 : β → α1) (e2 : β → α2) (e3 : β → α3) (st : Int → β → β) (P : Int → β → Prop) (out : β → ρ) (n : Int) (hn : 0 ≤ n) {b0 : β} {a0 : α0} {a1 : α1} {a2 : α2} {a3 : α3} {c : Int32} (g0 : a0 = e0 b0) (g1 : a1 = e1 b0) (g2 : a2 = e2 b0) (g3 : a3 = e3 b0) (hc : c = iI o) (h0 : P 0 b0)
    (hs : ∀ i b, 0 ≤ i → i < n → P i b → f (e0 b) (e1 b) (e2 b) (e3 b) (iI (i + o)) = some (.inl (e0 (st i b), e1 (st i b), e2 (st i b), e3 (st i b), iI (i + 1 + o))) ∧ P (i + 1) (st i b)) (he : ∀ b, P n b → f (e0 b) (e1 b) (e2 b) (e3 b) (iI (n + o)) = some (.inr (out b))) :
    lq5 f a0 a1 a2 a3 c = some (out (fol st b0 n.toNat)) ∧ P n (fol st b0 n.toNat) := by
  subst g0 g1 g2 g3 hc
  have H : ∀ k : Nat, (k : Int) ≤ n → P k (fol st b0 k) := by
    intro k
    induction k with
    | zero => intro _; exact h0
    | succ k ih => intro h; exact (hs k _ (by omega) (by omega) (ih (by omega))).2
  have hP : P n (fol st b0 n.toNat) := by have := H n.toNat (by omega); rw [show ((n.toNat : Nat) : Int) = n by omega] at this; exact this
  refine ⟨pc_run5 (fun k : Nat => e0 (fol st b0 k)) (fun k : Nat => e1 (fol st b0 k)) (fun k : Nat => e2 (fol st b0 k)) (fun k : Nat => e3 (fol st b0 k)) (fun k : Nat => iI (k + o)) n.toNat rfl rfl rfl rfl (by rw [pc_c0, Int.zero_add]) (fun k hk => ?_) ?_, hP⟩
  · exact (hs k _ (by omega) (by omega) (H k (by omega))).1
  · have e : ((n.toNat : Nat) : Int) = n := by omega
    show f (e0 (fol st b0 n.toNat)) (e1 (fol st b0 n.toNat)) (e2 (fol st b0 n.toNat)) (e3 (fol st b0 n.toNat)) (iI (((n.toNat : Nat) : Int) + o)) = _
    rw [e]; exact he _ hP
theorem pc_ff5 {α0 α1 α2 α3 β ρ : Type} {f : Int32 → α0 → α1 → α2 → α3 → Option ((Int32 × α0 × α1 × α2 × α3) ⊕ ρ)} (o : Int) (e0 : β → α0) (e1 : β → α1) (e2 : β → α2) (e3 : β → α3) (st : Int → β → β) (P : Int → β → Prop) (out : β → ρ) (n : Int) (hn : 0 ≤ n) {b0 : β} {a0 : α0} {a1 : α1} {a2 : α2} {a3 : α3} {c : Int32} (g0 : a0 = e0 b0) (g1 : a1 = e1 b0) (g2 : a2 = e2 b0) (g3 : a3 = e3 b0) (hc : c = iI o) (h0 : P 0 b0)
    (hs : ∀ i b, 0 ≤ i → i < n → P i b → f (iI (i + o)) (e0 b) (e1 b) (e2 b) (e3 b) = some (.inl (iI (i + 1 + o), e0 (st i b), e1 (st i b), e2 (st i b), e3 (st i b))) ∧ P (i + 1) (st i b)) (he : ∀ b, P n b → f (iI (n + o)) (e0 b) (e1 b) (e2 b) (e3 b) = some (.inr (out b))) :
    lq5 f c a0 a1 a2 a3 = some (out (fol st b0 n.toNat)) ∧ P n (fol st b0 n.toNat) := by
  subst g0 g1 g2 g3 hc
  have H : ∀ k : Nat, (k : Int) ≤ n → P k (fol st b0 k) := by
    intro k
    induction k with
    | zero => intro _; exact h0
    | succ k ih => intro h; exact (hs k _ (by omega) (by omega) (ih (by omega))).2
  have hP : P n (fol st b0 n.toNat) := by have := H n.toNat (by omega); rw [show ((n.toNat : Nat) : Int) = n by omega] at this; exact this
  refine ⟨pc_run5 (fun k : Nat => iI (k + o)) (fun k : Nat => e0 (fol st b0 k)) (fun k : Nat => e1 (fol st b0 k)) (fun k : Nat => e2 (fol st b0 k)) (fun k : Nat => e3 (fol st b0 k)) n.toNat (by rw [pc_c0, Int.zero_add]) rfl rfl rfl rfl (fun k hk => ?_) ?_, hP⟩
  · exact (hs k _ (by omega) (by omega) (H k (by omega))).1
  · have e : ((n.toNat : Nat) : Int) = n := by omega
    show f (iI (((n.toNat : Nat) : Int) + o)) (e0 (fol st b0 n.toNat)) (e1 (fol st b0 n.toNat)) (e2 (fol st b0 n.toNat)) (e3 (fol st b0 n.toNat)) = _
    rw [e]; exact he _ hP
theorem pc_fl6 {α0 α1 α2 α3 α4 β ρ : Type} {f : α0 → α1 → α2 → α3 → α4 → Int32 → Option ((α0 × α1 × α2 × α3 × α4 × Int32) ⊕ ρ)} (o : Int) (e0 : β → α0) (e1 : β → α1) (e2 : β → α2) (e3 : β → α3) (e4 : β → α4) (st : Int → β → β) (P : Int → β → Prop) (out : β → ρ) (n : Int) (hn : 0 ≤ n) {b0 : β} {a0 : α0} {a1 : α1} {a2 : α2} {a3 : α3} {a4 : α4} {c : Int32} (g0 : a0 = e0 b0) (g1 : a1 = e1 b0) (g2 : a2 = e2 b0) (g3 : a3 = e3 b0) (g4 : a4 = e4 b0) (hc : c = iI o) (h0 : P 0 b0)
    (hs : ∀ i b, 0 ≤ i → i < n → P i b → f (e0 b) (e1 b) (e2 b) (e3 b) (e4 b) (iI (i + o)) = some (.inl (e0 (st i b), e1 (st i b), e2 (st i b), e3 (st i b), e4 (st i b), iI (i + 1 + o))) ∧ P (i + 1) (st i b)) (he : ∀ b, P n b → f (e0 b) (e1 b) (e2 b) (e3 b) (e4 b) (iI (n + o)) = some (.inr (out b))) :
    lq6 f a0 a1 a2 a3 a4 c = some (out (fol st b0 n.toNat)) ∧ P n (fol st b0 n.toNat) := by
  subst g0 g1 g2 g3 g4 hc
  have H : ∀ k : Nat, (k : Int) ≤ n → P k (fol st b0 k) := by
    intro k
    induction k with
    | zero => intro _; exact h0
    | succ k ih => intro h; exact (hs k _ (by omega) (by omega) (ih (by omega))).2
  have hP : P n (fol st b0 n.toNat) := by have := H n.toNat (by omega); rw [show ((n.toNat : Nat) : Int) = n by omega] at this; exact this
  refine ⟨pc_run6 (fun k : Nat => e0 (fol st b0 k)) (fun k : Nat => e1 (fol st b0 k)) (fun k : Nat => e2 (fol st b0 k)) (fun k : Nat => e3 (fol st b0 k)) (fun k : Nat => e4 (fol st b0 k)) (fun k : Nat => iI (k + o)) n.toNat rfl rfl rfl rfl rfl (by rw [pc_c0, Int.zero_add]) (fun k hk => ?_) ?_, hP⟩
  · exact (hs k _ (by omega) (by omega) (H k (by omega))).1
  · have e : ((n.toNat : Nat) : Int) = n := by omega
    show f (e0 (fol st b0 n.toNat)) (e1 (fol st b0 n.toNat)) (e2 (fol st b0 n.toNat)) (e3 (fol st b0 n.toNat)) (e4 (fol st b0 n.toNat)) (iI (((n.toNat : Nat) : Int) + o)) = _
    rw [e]; exact he _ hP
theorem pc_ff6 {α0 α1 α2 α3 α4 β ρ : Type} {f : Int32 → α0 → α1 → α2 → α3 → α4 → Option ((Int32 × α0 × α1 × α2 × α3 × α4) ⊕ ρ)} (o : Int) (e0 : β → α0) (e1 : β → α1) (e2 : β → α2) (e3 : β → α3) (e4 : β → α4) (st : Int → β → β) (P : Int → β → Prop) (out : β → ρ) (n : Int) (hn : 0 ≤ n) {b0 : β} {a0 : α0} {a1 : α1} {a2 : α2} {a3 : α3} {a4 : α4} {c : Int32} (g0 : a0 = e0 b0) (g1 : a1 = e1 b0) (g2 : a2 = e2 b0) (g3 : a3 = e3 b0) (g4 : a4 = e4 b0) (hc : c = iI o) (h0 : P 0 b0)
    (hs : ∀ i b, 0 ≤ i → i < n → P i b → f (iI (i + o)) (e0 b) (e1 b) (e2 b) (e3 b) (e4 b) = some (.inl (iI (i + 1 + o), e0 (st i b), e1 (st i b), e2 (st i b), e3 (st i b), e4 (st i b))) ∧ P (i + 1) (st i b)) (he : ∀ b, P n b → f (iI (n + o)) (e0 b) (e1 b) (e2 b) (e3 b) (e4 b) = some (.inr (out b))) :
    lq6 f c a0 a1 a2 a3 a4 = some (out (fol st b0 n.toNat)) ∧ P n (fol st b0 n.toNat) := by
  subst g0 g1 g2 g3 g4 hc
  have H : ∀ k : Nat, (k : Int) ≤ n → P k (fol st b0 k) := by
    intro k
    induction k with
    | zero => intro _; exact h0
    | succ k ih => intro h; exact (hs k _ (by omega) (by omega) (ih (by omega))).2
  have hP : P n (fol st b0 n.toNat) := by have := H n.toNat (by omega); rw [show ((n.toNat : Nat) : Int) = n by omega] at this; exact this
  refine ⟨pc_run6 (fun k : Nat => iI (k + o)) (fun k : Nat => e0 (fol st b0 k)) (fun k : Nat => e1 (fol st b0 k)) (fun k : Nat => e2 (fol st b0 k)) (fun k : Nat => e3 (fol st b0 k)) (fun k : Nat => e4 (fol st b0 k)) n.toNat (by rw [pc_c0, Int.zero_add]) rfl rfl rfl rfl rfl (fun k hk => ?_) ?_, hP⟩
  · exact (hs k _ (by omega) (by omega) (H k (by omega))).1
  · have e : ((n.toNat : Nat) : Int) = n := by omega
    show f (iI (((n.toNat : Nat) : Int) + o)) (e0 (fol st b0 n.toNat)) (e1 (fol st b0 n.toNat)) (e2 (fol st b0 n.toNat)) (e3 (fol st b0 n.toNat)) (e4 (fol st b0 n.toNat)) = _
    rw [e]; exact he _ hP
