theorem pc_iv2 {α0 ρ : Type} {f : Int32 → α0 → Option ((Int32 × α0) ⊕ ρ)} (P : Int → α0 → Prop) (Q : ρ → Prop) (n : Int) (hn : 0 ≤ n) (hN : n < 2147483648) {x0 : α0} {c : Int32} (hc : c = iI 0) (h0 : P 0 x0)
    (hs : ∀ i a0, 0 ≤ i → i < n → P i a0 → ∃ b0, f (iI i) a0 = some (.inl (iI (i + 1), b0)) ∧ P (i + 1) b0) (he : ∀ a0, P n a0 → ∃ r, f (iI n) a0 = some (.inr r) ∧ Q r) : ∃ r, lq2 f c x0 = some r ∧ Q r := by
  refine pc_inv2 (fun c a0 => ∃ i : Int, c = iI i ∧ 0 ≤ i ∧ i ≤ n ∧ P i a0) (fun c a0 => (n - c.toInt).toNat) Q (fun c a0 h => ?_) c x0 ⟨0, hc, by omega, hn, h0⟩
  obtain ⟨i, e, i1, i2, hp⟩ := h
  subst e
  by_cases z : i = n
  · subst z
    exact .inr (he a0 hp)
  · obtain ⟨b0, e1, e2⟩ := hs i a0 i1 (by omega) hp
    refine .inl ⟨iI (i + 1), b0, e1, ⟨i + 1, rfl, by omega, by omega, e2⟩, ?_⟩
    show (n - (iI (i + 1)).toInt).toNat < (n - (iI i).toInt).toNat
    rw [pc_toInt (by omega) (by omega), pc_toInt (by omega) (by omega)]
    omega
theorem pc_iv3 {α0 α1 ρ : Type} {f : Int32 → α0 → α1 → Option ((Int32 × α0 × α1) ⊕ ρ)} (P : Int → α0 → α1 → Prop) (Q : ρ → Prop) (n : Int) (hn : 0 ≤ n) (hN : n < 2147483648) {x0 : α0} {x1 : α1} {c : Int32} (hc : c = iI 0) (h0 : P 0 x0 x1)
    (hs : ∀ i a0 a1, 0 ≤ i → i < n → P i a0 a1 → ∃ b0 b1, f (iI i) a0 a1 = some (.inl (iI (i + 1), b0, b1)) ∧ P (i + 1) b0 b1) (he : ∀ a0 a1, P n a0 a1 → ∃ r, f (iI n) a0 a1 = some (.inr r) ∧ Q r) : ∃ r, lq3 f c x0 x1 = some r ∧ Q r := by
  refine pc_inv3 (fun c a0 a1 => ∃ i : Int, c = iI i ∧ 0 ≤ i ∧ i ≤ n ∧ P i a0 a1) (fun c a0 a1 => (n - c.toInt).toNat) Q (fun c a0 a1 h => ?_) c x0 x1 ⟨0, hc, by omega, hn, h0⟩
  obtain ⟨i, e, i1, i2, hp⟩ := h
  subst e
  by_cases z : i = n
  · subst z
    exact .inr (he a0 a1 hp)
  · obtain ⟨b0, b1, e1, e2⟩ := hs i a0 a1 i1 (by omega) hp
    refine .inl ⟨iI (i + 1), b0, b1, e1, ⟨i + 1, rfl, by omega, by omega, e2⟩, ?_⟩
    show (n - (iI (i + 1)).toInt).toNat < (n - (iI i).toInt).toNat
    rw [pc_toInt (by omega) (by omega), pc_toInt (by omega) (by omega)]
    omega
theorem pc_iv4 {α0 α1 α2 ρ : Type} {f : Int32 → α0 → α1 → α2 → Option ((Int32 × α0 × α1 × α2) ⊕ ρ)} (P : Int → α0 → α1 → α2 → Prop) (Q : ρ → Prop) (n : Int) (hn : 0 ≤ n) (hN : n < 2147483648) {x0 : α0} {x1 : α1} {x2 : α2} {c : Int32} (hc : c = iI 0) (h0 : P 0 x0 x1 x2)
    (hs : ∀ i a0 a1 a2, 0 ≤ i → i < n → P i a0 a1 a2 → ∃ b0 b1 b2, f (iI i) a0 a1 a2 = some (.inl (iI (i + 1), b0, b1, b2)) ∧ P (i + 1) b0 b1 b2) (he : ∀ a0 a1 a2, P n a0 a1 a2 → ∃ r, f (iI n) a0 a1 a2 = some (.inr r) ∧ Q r) : ∃ r, lq4 f c x0 x1 x2 = some r ∧ Q r := by
  refine pc_inv4 (fun c a0 a1 a2 => ∃ i : Int, c = iI i ∧ 0 ≤ i ∧ i ≤ n ∧ P i a0 a1 a2) (fun c a0 a1 a2 => (n - c.toInt).toNat) Q (fun c a0 a1 a2 h => ?_) c x0 x1 x2 ⟨0, hc, by omega, hn, h0⟩
  obtain ⟨i, e, i1, i2, hp⟩ := h
  subst e
  by_cases z : i = n
  · subst z
    exact .inr (he a0 a1 a2 hp)
  · obtain ⟨b0, b1, b2, e1, e2⟩ := hs i a0 a1 a2 i1 (by omega) hp
    refine .inl ⟨iI (i + 1), b0, b1, b2, e1, ⟨i + 1, rfl, by omega, by omega, e2⟩, ?_⟩
    show (n - (iI (i + 1)).toInt).toNat < (n - (iI i).toInt).toNat
    rw [pc_toInt (by omega) (by omega), pc_toInt (by omega) (by omega)]
    omega
theorem pc_iv5 {α0 α1 α2 α3 ρ : Type} {f : Int32 → α0 → α1 → α2 → α3 → Option ((Int32 × α0 × α1 × α2 × α3) ⊕ ρ)} (P : Int → α0 → α1 → α2 → α3 → Prop) (Q : ρ → Prop) (n : Int) (hn : 0 ≤ n) (hN : n < 2147483648) {x0 : α0} {x1 : α1} {x2 : α2} {x3 : α3} {c : Int32} (hc : c = iI 0) (h0 : P 0 x0 x1 x2 x3)
    (hs : ∀ i a0 a1 a2 a3, 0 ≤ i → i < n → P i a0 a1 a2 a3 → ∃ b0 b1 b2 b3, f (iI i) a0 a1 a2 a3 = some (.inl (iI (i + 1), b0, b1, b2, b3)) ∧ P (i + 1) b0 b1 b2 b3) (he : ∀ a0 a1 a2 a3, P n a0 a1 a2 a3 → ∃ r, f (iI n) a0 a1 a2 a3 = some (.inr r) ∧ Q r) : ∃ r, lq5 f c x0 x1 x2 x3 = some r ∧ Q r := by
  refine pc_inv5 (fun c a0 a1 a2 a3 => ∃ i : Int, c = iI i ∧ 0 ≤ i ∧ i ≤ n ∧ P i a0 a1 a2 a3) (fun c a0 a1 a2 a3 => (n - c.toInt).toNat) Q (fun c a0 a1 a2 a3 h => ?_) c x0 x1 x2 x3 ⟨0, hc, by omega, hn, h0⟩
  obtain ⟨i, e, i1, i2, hp⟩ := h
  subst e
  by_cases z : i = n
  · subst z
    exact .inr (he a0 a1 a2 a3 hp)
  · obtain ⟨b0, b1, b2, b3, e1, e2⟩ := hs i a0 a1 a2 a3 i1 (by omega) hp
    refine .inl ⟨iI (i + 1), b0, b1, b2, b3, e1, ⟨i + 1, rfl, by omega, by omega, e2⟩, ?_⟩
    show (n - (iI (i + 1)).toInt).toNat < (n - (iI i).toInt).toNat
    rw [pc_toInt (by omega) (by omega), pc_toInt (by omega) (by omega)]
    omega
theorem pc_iv6 {α0 α1 α2 α3 α4 ρ : Type} {f : Int32 → α0 → α1 → α2 → α3 → α4 → Option ((Int32 × α0 × α1 × α2 × α3 × α4) ⊕ ρ)} (P : Int → α0 → α1 → α2 → α3 → α4 → Prop) (Q : ρ → Prop) (n : Int) (hn : 0 ≤ n) (hN : n < 2147483648) {x0 : α0} {x1 : α1} {x2 : α2} {x3 : α3} {x4 : α4} {c : Int32} (hc : c = iI 0) (h0 : P 0 x0 x1 x2 x3 x4)
    (hs : ∀ i a0 a1 a2 a3 a4, 0 ≤ i → i < n → P i a0 a1 a2 a3 a4 → ∃ b0 b1 b2 b3 b4, f (iI i) a0 a1 a2 a3 a4 = some (.inl (iI (i + 1), b0, b1, b2, b3, b4)) ∧ P (i + 1) b0 b1 b2 b3 b4) (he : ∀ a0 a1 a2 a3 a4, P n a0 a1 a2 a3 a4 → ∃ r, f (iI n) a0 a1 a2 a3 a4 = some (.inr r) ∧ Q r) : ∃ r, lq6 f c x0 x1 x2 x3 x4 = some r ∧ Q r := by
  refine pc_inv6 (fun c a0 a1 a2 a3 a4 => ∃ i : Int, c = iI i ∧ 0 ≤ i ∧ i ≤ n ∧ P i a0 a1 a2 a3 a4) (fun c a0 a1 a2 a3 a4 => (n - c.toInt).toNat) Q (fun c a0 a1 a2 a3 a4 h => ?_) c x0 x1 x2 x3 x4 ⟨0, hc, by omega, hn, h0⟩
  obtain ⟨i, e, i1, i2, hp⟩ := h
  subst e
  by_cases z : i = n
  · subst z
    exact .inr (he a0 a1 a2 a3 a4 hp)
  · obtain ⟨b0, b1, b2, b3, b4, e1, e2⟩ := hs i a0 a1 a2 a3 a4 i1 (by omega) hp
    refine .inl ⟨iI (i + 1), b0, b1, b2, b3, b4, e1, ⟨i + 1, rfl, by omega, by omega, e2⟩, ?_⟩
    show (n - (iI (i + 1)).toInt).toNat < (n - (iI i).toInt).toNat
    rw [pc_toInt (by omega) (by omega), pc_toInt (by omega) (by omega)]
    omega
theorem pc_il2 {α0 ρ : Type} {f : α0 → Int32 → Option ((α0 × Int32) ⊕ ρ)} (P : Int → α0 → Prop) (Q : ρ → Prop) (n : Int) (hn : 0 ≤ n) (hN : n < 2147483648) {x0 : α0} {c : Int32} (hc : c = iI 0) (h0 : P 0 x0)
    (hs : ∀ i a0, 0 ≤ i → i < n → P i a0 → ∃ b0, f a0 (iI i) = some (.inl (b0, iI (i + 1))) ∧ P (i + 1) b0) (he : ∀ a0, P n a0 → ∃ r, f a0 (iI n) = some (.inr r) ∧ Q r) : ∃ r, lq2 f x0 c = some r ∧ Q r := by
  refine pc_inv2 (fun a0 c => ∃ i : Int, c = iI i ∧ 0 ≤ i ∧ i ≤ n ∧ P i a0) (fun a0 c => (n - c.toInt).toNat) Q (fun a0 c h => ?_) x0 c ⟨0, hc, by omega, hn, h0⟩
  obtain ⟨i, e, i1, i2, hp⟩ := h
  subst e
  by_cases z : i = n
  · subst z
    exact .inr (he a0 hp)
  · obtain ⟨b0, e1, e2⟩ := hs i a0 i1 (by omega) hp
    refine .inl ⟨b0, iI (i + 1), e1, ⟨i + 1, rfl, by omega, by omega, e2⟩, ?_⟩
    show (n - (iI (i + 1)).toInt).toNat < (n - (iI i).toInt).toNat
    rw [pc_toInt (by omega) (by omega), pc_toInt (by omega) (by omega)]
    omega
theorem pc_il3 {α0 α1 ρ : Type} {f : α0 → α1 → Int32 → Option ((α0 × α1 × Int32) ⊕ ρ)} (P : Int → α0 → α1 → Prop) (Q : ρ → Prop) (n : Int) (hn : 0 ≤ n) (hN : n < 2147483648) {x0 : α0} {x1 : α1} {c : Int32} (hc : c = iI 0) (h0 : P 0 x0 x1)
    (hs : ∀ i a0 a1, 0 ≤ i → i < n → P i a0 a1 → ∃ b0 b1, f a0 a1 (iI i) = some (.inl (b0, b1, iI (i + 1))) ∧ P (i + 1) b0 b1) (he : ∀ a0 a1, P n a0 a1 → ∃ r, f a0 a1 (iI n) = some (.inr r) ∧ Q r) : ∃ r, lq3 f x0 x1 c = some r ∧ Q r := by
  refine pc_inv3 (fun a0 a1 c => ∃ i : Int, c = iI i ∧ 0 ≤ i ∧ i ≤ n ∧ P i a0 a1) (fun a0 a1 c => (n - c.toInt).toNat) Q (fun a0 a1 c h => ?_) x0 x1 c ⟨0, hc, by omega, hn, h0⟩
  obtain ⟨i, e, i1, i2, hp⟩ := h
  subst e
  by_cases z : i = n
  · subst z
    exact .inr (he a0 a1 hp)
  · obtain ⟨b0, b1, e1, e2⟩ := hs i a0 a1 i1 (by omega) hp
    refine .inl ⟨b0, b1, iI (i + 1), e1, ⟨i + 1, rfl, by omega, by omega, e2⟩, ?_⟩
    show (n - (iI (i + 1)).toInt).toNat < (n - (iI i).toInt).toNat
    rw [pc_toInt (by omega) (by omega), pc_toInt (by omega) (by omega)]
    omega
theorem pc_il4 {α0 α1 α2 ρ : Type} {f : α0 → α1 → α2 → Int32 → Option ((α0 × α1 × α2 × Int32) ⊕ ρ)} (P : Int → α0 → α1 → α2 → Prop) (Q : ρ → Prop) (n : Int) (hn : 0 ≤ n) (hN : n < 2147483648) {x0 : α0} {x1 : α1} {x2 : α2} {c : Int32} (hc : c = iI 0) (h0 : P 0 x0 x1 x2)
    (hs : ∀ i a0 a1 a2, 0 ≤ i → i < n → P i a0 a1 a2 → ∃ b0 b1 b2, f a0 a1 a2 (iI i) = some (.inl (b0, b1, b2, iI (i + 1))) ∧ P (i + 1) b0 b1 b2) (he : ∀ a0 a1 a2, P n a0 a1 a2 → ∃ r, f a0 a1 a2 (iI n) = some (.inr r) ∧ Q r) : ∃ r, lq4 f x0 x1 x2 c = some r ∧ Q r := by
  refine pc_inv4 (fun a0 a1 a2 c => ∃ i : Int, c = iI i ∧ 0 ≤ i ∧ i ≤ n ∧ P i a0 a1 a2) (fun a0 a1 a2 c => (n - c.toInt).toNat) Q (fun a0 a1 a2 c h => ?_) x0 x1 x2 c ⟨0, hc, by omega, hn, h0⟩
  obtain ⟨i, e, i1, i2, hp⟩ := h
  subst e
  by_cases z : i = n
  · subst z
    exact .inr (he a0 a1 a2 hp)
  · obtain ⟨b0, b1, b2, e1, e2⟩ := hs i a0 a1 a2 i1 (by omega) hp
    refine .inl ⟨b0, b1, b2, iI (i + 1), e1, ⟨i + 1, rfl, by omega, by omega, e2⟩, ?_⟩
    show (n - (iI (i + 1)).toInt).toNat < (n - (iI i).toInt).toNat
    rw [pc_toInt (by omega) (by omega), pc_toInt (by omega) (by omega)]
    omega
theorem pc_il5 {α0 α1 α2 α3 ρ : Type} {f : α0 → α1 → α2 → α3 → Int32 → Option ((α0 × α1 × α2 × α3 × Int32) ⊕ ρ)} (P : Int → α0 → α1 → α2 → α3 → Prop) (Q : ρ → Prop) (n : Int) (hn : 0 ≤ n) (hN : n < 2147483648) {x0 : α0} {x1 : α1} {x2 : α2} {x3 : α3} {c : Int32} (hc : c = iI 0) (h0 : P 0 x0 x1 x2 x3)
    (hs : ∀ i a0 a1 a2 a3, 0 ≤ i → i < n → P i a0 a1 a2 a3 → ∃ b0 b1 b2 b3, f a0 a1 a2 a3 (iI i) = some (.inl (b0, b1, b2, b3, iI (i + 1))) ∧ P (i + 1) b0 b1 b2 b3) (he : ∀ a0 a1 a2 a3, P n a0 a1 a2 a3 → ∃ r, f a0 a1 a2 a3 (iI n) = some (.inr r) ∧ Q r) : ∃ r, lq5 f x0 x1 x2 x3 c = some r ∧ Q r := by
  refine pc_inv5 (fun a0 a1 a2 a3 c => ∃ i : Int, c = iI i ∧ 0 ≤ i ∧ i ≤ n ∧ P i a0 a1 a2 a3) (fun a0 a1 a2 a3 c => (n - c.toInt).toNat) Q (fun a0 a1 a2 a3 c h => ?_) x0 x1 x2 x3 c ⟨0, hc, by omega, hn, h0⟩
  obtain ⟨i, e, i1, i2, hp⟩ := h
  subst e
  by_cases z : i = n
  · subst z
    exact .inr (he a0 a1 a2 a3 hp)
  · obtain ⟨b0, b1, b2, b3, e1, e2⟩ := hs i a0 a1 a2 a3 i1 (by omega) hp
    refine .inl ⟨b0, b1, b2, b3, iI (i + 1), e1, ⟨i + 1, rfl, by omega, by omega, e2⟩, ?_⟩
    show (n - (iI (i + 1)).toInt).toNat < (n - (iI i).toInt).toNat
    rw [pc_toInt (by omega) (by omega), pc_toInt (by omega) (by omega)]
    omega
theorem pc_il6 {α0 α1 α2 α3 α4 ρ : Type} {f : α0 → α1 → α2 → α3 → α4 → Int32 → Option ((α0 × α1 × α2 × α3 × α4 × Int32) ⊕ ρ)} (P : Int → α0 → α1 → α2 → α3 → α4 → Prop) (Q : ρ → Prop) (n : Int) (hn : 0 ≤ n) (hN : n < 2147483648) {x0 : α0} {x1 : α1} {x2 : α2} {x3 : α3} {x4 : α4} {c : Int32} (hc : c = iI 0) (h0 : P 0 x0 x1 x2 x3 x4)
    (hs : ∀ i a0 a1 a2 a3 a4, 0 ≤ i → i < n → P i a0 a1 a2 a3 a4 → ∃ b0 b1 b2 b3 b4, f a0 a1 a2 a3 a4 (iI i) = some (.inl (b0, b1, b2, b3, b4, iI (i + 1))) ∧ P (i + 1) b0 b1 b2 b3 b4) (he : ∀ a0 a1 a2 a3 a4, P n a0 a1 a2 a3 a4 → ∃ r, f a0 a1 a2 a3 a4 (iI n) = some (.inr r) ∧ Q r) : ∃ r, lq6 f x0 x1 x2 x3 x4 c = some r ∧ Q r := by
  refine pc_inv6 (fun a0 a1 a2 a3 a4 c => ∃ i : Int, c = iI i ∧ 0 ≤ i ∧ i ≤ n ∧ P i a0 a1 a2 a3 a4) (fun a0 a1 a2 a3 a4 c => (n - c.toInt).toNat) Q (fun a0 a1 a2 a3 a4 c h => ?_) x0 x1 x2 x3 x4 c ⟨0, hc, by omega, hn, h0⟩
  obtain ⟨i, e, i1, i2, hp⟩ := h
  subst e
  by_cases z : i = n
  · subst z
    exact .inr (he a0 a1 a2 a3 a4 hp)
  · obtain ⟨b0, b1, b2, b3, b4, e1, e2⟩ := hs i a0 a1 a2 a3 a4 i1 (by omega) hp
    refine .inl ⟨b0, b1, b2, b3, b4, iI (i + 1), e1, ⟨i + 1, rfl, by omega, by omega, e2⟩, ?_⟩
    show (n - (iI (i + 1)).toInt).toNat < (n - (iI i).toInt).toNat
    rw [pc_toInt (by omega) (by omega), pc_toInt (by omega) (by omega)]
    omega
theorem pc_eqs {α : Type} {o : Option α} {x : α} (h : ∃ r, o = some r ∧ r = x) : o = some x := by
  obtain ⟨r, h1, h2⟩ := h
  rw [h1, h2]
theorem pc_im3 {α0 α1 ρ : Type} {f : α0 → Int32 → α1 → Option ((α0 × Int32 × α1) ⊕ ρ)} (P : Int → α0 → α1 → Prop) (Q : ρ → Prop) (n : Int) (hn : 0 ≤ n) (hN : n < 2147483648) {x0 : α0} {x1 : α1} {c : Int32} (hc : c = iI 0) (h0 : P 0 x0 x1)
    (hs : ∀ i a0 a1, 0 ≤ i → i < n → P i a0 a1 → ∃ b0 b1, f a0 (iI i) a1 = some (.inl (b0, iI (i + 1), b1)) ∧ P (i + 1) b0 b1) (he : ∀ a0 a1, P n a0 a1 → ∃ r, f a0 (iI n) a1 = some (.inr r) ∧ Q r) : ∃ r, lq3 f x0 c x1 = some r ∧ Q r := by
  refine pc_inv3 (fun a0 c a1 => ∃ i : Int, c = iI i ∧ 0 ≤ i ∧ i ≤ n ∧ P i a0 a1) (fun a0 c a1 => (n - c.toInt).toNat) Q (fun a0 c a1 h => ?_) x0 c x1 ⟨0, hc, by omega, hn, h0⟩
  obtain ⟨i, e, i1, i2, hp⟩ := h
  subst e
  by_cases z : i = n
  · subst z
    exact .inr (he a0 a1 hp)
  · obtain ⟨b0, b1, e1, e2⟩ := hs i a0 a1 i1 (by omega) hp
    refine .inl ⟨b0, iI (i + 1), b1, e1, ⟨i + 1, rfl, by omega, by omega, e2⟩, ?_⟩
    show (n - (iI (i + 1)).toInt).toNat < (n - (iI i).toInt).toNat
    rw [pc_toInt (by omega) (by omega), pc_toInt (by omega) (by omega)]
    omega
theorem pc_im4 {α0 α1 α2 ρ : Type} {f : α0 → Int32 → α1 → α2 → Option ((α0 × Int32 × α1 × α2) ⊕ ρ)} (P : Int → α0 → α1 → α2 → Prop) (Q : ρ → Prop) (n : Int) (hn : 0 ≤ n) (hN : n < 2147483648) {x0 : α0} {x1 : α1} {x2 : α2} {c : Int32} (hc : c = iI 0) (h0 : P 0 x0 x1 x2)
    (hs : ∀ i a0 a1 a2, 0 ≤ i → i < n → P i a0 a1 a2 → ∃ b0 b1 b2, f a0 (iI i) a1 a2 = some (.inl (b0, iI (i + 1), b1, b2)) ∧ P (i + 1) b0 b1 b2) (he : ∀ a0 a1 a2, P n a0 a1 a2 → ∃ r, f a0 (iI n) a1 a2 = some (.inr r) ∧ Q r) : ∃ r, lq4 f x0 c x1 x2 = some r ∧ Q r := by
  refine pc_inv4 (fun a0 c a1 a2 => ∃ i : Int, c = iI i ∧ 0 ≤ i ∧ i ≤ n ∧ P i a0 a1 a2) (fun a0 c a1 a2 => (n - c.toInt).toNat) Q (fun a0 c a1 a2 h => ?_) x0 c x1 x2 ⟨0, hc, by omega, hn, h0⟩
  obtain ⟨i, e, i1, i2, hp⟩ := h
  subst e
  by_cases z : i = n
  · subst z
    exact .inr (he a0 a1 a2 hp)
  · obtain ⟨b0, b1, b2, e1, e2⟩ := hs i a0 a1 a2 i1 (by omega) hp
    refine .inl ⟨b0, iI (i + 1), b1, b2, e1, ⟨i + 1, rfl, by omega, by omega, e2⟩, ?_⟩
    show (n - (iI (i + 1)).toInt).toNat < (n - (iI i).toInt).toNat
    rw [pc_toInt (by omega) (by omega), pc_toInt (by omega) (by omega)]
    omega
theorem pc_im5 {α0 α1 α2 α3 ρ : Type} {f : α0 → Int32 → α1 → α2 → α3 → Option ((α0 × Int32 × α1 × α2 × α3) ⊕ ρ)} (P : Int → α0 → α1 → α2 → α3 → Prop) (Q : ρ → Prop) (n : Int) (hn : 0 ≤ n) (hN : n < 2147483648) {x0 : α0} {x1 : α1} {x2 : α2} {x3 : α3} {c : Int32} (hc : c = iI 0) (h0 : P 0 x0 x1 x2 x3)
    (hs : ∀ i a0 a1 a2 a3, 0 ≤ i → i < n → P i a0 a1 a2 a3 → ∃ b0 b1 b2 b3, f a0 (iI i) a1 a2 a3 = some (.inl (b0, iI (i + 1), b1, b2, b3)) ∧ P (i + 1) b0 b1 b2 b3) (he : ∀ a0 a1 a2 a3, P n a0 a1 a2 a3 → ∃ r, f a0 (iI n) a1 a2 a3 = some (.inr r) ∧ Q r) : ∃ r, lq5 f x0 c x1 x2 x3 = some r ∧ Q r := by
  refine pc_inv5 (fun a0 c a1 a2 a3 => ∃ i : Int, c = iI i ∧ 0 ≤ i ∧ i ≤ n ∧ P i a0 a1 a2 a3) (fun a0 c a1 a2 a3 => (n - c.toInt).toNat) Q (fun a0 c a1 a2 a3 h => ?_) x0 c x1 x2 x3 ⟨0, hc, by omega, hn, h0⟩
  obtain ⟨i, e, i1, i2, hp⟩ := h
  subst e
  by_cases z : i = n
  · subst z
    exact .inr (he a0 a1 a2 a3 hp)
  · obtain ⟨b0, b1, b2, b3, e1, e2⟩ := hs i a0 a1 a2 a3 i1 (by omega) hp
    refine .inl ⟨b0, iI (i + 1), b1, b2, b3, e1, ⟨i + 1, rfl, by omega, by omega, e2⟩, ?_⟩
    show (n - (iI (i + 1)).toInt).toNat < (n - (iI i).toInt).toNat
    rw [pc_toInt (by omega) (by omega), pc_toInt (by omega) (by omega)]
    omega
