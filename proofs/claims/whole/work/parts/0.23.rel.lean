/-! The relation of the two whole states. -/
def RC (d : ShT) (S : Int → Int) : Prop := d.1 = iI (S 0) ∧ d.2.1 = iI (S 1) ∧ d.2.2.1 = iI (S 3) ∧ d.2.2.2.1 = iI (S 2) ∧ d.2.2.2.2.2.1 = iI (S 4) ∧ d.2.2.2.2.2.2.1 = iI (S 6) ∧ d.2.2.2.2.2.2.2.1 = iI (S 5) ∧ d.2.2.2.2.2.2.2.2.1 = iI (S 7) ∧ d.2.2.2.2.1 = rM S ∧ aE d.2.2.2.2.2.2.2.2.2.1 S ∧ aN d.2.2.2.2.2.2.2.2.2.2.1 S ∧ aL d.2.2.2.2.2.2.2.2.2.2.2.1 S ∧ aV d.2.2.2.2.2.2.2.2.2.2.2.2.1 S ∧ aO d.2.2.2.2.2.2.2.2.2.2.2.2.2.1 S ∧ aH 2 d.2.2.2.2.2.2.2.2.2.2.2.2.2.2.1 S ∧ aH 0 d.2.2.2.2.2.2.2.2.2.2.2.2.2.2.2.1 S ∧ aH 3 d.2.2.2.2.2.2.2.2.2.2.2.2.2.2.2.2.1 S ∧ aT d.2.2.2.2.2.2.2.2.2.2.2.2.2.2.2.2.2.1 S ∧ aJ d.2.2.2.2.2.2.2.2.2.2.2.2.2.2.2.2.2.2 S
theorem RC.rows {d : ShT} {S : Int → Int} (h : RC d S) : d.1 = iI (S 0) := h.1
theorem RC.columns {d : ShT} {S : Int → Int} (h : RC d S) : d.2.1 = iI (S 1) := h.2.1
theorem RC.rivers {d : ShT} {S : Int → Int} (h : RC d S) : d.2.2.1 = iI (S 3) := h.2.2.1
theorem RC.count {d : ShT} {S : Int → Int} (h : RC d S) : d.2.2.2.1 = iI (S 2) := h.2.2.2.1
theorem RC.jcount {d : ShT} {S : Int → Int} (h : RC d S) : d.2.2.2.2.2.1 = iI (S 4) := h.2.2.2.2.1
theorem RC.next {d : ShT} {S : Int → Int} (h : RC d S) : d.2.2.2.2.2.2.1 = iI (S 6) := h.2.2.2.2.2.1
theorem RC.turn {d : ShT} {S : Int → Int} (h : RC d S) : d.2.2.2.2.2.2.2.1 = iI (S 5) := h.2.2.2.2.2.2.1
theorem RC.quarters {d : ShT} {S : Int → Int} (h : RC d S) : d.2.2.2.2.2.2.2.2.1 = iI (S 7) := h.2.2.2.2.2.2.2.1
theorem RC.reds {d : ShT} {S : Int → Int} (h : RC d S) : d.2.2.2.2.1 = rM S := h.2.2.2.2.2.2.2.2.1
theorem RC.letterOn {d : ShT} {S : Int → Int} (h : RC d S) : aE d.2.2.2.2.2.2.2.2.2.1 S := h.2.2.2.2.2.2.2.2.2.1
theorem RC.namesOn {d : ShT} {S : Int → Int} (h : RC d S) : aN d.2.2.2.2.2.2.2.2.2.2.1 S := h.2.2.2.2.2.2.2.2.2.2.1
theorem RC.land {d : ShT} {S : Int → Int} (h : RC d S) : aL d.2.2.2.2.2.2.2.2.2.2.2.1 S := h.2.2.2.2.2.2.2.2.2.2.2.1
theorem RC.riverOf {d : ShT} {S : Int → Int} (h : RC d S) : aV d.2.2.2.2.2.2.2.2.2.2.2.2.1 S := h.2.2.2.2.2.2.2.2.2.2.2.2.1
theorem RC.riverPlace {d : ShT} {S : Int → Int} (h : RC d S) : aO d.2.2.2.2.2.2.2.2.2.2.2.2.2.1 S := h.2.2.2.2.2.2.2.2.2.2.2.2.2.1
theorem RC.direction {d : ShT} {S : Int → Int} (h : RC d S) : aH 2 d.2.2.2.2.2.2.2.2.2.2.2.2.2.2.1 S := h.2.2.2.2.2.2.2.2.2.2.2.2.2.2.1
theorem RC.home {d : ShT} {S : Int → Int} (h : RC d S) : aH 0 d.2.2.2.2.2.2.2.2.2.2.2.2.2.2.2.1 S := h.2.2.2.2.2.2.2.2.2.2.2.2.2.2.2.1
theorem RC.length {d : ShT} {S : Int → Int} (h : RC d S) : aH 3 d.2.2.2.2.2.2.2.2.2.2.2.2.2.2.2.2.1 S := h.2.2.2.2.2.2.2.2.2.2.2.2.2.2.2.2.1
theorem RC.letters {d : ShT} {S : Int → Int} (h : RC d S) : aT d.2.2.2.2.2.2.2.2.2.2.2.2.2.2.2.2.2.1 S := h.2.2.2.2.2.2.2.2.2.2.2.2.2.2.2.2.2.1
theorem RC.stops {d : ShT} {S : Int → Int} (h : RC d S) : aJ d.2.2.2.2.2.2.2.2.2.2.2.2.2.2.2.2.2.2 S := h.2.2.2.2.2.2.2.2.2.2.2.2.2.2.2.2.2.2
/-- what was kept: the class's ring and the reference's row of rows -/
def RH (latest count : Int32) (D : Nat → Option ShT) (acts : Int32) (past : Nat → Int32) : Prop := ∃ n l : Int, 0 ≤ n ∧ n ≤ 8 ∧ 0 ≤ l ∧ l < 8 ∧ count = iI n ∧ acts = iI n ∧ latest = iI l ∧ ∀ j, 0 ≤ j → j < n → ∃ d T, D ((l - j) % 8).toNat = some d ∧ RC d T ∧ wS T ∧ ∀ k, 0 ≤ k → k < 552 → past (552 * (n - 1 - j) + k).toNat = iI (T k)
def RX (len : Int32) (y : Nat → Int32) (mlen : Int32) (my : Nat → Int32) : Prop := ∃ n : Int, ∃ t : Int → Int, 0 ≤ n ∧ n ≤ 500 ∧ len = iI n ∧ mlen = iI n ∧ ∀ k, 0 ≤ k → k < n → y k.toNat = iI (t k) ∧ my k.toNat = iI (t k) ∧ 1 ≤ t k ∧ t k ≤ 255
def RO (len : Int32) (y : Nat → Int32) (mlen : Int32) (my : Nat → Int32) : Prop := ∃ n : Int, 0 ≤ n ∧ n ≤ 12 ∧ len = iI n ∧ mlen = iI n ∧ ∀ k, 0 ≤ k → k < n → y k.toNat = my k.toNat
def RK (D : Nat → Option ShT) (isKept kept : Nat → Int32) : Prop := ∀ k, 0 ≤ k → k < 2 → (isKept k.toNat = iI 0 ∧ D k.toNat = none) ∨ (isKept k.toNat = iI 1 ∧ ∃ d T, D k.toNat = some d ∧ RC d T ∧ wS T ∧ ∀ j, 0 ≤ j → j < 552 → kept (552 * k + j).toNat = iI (T j))
def RR (σ : XS) (μ : MS) : Prop := ∃ S, RC σ.1 S ∧ wS S ∧ mS μ.2.2.2.2.2.2.2.2.2.2.2.2.2.2.2.2.2.2.2.2.2.2.2.2.2.2.1 S ∧ RH σ.2.1.1 σ.2.1.2.1 σ.2.1.2.2 μ.1 μ.2.2.2.2.2.2.2.2.2.2.2.2.2.2.2.2.2.2.2.2.2.2.2.2.1 ∧ RX σ.2.2.2.2.1.1 σ.2.2.2.2.1.2.2.2.2.2.2.2.2.2.2.2 μ.2.2.2.2.2.2.1 μ.2.2.2.2.2.2.2.2.2.2.2.2.2.2.2.2.2.2.2.2.2.2.2.2.2.2.2.2.1 ∧ RO σ.2.2.2.2.2.2.2.1.2.2.1 σ.2.2.2.2.2.2.2.1.2.2.2 μ.2.2.2.2.2.2.2.2.2.2.2.2.2.2.2.1 μ.2.2.2.2.2.2.2.2.2.2.2.2.2.2.2.2.2.2.2.2.2.2.2.1 ∧ RK σ.2.2.2.2.2.2.2.2 μ.2.2.2.2.2.2.2.2.2.2.2.2.2.2.2.2.2.2.2.2.1 μ.2.2.2.2.2.2.2.2.2.2.2.2.2.2.2.2.2.2.2.2.2.1 ∧ σ.2.2.2.2.2.2.2.1.1 = μ.2.2.2.2.2.2.2.2.2.2.2.1 ∧ σ.2.2.2.2.2.2.2.1.2.1 = μ.2.2.2.2.2.2.2.2.2.2.2.2.1
theorem pc_wr (x : Int32) : ∃ a : Int, x = iI a ∧ -2147483648 ≤ a ∧ a < 2147483648 := ⟨x.toInt, (pc_of x).symm, Int32.le_toInt x, Int32.toInt_lt x⟩
theorem pc_vi {α : Type} {i : Int32} {n : Nat} {k : Option α} (h : vp_in i n) : ar i n k = k := by unfold ar; rw [if_neg h]
theorem pc_thr (x : Int32) : f_X9_thrown x = some x := rfl
theorem pc_ar1 {α : Type} {k : Option α} : ar (iI 0) 1 k = k := rfl
theorem pc_upL {p : Nat → Int64} {x : Int64} : vp_updL p (iI 0).toNatClampNeg x (iI 0).toNatClampNeg = x := by rfl
theorem pc_cmp {x : Int64} : lg_cmp x x = 0 := by unfold lg_cmp; rw [if_neg (by intro h; exact absurd (Int64.lt_iff_toInt_lt.mp h) (Int.lt_irrefl _)), if_pos rfl]
theorem pc_zB0 : zB false = iI 0 := rfl
theorem pc_zB1 : zB true = iI 1 := rfl
