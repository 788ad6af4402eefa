def aw (S : Int → Int) (c w d : Int) : Int :=
  if 0 ≤ c / S 1 + (if w = 0 then -d else if w = 2 then d else 0) ∧ c / S 1 + (if w = 0 then -d else if w = 2 then d else 0) < S 0 ∧ 0 ≤ c % S 1 + (if w = 1 then d else if w = 3 then -d else 0) ∧ c % S 1 + (if w = 1 then d else if w = 3 then -d else 0) < S 1 then S 1 * (c / S 1 + (if w = 0 then -d else if w = 2 then d else 0)) + (c % S 1 + (if w = 1 then d else if w = 3 then -d else 0)) else -1
def isL (S : Int → Int) (c : Int) : Bool := decide (c ≠ -1) && decide (S (8 + c) = 1)
def isV (S : Int → Int) (c : Int) : Bool := decide (c ≠ -1) && decide (0 < S (152 + c))
def hv (S : Int → Int) (h w : Int) : Int := S (440 + 12 * h + w)
def isP (S : Int → Int) (h : Int) : Bool := decide (hv S h 2 ≠ -1)
def isR (S : Int → Int) (h : Int) : Bool := decide (hv S h 1 = 1)
def hA (S : Int → Int) (c wo : Int) : Int := fi (fun h => decide (h ≠ wo) && decide (hv S h 0 = c)) (S 2)
def lIx (S : Int → Int) (h w c : Int) : Int := fi (fun k => decide (aw S (hv S h 0) w (k + 1) = c)) (hv S h 3)
def lIn (S : Int → Int) (h w c : Int) : Int := if c = -1 then -1 else if lIx S h w c = -1 then -1 else hv S h (4 + lIx S h w c)
def lOf (S : Int → Int) (h c : Int) : Int := if isP S h then lIn S h (hv S h 2) c else -1
def nm (S : Int → Int) (c : Int) : Int32 := mk (fun h => decide (lOf S h c ≠ -1)) (S 2)
def lAt (S : Int → Int) (c : Int) : Int := fol (fun h b => if b < lOf S h c then lOf S h c else b) (-1) (S 2).toNat
def cB (S : Int → Int) (c : Int) : Bool := isL S c && !isV S c && decide (hA S c (-1) = -1)
def coB (S : Int → Int) (c : Int) : Bool := isL S c && an (fun w => !isL S (aw S c w 1)) 4
def eB (S : Int → Int) (c : Int) : Bool := coB S c || an (fun w => isV S (aw S c w 1)) 4
def cR (S : Int → Int) (c wo : Int) : Int := if c = -1 then 2 else if isL S c then (if isV S c then 4 else if hA S c wo = -1 then 9 else 5) else 3
def chR (S : Int → Int) (h w wo : Int) : Int := if isL S (aw S (hv S h 0) ((w + 2) % 4) 1) then 1 else fol (fun k b => if cR S (aw S (hv S h 0) w (k + 1)) wo < b then cR S (aw S (hv S h 0) w (k + 1)) wo else b) 9 (hv S h 3).toNat % 9
def agP (S : Int → Int) (a w : Int) (r : Bool) (b v : Int) (q : Bool) (k : Int) : Bool := decide (lIn S b v (aw S (hv S a 0) w (k + 1)) ≠ -1) && (r || q || decide (lIn S b v (aw S (hv S a 0) w (k + 1)) ≠ hv S a (4 + k)))
def ag (S : Int → Int) (a w : Int) (r : Bool) (b v : Int) (q : Bool) : Bool := an (agP S a w r b v q) (hv S a 3)
def gD (S : Int → Int) : Prop := 3 ≤ S 0 ∧ S 0 ≤ 12 ∧ 3 ≤ S 1 ∧ S 1 ≤ 12
def gC (S : Int → Int) : Prop := 0 ≤ S 2 ∧ S 2 ≤ 8 ∧ 0 ≤ S 3 ∧ S 3 ≤ 8 ∧ 0 ≤ S 4 ∧ S 4 ≤ 16 ∧ 0 ≤ S 5 ∧ S 5 ≤ 3 ∧ 0 ≤ S 6 ∧ (S 6 < S 4 ∨ S 6 = 0) ∧ -2147483648 ≤ S 7 ∧ S 7 < 2147483648
def gL (S : Int → Int) : Prop := ∀ c, 0 ≤ c → c < 144 → 0 ≤ S (8 + c) ∧ S (8 + c) ≤ 1 ∧ (S 0 * S 1 ≤ c → S (8 + c) = 0)
def gR (S : Int → Int) : Prop := ∀ c, 0 ≤ c → c < 144 → 0 ≤ S (152 + c) ∧ S (152 + c) ≤ S 3 ∧ (S 0 * S 1 ≤ c → S (152 + c) = 0) ∧ 0 ≤ S (296 + c) ∧ S (296 + c) < 144
def gH (S : Int → Int) : Prop := ∀ h, 0 ≤ h → h < S 2 → 0 ≤ hv S h 0 ∧ hv S h 0 < S 0 * S 1 ∧ isL S (hv S h 0) = true ∧ 0 ≤ hv S h 1 ∧ hv S h 1 ≤ 1 ∧ -1 ≤ hv S h 2 ∧ hv S h 2 ≤ 3 ∧ 1 ≤ hv S h 3 ∧ hv S h 3 ≤ 8
def gT (S : Int → Int) : Prop := ∀ h k, 0 ≤ h → h < S 2 → 0 ≤ k → k < hv S h 3 → 97 ≤ hv S h (4 + k) ∧ hv S h (4 + k) ≤ 122
def gV (S : Int → Int) : Prop := ∀ k, 0 ≤ k → k < S 4 → 0 ≤ S (536 + k) ∧ S (536 + k) < S 2
def gP (S : Int → Int) : Prop := ∀ h, 0 ≤ h → h < S 2 → isP S h = true → isL S (aw S (hv S h 0) ((hv S h 2 + 2) % 4) 1) = false ∧ ∀ k, 0 ≤ k → k < hv S h 3 → aw S (hv S h 0) (hv S h 2) (k + 1) ≠ -1
def gX (S : Int → Int) : Prop := ∀ a b, 0 ≤ a → a < S 2 → 0 ≤ b → b < S 2 → a ≠ b → isP S a = true → isP S b = true → ag S a (hv S a 2) (isR S a) b (hv S b 2) (isR S b) = false
def gU (S : Int → Int) : Prop := ∀ a b, 0 ≤ a → a < S 2 → 0 ≤ b → b < S 2 → hv S a 0 = hv S b 0 → a = b
def wS (S : Int → Int) : Prop := gD S ∧ gC S ∧ gL S ∧ gR S ∧ gH S ∧ gT S ∧ gV S ∧ gP S ∧ gX S ∧ gU S
def mS (s : Nat → Int32) (S : Int → Int) : Prop := ∀ k : Int, 0 ≤ k → k < 552 → s k.toNat = iI (S k)
def aL (y : Nat → Int32) (S : Int → Int) : Prop := ∀ k : Int, 0 ≤ k → k < 144 → y k.toNat = iI (S (8 + k))
def aV (y : Nat → Int32) (S : Int → Int) : Prop := ∀ k : Int, 0 ≤ k → k < 144 → y k.toNat = iI (S (152 + k) - 1)
def aO (y : Nat → Int32) (S : Int → Int) : Prop := ∀ k : Int, 0 ≤ k → k < 144 → S (152 + k) ≠ 0 → y k.toNat = iI (S (296 + k))
def aH (w : Int) (y : Nat → Int32) (S : Int → Int) : Prop := ∀ h : Int, 0 ≤ h → h < S 2 → y h.toNat = iI (hv S h w)
def aT (y : Nat → Int32) (S : Int → Int) : Prop := ∀ h k : Int, 0 ≤ h → h < S 2 → 0 ≤ k → k < hv S h 3 → y (8 * h + k).toNat = iI (hv S h (4 + k))
def aN (y : Nat → Int32) (S : Int → Int) : Prop := ∀ c : Int, 0 ≤ c → c < 144 → y c.toNat = nm S c
def aE (y : Nat → Int32) (S : Int → Int) : Prop := ∀ c : Int, 0 ≤ c → c < 144 → ¬ nm S c = iI 0 → y c.toNat = iI (lAt S c)
def aJ (y : Nat → Int32) (S : Int → Int) : Prop := ∀ k : Int, 0 ≤ k → k < S 4 → y k.toNat = iI (S (536 + k))
def rM (S : Int → Int) : Int32 := mk (fun h => isR S h) (S 2)
theorem gN {S : Int → Int} (h : gD S) : 9 ≤ S 0 * S 1 ∧ S 0 * S 1 ≤ 144 := by
  obtain ⟨h1, h2, h3, h4⟩ := h
  have a1 : 3 * 3 ≤ S 0 * S 1 := Int.mul_le_mul h1 h3 (by omega) (by omega)
  have a2 : S 0 * S 1 ≤ 12 * 12 := Int.mul_le_mul h2 h4 (by omega) (by omega)
  omega
theorem gN2 {S : Int → Int} (h : gD S) : 9 ≤ S 1 * S 0 ∧ S 1 * S 0 ≤ 144 := by have := gN h; rw [Int.mul_comm] at this; exact this
theorem g_rc {S : Int → Int} (h : gD S) {c : Int} (h1 : 0 ≤ c) (h2 : c < S 0 * S 1) : 0 ≤ c / S 1 ∧ c / S 1 < S 0 ∧ 0 ≤ c % S 1 ∧ c % S 1 < S 1 := by
  obtain ⟨a1, a2, a3, a4⟩ := h
  exact ⟨Int.ediv_nonneg h1 (by omega), Int.ediv_lt_of_lt_mul (by omega) h2, Int.emod_nonneg _ (by omega), Int.emod_lt_of_pos _ (by omega)⟩
theorem g_cell {S : Int → Int} (h : gD S) {r k : Int} (h1 : 0 ≤ r) (h2 : r < S 0) (h3 : 0 ≤ k) (h4 : k < S 1) : 0 ≤ S 1 * r ∧ S 1 * r ≤ 132 ∧ 0 ≤ S 1 * r + k ∧ S 1 * r + k < S 0 * S 1 := by
  obtain ⟨a1, a2, a3, a4⟩ := h
  have e1 : 0 ≤ S 1 * r := Int.mul_nonneg (by omega) h1
  have e2 : S 1 * r ≤ S 1 * (S 0 - 1) := Int.mul_le_mul_of_nonneg_left (by omega) (by omega)
  have e3 : S 1 * (S 0 - 1) = S 0 * S 1 - S 1 := by rw [Int.mul_sub, Int.mul_one, Int.mul_comm]
  have e4 : S 1 * r ≤ 12 * 11 := Int.mul_le_mul a4 (by omega) h1 (by omega)
  omega
theorem g_aw {S : Int → Int} (h : gD S) (c w d : Int) : aw S c w d = -1 ∨ (0 ≤ aw S c w d ∧ aw S c w d < S 0 * S 1) := by
  unfold aw
  generalize c / S 1 + (if w = 0 then -d else if w = 2 then d else 0) = r
  generalize c % S 1 + (if w = 1 then d else if w = 3 then -d else 0) = k
  by_cases z : 0 ≤ r ∧ r < S 0 ∧ 0 ≤ k ∧ k < S 1
  · rw [if_pos z]
    have := g_cell h z.1 z.2.1 z.2.2.1 z.2.2.2
    exact .inr ⟨this.2.2.1, this.2.2.2⟩
  · rw [if_neg z]; exact .inl rfl
