def bt (m : Int32) (h : Int) : Bool := m.toBitVec.getLsbD h.toNat
def oc (m : Int32) : Int := su (fun k => if bt m k then 1 else 0) 8
theorem bt_or (x y : Int32) (h : Int) : bt (x ||| y) h = (bt x h || bt y h) := by unfold bt; rw [Int32.toBitVec_or, BitVec.getLsbD_or]
theorem bt_and (x y : Int32) (h : Int) : bt (x &&& y) h = (bt x h && bt y h) := by unfold bt; rw [Int32.toBitVec_and, BitVec.getLsbD_and]
theorem bt_not (x : Int32) {h : Int} (h1 : 0 ≤ h) (h2 : h < 32) : bt (x ^^^ iI (-1)) h = !bt x h := by
  unfold bt
  rw [Int32.toBitVec_xor, BitVec.getLsbD_xor]
  have : ∀ k : Fin 32, (iI (-1)).toBitVec.getLsbD k = true := by decide +kernel
  rw [this ⟨h.toNat, by omega⟩, Bool.xor_true]
theorem bt_0 (h : Int) : bt (iI 0) h = false := by unfold bt; exact BitVec.getLsbD_zero
theorem bt_sB {a b : Int} (h1 : 0 ≤ a) (h2 : a < 32) (h3 : 0 ≤ b) (h4 : b < 32) : bt (sB a) b = decide (a = b) := by
  have H : ∀ x y : Fin 32, (sB ((x : Nat) : Int)).toBitVec.getLsbD y = decide (x = y) := by decide +kernel
  have := H ⟨a.toNat, by omega⟩ ⟨b.toNat, by omega⟩
  unfold bt
  rw [show ((a.toNat : Nat) : Int) = a by omega] at this
  rw [this]
  by_cases e : a = b
  · subst e; simp
  · have : ¬ a.toNat = b.toNat := by omega
    simp [e, this]
theorem bt_ext {x y : Int32} (h : ∀ k, 0 ≤ k → k < 32 → bt x k = bt y k) : x = y := by
  apply Int32.toBitVec_inj.mp
  apply BitVec.eq_of_getLsbD_eq
  intro i hi
  have := h i (by omega) (by omega)
  unfold bt at this
  exact this
theorem pc_bt {m : Int32} {h : Int} (h1 : 0 ≤ h) (h2 : h < 32) : (m >>> (iI h &&& iI 31)) &&& iI 1 = zB (bt m h) := by
  have H : ∀ k : Fin 32, ((iI ((k : Nat) : Int) &&& iI 31).toBitVec.smod 32) = BitVec.ofNat 32 k := by decide +kernel
  have H1 := H ⟨h.toNat, by omega⟩
  simp only [show ((h.toNat : Nat) : Int) = h by omega] at H1
  have e1 : (iI 1).toBitVec = 1#32 := by decide
  apply Int32.toBitVec_inj.mp
  rw [Int32.toBitVec_and, Int32.toBitVec_shiftRight, H1, e1]
  have e2 : (BitVec.ofNat 32 h.toNat).toNat = h.toNat := by rw [BitVec.toNat_ofNat]; exact Nat.mod_eq_of_lt (by omega)
  apply BitVec.eq_of_getLsbD_eq
  intro i hi
  rw [BitVec.getLsbD_and, BitVec.getLsbD_one]
  unfold bt
  show (BitVec.getLsbD (m.toBitVec.sshiftRight (BitVec.ofNat 32 h.toNat).toNat) i && _) = _
  rw [e2]
  by_cases z : i = 0
  · subst z
    rw [BitVec.getLsbD_sshiftRight]
    have a1 : h.toNat + 0 < 32 := by omega
    simp only [Nat.add_zero]
    cases hb : m.toBitVec.getLsbD h.toNat
    · simp [zB, iI, show h.toNat < 32 by omega]
    · simp [zB, iI, show h.toNat < 32 by omega]
  · have : decide (0 < 32 ∧ i = 0) = false := by simp [z]
    have z2 : (decide (0 < 32) && decide (i = 0)) = false := by simp [z]
    cases hb : m.toBitVec.getLsbD h.toNat
    · simp [z, zB, iI]
    · have : (Int32.ofInt 1).toBitVec = 1#32 := by decide
      simp [z, zB, iI, this, BitVec.getLsbD_one]
theorem bt_mk {p : Int → Bool} {n h : Int} (hn : n ≤ 32) (h1 : 0 ≤ h) (h2 : h < 32) : bt (mk p n) h = (decide (h < n) && p h) := by
  unfold mk
  have H : ∀ k : Nat, k ≤ 32 → bt (fol (fun i b => if p i then b ||| sB i else b) (iI 0) k) h = (decide (h < k) && p h) := by
    intro k
    induction k with
    | zero =>
      intro _
      have : ¬ h < ((0 : Nat) : Int) := by omega
      simp only [fol, bt_0, this]; rfl
    | succ k ih =>
      intro hk
      rw [fol_s]
      by_cases e : p k = true
      · rw [if_pos e, bt_or, ih (by omega), bt_sB (by omega) (by omega) h1 h2]
        by_cases q : (k : Int) = h
        · subst q
          have : (k : Int) < ((k + 1 : Nat) : Int) := by omega
          rw [decide_eq_true this, e]; simp
        · by_cases y : h < (k : Int)
          · have y2 : h < ((k + 1 : Nat) : Int) := by omega
            simp only [q, y, y2]; simp
          · have y2 : ¬ h < ((k + 1 : Nat) : Int) := by omega
            simp only [q, y, y2]; simp
      · rw [if_neg e, ih (by omega)]
        by_cases q : (k : Int) = h
        · subst q; simp only [Bool.not_eq_true] at e; simp [e]
        · by_cases y : h < (k : Int)
          · have y2 : h < ((k + 1 : Nat) : Int) := by omega
            simp only [y, y2]
          · have y2 : ¬ h < ((k + 1 : Nat) : Int) := by omega
            simp only [y, y2]
  by_cases z : 0 ≤ n
  · have := H n.toNat (by omega)
    rw [show ((n.toNat : Nat) : Int) = n by omega] at this
    exact this
  · rw [show n.toNat = 0 by omega]
    have : ¬ h < n := by omega
    simp only [fol, bt_0, this]; rfl
theorem mk_eq {p : Int → Bool} {n : Int} {x : Int32} (hn : n ≤ 32) (h : ∀ k, 0 ≤ k → k < 32 → bt x k = (decide (k < n) && p k)) : mk p n = x := bt_ext (fun k h1 h2 => by rw [bt_mk hn h1 h2, h k h1 h2])
theorem mk_0 {p : Int → Bool} {n : Int} (hn : n ≤ 32) : mk p n = iI 0 ↔ ∀ k, 0 ≤ k → k < n → p k = false := by
  constructor
  · intro h k h1 h2
    have := bt_mk (p := p) hn h1 (by omega)
    rw [h, bt_0] at this
    simpa [h2] using this.symm
  · intro h
    apply mk_eq hn
    intro k h1 h2
    rw [bt_0]
    by_cases z : k < n
    · rw [h k h1 z, Bool.and_false]
    · simp [z]
theorem bt_pos {m : Int32} (h : ¬ m = iI 0) : ∃ k, 0 ≤ k ∧ k < 32 ∧ bt m k = true := by
  by_cases z : ∃ k, 0 ≤ k ∧ k < 32 ∧ bt m k = true
  · exact z
  · exfalso; apply h
    apply bt_ext
    intro k h1 h2
    rw [bt_0]
    cases e : bt m k
    · rfl
    · exact absurd ⟨k, h1, h2, e⟩ z
theorem m_ones (m : Int32) : f_X9_ones m = some (iI (oc m)) := by
  unfold f_X9_ones oc su
  simp only [pc_bv]
  refine pc_b1t (pc_fold iI (fun i b => b + if bt m i then 1 else 0) (fun i b => 0 ≤ b ∧ b ≤ i) iI 8 (by omega) (b0 := 0) rfl rfl (by omega) (fun i b a1 a2 hb => ?_) (fun b _ => ?_)).1 rfl
  · simp (disch := omega) only [-Int.reduceToNat, pc_ite, if_true, if_false, pc_bv, pc_lit, pc_neg, pc_add, pc_sub, pc_mul, pc_mr, pc_ar, pc_dv, pc_lt, pc_le, pc_eq, pc_nat, pc_div, pc_emod, pc_ifz, pc_ifo, pc_zb, pc_bd1, pc_bd2, pc_bd3, pc_bd4, pc_bd5, pc_bd6, pc_bd7, pc_bd8, pc_bd9, pc_bd10, pc_bd11, pc_bd12, pc_bd13, pc_bd14, pc_bd15, pc_bd16, pc_bd17, pc_bd19, pc_bd21, pc_bd22, pc_bd30, pc_bd34, pc_bd57, pc_bt, if_neg]
    cases bt m i
    · simp [zB, pc_add]; omega
    · simp [zB, pc_add]; omega
  · simp (disch := omega) only [-Int.reduceToNat, pc_ite, if_true, if_false, pc_bv, pc_lit, pc_neg, pc_add, pc_sub, pc_mul, pc_mr, pc_ar, pc_dv, pc_lt, pc_le, pc_eq, pc_nat, pc_div, pc_emod, pc_ifz, pc_ifo, pc_zb, pc_bd1, pc_bd2, pc_bd3, pc_bd4, pc_bd5, pc_bd6, pc_bd7, pc_bd8, pc_bd9, pc_bd10, pc_bd11, pc_bd12, pc_bd13, pc_bd14, pc_bd15, pc_bd16, pc_bd17, pc_bd19, pc_bd21, pc_bd22, pc_bd30, pc_bd34, pc_bd57, if_pos]
theorem x_bits {m : Int32} (h : ∀ k, 8 ≤ k → k < 32 → bt m k = false) : f_J6_bitCount_0f7a4 m = some (iI (oc m)) := by
  have hm : m.toBitVec.toNat < 2 ^ 8 := by
    apply Nat.lt_pow_two_of_testBit
    intro i hi
    by_cases z : i < 32
    · have := h i (by omega) (by omega)
      exact this
    · exact Nat.testBit_lt_two_pow (Nat.lt_of_lt_of_le m.toBitVec.isLt (Nat.pow_le_pow_right (by omega) (by omega)))
  have H : ∀ z : Fin 256, f_J6_bitCount_0f7a4 (iI ((z : Nat) : Int)) = some (iI (oc (iI ((z : Nat) : Int)))) := by decide +kernel
  have e : m = iI ((m.toBitVec.toNat : Nat) : Int) := by
    apply Int32.toBitVec_inj.mp
    show _ = BitVec.ofInt 32 _
    rw [BitVec.ofInt_natCast, BitVec.ofNat_toNat, BitVec.setWidth_eq]
  have := H ⟨m.toBitVec.toNat, hm⟩
  simp only [← e] at this
  exact this
theorem oc_mk {p : Int → Bool} {n : Int} (h0 : 0 ≤ n) (hn : n ≤ 8) : oc (mk p n) = su (fun k => if p k then 1 else 0) n := by
  unfold oc
  have H : ∀ d : Nat, n + d ≤ 8 → su (fun k => if bt (mk p n) k then 1 else 0) (n + d) = su (fun k => if p k then 1 else 0) n := by
    intro d
    induction d with
    | zero =>
      intro _
      rw [pc_c0, Int.add_zero]
      exact su_congr (fun i h1 h2 => by rw [bt_mk (by omega) h1 (by omega)]; simp [h2])
    | succ d ih =>
      intro h
      rw [← ih (by omega)]
      unfold su
      rw [show (n + ((d + 1 : Nat) : Int)).toNat = (n + (d : Int)).toNat + 1 by omega, fol_s]
      show _ + (if bt (mk p n) (((n + (d : Int)).toNat : Nat) : Int) = true then (1 : Int) else 0) = _
      rw [bt_mk (by omega) (by omega) (by omega)]
      have : ¬ (((n + (d : Int)).toNat : Nat) : Int) < n := by omega
      rw [decide_eq_false this, Bool.false_and, if_neg (by decide), Int.add_zero]
  have := H (8 - n).toNat (by omega)
  rw [show n + (((8 - n).toNat : Nat) : Int) = 8 by omega] at this
  exact this
