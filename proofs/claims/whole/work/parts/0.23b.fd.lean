theorem fp_ok32 {d : FP.Core.Datum} (h : (∃ s, d = .inf s) ∨ ∃ s c q, d = .fin s c q ∧ c < 16777216 ∧ q ≤ 104) : FP.Core.encode FP.Core.b32 d < 4294967296 ∧ FP.Core.encode FP.Core.b32 d % 2147483648 ≤ 2139095040 := by
  have t : FP.Core.b32.tails = 8388608 := by decide
  have x : FP.Core.b32.exps = 256 := by decide
  have m : FP.Core.b32.qmin = -149 := by decide
  rcases h with ⟨s, rfl⟩ | ⟨s, c, q, rfl, h1, h2⟩
  · cases s <;> decide
  · unfold FP.Core.encode FP.Core.assemble
    rw [t, x, m]
    cases s
    · simp only [Bool.toNat_false]
      split <;> omega
    · simp only [Bool.toNat_true]
      split <;> omega
theorem fp_ok64 {d : FP.Core.Datum} (h : (∃ s, d = .inf s) ∨ ∃ s c q, d = .fin s c q ∧ c < 9007199254740992 ∧ q ≤ 971) : FP.Core.encode FP.Core.b64 d < 18446744073709551616 ∧ FP.Core.encode FP.Core.b64 d % 9223372036854775808 ≤ 9218868437227405312 := by
  have t : FP.Core.b64.tails = 4503599627370496 := by decide
  have x : FP.Core.b64.exps = 2048 := by decide
  have m : FP.Core.b64.qmin = -1074 := by decide
  rcases h with ⟨s, rfl⟩ | ⟨s, c, q, rfl, h1, h2⟩
  · cases s <;> decide
  · unfold FP.Core.encode FP.Core.assemble
    rw [t, x, m]
    cases s
    · simp only [Bool.toNat_false]
      split <;> omega
    · simp only [Bool.toNat_true]
      split <;> omega
theorem fp_rr (f : FP.Core.Fmt) (hm : f.qmin ≤ f.qmax) (ht : f.tails < 2 ^ f.p) (h0 : 0 < 2 ^ f.p) (s : Bool) (num den : Nat) (e : Int) : (∃ s', FP.Core.roundRatio f s num den e = .inf s') ∨ ∃ s' c q, FP.Core.roundRatio f s num den e = .fin s' c q ∧ c < 2 ^ f.p ∧ q ≤ f.qmax := by
  unfold FP.Core.roundRatio
  split
  · exact .inr ⟨_, _, _, rfl, h0, hm⟩
  · unfold FP.Core.roundAt FP.Core.settle FP.Core.bound
    split
    · split
      · rename_i h1 h2
        exact .inr ⟨_, _, _, rfl, h1, h2⟩
      · exact .inl ⟨_, rfl⟩
    · split
      · rename_i h1 h2
        exact .inr ⟨_, _, _, rfl, ht, h2⟩
      · exact .inl ⟨_, rfl⟩
theorem fp_n32 {n : Nat} (h1 : n < 4294967296) (h : n % 2147483648 ≤ 2139095040) : vf_n32 (UInt32.ofNat n) := by
  unfold vf_n32
  rw [UInt32.le_iff_toNat_le, UInt32.toNat_and]
  have e : (UInt32.ofNat n).toNat = n := by rw [UInt32.toNat_ofNat']; omega
  rw [e]
  have a := Nat.and_two_pow_sub_one_eq_mod n 31
  have c1 : (0x7fffffff : UInt32).toNat = 2 ^ 31 - 1 := by decide
  have c2 : (0x7f800000 : UInt32).toNat = 2139095040 := by decide
  rw [c1, c2, a]
  exact h
theorem fp_n64 {n : Nat} (h1 : n < 18446744073709551616) (h : n % 9223372036854775808 ≤ 9218868437227405312) : vf_n64 (UInt64.ofNat n) := by
  unfold vf_n64
  rw [UInt64.le_iff_toNat_le, UInt64.toNat_and]
  have e : (UInt64.ofNat n).toNat = n := by rw [UInt64.toNat_ofNat']; omega
  rw [e]
  have a := Nat.and_two_pow_sub_one_eq_mod n 63
  have c1 : (0x7fffffffffffffff : UInt64).toNat = 2 ^ 63 - 1 := by decide
  have c2 : (0x7ff0000000000000 : UInt64).toNat = 9218868437227405312 := by decide
  rw [c1, c2, a]
  exact h
theorem fp_f2d {n : Nat} (h1 : n < 4294967296) (h : n % 2147483648 ≤ 2139095040) : vf_n64 (FP.f2d (UInt32.ofNat n)) := by
  have e : (UInt32.ofNat n).toNat = n := by rw [UInt32.toNat_ofNat']; omega
  have t : FP.Core.b32.tails = 8388608 := by decide
  have x : FP.Core.b32.exps = 256 := by decide
  have nn : FP.Core.decode FP.Core.b32 n ≠ .nan := by
    unfold FP.Core.decode FP.Core.fieldE FP.Core.fieldT
    rw [t, x]
    split
    · split
      · intro z; cases z
      · omega
    · split <;> (intro z; cases z)
  unfold FP.f2d FP.Core.fIsNaN FP.Core.isNaN
  rw [e, decide_eq_false nn, if_neg (by decide)]
  unfold FP.Core.f2d FP.Core.convert
  rw [e]
  have k : (∃ s, FP.Core.round FP.Core.b64 (FP.Core.decode FP.Core.b32 n) = .inf s) ∨ ∃ s c q, FP.Core.round FP.Core.b64 (FP.Core.decode FP.Core.b32 n) = .fin s c q ∧ c < 9007199254740992 ∧ q ≤ 971 := by
    cases hd : FP.Core.decode FP.Core.b32 n with
    | nan => exact absurd hd nn
    | inf s => exact .inl ⟨s, rfl⟩
    | fin s c q => exact fp_rr FP.Core.b64 (by decide) (by decide) (by decide) s c 1 q
  have := fp_ok64 k
  exact fp_n64 this.1 this.2
def fpB (a : Nat) : FP.Core.Datum → Bool
  | .fin _ c _ => a == 0 || c != 0
  | _ => false
theorem fp_i2f : ∀ a : Fin 145, fpB a.val (FP.Core.decode FP.Core.b32 (FP.i2f (iI (a.val : Int))).toNat) = true := by decide +kernel
theorem fd_n32 : ∀ a : Fin 145, ∀ b : Fin 145, b.val = 0 ∨ (vf_n32 (FP.fdiv (FP.i2f (iI (a.val : Int))) (FP.i2f (iI (b.val : Int)))) ∧ vf_n64 (FP.f2d (FP.fdiv (FP.i2f (iI (a.val : Int))) (FP.i2f (iI (b.val : Int)))))) := by
  intro a b
  by_cases hb : b.val = 0
  · exact .inl hb
  · right
    have ha' := fp_i2f a
    have hb' := fp_i2f b
    have k : (∃ s, FP.Core.quotient FP.Core.b32 (FP.Core.decode FP.Core.b32 (FP.i2f (iI (a.val : Int))).toNat) (FP.Core.decode FP.Core.b32 (FP.i2f (iI (b.val : Int))).toNat) = .inf s) ∨ ∃ s c q, FP.Core.quotient FP.Core.b32 (FP.Core.decode FP.Core.b32 (FP.i2f (iI (a.val : Int))).toNat) (FP.Core.decode FP.Core.b32 (FP.i2f (iI (b.val : Int))).toNat) = .fin s c q ∧ c < 16777216 ∧ q ≤ 104 := by
      generalize FP.Core.decode FP.Core.b32 (FP.i2f (iI (a.val : Int))).toNat = x at ha'
      generalize FP.Core.decode FP.Core.b32 (FP.i2f (iI (b.val : Int))).toNat = y at hb'
      cases x with
      | nan => cases ha'
      | inf s => cases ha'
      | fin s c q =>
        cases y with
        | nan => cases hb'
        | inf s => cases hb'
        | fin t d r =>
          have d0 : d ≠ 0 := by
            unfold fpB at hb'
            rw [Bool.or_eq_true] at hb'
            rcases hb' with z | z
            · exact absurd (by simpa using z) hb
            · simpa using z
          unfold FP.Core.quotient
          simp only []
          rw [if_neg d0]
          exact fp_rr FP.Core.b32 (by decide) (by decide) (by decide) _ c d (q - r)
    have o := fp_ok32 k
    exact ⟨fp_n32 o.1 o.2, fp_f2d o.1 o.2⟩
