theorem kq_3 : Int32.ofInt (3) = 3 := by decide
theorem i32_ofNat {n : Nat} (h : n < 2 ^ 31) : (Int32.ofNat n).toInt = (n : Int) := Int32.toInt_ofNat_of_lt h
theorem vin_n {n L : Nat} (hn : n < 2 ^ 31) (h : n < L) : vp_in (Int32.ofNat n) L := by
  have e := i32_ofNat hn
  intro z
  rcases z with z | z
  · have := Int32.lt_iff_toInt_lt.mp z
    rw [e] at this
    have h0 : (0 : Int32).toInt = 0 := by decide
    omega
  · have h1 : (Int32.ofNat n).toNatClampNeg = n := by
      show (Int32.ofNat n).toInt.toNat = n
      rw [e]; rfl
    omega
theorem i32_add {n k : Nat} : Int32.ofNat n + Int32.ofNat k = Int32.ofNat (n + k) := (Int32.ofNat_add n k).symm
theorem lp_le {L j : Nat} (hL : L ≤ 1536) (hj : 3 * j ≤ 1600) (h : ¬ Int32.ofNat L - 3 < Int32.ofNat (3 * j)) : 3 * j + 3 ≤ L := by
  have h1 : ¬ (Int32.ofNat L - 3).toInt < (Int32.ofNat (3 * j)).toInt := fun z => h (Int32.lt_iff_toInt_lt.mpr z)
  rw [Int32.toInt_sub, i32_ofNat (by omega), i32_ofNat (by omega)] at h1
  have h3 : (3 : Int32).toInt = 3 := by decide
  rw [h3] at h1
  have h4 : ((L : Int) - 3).bmod (2 ^ 32) = (L : Int) - 3 := by
    rw [Int.bmod_def]
    by_cases hc : 3 ≤ L
    · have : ((L : Int) - 3) % (2 ^ 32 : Nat) = (L : Int) - 3 := Int.emod_eq_of_lt (by omega) (by omega)
      rw [this, if_pos (by omega)]
    · have : ((L : Int) - 3) % (2 ^ 32 : Nat) = (L : Int) - 3 + 2 ^ 32 := by omega
      rw [this, if_neg (by omega)]
      omega
  rw [h4] at h1
  omega
section LAWL
variable {p : Program} {l : Launch} {e : Env} {R : Room} {s : State} {m : MethodId} {args : Array Value} {below : List Frame} {meth : Method} {c : Code} {Q : State → Prop} {A : Nat → Prop} {g : GE} {sb L : Nat} {xs : Nat → Int32}
set_option maxRecDepth 20000 in
theorem law_loop (hlt : l.stackTraces = false) (hexec : p.tables.exec = Jvm.exec) (hb : c.code = cL_law) (hml : c.maxLocals = 9) (hown : s.vm.findClass RL = some m.cls) (hts : ∀ w ∈ wsL_law, w.before args s = true) (hG : GG g A s s.heap) (hA : ∀ q, s.heap.size ≤ q → A q) (hX : va_X sb L xs s s.heap) (hbl : sb < s.heap.size) (hbA : ¬ A sb) (hRf : 2000 ≤ R.frames) (hRl : 80000 ≤ R.locals) (hL : L ≤ 1536) (RR : XS → MS → Prop) (SP0 : SP_0 RR) (SP1 : SP_1 RR) (SP2 : SP_2 RR) (SP3 : SP_3 RR) (SP4 : SP_4 RR) (SP5 : SP_5 RR) (SP6 : SP_6 RR) (SP7 : SP_7 RR) (SP8 : SP_8 RR) (SP9 : SP_9 RR) (SP10 : SP_10 RR) (SP11 : SP_11 RR) (SP12 : SP_12 RR) (SP13 : SP_13 RR) (SP14 : SP_14 RR) (SP15 : SP_15 RR) (SP16 : SP_16 RR) (SP17 : SP_17 RR) (SP18 : SP_18 RR) (SP19 : SP_19 RR) (SP20 : SP_20 RR) (SP21 : SP_21 RR) (SP22 : SP_22 RR) (SP23 : SP_23 RR) (SP24 : SP_24 RR) (SP25 : SP_25 RR) (SP26 : SP_26 RR) (SP27 : SP_27 RR) (SP28 : SP_28 RR) (SP29 : SP_29 RR) (SP30 : SP_30 RR) (SP31 : SP_31 RR) (SP32 : SP_32 RR) (SP33 : SP_33 RR) (SP34 : SP_34 RR) (SP35 : SP_35 RR) (SP36 : SP_36 RR) (SP37 : SP_37 RR) (SP38 : SP_38 RR) (SP39 : SP_39 RR) (SP40 : SP_40 RR) (SP41 : SP_41 RR) (SP42 : SP_42 RR) (SP43 : SP_43 RR) (SP44 : SP_44 RR) (SP45 : SP_45 RR) (SP46 : SP_46 RR) (SP47 : SP_47 RR) (SP48 : SP_48 RR) (SP49 : SP_49 RR) (SP50 : SP_50 RR) {ax am : Nat → Nat} {ao C0 S0 : Nat} (hC0 : C0 + 14 * 540 ≤ R.cells) (hS0 : S0 + 846 * 540 ≤ R.slots) (kend : ∀ (c1 s1 : Nat) (H : Heap) (locs : List Loc) (ls : Array Slot), c1 ≤ C0 + 14 * 520 → s1 ≤ S0 + 846 * 520 → va_S A s.heap H locs → W p l e R s m args below meth c H locs c1 s1 Q (F0 m 2571 ls [])) : ∀ (f j : Nat) (as as2 : Nat → Nat → Nat) (σ : XS) (μ : MS) (o : Nat → Int64) (H : Heap) (locs : List Loc) (ls : Array Slot), L + 3 ≤ 3 * f + 3 * j → j ≤ 513 → RR σ μ → va_P g.1 vwCl (WL g ax am ao as as2 σ μ o ++ (hW g as (σ.2.1.2.2) 8 ++ hW g as2 (σ.2.2.2.2.2.2.2.2) 2)) H → va_D A (WL g ax am ao as as2 σ μ o ++ (hW g as (σ.2.1.2.2) 8 ++ hW g as2 (σ.2.2.2.2.2.2.2.2) 2)) → va_S A s.heap H locs → lv_has ls 9 [(0, .ref sb), (1, .ref (ax 0)), (2, .ref (am 0)), (3, .ref ao), (4, .int (Int32.ofNat (3 * j)))] → W p l e R s m args below meth c H locs (C0 + 14 * j) (S0 + 846 * j) Q (F0 m 23 ls []) := by
  intro f
  induction f with
  | zero =>
    intro j as as2 σ μ o H locs ls hf hj hR hP hD hS hl
    refine lv_iload (pc := 23) hexec hb dL_law_23 (lv_at hl 4 rfl) ?_
    refine lv_aload_n (pc := 25) hexec hb dL_law_25 rfl (lv_at hl 0 rfl) ?_
    refine va_slen (pc := 26) hexec hb hX hbl hbA hS dL_law_26 ?_
    refine lv_iconst (pc := 27) hexec hb dL_law_27 ki_3 ?_
    refine lv_isub (pc := 28) hexec hb dL_law_28 ?_
    refine lv_icmp_gt (pc := 29) hexec hb dL_law_29 (tgt := 2571) rfl (fun _ => kend _ _ _ _ _ (by omega) (by omega) hS) (fun hc => ?_)
    have hle := lp_le hL (by omega) hc
    exact absurd hle (by omega)
  | succ f ih =>
    intro j as as2 σ μ o H locs ls hf hj hR hP hD hS hl
    refine lv_iload (pc := 23) hexec hb dL_law_23 (lv_at hl 4 rfl) ?_
    refine lv_aload_n (pc := 25) hexec hb dL_law_25 rfl (lv_at hl 0 rfl) ?_
    refine va_slen (pc := 26) hexec hb hX hbl hbA hS dL_law_26 ?_
    refine lv_iconst (pc := 27) hexec hb dL_law_27 ki_3 ?_
    refine lv_isub (pc := 28) hexec hb dL_law_28 ?_
    refine lv_icmp_gt (pc := 29) hexec hb dL_law_29 (tgt := 2571) rfl (fun _ => kend _ _ _ _ _ (by omega) (by omega) hS) (fun hc => ?_)
    have hle := lp_le hL (by omega) hc
    have e1 : Int32.ofNat (3 * j) + 1 = Int32.ofNat (3 * j + 1) := i32_add (n := 3 * j) (k := 1)
    have e2 : Int32.ofNat (3 * j) + 2 = Int32.ofNat (3 * j + 2) := i32_add (n := 3 * j) (k := 2)
    have e3 : Int32.ofNat (3 * (j + 1)) = Int32.ofNat (3 * j) + 3 := (i32_add (n := 3 * j) (k := 3)).symm
    have h1 : vp_in (Int32.ofNat (3 * j) + 1) L := by rw [e1]; exact vin_n (by omega) (by omega)
    have h2 : vp_in (Int32.ofNat (3 * j) + 2) L := by rw [e2]; exact vin_n (by omega) (by omega)
    have h0 : vp_in (Int32.ofNat (3 * j)) L := vin_n (by omega) (by omega)
    have hinc : ∀ (as as2 : Nat → Nat → Nat) (σ : XS) (μ : MS) (o : Nat → Int64) (H : Heap) (locs : List Loc) (ls : Array Slot), RR σ μ → va_P g.1 vwCl (WL g ax am ao as as2 σ μ o ++ (hW g as (σ.2.1.2.2) 8 ++ hW g as2 (σ.2.2.2.2.2.2.2.2) 2)) H → va_D A (WL g ax am ao as as2 σ μ o ++ (hW g as (σ.2.1.2.2) 8 ++ hW g as2 (σ.2.2.2.2.2.2.2.2) 2)) → va_S A s.heap H locs → lv_has ls 9 [(0, .ref sb), (1, .ref (ax 0)), (2, .ref (am 0)), (3, .ref ao), (4, .int (Int32.ofNat (3 * j)))] → W p l e R s m args below meth c H locs (C0 + 14 * j + 14) (S0 + 846 * j + 846) Q (F0 m 2565 ls []) := by
      intro as as2 σ μ o H locs ls hR hP hD hS hl
      refine k_iinc (pc := 2565) hexec hb dL_law_2565 kq_3 hl (k := 4) rfl e3 (nle rfl) rfl (fun ls (hl : lv_has ls 9 [(4, .int (Int32.ofNat (3 * (j + 1)))), (0, .ref sb), (1, .ref (ax 0)), (2, .ref (am 0)), (3, .ref ao)]) => ?_)
      refine lv_goto (pc := 2568) hexec hb dL_law_2568 (tgt := 23) rfl ?_
      exact ih (j + 1) as as2 σ μ o H locs ls (by omega) (by omega) hR hP hD hS (lv_sub hl [1, 2, 3, 4, 0] rfl)
    refine lv_aload_n (pc := 32) hexec hb dL_law_32 rfl (lv_at hl 0 rfl) ?_
    refine lv_iload (pc := 33) hexec hb dL_law_33 (lv_at hl 4 rfl) ?_
    refine va_sld (pc := 35) hexec hb hX hbl hbA hS h0 dL_law_35 ?_
    refine lv_bipush (pc := 36) hexec hb dL_law_36 kb_63 ?_
    refine lv_iand (pc := 38) hexec hb dL_law_38 ?_
    generalize hv : xs (Int32.ofNat (3 * j)).toNatClampNeg &&& 63 = v
    by_cases g0 : v = 0
    · refine lv_tableIn (pc := 39) hexec hb dL_law_39 (by rw [g0]; decide) (by rw [g0]; decide) (by rw [g0]; rfl) (tgt := 256) rfl ?_
      exact ls_0 hlt hexec hb hml hown hts hG hA hX hbl hbA hRf hRl (by omega) (by omega) RR SP0 as as2 σ μ o hR h1 h2 hP hD hS hl hinc
    by_cases g1 : v = 1
    · refine lv_tableIn (pc := 39) hexec hb dL_law_39 (by rw [g1]; decide) (by rw [g1]; decide) (by rw [g1]; rfl) (tgt := 313) rfl ?_
      exact ls_1 hlt hexec hb hml hown hts hG hA hX hbl hbA hRf hRl (by omega) (by omega) RR SP1 as as2 σ μ o hR h1 h2 hP hD hS hl hinc
    by_cases g2 : v = 2
    · refine lv_tableIn (pc := 39) hexec hb dL_law_39 (by rw [g2]; decide) (by rw [g2]; decide) (by rw [g2]; rfl) (tgt := 326) rfl ?_
      exact ls_2 hlt hexec hb hml hown hts hG hA hX hbl hbA hRf hRl (by omega) (by omega) RR SP2 as as2 σ μ o hR h1 h2 hP hD hS hl hinc
    by_cases g3 : v = 3
    · refine lv_tableIn (pc := 39) hexec hb dL_law_39 (by rw [g3]; decide) (by rw [g3]; decide) (by rw [g3]; rfl) (tgt := 339) rfl ?_
      exact ls_3 hlt hexec hb hml hown hts hG hA hX hbl hbA hRf hRl (by omega) (by omega) RR SP3 as as2 σ μ o hR h1 h2 hP hD hS hl hinc
    by_cases g4 : v = 4
    · refine lv_tableIn (pc := 39) hexec hb dL_law_39 (by rw [g4]; decide) (by rw [g4]; decide) (by rw [g4]; rfl) (tgt := 352) rfl ?_
      exact ls_4 hlt hexec hb hml hown hts hG hA hX hbl hbA hRf hRl (by omega) (by omega) RR SP4 as as2 σ μ o hR h1 h2 hP hD hS hl hinc
    by_cases g5 : v = 5
    · refine lv_tableIn (pc := 39) hexec hb dL_law_39 (by rw [g5]; decide) (by rw [g5]; decide) (by rw [g5]; rfl) (tgt := 408) rfl ?_
      exact ls_5 hlt hexec hb hml hown hts hG hA hX hbl hbA hRf hRl (by omega) (by omega) RR SP5 as as2 σ μ o hR h1 h2 hP hD hS hl hinc
    by_cases g6 : v = 6
    · refine lv_tableIn (pc := 39) hexec hb dL_law_39 (by rw [g6]; decide) (by rw [g6]; decide) (by rw [g6]; rfl) (tgt := 476) rfl ?_
      exact ls_6 hlt hexec hb hml hown hts hG hA hX hbl hbA hRf hRl (by omega) (by omega) RR SP6 as as2 σ μ o hR h1 h2 hP hD hS hl hinc
    by_cases g7 : v = 7
    · refine lv_tableIn (pc := 39) hexec hb dL_law_39 (by rw [g7]; decide) (by rw [g7]; decide) (by rw [g7]; rfl) (tgt := 544) rfl ?_
      exact ls_7 hlt hexec hb hml hown hts hG hA hX hbl hbA hRf hRl (by omega) (by omega) RR SP7 as as2 σ μ o hR h1 h2 hP hD hS hl hinc
    by_cases g8 : v = 8
    · refine lv_tableIn (pc := 39) hexec hb dL_law_39 (by rw [g8]; decide) (by rw [g8]; decide) (by rw [g8]; rfl) (tgt := 612) rfl ?_
      exact ls_8 hlt hexec hb hml hown hts hG hA hX hbl hbA hRf hRl (by omega) (by omega) RR SP8 as as2 σ μ o hR h1 h2 hP hD hS hl hinc
    by_cases g9 : v = 9
    · refine lv_tableIn (pc := 39) hexec hb dL_law_39 (by rw [g9]; decide) (by rw [g9]; decide) (by rw [g9]; rfl) (tgt := 680) rfl ?_
      exact ls_9 hlt hexec hb hml hown hts hG hA hX hbl hbA hRf hRl (by omega) (by omega) RR SP9 as as2 σ μ o hR h1 h2 hP hD hS hl hinc
    by_cases g10 : v = 10
    · refine lv_tableIn (pc := 39) hexec hb dL_law_39 (by rw [g10]; decide) (by rw [g10]; decide) (by rw [g10]; rfl) (tgt := 705) rfl ?_
      exact ls_10 hlt hexec hb hml hown hts hG hA hX hbl hbA hRf hRl (by omega) (by omega) RR SP10 as as2 σ μ o hR h1 h2 hP hD hS hl hinc
    by_cases g11 : v = 11
    · refine lv_tableIn (pc := 39) hexec hb dL_law_39 (by rw [g11]; decide) (by rw [g11]; decide) (by rw [g11]; rfl) (tgt := 773) rfl ?_
      exact ls_11 hlt hexec hb hml hown hts hG hA hX hbl hbA hRf hRl (by omega) (by omega) RR SP11 as as2 σ μ o hR h1 h2 hP hD hS hl hinc
    by_cases g12 : v = 12
    · refine lv_tableIn (pc := 39) hexec hb dL_law_39 (by rw [g12]; decide) (by rw [g12]; decide) (by rw [g12]; rfl) (tgt := 829) rfl ?_
      exact ls_12 hlt hexec hb hml hown hts hG hA hX hbl hbA hRf hRl (by omega) (by omega) RR SP12 as as2 σ μ o hR h1 h2 hP hD hS hl hinc
    by_cases g13 : v = 13
    · refine lv_tableIn (pc := 39) hexec hb dL_law_39 (by rw [g13]; decide) (by rw [g13]; decide) (by rw [g13]; rfl) (tgt := 897) rfl ?_
      exact ls_13 hlt hexec hb hml hown hts hG hA hX hbl hbA hRf hRl (by omega) (by omega) RR SP13 as as2 σ μ o hR h1 h2 hP hD hS hl hinc
    by_cases g14 : v = 14
    · refine lv_tableIn (pc := 39) hexec hb dL_law_39 (by rw [g14]; decide) (by rw [g14]; decide) (by rw [g14]; rfl) (tgt := 910) rfl ?_
      exact ls_14 hlt hexec hb hml hown hts hG hA hX hbl hbA hRf hRl (by omega) (by omega) RR SP14 as as2 σ μ o hR h1 h2 hP hD hS hl hinc
    by_cases g15 : v = 15
    · refine lv_tableIn (pc := 39) hexec hb dL_law_39 (by rw [g15]; decide) (by rw [g15]; decide) (by rw [g15]; rfl) (tgt := 966) rfl ?_
      exact ls_15 hlt hexec hb hml hown hts hG hA hX hbl hbA hRf hRl (by omega) (by omega) RR SP15 as as2 σ μ o hR h1 h2 hP hD hS hl hinc
    by_cases g16 : v = 16
    · refine lv_tableIn (pc := 39) hexec hb dL_law_39 (by rw [g16]; decide) (by rw [g16]; decide) (by rw [g16]; rfl) (tgt := 979) rfl ?_
      exact ls_16 hlt hexec hb hml hown hts hG hA hX hbl hbA hRf hRl (by omega) (by omega) RR SP16 as as2 σ μ o hR h1 h2 hP hD hS hl hinc
    by_cases g17 : v = 17
    · refine lv_tableIn (pc := 39) hexec hb dL_law_39 (by rw [g17]; decide) (by rw [g17]; decide) (by rw [g17]; rfl) (tgt := 1035) rfl ?_
      exact ls_17 hlt hexec hb hml hown hts hG hA hX hbl hbA hRf hRl (by omega) (by omega) RR SP17 as as2 σ μ o hR h1 h2 hP hD hS hl hinc
    by_cases g18 : v = 18
    · refine lv_tableIn (pc := 39) hexec hb dL_law_39 (by rw [g18]; decide) (by rw [g18]; decide) (by rw [g18]; rfl) (tgt := 1048) rfl ?_
      exact ls_18 hlt hexec hb hml hown hts hG hA hX hbl hbA hRf hRl (by omega) (by omega) RR SP18 as as2 σ μ o hR h1 h2 hP hD hS hl hinc
    by_cases g19 : v = 19
    · refine lv_tableIn (pc := 39) hexec hb dL_law_39 (by rw [g19]; decide) (by rw [g19]; decide) (by rw [g19]; rfl) (tgt := 1104) rfl ?_
      exact ls_19 hlt hexec hb hml hown hts hG hA hX hbl hbA hRf hRl (by omega) (by omega) RR SP19 as as2 σ μ o hR h1 h2 hP hD hS hl hinc
    by_cases g20 : v = 20
    · refine lv_tableIn (pc := 39) hexec hb dL_law_39 (by rw [g20]; decide) (by rw [g20]; decide) (by rw [g20]; rfl) (tgt := 1117) rfl ?_
      exact ls_20 hlt hexec hb hml hown hts hG hA hX hbl hbA hRf hRl (by omega) (by omega) RR SP20 as as2 σ μ o hR h1 h2 hP hD hS hl hinc
    by_cases g21 : v = 21
    · refine lv_tableIn (pc := 39) hexec hb dL_law_39 (by rw [g21]; decide) (by rw [g21]; decide) (by rw [g21]; rfl) (tgt := 1130) rfl ?_
      exact ls_21 hlt hexec hb hml hown hts hG hA hX hbl hbA hRf hRl (by omega) (by omega) RR SP21 as as2 σ μ o hR h1 h2 hP hD hS hl hinc
    by_cases g22 : v = 22
    · refine lv_tableIn (pc := 39) hexec hb dL_law_39 (by rw [g22]; decide) (by rw [g22]; decide) (by rw [g22]; rfl) (tgt := 1143) rfl ?_
      exact ls_22 hlt hexec hb hml hown hts hG hA hX hbl hbA hRf hRl (by omega) (by omega) RR SP22 as as2 σ μ o hR h1 h2 hP hD hS hl hinc
    by_cases g23 : v = 23
    · refine lv_tableIn (pc := 39) hexec hb dL_law_39 (by rw [g23]; decide) (by rw [g23]; decide) (by rw [g23]; rfl) (tgt := 1156) rfl ?_
      exact ls_23 hlt hexec hb hml hown hts hG hA hX hbl hbA hRf hRl (by omega) (by omega) RR SP23 as as2 σ μ o hR h1 h2 hP hD hS hl hinc
    by_cases g24 : v = 24
    · refine lv_tableIn (pc := 39) hexec hb dL_law_39 (by rw [g24]; decide) (by rw [g24]; decide) (by rw [g24]; rfl) (tgt := 1212) rfl ?_
      exact ls_24 hlt hexec hb hml hown hts hG hA hX hbl hbA hRf hRl (by omega) (by omega) RR SP24 as as2 σ μ o hR h1 h2 hP hD hS hl hinc
    by_cases g25 : v = 25
    · refine lv_tableIn (pc := 39) hexec hb dL_law_39 (by rw [g25]; decide) (by rw [g25]; decide) (by rw [g25]; rfl) (tgt := 1296) rfl ?_
      exact ls_25 hlt hexec hb hml hown hts hG hA hX hbl hbA hRf hRl (by omega) (by omega) RR SP25 as as2 σ μ o hR h1 h2 hP hD hS hl hinc
    by_cases g26 : v = 26
    · refine lv_tableIn (pc := 39) hexec hb dL_law_39 (by rw [g26]; decide) (by rw [g26]; decide) (by rw [g26]; rfl) (tgt := 1380) rfl ?_
      exact ls_26 hlt hexec hb hml hown hts hG hA hX hbl hbA hRf hRl (by omega) (by omega) RR SP26 as as2 σ μ o hR h1 h2 hP hD hS hl hinc
    by_cases g27 : v = 27
    · refine lv_tableIn (pc := 39) hexec hb dL_law_39 (by rw [g27]; decide) (by rw [g27]; decide) (by rw [g27]; rfl) (tgt := 1393) rfl ?_
      exact ls_27 hlt hexec hb hml hown hts hG hA hX hbl hbA hRf hRl (by omega) (by omega) RR SP27 as as2 σ μ o hR h1 h2 hP hD hS hl hinc
    by_cases g28 : v = 28
    · refine lv_tableIn (pc := 39) hexec hb dL_law_39 (by rw [g28]; decide) (by rw [g28]; decide) (by rw [g28]; rfl) (tgt := 1449) rfl ?_
      exact ls_28 hlt hexec hb hml hown hts hG hA hX hbl hbA hRf hRl (by omega) (by omega) RR SP28 as as2 σ μ o hR h1 h2 hP hD hS hl hinc
    by_cases g29 : v = 29
    · refine lv_tableIn (pc := 39) hexec hb dL_law_39 (by rw [g29]; decide) (by rw [g29]; decide) (by rw [g29]; rfl) (tgt := 1517) rfl ?_
      exact ls_29 hlt hexec hb hml hown hts hG hA hX hbl hbA hRf hRl (by omega) (by omega) RR SP29 as as2 σ μ o hR h1 h2 hP hD hS hl hinc
    by_cases g30 : v = 30
    · refine lv_tableIn (pc := 39) hexec hb dL_law_39 (by rw [g30]; decide) (by rw [g30]; decide) (by rw [g30]; rfl) (tgt := 1573) rfl ?_
      exact ls_30 hlt hexec hb hml hown hts hG hA hX hbl hbA hRf hRl (by omega) (by omega) RR SP30 as as2 σ μ o hR h1 h2 hP hD hS hl hinc
    by_cases g31 : v = 31
    · refine lv_tableIn (pc := 39) hexec hb dL_law_39 (by rw [g31]; decide) (by rw [g31]; decide) (by rw [g31]; rfl) (tgt := 1586) rfl ?_
      exact ls_31 hlt hexec hb hml hown hts hG hA hX hbl hbA hRf hRl (by omega) (by omega) RR SP31 as as2 σ μ o hR h1 h2 hP hD hS hl hinc
    by_cases g32 : v = 32
    · refine lv_tableIn (pc := 39) hexec hb dL_law_39 (by rw [g32]; decide) (by rw [g32]; decide) (by rw [g32]; rfl) (tgt := 1642) rfl ?_
      exact ls_32 hlt hexec hb hml hown hts hG hA hX hbl hbA hRf hRl (by omega) (by omega) RR SP32 as as2 σ μ o hR h1 h2 hP hD hS hl hinc
    by_cases g33 : v = 33
    · refine lv_tableIn (pc := 39) hexec hb dL_law_39 (by rw [g33]; decide) (by rw [g33]; decide) (by rw [g33]; rfl) (tgt := 1710) rfl ?_
      exact ls_33 hlt hexec hb hml hown hts hG hA hX hbl hbA hRf hRl (by omega) (by omega) RR SP33 as as2 σ μ o hR h1 h2 hP hD hS hl hinc
    by_cases g34 : v = 34
    · refine lv_tableIn (pc := 39) hexec hb dL_law_39 (by rw [g34]; decide) (by rw [g34]; decide) (by rw [g34]; rfl) (tgt := 1766) rfl ?_
      exact ls_34 hlt hexec hb hml hown hts hG hA hX hbl hbA hRf hRl (by omega) (by omega) RR SP34 as as2 σ μ o hR h1 h2 hP hD hS hl hinc
    by_cases g35 : v = 35
    · refine lv_tableIn (pc := 39) hexec hb dL_law_39 (by rw [g35]; decide) (by rw [g35]; decide) (by rw [g35]; rfl) (tgt := 1779) rfl ?_
      exact ls_35 hlt hexec hb hml hown hts hG hA hX hbl hbA hRf hRl (by omega) (by omega) RR SP35 as as2 σ μ o hR h1 h2 hP hD hS hl hinc
    by_cases g36 : v = 36
    · refine lv_tableIn (pc := 39) hexec hb dL_law_39 (by rw [g36]; decide) (by rw [g36]; decide) (by rw [g36]; rfl) (tgt := 1870) rfl ?_
      exact ls_36 hlt hexec hb hml hown hts hG hA hX hbl hbA hRf hRl (by omega) (by omega) RR SP36 as as2 σ μ o hR h1 h2 hP hD hS hl hinc
    by_cases g37 : v = 37
    · refine lv_tableIn (pc := 39) hexec hb dL_law_39 (by rw [g37]; decide) (by rw [g37]; decide) (by rw [g37]; rfl) (tgt := 1926) rfl ?_
      exact ls_37 hlt hexec hb hml hown hts hG hA hX hbl hbA hRf hRl (by omega) (by omega) RR SP37 as as2 σ μ o hR h1 h2 hP hD hS hl hinc
    by_cases g38 : v = 38
    · refine lv_tableIn (pc := 39) hexec hb dL_law_39 (by rw [g38]; decide) (by rw [g38]; decide) (by rw [g38]; rfl) (tgt := 1982) rfl ?_
      exact ls_38 hlt hexec hb hml hown hts hG hA hX hbl hbA hRf hRl (by omega) (by omega) RR SP38 as as2 σ μ o hR h1 h2 hP hD hS hl hinc
    by_cases g39 : v = 39
    · refine lv_tableIn (pc := 39) hexec hb dL_law_39 (by rw [g39]; decide) (by rw [g39]; decide) (by rw [g39]; rfl) (tgt := 2038) rfl ?_
      exact ls_39 hlt hexec hb hml hown hts hG hA hX hbl hbA hRf hRl (by omega) (by omega) RR SP39 as as2 σ μ o hR h1 h2 hP hD hS hl hinc
    by_cases g40 : v = 40
    · refine lv_tableIn (pc := 39) hexec hb dL_law_39 (by rw [g40]; decide) (by rw [g40]; decide) (by rw [g40]; rfl) (tgt := 2094) rfl ?_
      exact ls_40 hlt hexec hb hml hown hts hG hA hX hbl hbA hRf hRl (by omega) (by omega) RR SP40 as as2 σ μ o hR h1 h2 hP hD hS hl hinc
    by_cases g41 : v = 41
    · refine lv_tableIn (pc := 39) hexec hb dL_law_39 (by rw [g41]; decide) (by rw [g41]; decide) (by rw [g41]; rfl) (tgt := 2150) rfl ?_
      exact ls_41 hlt hexec hb hml hown hts hG hA hX hbl hbA hRf hRl (by omega) (by omega) RR SP41 as as2 σ μ o hR h1 h2 hP hD hS hl hinc
    by_cases g42 : v = 42
    · refine lv_tableIn (pc := 39) hexec hb dL_law_39 (by rw [g42]; decide) (by rw [g42]; decide) (by rw [g42]; rfl) (tgt := 2206) rfl ?_
      exact ls_42 hlt hexec hb hml hown hts hG hA hX hbl hbA hRf hRl (by omega) (by omega) RR SP42 as as2 σ μ o hR h1 h2 hP hD hS hl hinc
    by_cases g43 : v = 43
    · refine lv_tableIn (pc := 39) hexec hb dL_law_39 (by rw [g43]; decide) (by rw [g43]; decide) (by rw [g43]; rfl) (tgt := 2262) rfl ?_
      exact ls_43 hlt hexec hb hml hown hts hG hA hX hbl hbA hRf hRl (by omega) (by omega) RR SP43 as as2 σ μ o hR h1 h2 hP hD hS hl hinc
    by_cases g44 : v = 44
    · refine lv_tableIn (pc := 39) hexec hb dL_law_39 (by rw [g44]; decide) (by rw [g44]; decide) (by rw [g44]; rfl) (tgt := 2275) rfl ?_
      exact ls_44 hlt hexec hb hml hown hts hG hA hX hbl hbA hRf hRl (by omega) (by omega) RR SP44 as as2 σ μ o hR h1 h2 hP hD hS hl hinc
    by_cases g45 : v = 45
    · refine lv_tableIn (pc := 39) hexec hb dL_law_39 (by rw [g45]; decide) (by rw [g45]; decide) (by rw [g45]; rfl) (tgt := 2316) rfl ?_
      exact ls_45 hlt hexec hb hml hown hts hG hA hX hbl hbA hRf hRl (by omega) (by omega) RR SP45 as as2 σ μ o hR h1 h2 hP hD hS hl hinc
    by_cases g46 : v = 46
    · refine lv_tableIn (pc := 39) hexec hb dL_law_39 (by rw [g46]; decide) (by rw [g46]; decide) (by rw [g46]; rfl) (tgt := 2359) rfl ?_
      exact ls_46 hlt hexec hb hml hown hts hG hA hX hbl hbA hRf hRl (by omega) (by omega) RR SP46 as as2 σ μ o hR h1 h2 hP hD hS hl hinc
    by_cases g47 : v = 47
    · refine lv_tableIn (pc := 39) hexec hb dL_law_39 (by rw [g47]; decide) (by rw [g47]; decide) (by rw [g47]; rfl) (tgt := 2415) rfl ?_
      exact ls_47 hlt hexec hb hml hown hts hG hA hX hbl hbA hRf hRl (by omega) (by omega) RR SP47 as as2 σ μ o hR h1 h2 hP hD hS hl hinc
    by_cases g48 : v = 48
    · refine lv_tableIn (pc := 39) hexec hb dL_law_39 (by rw [g48]; decide) (by rw [g48]; decide) (by rw [g48]; rfl) (tgt := 2440) rfl ?_
      exact ls_48 hlt hexec hb hml hown hts hG hA hX hbl hbA hRf hRl (by omega) (by omega) RR SP48 as as2 σ μ o hR h1 h2 hP hD hS hl hinc
    by_cases g49 : v = 49
    · refine lv_tableIn (pc := 39) hexec hb dL_law_39 (by rw [g49]; decide) (by rw [g49]; decide) (by rw [g49]; rfl) (tgt := 2453) rfl ?_
      exact ls_49 hlt hexec hb hml hown hts hG hA hX hbl hbA hRf hRl (by omega) (by omega) RR SP49 as as2 σ μ o hR h1 h2 hP hD hS hl hinc
    by_cases g50 : v = 50
    · refine lv_tableIn (pc := 39) hexec hb dL_law_39 (by rw [g50]; decide) (by rw [g50]; decide) (by rw [g50]; rfl) (tgt := 2509) rfl ?_
      exact ls_50 hlt hexec hb hml hown hts hG hA hX hbl hbA hRf hRl (by omega) (by omega) RR SP50 as as2 σ μ o hR h1 h2 hP hD hS hl hinc
    refine lv_tableOut (pc := 39) hexec hb dL_law_39 (by have z0 : ¬ v.toInt = 0 := fun h => g0 (Int32.toInt_inj.mp (h.trans (by decide))); have z1 : ¬ v.toInt = 1 := fun h => g1 (Int32.toInt_inj.mp (h.trans (by decide))); have z2 : ¬ v.toInt = 2 := fun h => g2 (Int32.toInt_inj.mp (h.trans (by decide))); have z3 : ¬ v.toInt = 3 := fun h => g3 (Int32.toInt_inj.mp (h.trans (by decide))); have z4 : ¬ v.toInt = 4 := fun h => g4 (Int32.toInt_inj.mp (h.trans (by decide))); have z5 : ¬ v.toInt = 5 := fun h => g5 (Int32.toInt_inj.mp (h.trans (by decide))); have z6 : ¬ v.toInt = 6 := fun h => g6 (Int32.toInt_inj.mp (h.trans (by decide))); have z7 : ¬ v.toInt = 7 := fun h => g7 (Int32.toInt_inj.mp (h.trans (by decide))); have z8 : ¬ v.toInt = 8 := fun h => g8 (Int32.toInt_inj.mp (h.trans (by decide))); have z9 : ¬ v.toInt = 9 := fun h => g9 (Int32.toInt_inj.mp (h.trans (by decide))); have z10 : ¬ v.toInt = 10 := fun h => g10 (Int32.toInt_inj.mp (h.trans (by decide))); have z11 : ¬ v.toInt = 11 := fun h => g11 (Int32.toInt_inj.mp (h.trans (by decide))); have z12 : ¬ v.toInt = 12 := fun h => g12 (Int32.toInt_inj.mp (h.trans (by decide))); have z13 : ¬ v.toInt = 13 := fun h => g13 (Int32.toInt_inj.mp (h.trans (by decide))); have z14 : ¬ v.toInt = 14 := fun h => g14 (Int32.toInt_inj.mp (h.trans (by decide))); have z15 : ¬ v.toInt = 15 := fun h => g15 (Int32.toInt_inj.mp (h.trans (by decide))); have z16 : ¬ v.toInt = 16 := fun h => g16 (Int32.toInt_inj.mp (h.trans (by decide))); have z17 : ¬ v.toInt = 17 := fun h => g17 (Int32.toInt_inj.mp (h.trans (by decide))); have z18 : ¬ v.toInt = 18 := fun h => g18 (Int32.toInt_inj.mp (h.trans (by decide))); have z19 : ¬ v.toInt = 19 := fun h => g19 (Int32.toInt_inj.mp (h.trans (by decide))); have z20 : ¬ v.toInt = 20 := fun h => g20 (Int32.toInt_inj.mp (h.trans (by decide))); have z21 : ¬ v.toInt = 21 := fun h => g21 (Int32.toInt_inj.mp (h.trans (by decide))); have z22 : ¬ v.toInt = 22 := fun h => g22 (Int32.toInt_inj.mp (h.trans (by decide))); have z23 : ¬ v.toInt = 23 := fun h => g23 (Int32.toInt_inj.mp (h.trans (by decide))); have z24 : ¬ v.toInt = 24 := fun h => g24 (Int32.toInt_inj.mp (h.trans (by decide))); have z25 : ¬ v.toInt = 25 := fun h => g25 (Int32.toInt_inj.mp (h.trans (by decide))); have z26 : ¬ v.toInt = 26 := fun h => g26 (Int32.toInt_inj.mp (h.trans (by decide))); have z27 : ¬ v.toInt = 27 := fun h => g27 (Int32.toInt_inj.mp (h.trans (by decide))); have z28 : ¬ v.toInt = 28 := fun h => g28 (Int32.toInt_inj.mp (h.trans (by decide))); have z29 : ¬ v.toInt = 29 := fun h => g29 (Int32.toInt_inj.mp (h.trans (by decide))); have z30 : ¬ v.toInt = 30 := fun h => g30 (Int32.toInt_inj.mp (h.trans (by decide))); have z31 : ¬ v.toInt = 31 := fun h => g31 (Int32.toInt_inj.mp (h.trans (by decide))); have z32 : ¬ v.toInt = 32 := fun h => g32 (Int32.toInt_inj.mp (h.trans (by decide))); have z33 : ¬ v.toInt = 33 := fun h => g33 (Int32.toInt_inj.mp (h.trans (by decide))); have z34 : ¬ v.toInt = 34 := fun h => g34 (Int32.toInt_inj.mp (h.trans (by decide))); have z35 : ¬ v.toInt = 35 := fun h => g35 (Int32.toInt_inj.mp (h.trans (by decide))); have z36 : ¬ v.toInt = 36 := fun h => g36 (Int32.toInt_inj.mp (h.trans (by decide))); have z37 : ¬ v.toInt = 37 := fun h => g37 (Int32.toInt_inj.mp (h.trans (by decide))); have z38 : ¬ v.toInt = 38 := fun h => g38 (Int32.toInt_inj.mp (h.trans (by decide))); have z39 : ¬ v.toInt = 39 := fun h => g39 (Int32.toInt_inj.mp (h.trans (by decide))); have z40 : ¬ v.toInt = 40 := fun h => g40 (Int32.toInt_inj.mp (h.trans (by decide))); have z41 : ¬ v.toInt = 41 := fun h => g41 (Int32.toInt_inj.mp (h.trans (by decide))); have z42 : ¬ v.toInt = 42 := fun h => g42 (Int32.toInt_inj.mp (h.trans (by decide))); have z43 : ¬ v.toInt = 43 := fun h => g43 (Int32.toInt_inj.mp (h.trans (by decide))); have z44 : ¬ v.toInt = 44 := fun h => g44 (Int32.toInt_inj.mp (h.trans (by decide))); have z45 : ¬ v.toInt = 45 := fun h => g45 (Int32.toInt_inj.mp (h.trans (by decide))); have z46 : ¬ v.toInt = 46 := fun h => g46 (Int32.toInt_inj.mp (h.trans (by decide))); have z47 : ¬ v.toInt = 47 := fun h => g47 (Int32.toInt_inj.mp (h.trans (by decide))); have z48 : ¬ v.toInt = 48 := fun h => g48 (Int32.toInt_inj.mp (h.trans (by decide))); have z49 : ¬ v.toInt = 49 := fun h => g49 (Int32.toInt_inj.mp (h.trans (by decide))); have z50 : ¬ v.toInt = 50 := fun h => g50 (Int32.toInt_inj.mp (h.trans (by decide))); omega) (tgt := 2565) rfl ?_
    exact W.widen (by omega) (by omega) (hinc as as2 σ μ o _ _ _ hR hP hD hS hl)
end LAWL
