section LAWC
variable {p : Program} {l : Launch} {e : Env} {R : Room} {s : State} {m : MethodId} {args : Array Value} {below : List Frame} {meth : Method} {c : Code} {H : Heap} {locs : List Loc} {c1 s1 : Nat} {Q : State → Prop} {ls : Array Slot} {A : Nat → Prop} {g : GE} {sb L : Nat} {xs : Nat → Int32} {i : Int32} {pl : va_W}
abbrev w_case_9 (g : GE) (a0 a1 a2 a3 a4 a5 b3 : Nat) (u0_1 u0_2 u0_3 u0_4 u0_5 u0_6 u0_7 u0_8 u0_9 u1_0 u1_1 u1_3 u1_4 u2_1 u2_2 u2_3 u4_1 u4_2 u4_3 u4_4 u4_5 u4_6 u4_8 u4_9 u4_10 u4_11 u4_12 u4_13 u4_14 u4_15 u4_16 u4_17 u4_18 u4_19 u4_20 u4_21 u4_22 u4_23 u4_24 u4_25 u4_26 u4_27 u4_28 u4_29 u4_30 : Value) (x2_count : Int32) (y3_stops : Nat → Int32) (x4_thrown : Int32) (y5_s : Nat → Int32) : va_W := [(a0, .inr (8, [.ref a1, u0_1, u0_2, u0_3, u0_4, u0_5, u0_6, u0_7, u0_8, u0_9])), (a1, .inr (6, [u1_0, u1_1, .ref a2, u1_3, u1_4])), (a2, .inr (4, [.int x2_count, u2_1, u2_2, u2_3, .ref a3])), (a3, .inl (g.2.1 0, 16, .inl y3_stops)), (a4, .inr (9, [.ref a5, u4_1, u4_2, u4_3, u4_4, u4_5, u4_6, .int x4_thrown, u4_8, u4_9, u4_10, u4_11, u4_12, u4_13, u4_14, u4_15, u4_16, u4_17, u4_18, u4_19, u4_20, u4_21, u4_22, u4_23, u4_24, u4_25, u4_26, u4_27, u4_28, u4_29, u4_30])), (a5, .inl (g.2.1 0, 552, .inl y5_s))]
noncomputable def f_case_9 (L : Nat) (xs : Nat → Int32) (i : Int32) (x2_count : Int32) (y3_stops : Nat → Int32) (x4_thrown : Int32) (y5_s : Nat → Int32) : Option (Int32) :=
  ar (i + 1) L <|
  bd1 (f_X8_voyage x2_count y3_stops (xs (i + 1).toNatClampNeg)) fun (r687 : Int32) =>
  ar (i + 1) L <|
  bd2 (f_X9_voyage x4_thrown y5_s (xs (i + 1).toNatClampNeg)) fun (r697 : Int32) (x4_thrown_1 : Int32) =>
  (if r687 = r697 then (
    some x4_thrown_1
  ) else (
    none
  ))
set_option maxRecDepth 20000 in
theorem lc_9 (hlt : l.stackTraces = false) (hexec : p.tables.exec = Jvm.exec) (hb : c.code = cL_law) (hml : c.maxLocals = 9) (hown : s.vm.findClass RL = some m.cls) (hts : ∀ w ∈ wsL_law, w.before args s = true) (hG : GG g A s s.heap) (hA : ∀ q, s.heap.size ≤ q → A q) (hX : va_X sb L xs s s.heap) (hbl : sb < s.heap.size) (hbA : ¬ A sb) (hRf : 2000 ≤ R.frames) (hRl : 80000 ≤ R.locals) (hRc : c1 + 14 ≤ R.cells) (hRs : s1 + 846 ≤ R.slots) (a0 a1 a2 a3 a4 a5 b3 : Nat) (u0_1 u0_2 u0_3 u0_4 u0_5 u0_6 u0_7 u0_8 u0_9 u1_0 u1_1 u1_3 u1_4 u2_1 u2_2 u2_3 u4_1 u4_2 u4_3 u4_4 u4_5 u4_6 u4_8 u4_9 u4_10 u4_11 u4_12 u4_13 u4_14 u4_15 u4_16 u4_17 u4_18 u4_19 u4_20 u4_21 u4_22 u4_23 u4_24 u4_25 u4_26 u4_27 u4_28 u4_29 u4_30 : Value) (x2_count : Int32) (y3_stops : Nat → Int32) (x4_thrown : Int32) (y5_s : Nat → Int32) (o_x4_thrown : Int32) (hf : f_case_9 L xs i x2_count y3_stops x4_thrown y5_s = some o_x4_thrown) (hP : va_P g.1 vwCl (w_case_9 g a0 a1 a2 a3 a4 a5 b3 u0_1 u0_2 u0_3 u0_4 u0_5 u0_6 u0_7 u0_8 u0_9 u1_0 u1_1 u1_3 u1_4 u2_1 u2_2 u2_3 u4_1 u4_2 u4_3 u4_4 u4_5 u4_6 u4_8 u4_9 u4_10 u4_11 u4_12 u4_13 u4_14 u4_15 u4_16 u4_17 u4_18 u4_19 u4_20 u4_21 u4_22 u4_23 u4_24 u4_25 u4_26 u4_27 u4_28 u4_29 u4_30 x2_count y3_stops x4_thrown y5_s ++ pl) H) (hD : va_D A (w_case_9 g a0 a1 a2 a3 a4 a5 b3 u0_1 u0_2 u0_3 u0_4 u0_5 u0_6 u0_7 u0_8 u0_9 u1_0 u1_1 u1_3 u1_4 u2_1 u2_2 u2_3 u4_1 u4_2 u4_3 u4_4 u4_5 u4_6 u4_8 u4_9 u4_10 u4_11 u4_12 u4_13 u4_14 u4_15 u4_16 u4_17 u4_18 u4_19 u4_20 u4_21 u4_22 u4_23 u4_24 u4_25 u4_26 u4_27 u4_28 u4_29 u4_30 x2_count y3_stops x4_thrown y5_s ++ pl)) (hS : va_S A s.heap H locs) (hl : lv_has ls 9 [(0, .ref sb), (1, .ref a0), (2, .ref a4), (3, .ref b3), (4, .int i)]) (kk : ∀ (H : Heap) (locs : List Loc) (ls : Array Slot), va_P g.1 vwCl (w_case_9 g a0 a1 a2 a3 a4 a5 b3 u0_1 u0_2 u0_3 u0_4 u0_5 u0_6 u0_7 u0_8 u0_9 u1_0 u1_1 u1_3 u1_4 u2_1 u2_2 u2_3 u4_1 u4_2 u4_3 u4_4 u4_5 u4_6 u4_8 u4_9 u4_10 u4_11 u4_12 u4_13 u4_14 u4_15 u4_16 u4_17 u4_18 u4_19 u4_20 u4_21 u4_22 u4_23 u4_24 u4_25 u4_26 u4_27 u4_28 u4_29 u4_30 x2_count y3_stops o_x4_thrown y5_s ++ pl) H → va_D A (w_case_9 g a0 a1 a2 a3 a4 a5 b3 u0_1 u0_2 u0_3 u0_4 u0_5 u0_6 u0_7 u0_8 u0_9 u1_0 u1_1 u1_3 u1_4 u2_1 u2_2 u2_3 u4_1 u4_2 u4_3 u4_4 u4_5 u4_6 u4_8 u4_9 u4_10 u4_11 u4_12 u4_13 u4_14 u4_15 u4_16 u4_17 u4_18 u4_19 u4_20 u4_21 u4_22 u4_23 u4_24 u4_25 u4_26 u4_27 u4_28 u4_29 u4_30 x2_count y3_stops o_x4_thrown y5_s ++ pl) → va_S A s.heap H locs → lv_has ls 9 [(0, .ref sb), (1, .ref a0), (2, .ref a4), (3, .ref b3), (4, .int i)] → W p l e R s m args below meth c H locs (c1 + 14) (s1 + 846) Q (F0 m 2565 ls [])) : W p l e R s m args below meth c H locs c1 s1 Q (F0 m 680 ls []) := by
  unfold f_case_9 at hf
  refine lv_aload_n (pc := 680) hexec hb dL_law_680 rfl (lv_at hl 1 rfl) ?_
  refine lv_aload_n (pc := 681) hexec hb dL_law_681 rfl (lv_at hl 0 rfl) ?_
  refine lv_iload (pc := 682) hexec hb dL_law_682 (lv_at hl 4 rfl) ?_
  refine lv_iconst (pc := 684) hexec hb dL_law_684 ki_1 ?_
  refine lv_iadd (pc := 685) hexec hb dL_law_685 ?_
  refine k_scr (pc := 686) hexec hb hX hbl hbA hS hf dL_law_686 (fun hf => ?_)
  obtain ⟨r687, hc, hf⟩ := bd1_e hf
  refine kVLt (pc := 687) (S := ⟨hexec, hb, hml, hown, hts⟩) hP hD hG hA hS [0, 1, 2, 3] [4, 5] rfl rfl rfl (me_of_mi (c_X8_voyage l g a0 a1 a2 a3 _ u0_1 u0_2 u0_3 u0_4 u0_5 u0_6 u0_7 u0_8 u0_9 u1_0 u1_1 u1_3 u1_4 u2_1 u2_2 u2_3 x2_count y3_stops (xs (i + 1).toNatClampNeg) r687 hc)) gL_law_X8_voyage rfl hq_X8_voyage ⟨by omega, by omega⟩ 8 0 rfl rfl rfl (rest := []) rfl rfl hl.1 (nle rfl) dL_law_687 ⟨by omega, by omega⟩ (fun w1 H locs hF1 hP hD hS => ?_)
  subst hF1
  have hP := lbk hP [2, 3, 4, 5, 0, 1] (X := (w_case_9 g a0 a1 a2 a3 a4 a5 b3 u0_1 u0_2 u0_3 u0_4 u0_5 u0_6 u0_7 u0_8 u0_9 u1_0 u1_1 u1_3 u1_4 u2_1 u2_2 u2_3 u4_1 u4_2 u4_3 u4_4 u4_5 u4_6 u4_8 u4_9 u4_10 u4_11 u4_12 u4_13 u4_14 u4_15 u4_16 u4_17 u4_18 u4_19 u4_20 u4_21 u4_22 u4_23 u4_24 u4_25 u4_26 u4_27 u4_28 u4_29 u4_30 x2_count y3_stops x4_thrown y5_s)) rfl
  have hD := lbkD hD [2, 3, 4, 5, 0, 1] (X := (w_case_9 g a0 a1 a2 a3 a4 a5 b3 u0_1 u0_2 u0_3 u0_4 u0_5 u0_6 u0_7 u0_8 u0_9 u1_0 u1_1 u1_3 u1_4 u2_1 u2_2 u2_3 u4_1 u4_2 u4_3 u4_4 u4_5 u4_6 u4_8 u4_9 u4_10 u4_11 u4_12 u4_13 u4_14 u4_15 u4_16 u4_17 u4_18 u4_19 u4_20 u4_21 u4_22 u4_23 u4_24 u4_25 u4_26 u4_27 u4_28 u4_29 u4_30 x2_count y3_stops x4_thrown y5_s)) rfl rfl
  refine W.widen (k := c1) (n := s1) (by omega) (by omega) ?_
  refine lv_aload_n (pc := 690) hexec hb dL_law_690 rfl (lv_at hl 2 rfl) ?_
  refine lv_aload_n (pc := 691) hexec hb dL_law_691 rfl (lv_at hl 0 rfl) ?_
  refine lv_iload (pc := 692) hexec hb dL_law_692 (lv_at hl 4 rfl) ?_
  refine lv_iconst (pc := 694) hexec hb dL_law_694 ki_1 ?_
  refine lv_iadd (pc := 695) hexec hb dL_law_695 ?_
  refine k_scr (pc := 696) hexec hb hX hbl hbA hS hf dL_law_696 (fun hf => ?_)
  obtain ⟨r697, x4_thrown_1, hc, hf⟩ := bd2_e hf
  refine kVLt (pc := 697) (S := ⟨hexec, hb, hml, hown, hts⟩) hP hD hG hA hS [4, 5] [0, 1, 2, 3] rfl rfl rfl (me_of_mi (c_X9_voyage l g a4 a5 _ u4_1 u4_2 u4_3 u4_4 u4_5 u4_6 u4_8 u4_9 u4_10 u4_11 u4_12 u4_13 u4_14 u4_15 u4_16 u4_17 u4_18 u4_19 u4_20 u4_21 u4_22 u4_23 u4_24 u4_25 u4_26 u4_27 u4_28 u4_29 u4_30 x4_thrown y5_s (xs (i + 1).toNatClampNeg) r697 x4_thrown_1 hc)) gL_law_X9_voyage rfl hq_X9_voyage ⟨by omega, by omega⟩ 9 0 rfl rfl rfl (rest := [.int r687]) rfl rfl hl.1 (nle rfl) dL_law_697 ⟨by omega, by omega⟩ (fun w1 H locs hF1 hP hD hS => ?_)
  subst hF1
  have hP := lbk hP [0, 1, 2, 3, 4, 5] (X := (w_case_9 g a0 a1 a2 a3 a4 a5 b3 u0_1 u0_2 u0_3 u0_4 u0_5 u0_6 u0_7 u0_8 u0_9 u1_0 u1_1 u1_3 u1_4 u2_1 u2_2 u2_3 u4_1 u4_2 u4_3 u4_4 u4_5 u4_6 u4_8 u4_9 u4_10 u4_11 u4_12 u4_13 u4_14 u4_15 u4_16 u4_17 u4_18 u4_19 u4_20 u4_21 u4_22 u4_23 u4_24 u4_25 u4_26 u4_27 u4_28 u4_29 u4_30 x2_count y3_stops x4_thrown_1 y5_s)) rfl
  have hD := lbkD hD [0, 1, 2, 3, 4, 5] (X := (w_case_9 g a0 a1 a2 a3 a4 a5 b3 u0_1 u0_2 u0_3 u0_4 u0_5 u0_6 u0_7 u0_8 u0_9 u1_0 u1_1 u1_3 u1_4 u2_1 u2_2 u2_3 u4_1 u4_2 u4_3 u4_4 u4_5 u4_6 u4_8 u4_9 u4_10 u4_11 u4_12 u4_13 u4_14 u4_15 u4_16 u4_17 u4_18 u4_19 u4_20 u4_21 u4_22 u4_23 u4_24 u4_25 u4_26 u4_27 u4_28 u4_29 u4_30 x2_count y3_stops x4_thrown_1 y5_s)) rfl rfl
  refine W.widen (k := c1) (n := s1) (by omega) (by omega) ?_
  refine ki_eq (pc := 700) hexec hb dL_law_700 (tgt := 2565) rfl hf (fun hc hf => ?_) (fun hc hf => ?_)
  · cases hf
    exact W.widen (by omega) (by omega) (kk _ _ _ hP hD hS (lv_sub hl [0, 1, 2, 3, 4] rfl))
  · cases hf
end LAWC
