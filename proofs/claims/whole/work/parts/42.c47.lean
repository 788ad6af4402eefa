section LAWC
variable {p : Program} {l : Launch} {e : Env} {R : Room} {s : State} {m : MethodId} {args : Array Value} {below : List Frame} {meth : Method} {c : Code} {H : Heap} {locs : List Loc} {c1 s1 : Nat} {Q : State → Prop} {ls : Array Slot} {A : Nat → Prop} {g : GE} {sb L : Nat} {xs : Nat → Int32} {i : Int32} {pl : va_W}
abbrev w_case_47 (g : GE) (a0 a1 a2 a3 b3 : Nat) (u0_0 u0_1 u0_2 u0_3 u0_4 u0_5 u0_6 u0_9 u2_0 u2_1 u2_2 u2_3 u2_4 u2_5 u2_6 u2_8 u2_9 u2_10 u2_11 u2_12 u2_13 u2_14 u2_15 u2_16 u2_17 u2_18 u2_19 u2_20 u2_21 u2_22 u2_23 u2_24 u2_25 u2_26 u2_27 u2_28 : Value) (x0_outputLength : Int32) (y1_output : Nat → Int32) (x2_thrown : Int32) (x2_written : Int32) (y3_output : Nat → Int32) : va_W := [(a0, .inr (8, [u0_0, u0_1, u0_2, u0_3, u0_4, u0_5, u0_6, .ref a1, .int x0_outputLength, u0_9])), (a1, .inl (g.2.1 0, 12, .inl y1_output)), (a2, .inr (9, [u2_0, u2_1, u2_2, u2_3, u2_4, u2_5, u2_6, .int x2_thrown, u2_8, u2_9, u2_10, u2_11, u2_12, u2_13, u2_14, u2_15, u2_16, u2_17, u2_18, u2_19, u2_20, u2_21, u2_22, u2_23, u2_24, u2_25, u2_26, u2_27, u2_28, .ref a3, .int x2_written])), (a3, .inl (g.2.1 0, 12, .inl y3_output))]
noncomputable def f_case_47 (L : Nat) (xs : Nat → Int32) (i : Int32) (x0_outputLength : Int32) (y1_output : Nat → Int32) (x2_thrown : Int32) (x2_written : Int32) (y3_output : Nat → Int32) : Option (Int32) :=
  ar (i + 1) L <|
  bd1 (f_X8_outputByte x0_outputLength y1_output (xs (i + 1).toNatClampNeg)) fun (r2422 : Int32) =>
  ar (i + 1) L <|
  bd2 (f_X9_outputByte x2_thrown x2_written y3_output (xs (i + 1).toNatClampNeg)) fun (r2432 : Int32) (x2_thrown_1 : Int32) =>
  (if r2422 = r2432 then (
    some x2_thrown_1
  ) else (
    none
  ))
set_option maxRecDepth 20000 in
theorem lc_47 (hlt : l.stackTraces = false) (hexec : p.tables.exec = Jvm.exec) (hb : c.code = cL_law) (hml : c.maxLocals = 9) (hown : s.vm.findClass RL = some m.cls) (hts : ∀ w ∈ wsL_law, w.before args s = true) (hG : GG g A s s.heap) (hA : ∀ q, s.heap.size ≤ q → A q) (hX : va_X sb L xs s s.heap) (hbl : sb < s.heap.size) (hbA : ¬ A sb) (hRf : 2000 ≤ R.frames) (hRl : 80000 ≤ R.locals) (hRc : c1 + 14 ≤ R.cells) (hRs : s1 + 846 ≤ R.slots) (a0 a1 a2 a3 b3 : Nat) (u0_0 u0_1 u0_2 u0_3 u0_4 u0_5 u0_6 u0_9 u2_0 u2_1 u2_2 u2_3 u2_4 u2_5 u2_6 u2_8 u2_9 u2_10 u2_11 u2_12 u2_13 u2_14 u2_15 u2_16 u2_17 u2_18 u2_19 u2_20 u2_21 u2_22 u2_23 u2_24 u2_25 u2_26 u2_27 u2_28 : Value) (x0_outputLength : Int32) (y1_output : Nat → Int32) (x2_thrown : Int32) (x2_written : Int32) (y3_output : Nat → Int32) (o_x2_thrown : Int32) (hf : f_case_47 L xs i x0_outputLength y1_output x2_thrown x2_written y3_output = some o_x2_thrown) (hP : va_P g.1 vwCl (w_case_47 g a0 a1 a2 a3 b3 u0_0 u0_1 u0_2 u0_3 u0_4 u0_5 u0_6 u0_9 u2_0 u2_1 u2_2 u2_3 u2_4 u2_5 u2_6 u2_8 u2_9 u2_10 u2_11 u2_12 u2_13 u2_14 u2_15 u2_16 u2_17 u2_18 u2_19 u2_20 u2_21 u2_22 u2_23 u2_24 u2_25 u2_26 u2_27 u2_28 x0_outputLength y1_output x2_thrown x2_written y3_output ++ pl) H) (hD : va_D A (w_case_47 g a0 a1 a2 a3 b3 u0_0 u0_1 u0_2 u0_3 u0_4 u0_5 u0_6 u0_9 u2_0 u2_1 u2_2 u2_3 u2_4 u2_5 u2_6 u2_8 u2_9 u2_10 u2_11 u2_12 u2_13 u2_14 u2_15 u2_16 u2_17 u2_18 u2_19 u2_20 u2_21 u2_22 u2_23 u2_24 u2_25 u2_26 u2_27 u2_28 x0_outputLength y1_output x2_thrown x2_written y3_output ++ pl)) (hS : va_S A s.heap H locs) (hl : lv_has ls 9 [(0, .ref sb), (1, .ref a0), (2, .ref a2), (3, .ref b3), (4, .int i)]) (kk : ∀ (H : Heap) (locs : List Loc) (ls : Array Slot), va_P g.1 vwCl (w_case_47 g a0 a1 a2 a3 b3 u0_0 u0_1 u0_2 u0_3 u0_4 u0_5 u0_6 u0_9 u2_0 u2_1 u2_2 u2_3 u2_4 u2_5 u2_6 u2_8 u2_9 u2_10 u2_11 u2_12 u2_13 u2_14 u2_15 u2_16 u2_17 u2_18 u2_19 u2_20 u2_21 u2_22 u2_23 u2_24 u2_25 u2_26 u2_27 u2_28 x0_outputLength y1_output o_x2_thrown x2_written y3_output ++ pl) H → va_D A (w_case_47 g a0 a1 a2 a3 b3 u0_0 u0_1 u0_2 u0_3 u0_4 u0_5 u0_6 u0_9 u2_0 u2_1 u2_2 u2_3 u2_4 u2_5 u2_6 u2_8 u2_9 u2_10 u2_11 u2_12 u2_13 u2_14 u2_15 u2_16 u2_17 u2_18 u2_19 u2_20 u2_21 u2_22 u2_23 u2_24 u2_25 u2_26 u2_27 u2_28 x0_outputLength y1_output o_x2_thrown x2_written y3_output ++ pl) → va_S A s.heap H locs → lv_has ls 9 [(0, .ref sb), (1, .ref a0), (2, .ref a2), (3, .ref b3), (4, .int i)] → W p l e R s m args below meth c H locs (c1 + 14) (s1 + 846) Q (F0 m 2565 ls [])) : W p l e R s m args below meth c H locs c1 s1 Q (F0 m 2415 ls []) := by
  unfold f_case_47 at hf
  refine lv_aload_n (pc := 2415) hexec hb dL_law_2415 rfl (lv_at hl 1 rfl) ?_
  refine lv_aload_n (pc := 2416) hexec hb dL_law_2416 rfl (lv_at hl 0 rfl) ?_
  refine lv_iload (pc := 2417) hexec hb dL_law_2417 (lv_at hl 4 rfl) ?_
  refine lv_iconst (pc := 2419) hexec hb dL_law_2419 ki_1 ?_
  refine lv_iadd (pc := 2420) hexec hb dL_law_2420 ?_
  refine k_scr (pc := 2421) hexec hb hX hbl hbA hS hf dL_law_2421 (fun hf => ?_)
  obtain ⟨r2422, hc, hf⟩ := bd1_e hf
  refine kVLt (pc := 2422) (S := ⟨hexec, hb, hml, hown, hts⟩) hP hD hG hA hS [0, 1] [2, 3] rfl rfl rfl (me_of_mi (c_X8_outputByte l g a0 a1 _ u0_0 u0_1 u0_2 u0_3 u0_4 u0_5 u0_6 u0_9 x0_outputLength y1_output (xs (i + 1).toNatClampNeg) r2422 hc)) gL_law_X8_outputByte rfl hq_X8_outputByte ⟨by omega, by omega⟩ 8 0 rfl rfl rfl (rest := []) rfl rfl hl.1 (nle rfl) dL_law_2422 ⟨by omega, by omega⟩ (fun w1 H locs hF1 hP hD hS => ?_)
  subst hF1
  have hP := lbk hP [2, 3, 0, 1] (X := (w_case_47 g a0 a1 a2 a3 b3 u0_0 u0_1 u0_2 u0_3 u0_4 u0_5 u0_6 u0_9 u2_0 u2_1 u2_2 u2_3 u2_4 u2_5 u2_6 u2_8 u2_9 u2_10 u2_11 u2_12 u2_13 u2_14 u2_15 u2_16 u2_17 u2_18 u2_19 u2_20 u2_21 u2_22 u2_23 u2_24 u2_25 u2_26 u2_27 u2_28 x0_outputLength y1_output x2_thrown x2_written y3_output)) rfl
  have hD := lbkD hD [2, 3, 0, 1] (X := (w_case_47 g a0 a1 a2 a3 b3 u0_0 u0_1 u0_2 u0_3 u0_4 u0_5 u0_6 u0_9 u2_0 u2_1 u2_2 u2_3 u2_4 u2_5 u2_6 u2_8 u2_9 u2_10 u2_11 u2_12 u2_13 u2_14 u2_15 u2_16 u2_17 u2_18 u2_19 u2_20 u2_21 u2_22 u2_23 u2_24 u2_25 u2_26 u2_27 u2_28 x0_outputLength y1_output x2_thrown x2_written y3_output)) rfl rfl
  refine W.widen (k := c1) (n := s1) (by omega) (by omega) ?_
  refine lv_aload_n (pc := 2425) hexec hb dL_law_2425 rfl (lv_at hl 2 rfl) ?_
  refine lv_aload_n (pc := 2426) hexec hb dL_law_2426 rfl (lv_at hl 0 rfl) ?_
  refine lv_iload (pc := 2427) hexec hb dL_law_2427 (lv_at hl 4 rfl) ?_
  refine lv_iconst (pc := 2429) hexec hb dL_law_2429 ki_1 ?_
  refine lv_iadd (pc := 2430) hexec hb dL_law_2430 ?_
  refine k_scr (pc := 2431) hexec hb hX hbl hbA hS hf dL_law_2431 (fun hf => ?_)
  obtain ⟨r2432, x2_thrown_1, hc, hf⟩ := bd2_e hf
  refine kVLt (pc := 2432) (S := ⟨hexec, hb, hml, hown, hts⟩) hP hD hG hA hS [2, 3] [0, 1] rfl rfl rfl (me_of_mi (c_X9_outputByte l g a2 a3 _ u2_0 u2_1 u2_2 u2_3 u2_4 u2_5 u2_6 u2_8 u2_9 u2_10 u2_11 u2_12 u2_13 u2_14 u2_15 u2_16 u2_17 u2_18 u2_19 u2_20 u2_21 u2_22 u2_23 u2_24 u2_25 u2_26 u2_27 u2_28 x2_thrown x2_written y3_output (xs (i + 1).toNatClampNeg) r2432 x2_thrown_1 hc)) gL_law_X9_outputByte rfl hq_X9_outputByte ⟨by omega, by omega⟩ 9 0 rfl rfl rfl (rest := [.int r2422]) rfl rfl hl.1 (nle rfl) dL_law_2432 ⟨by omega, by omega⟩ (fun w1 H locs hF1 hP hD hS => ?_)
  subst hF1
  have hP := lbk hP [0, 1, 2, 3] (X := (w_case_47 g a0 a1 a2 a3 b3 u0_0 u0_1 u0_2 u0_3 u0_4 u0_5 u0_6 u0_9 u2_0 u2_1 u2_2 u2_3 u2_4 u2_5 u2_6 u2_8 u2_9 u2_10 u2_11 u2_12 u2_13 u2_14 u2_15 u2_16 u2_17 u2_18 u2_19 u2_20 u2_21 u2_22 u2_23 u2_24 u2_25 u2_26 u2_27 u2_28 x0_outputLength y1_output x2_thrown_1 x2_written y3_output)) rfl
  have hD := lbkD hD [0, 1, 2, 3] (X := (w_case_47 g a0 a1 a2 a3 b3 u0_0 u0_1 u0_2 u0_3 u0_4 u0_5 u0_6 u0_9 u2_0 u2_1 u2_2 u2_3 u2_4 u2_5 u2_6 u2_8 u2_9 u2_10 u2_11 u2_12 u2_13 u2_14 u2_15 u2_16 u2_17 u2_18 u2_19 u2_20 u2_21 u2_22 u2_23 u2_24 u2_25 u2_26 u2_27 u2_28 x0_outputLength y1_output x2_thrown_1 x2_written y3_output)) rfl rfl
  refine W.widen (k := c1) (n := s1) (by omega) (by omega) ?_
  refine ki_eq (pc := 2435) hexec hb dL_law_2435 (tgt := 2565) rfl hf (fun hc hf => ?_) (fun hc hf => ?_)
  · cases hf
    exact W.widen (by omega) (by omega) (kk _ _ _ hP hD hS (lv_sub hl [0, 1, 2, 3, 4] rfl))
  · cases hf
end LAWC
