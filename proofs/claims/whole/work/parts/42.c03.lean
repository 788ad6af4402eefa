section LAWC
variable {p : Program} {l : Launch} {e : Env} {R : Room} {s : State} {m : MethodId} {args : Array Value} {below : List Frame} {meth : Method} {c : Code} {H : Heap} {locs : List Loc} {c1 s1 : Nat} {Q : State → Prop} {ls : Array Slot} {A : Nat → Prop} {g : GE} {sb L : Nat} {xs : Nat → Int32} {i : Int32} {pl : va_W}
variable (hlt : l.stackTraces = false) (hexec : p.tables.exec = Jvm.exec) (hb : c.code = cL_law) (hml : c.maxLocals = 9) (hown : s.vm.findClass RL = some m.cls) (hts : ∀ w ∈ wsL_law, w.before args s = true) (hG : GG g A s s.heap) (hA : ∀ q, s.heap.size ≤ q → A q) (hX : va_X sb L xs s s.heap) (hbl : sb < s.heap.size) (hbA : ¬ A sb) (hRf : 2000 ≤ R.frames) (hRl : 80000 ≤ R.locals) (hRc : c1 + 14 ≤ R.cells) (hRs : s1 + 846 ≤ R.slots)
include hlt hexec hb hml hown hts hG hA hX hbl hbA hRf hRl hRc hRs
abbrev w_case_3 (g : GE) (a0 a1 b3 : Nat) (u0_0 u0_1 u0_2 u0_3 u0_4 u0_5 u0_7 u0_8 u0_9 u1_0 u1_1 u1_2 u1_3 u1_4 u1_5 u1_6 u1_8 u1_9 u1_10 u1_11 u1_12 u1_13 u1_14 u1_15 u1_16 u1_17 u1_18 u1_19 u1_20 u1_21 u1_22 u1_23 u1_24 u1_25 u1_27 u1_28 u1_29 u1_30 : Value) (x0_errorStatement : Int32) (x1_thrown : Int32) (x1_errorStatement : Int32) : va_W := [(a0, .inr (8, [u0_0, u0_1, u0_2, u0_3, u0_4, u0_5, .int x0_errorStatement, u0_7, u0_8, u0_9])), (a1, .inr (9, [u1_0, u1_1, u1_2, u1_3, u1_4, u1_5, u1_6, .int x1_thrown, u1_8, u1_9, u1_10, u1_11, u1_12, u1_13, u1_14, u1_15, u1_16, u1_17, u1_18, u1_19, u1_20, u1_21, u1_22, u1_23, u1_24, u1_25, .int x1_errorStatement, u1_27, u1_28, u1_29, u1_30]))]
noncomputable def f_case_3 (L : Nat) (xs : Nat → Int32) (i : Int32) (x0_errorStatement : Int32) (x1_thrown : Int32) (x1_errorStatement : Int32) : Option (Int32) :=
  bd1 (f_X8_loadStatement x0_errorStatement) fun (r340 : Int32) =>
  bd2 (f_X9_loadStatement x1_thrown x1_errorStatement) fun (r344 : Int32) (x1_thrown_1 : Int32) =>
  (if r340 = r344 then (
    some x1_thrown_1
  ) else (
    none
  ))
set_option maxRecDepth 20000 in
theorem lc_3 (a0 a1 b3 : Nat) (u0_0 u0_1 u0_2 u0_3 u0_4 u0_5 u0_7 u0_8 u0_9 u1_0 u1_1 u1_2 u1_3 u1_4 u1_5 u1_6 u1_8 u1_9 u1_10 u1_11 u1_12 u1_13 u1_14 u1_15 u1_16 u1_17 u1_18 u1_19 u1_20 u1_21 u1_22 u1_23 u1_24 u1_25 u1_27 u1_28 u1_29 u1_30 : Value) (x0_errorStatement : Int32) (x1_thrown : Int32) (x1_errorStatement : Int32) (o_x1_thrown : Int32) (hf : f_case_3 L xs i x0_errorStatement x1_thrown x1_errorStatement = some o_x1_thrown) (hP : va_P g.1 vwCl (w_case_3 g a0 a1 b3 u0_0 u0_1 u0_2 u0_3 u0_4 u0_5 u0_7 u0_8 u0_9 u1_0 u1_1 u1_2 u1_3 u1_4 u1_5 u1_6 u1_8 u1_9 u1_10 u1_11 u1_12 u1_13 u1_14 u1_15 u1_16 u1_17 u1_18 u1_19 u1_20 u1_21 u1_22 u1_23 u1_24 u1_25 u1_27 u1_28 u1_29 u1_30 x0_errorStatement x1_thrown x1_errorStatement ++ pl) H) (hD : va_D A (w_case_3 g a0 a1 b3 u0_0 u0_1 u0_2 u0_3 u0_4 u0_5 u0_7 u0_8 u0_9 u1_0 u1_1 u1_2 u1_3 u1_4 u1_5 u1_6 u1_8 u1_9 u1_10 u1_11 u1_12 u1_13 u1_14 u1_15 u1_16 u1_17 u1_18 u1_19 u1_20 u1_21 u1_22 u1_23 u1_24 u1_25 u1_27 u1_28 u1_29 u1_30 x0_errorStatement x1_thrown x1_errorStatement ++ pl)) (hS : va_S A s.heap H locs) (hl : lv_has ls 9 [(0, .ref sb), (1, .ref a0), (2, .ref a1), (3, .ref b3), (4, .int i)]) (kk : ∀ (H : Heap) (locs : List Loc) (ls : Array Slot), va_P g.1 vwCl (w_case_3 g a0 a1 b3 u0_0 u0_1 u0_2 u0_3 u0_4 u0_5 u0_7 u0_8 u0_9 u1_0 u1_1 u1_2 u1_3 u1_4 u1_5 u1_6 u1_8 u1_9 u1_10 u1_11 u1_12 u1_13 u1_14 u1_15 u1_16 u1_17 u1_18 u1_19 u1_20 u1_21 u1_22 u1_23 u1_24 u1_25 u1_27 u1_28 u1_29 u1_30 x0_errorStatement o_x1_thrown x1_errorStatement ++ pl) H → va_D A (w_case_3 g a0 a1 b3 u0_0 u0_1 u0_2 u0_3 u0_4 u0_5 u0_7 u0_8 u0_9 u1_0 u1_1 u1_2 u1_3 u1_4 u1_5 u1_6 u1_8 u1_9 u1_10 u1_11 u1_12 u1_13 u1_14 u1_15 u1_16 u1_17 u1_18 u1_19 u1_20 u1_21 u1_22 u1_23 u1_24 u1_25 u1_27 u1_28 u1_29 u1_30 x0_errorStatement o_x1_thrown x1_errorStatement ++ pl) → va_S A s.heap H locs → lv_has ls 9 [(0, .ref sb), (1, .ref a0), (2, .ref a1), (3, .ref b3), (4, .int i)] → W p l e R s m args below meth c H locs (c1 + 14) (s1 + 846) Q (F0 m 2565 ls [])) : W p l e R s m args below meth c H locs c1 s1 Q (F0 m 339 ls []) := by
  unfold f_case_3 at hf
  refine lv_aload_n (pc := 339) hexec hb dL_law_339 rfl (lv_at hl 1 rfl) ?_
  obtain ⟨r340, hc, hf⟩ := bd1_e hf
  refine kVLt (pc := 340) (S := ⟨hexec, hb, hml, hown, hts⟩) hP hD hG hA hS [0] [1] rfl rfl rfl (me_of_mi (c_X8_loadStatement l g a0 _ u0_0 u0_1 u0_2 u0_3 u0_4 u0_5 u0_7 u0_8 u0_9 x0_errorStatement r340 hc)) gL_law_X8_loadStatement rfl hq_X8_loadStatement ⟨by omega, by omega⟩ 8 0 rfl rfl rfl (rest := []) rfl rfl hl.1 (nle rfl) dL_law_340 ⟨by omega, by omega⟩ (fun w1 H locs hF1 hP hD hS => ?_)
  subst hF1
  have hP := lbk hP [1, 0] (X := (w_case_3 g a0 a1 b3 u0_0 u0_1 u0_2 u0_3 u0_4 u0_5 u0_7 u0_8 u0_9 u1_0 u1_1 u1_2 u1_3 u1_4 u1_5 u1_6 u1_8 u1_9 u1_10 u1_11 u1_12 u1_13 u1_14 u1_15 u1_16 u1_17 u1_18 u1_19 u1_20 u1_21 u1_22 u1_23 u1_24 u1_25 u1_27 u1_28 u1_29 u1_30 x0_errorStatement x1_thrown x1_errorStatement)) rfl
  have hD := lbkD hD [1, 0] (X := (w_case_3 g a0 a1 b3 u0_0 u0_1 u0_2 u0_3 u0_4 u0_5 u0_7 u0_8 u0_9 u1_0 u1_1 u1_2 u1_3 u1_4 u1_5 u1_6 u1_8 u1_9 u1_10 u1_11 u1_12 u1_13 u1_14 u1_15 u1_16 u1_17 u1_18 u1_19 u1_20 u1_21 u1_22 u1_23 u1_24 u1_25 u1_27 u1_28 u1_29 u1_30 x0_errorStatement x1_thrown x1_errorStatement)) rfl rfl
  refine W.widen (k := c1) (n := s1) (by omega) (by omega) ?_
  refine lv_aload_n (pc := 343) hexec hb dL_law_343 rfl (lv_at hl 2 rfl) ?_
  obtain ⟨r344, x1_thrown_1, hc, hf⟩ := bd2_e hf
  refine kVLt (pc := 344) (S := ⟨hexec, hb, hml, hown, hts⟩) hP hD hG hA hS [1] [0] rfl rfl rfl (me_of_mi (c_X9_loadStatement l g a1 _ u1_0 u1_1 u1_2 u1_3 u1_4 u1_5 u1_6 u1_8 u1_9 u1_10 u1_11 u1_12 u1_13 u1_14 u1_15 u1_16 u1_17 u1_18 u1_19 u1_20 u1_21 u1_22 u1_23 u1_24 u1_25 u1_27 u1_28 u1_29 u1_30 x1_thrown x1_errorStatement r344 x1_thrown_1 hc)) gL_law_X9_loadStatement rfl hq_X9_loadStatement ⟨by omega, by omega⟩ 9 0 rfl rfl rfl (rest := [.int r340]) rfl rfl hl.1 (nle rfl) dL_law_344 ⟨by omega, by omega⟩ (fun w1 H locs hF1 hP hD hS => ?_)
  subst hF1
  have hP := lbk hP [0, 1] (X := (w_case_3 g a0 a1 b3 u0_0 u0_1 u0_2 u0_3 u0_4 u0_5 u0_7 u0_8 u0_9 u1_0 u1_1 u1_2 u1_3 u1_4 u1_5 u1_6 u1_8 u1_9 u1_10 u1_11 u1_12 u1_13 u1_14 u1_15 u1_16 u1_17 u1_18 u1_19 u1_20 u1_21 u1_22 u1_23 u1_24 u1_25 u1_27 u1_28 u1_29 u1_30 x0_errorStatement x1_thrown_1 x1_errorStatement)) rfl
  have hD := lbkD hD [0, 1] (X := (w_case_3 g a0 a1 b3 u0_0 u0_1 u0_2 u0_3 u0_4 u0_5 u0_7 u0_8 u0_9 u1_0 u1_1 u1_2 u1_3 u1_4 u1_5 u1_6 u1_8 u1_9 u1_10 u1_11 u1_12 u1_13 u1_14 u1_15 u1_16 u1_17 u1_18 u1_19 u1_20 u1_21 u1_22 u1_23 u1_24 u1_25 u1_27 u1_28 u1_29 u1_30 x0_errorStatement x1_thrown_1 x1_errorStatement)) rfl rfl
  refine W.widen (k := c1) (n := s1) (by omega) (by omega) ?_
  refine ki_eq (pc := 347) hexec hb dL_law_347 (tgt := 2565) rfl hf (fun hc hf => ?_) (fun hc hf => ?_)
  · cases hf
    exact W.widen (by omega) (by omega) (kk _ _ _ hP hD hS (lv_sub hl [0, 1, 2, 3, 4] rfl))
  · cases hf
end LAWC
