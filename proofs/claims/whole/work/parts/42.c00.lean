section LAWC
variable {p : Program} {l : Launch} {e : Env} {R : Room} {s : State} {m : MethodId} {args : Array Value} {below : List Frame} {meth : Method} {c : Code} {H : Heap} {locs : List Loc} {c1 s1 : Nat} {Q : State → Prop} {ls : Array Slot} {A : Nat → Prop} {g : GE} {sb L : Nat} {xs : Nat → Int32} {i : Int32} {pl : va_W}
abbrev w_case_0 (g : GE) (a0 a1 a2 a3 a4 b3 : Nat) (u0_0 u0_1 u0_2 u0_3 u0_5 u0_6 u0_7 u0_8 u0_9 u1_0 u1_1 u1_4 u1_5 u1_6 u1_7 u1_8 u1_9 u1_10 u1_11 u1_12 u1_13 u3_0 u3_1 u3_2 u3_3 u3_4 u3_5 u3_6 u3_8 u3_9 u3_10 u3_11 u3_12 u3_13 u3_14 u3_15 u3_16 u3_17 u3_18 u3_21 u3_22 u3_23 u3_24 u3_25 u3_26 u3_27 u3_28 u3_29 u3_30 : Value) (x1_length : Int32) (y2_text : Nat → Int32) (x3_thrown : Int32) (x3_length : Int32) (y4_text : Nat → Int32) : va_W := [(a0, .inr (8, [u0_0, u0_1, u0_2, u0_3, .ref a1, u0_5, u0_6, u0_7, u0_8, u0_9])), (a1, .inr (5, [u1_0, u1_1, .ref a2, .int x1_length, u1_4, u1_5, u1_6, u1_7, u1_8, u1_9, u1_10, u1_11, u1_12, u1_13])), (a2, .inl (g.2.1 0, 500, .inl y2_text)), (a3, .inr (9, [u3_0, u3_1, u3_2, u3_3, u3_4, u3_5, u3_6, .int x3_thrown, u3_8, u3_9, u3_10, u3_11, u3_12, u3_13, u3_14, u3_15, u3_16, u3_17, u3_18, .ref a4, .int x3_length, u3_21, u3_22, u3_23, u3_24, u3_25, u3_26, u3_27, u3_28, u3_29, u3_30])), (a4, .inl (g.2.1 0, 500, .inl y4_text))]
set_option maxRecDepth 20000 in
theorem lc_0 (hlt : l.stackTraces = false) (hexec : p.tables.exec = Jvm.exec) (hb : c.code = cL_law) (hml : c.maxLocals = 9) (hown : s.vm.findClass RL = some m.cls) (hts : ∀ w ∈ wsL_law, w.before args s = true) (hG : GG g A s s.heap) (hA : ∀ q, s.heap.size ≤ q → A q) (hX : va_X sb L xs s s.heap) (hbl : sb < s.heap.size) (hbA : ¬ A sb) (hRf : 2000 ≤ R.frames) (hRl : 80000 ≤ R.locals) (hRc : c1 + 14 ≤ R.cells) (hRs : s1 + 846 ≤ R.slots) (a0 a1 a2 a3 a4 b3 : Nat) (u0_0 u0_1 u0_2 u0_3 u0_5 u0_6 u0_7 u0_8 u0_9 u1_0 u1_1 u1_4 u1_5 u1_6 u1_7 u1_8 u1_9 u1_10 u1_11 u1_12 u1_13 u3_0 u3_1 u3_2 u3_3 u3_4 u3_5 u3_6 u3_8 u3_9 u3_10 u3_11 u3_12 u3_13 u3_14 u3_15 u3_16 u3_17 u3_18 u3_21 u3_22 u3_23 u3_24 u3_25 u3_26 u3_27 u3_28 u3_29 u3_30 : Value) (x1_length : Int32) (y2_text : Nat → Int32) (x3_thrown : Int32) (x3_length : Int32) (y4_text : Nat → Int32) (o_x1_length : Int32) (o_y2_text : Nat → Int32) (o_x3_thrown : Int32) (o_x3_length : Int32) (o_y4_text : Nat → Int32) (hf : f_case_0 L xs i x1_length y2_text x3_thrown x3_length y4_text = some (o_x1_length, o_y2_text, o_x3_thrown, o_x3_length, o_y4_text)) (hP : va_P g.1 vwCl (w_case_0 g a0 a1 a2 a3 a4 b3 u0_0 u0_1 u0_2 u0_3 u0_5 u0_6 u0_7 u0_8 u0_9 u1_0 u1_1 u1_4 u1_5 u1_6 u1_7 u1_8 u1_9 u1_10 u1_11 u1_12 u1_13 u3_0 u3_1 u3_2 u3_3 u3_4 u3_5 u3_6 u3_8 u3_9 u3_10 u3_11 u3_12 u3_13 u3_14 u3_15 u3_16 u3_17 u3_18 u3_21 u3_22 u3_23 u3_24 u3_25 u3_26 u3_27 u3_28 u3_29 u3_30 x1_length y2_text x3_thrown x3_length y4_text ++ pl) H) (hD : va_D A (w_case_0 g a0 a1 a2 a3 a4 b3 u0_0 u0_1 u0_2 u0_3 u0_5 u0_6 u0_7 u0_8 u0_9 u1_0 u1_1 u1_4 u1_5 u1_6 u1_7 u1_8 u1_9 u1_10 u1_11 u1_12 u1_13 u3_0 u3_1 u3_2 u3_3 u3_4 u3_5 u3_6 u3_8 u3_9 u3_10 u3_11 u3_12 u3_13 u3_14 u3_15 u3_16 u3_17 u3_18 u3_21 u3_22 u3_23 u3_24 u3_25 u3_26 u3_27 u3_28 u3_29 u3_30 x1_length y2_text x3_thrown x3_length y4_text ++ pl)) (hS : va_S A s.heap H locs) (hl : lv_has ls 9 [(0, .ref sb), (1, .ref a0), (2, .ref a3), (3, .ref b3), (4, .int i)]) (kk : ∀ (H : Heap) (locs : List Loc) (ls : Array Slot), va_P g.1 vwCl (w_case_0 g a0 a1 a2 a3 a4 b3 u0_0 u0_1 u0_2 u0_3 u0_5 u0_6 u0_7 u0_8 u0_9 u1_0 u1_1 u1_4 u1_5 u1_6 u1_7 u1_8 u1_9 u1_10 u1_11 u1_12 u1_13 u3_0 u3_1 u3_2 u3_3 u3_4 u3_5 u3_6 u3_8 u3_9 u3_10 u3_11 u3_12 u3_13 u3_14 u3_15 u3_16 u3_17 u3_18 u3_21 u3_22 u3_23 u3_24 u3_25 u3_26 u3_27 u3_28 u3_29 u3_30 o_x1_length o_y2_text o_x3_thrown o_x3_length o_y4_text ++ pl) H → va_D A (w_case_0 g a0 a1 a2 a3 a4 b3 u0_0 u0_1 u0_2 u0_3 u0_5 u0_6 u0_7 u0_8 u0_9 u1_0 u1_1 u1_4 u1_5 u1_6 u1_7 u1_8 u1_9 u1_10 u1_11 u1_12 u1_13 u3_0 u3_1 u3_2 u3_3 u3_4 u3_5 u3_6 u3_8 u3_9 u3_10 u3_11 u3_12 u3_13 u3_14 u3_15 u3_16 u3_17 u3_18 u3_21 u3_22 u3_23 u3_24 u3_25 u3_26 u3_27 u3_28 u3_29 u3_30 o_x1_length o_y2_text o_x3_thrown o_x3_length o_y4_text ++ pl) → va_S A s.heap H locs → lv_has ls 9 [(0, .ref sb), (1, .ref a0), (2, .ref a3), (3, .ref b3), (4, .int i)] → W p l e R s m args below meth c H locs (c1 + 14) (s1 + 846) Q (F0 m 2565 ls [])) : W p l e R s m args below meth c H locs c1 s1 Q (F0 m 256 ls []) := by
  unfold f_case_0 at hf
  refine lv_aload_n (pc := 256) hexec hb dL_law_256 rfl (lv_at hl 1 rfl) ?_
  refine lv_aload_n (pc := 257) hexec hb dL_law_257 rfl (lv_at hl 0 rfl) ?_
  refine lv_iload (pc := 258) hexec hb dL_law_258 (lv_at hl 4 rfl) ?_
  refine lv_iconst (pc := 260) hexec hb dL_law_260 ki_1 ?_
  refine lv_iadd (pc := 261) hexec hb dL_law_261 ?_
  refine k_scr (pc := 262) hexec hb hX hbl hbA hS hf dL_law_262 (fun hf => ?_)
  refine lv_i2l (pc := 263) hexec hb dL_law_263 rfl ?_
  refine lv_bipush (pc := 264) hexec hb dL_law_264 kb_32 ?_
  refine lv_lshl (pc := 266) hexec hb dL_law_266 (v := (lshlv (((xs (i + 1).toNatClampNeg)).toInt64) 32)) rfl ?_
  refine lv_aload_n (pc := 267) hexec hb dL_law_267 rfl (lv_at hl 0 rfl) ?_
  refine lv_iload (pc := 268) hexec hb dL_law_268 (lv_at hl 4 rfl) ?_
  refine lv_iconst (pc := 270) hexec hb dL_law_270 ki_2 ?_
  refine lv_iadd (pc := 271) hexec hb dL_law_271 ?_
  refine k_scr (pc := 272) hexec hb hX hbl hbA hS hf dL_law_272 (fun hf => ?_)
  refine lv_i2l (pc := 273) hexec hb dL_law_273 rfl ?_
  refine lv_ldc2 (pc := 274) hexec hb (own := RL) hown (hts _ (List.mem_append_left _ (List.mem_append_left _ (List.mem_append_left _ (List.mem_append_left _ (List.mem_append_left _ (List.mem_append_left _ (List.mem_append_left _ (List.mem_append_left _ (List.mem_append_left _ (List.mem_append_left _ (List.mem_append_left _ (List.mem_append_left _ (List.mem_append_left _ (List.mem_append_left _ (List.mem_of_getElem? (i := 7) rfl)))))))))))))))) dL_law_274 ?_
  refine lv_land (pc := 277) hexec hb dL_law_277 ?_
  refine lv_lor (pc := 278) hexec hb dL_law_278 ?_
  obtain ⟨r279, x1_length_1, y2_text_1, hc, hf⟩ := bd3_e hf
  refine kVLt (pc := 279) (S := ⟨hexec, hb, hml, hown, hts⟩) hP hD hG hA hS [0, 1, 2] [3, 4] rfl rfl rfl (me_of_mi (c_X8_append l g a0 a1 a2 _ u0_0 u0_1 u0_2 u0_3 u0_5 u0_6 u0_7 u0_8 u0_9 u1_0 u1_1 u1_4 u1_5 u1_6 u1_7 u1_8 u1_9 u1_10 u1_11 u1_12 u1_13 x1_length y2_text ((lshlv (((xs (i + 1).toNatClampNeg)).toInt64) 32) ||| ((((xs (i + 2).toNatClampNeg)).toInt64) &&& 4294967295)) r279 x1_length_1 y2_text_1 hc)) gL_law_X8_append rfl hq_X8_append ⟨by omega, by omega⟩ 8 0 rfl rfl rfl (rest := []) rfl rfl hl.1 (nle rfl) dL_law_279 ⟨by omega, by omega⟩ (fun w1 H locs hF1 hP hD hS => ?_)
  subst hF1
  have hP := lbk hP [2, 3, 4, 0, 1] (X := (w_case_0 g a0 a1 a2 a3 a4 b3 u0_0 u0_1 u0_2 u0_3 u0_5 u0_6 u0_7 u0_8 u0_9 u1_0 u1_1 u1_4 u1_5 u1_6 u1_7 u1_8 u1_9 u1_10 u1_11 u1_12 u1_13 u3_0 u3_1 u3_2 u3_3 u3_4 u3_5 u3_6 u3_8 u3_9 u3_10 u3_11 u3_12 u3_13 u3_14 u3_15 u3_16 u3_17 u3_18 u3_21 u3_22 u3_23 u3_24 u3_25 u3_26 u3_27 u3_28 u3_29 u3_30 x1_length_1 y2_text_1 x3_thrown x3_length y4_text)) rfl
  have hD := lbkD hD [2, 3, 4, 0, 1] (X := (w_case_0 g a0 a1 a2 a3 a4 b3 u0_0 u0_1 u0_2 u0_3 u0_5 u0_6 u0_7 u0_8 u0_9 u1_0 u1_1 u1_4 u1_5 u1_6 u1_7 u1_8 u1_9 u1_10 u1_11 u1_12 u1_13 u3_0 u3_1 u3_2 u3_3 u3_4 u3_5 u3_6 u3_8 u3_9 u3_10 u3_11 u3_12 u3_13 u3_14 u3_15 u3_16 u3_17 u3_18 u3_21 u3_22 u3_23 u3_24 u3_25 u3_26 u3_27 u3_28 u3_29 u3_30 x1_length_1 y2_text_1 x3_thrown x3_length y4_text)) rfl rfl
  refine W.widen (k := c1) (n := s1) (by omega) (by omega) ?_
  refine lv_aload_n (pc := 282) hexec hb dL_law_282 rfl (lv_at hl 2 rfl) ?_
  refine lv_aload_n (pc := 283) hexec hb dL_law_283 rfl (lv_at hl 0 rfl) ?_
  refine lv_iload (pc := 284) hexec hb dL_law_284 (lv_at hl 4 rfl) ?_
  refine lv_iconst (pc := 286) hexec hb dL_law_286 ki_1 ?_
  refine lv_iadd (pc := 287) hexec hb dL_law_287 ?_
  refine k_scr (pc := 288) hexec hb hX hbl hbA hS hf dL_law_288 (fun hf => ?_)
  refine lv_i2l (pc := 289) hexec hb dL_law_289 rfl ?_
  refine lv_bipush (pc := 290) hexec hb dL_law_290 kb_32 ?_
  refine lv_lshl (pc := 292) hexec hb dL_law_292 (v := (lshlv (((xs (i + 1).toNatClampNeg)).toInt64) 32)) rfl ?_
  refine lv_aload_n (pc := 293) hexec hb dL_law_293 rfl (lv_at hl 0 rfl) ?_
  refine lv_iload (pc := 294) hexec hb dL_law_294 (lv_at hl 4 rfl) ?_
  refine lv_iconst (pc := 296) hexec hb dL_law_296 ki_2 ?_
  refine lv_iadd (pc := 297) hexec hb dL_law_297 ?_
  refine k_scr (pc := 298) hexec hb hX hbl hbA hS hf dL_law_298 (fun hf => ?_)
  refine lv_i2l (pc := 299) hexec hb dL_law_299 rfl ?_
  refine lv_ldc2 (pc := 300) hexec hb (own := RL) hown (hts _ (List.mem_append_left _ (List.mem_append_left _ (List.mem_append_left _ (List.mem_append_left _ (List.mem_append_left _ (List.mem_append_left _ (List.mem_append_left _ (List.mem_append_left _ (List.mem_append_left _ (List.mem_append_left _ (List.mem_append_left _ (List.mem_append_left _ (List.mem_append_left _ (List.mem_append_left _ (List.mem_of_getElem? (i := 7) rfl)))))))))))))))) dL_law_300 ?_
  refine lv_land (pc := 303) hexec hb dL_law_303 ?_
  refine lv_lor (pc := 304) hexec hb dL_law_304 ?_
  obtain ⟨r305, x3_thrown_1, x3_length_1, y4_text_1, hc, hf⟩ := bd4_e hf
  refine kVLt (pc := 305) (S := ⟨hexec, hb, hml, hown, hts⟩) hP hD hG hA hS [3, 4] [0, 1, 2] rfl rfl rfl (me_of_mi (c_X9_append l g a3 a4 _ u3_0 u3_1 u3_2 u3_3 u3_4 u3_5 u3_6 u3_8 u3_9 u3_10 u3_11 u3_12 u3_13 u3_14 u3_15 u3_16 u3_17 u3_18 u3_21 u3_22 u3_23 u3_24 u3_25 u3_26 u3_27 u3_28 u3_29 u3_30 x3_thrown x3_length y4_text ((lshlv (((xs (i + 1).toNatClampNeg)).toInt64) 32) ||| ((((xs (i + 2).toNatClampNeg)).toInt64) &&& 4294967295)) r305 x3_thrown_1 x3_length_1 y4_text_1 hc)) gL_law_X9_append rfl hq_X9_append ⟨by omega, by omega⟩ 9 0 rfl rfl rfl (rest := [.int r279]) rfl rfl hl.1 (nle rfl) dL_law_305 ⟨by omega, by omega⟩ (fun w1 H locs hF1 hP hD hS => ?_)
  subst hF1
  have hP := lbk hP [0, 1, 2, 3, 4] (X := (w_case_0 g a0 a1 a2 a3 a4 b3 u0_0 u0_1 u0_2 u0_3 u0_5 u0_6 u0_7 u0_8 u0_9 u1_0 u1_1 u1_4 u1_5 u1_6 u1_7 u1_8 u1_9 u1_10 u1_11 u1_12 u1_13 u3_0 u3_1 u3_2 u3_3 u3_4 u3_5 u3_6 u3_8 u3_9 u3_10 u3_11 u3_12 u3_13 u3_14 u3_15 u3_16 u3_17 u3_18 u3_21 u3_22 u3_23 u3_24 u3_25 u3_26 u3_27 u3_28 u3_29 u3_30 x1_length_1 y2_text_1 x3_thrown_1 x3_length_1 y4_text_1)) rfl
  have hD := lbkD hD [0, 1, 2, 3, 4] (X := (w_case_0 g a0 a1 a2 a3 a4 b3 u0_0 u0_1 u0_2 u0_3 u0_5 u0_6 u0_7 u0_8 u0_9 u1_0 u1_1 u1_4 u1_5 u1_6 u1_7 u1_8 u1_9 u1_10 u1_11 u1_12 u1_13 u3_0 u3_1 u3_2 u3_3 u3_4 u3_5 u3_6 u3_8 u3_9 u3_10 u3_11 u3_12 u3_13 u3_14 u3_15 u3_16 u3_17 u3_18 u3_21 u3_22 u3_23 u3_24 u3_25 u3_26 u3_27 u3_28 u3_29 u3_30 x1_length_1 y2_text_1 x3_thrown_1 x3_length_1 y4_text_1)) rfl rfl
  refine W.widen (k := c1) (n := s1) (by omega) (by omega) ?_
  refine ki_eq (pc := 308) hexec hb dL_law_308 (tgt := 2565) rfl hf (fun hc hf => ?_) (fun hc hf => ?_)
  · cases hf
    exact W.widen (by omega) (by omega) (kk _ _ _ hP hD hS (lv_sub hl [0, 1, 2, 3, 4] rfl))
  · cases hf
end LAWC
