abbrev w_J6_bitCount_0f7a4 (g : GE) : va_W := []
set_option maxRecDepth 20000 in
theorem c_J6_bitCount_0f7a4 (l : Launch) (g : GE) (sz : Nat)  (p0 : Int32)  (r : Int32) (hf : f_J6_bitCount_0f7a4 p0 = some r) : MI l g yJ6_bitCount_0f7a4 wsJ6_bitCount_0f7a4 1 24 [.int p0] (w_J6_bitCount_0f7a4 g ) sz (some (.int r)) (w_J6_bitCount_0f7a4 g ) := by
  refine MI.start (cc := cJ6_bitCount_0f7a4) (maxL := 1) (ret := (some .int)) rfl rfl (nle rfl) ?_
  intro p e s m args below meth c A ls Q hQ hexec hb hr hts hown hlocks hml hA hP hD hG hS hl
  unfold f_J6_bitCount_0f7a4 at hf
  have hS : va_S A s.heap s.heap [] := hS
  refine lv_iload_n (pc := 0) hexec hb dJ6_bitCount_0f7a4_0 rfl (lv_at hl 0 rfl) ?_
  refine lv_iload_n (pc := 1) hexec hb dJ6_bitCount_0f7a4_1 rfl (lv_at hl 0 rfl) ?_
  refine lv_iconst (pc := 2) hexec hb dJ6_bitCount_0f7a4_2 ki_1 ?_
  refine lv_iushr (pc := 3) hexec hb dJ6_bitCount_0f7a4_3 (v := ushr p0 1) rfl ?_
  refine lv_ldcw (pc := 4) hexec hb (own := RJ6) hown (hts _ (List.mem_cons_of_mem _ (List.mem_of_getElem? (i := 0) rfl))) dJ6_bitCount_0f7a4_4 ?_
  refine lv_iand (pc := 7) hexec hb dJ6_bitCount_0f7a4_7 ?_
  refine lv_isub (pc := 8) hexec hb dJ6_bitCount_0f7a4_8 ?_
  obtain ⟨v0, ev0, hf⟩ := bv_e hf
  refine kn_i ev0 ?_
  refine lv_istore_n (pc := 9) hexec hb dJ6_bitCount_0f7a4_9 rfl hl (nle rfl) rfl (fun ls (hl : lv_has ls 1 [(0, .int v0)]) => ?_)
  refine lv_iload_n (pc := 10) hexec hb dJ6_bitCount_0f7a4_10 rfl (lv_at hl 0 rfl) ?_
  refine lv_ldcw (pc := 11) hexec hb (own := RJ6) hown (hts _ (List.mem_cons_of_mem _ (List.mem_of_getElem? (i := 1) rfl))) dJ6_bitCount_0f7a4_11 ?_
  refine lv_iand (pc := 14) hexec hb dJ6_bitCount_0f7a4_14 ?_
  refine lv_iload_n (pc := 15) hexec hb dJ6_bitCount_0f7a4_15 rfl (lv_at hl 0 rfl) ?_
  refine lv_iconst (pc := 16) hexec hb dJ6_bitCount_0f7a4_16 ki_2 ?_
  refine lv_iushr (pc := 17) hexec hb dJ6_bitCount_0f7a4_17 (v := ushr v0 2) rfl ?_
  refine lv_ldcw (pc := 18) hexec hb (own := RJ6) hown (hts _ (List.mem_cons_of_mem _ (List.mem_of_getElem? (i := 1) rfl))) dJ6_bitCount_0f7a4_18 ?_
  refine lv_iand (pc := 21) hexec hb dJ6_bitCount_0f7a4_21 ?_
  refine lv_iadd (pc := 22) hexec hb dJ6_bitCount_0f7a4_22 ?_
  obtain ⟨v0_1, ev0_1, hf⟩ := bv_e hf
  refine kn_i ev0_1 ?_
  refine lv_istore_n (pc := 23) hexec hb dJ6_bitCount_0f7a4_23 rfl hl (nle rfl) rfl (fun ls (hl : lv_has ls 1 [(0, .int v0_1)]) => ?_)
  refine lv_iload_n (pc := 24) hexec hb dJ6_bitCount_0f7a4_24 rfl (lv_at hl 0 rfl) ?_
  refine lv_iload_n (pc := 25) hexec hb dJ6_bitCount_0f7a4_25 rfl (lv_at hl 0 rfl) ?_
  refine lv_iconst (pc := 26) hexec hb dJ6_bitCount_0f7a4_26 ki_4 ?_
  refine lv_iushr (pc := 27) hexec hb dJ6_bitCount_0f7a4_27 (v := ushr v0_1 4) rfl ?_
  refine lv_iadd (pc := 28) hexec hb dJ6_bitCount_0f7a4_28 ?_
  refine lv_ldcw (pc := 29) hexec hb (own := RJ6) hown (hts _ (List.mem_cons_of_mem _ (List.mem_of_getElem? (i := 2) rfl))) dJ6_bitCount_0f7a4_29 ?_
  refine lv_iand (pc := 32) hexec hb dJ6_bitCount_0f7a4_32 ?_
  obtain ⟨v0_2, ev0_2, hf⟩ := bv_e hf
  refine kn_i ev0_2 ?_
  refine lv_istore_n (pc := 33) hexec hb dJ6_bitCount_0f7a4_33 rfl hl (nle rfl) rfl (fun ls (hl : lv_has ls 1 [(0, .int v0_2)]) => ?_)
  refine lv_iload_n (pc := 34) hexec hb dJ6_bitCount_0f7a4_34 rfl (lv_at hl 0 rfl) ?_
  refine lv_iload_n (pc := 35) hexec hb dJ6_bitCount_0f7a4_35 rfl (lv_at hl 0 rfl) ?_
  refine lv_bipush (pc := 36) hexec hb dJ6_bitCount_0f7a4_36 kb_8 ?_
  refine lv_iushr (pc := 38) hexec hb dJ6_bitCount_0f7a4_38 (v := ushr v0_2 8) rfl ?_
  refine lv_iadd (pc := 39) hexec hb dJ6_bitCount_0f7a4_39 ?_
  obtain ⟨v0_3, ev0_3, hf⟩ := bv_e hf
  refine kn_i ev0_3 ?_
  refine lv_istore_n (pc := 40) hexec hb dJ6_bitCount_0f7a4_40 rfl hl (nle rfl) rfl (fun ls (hl : lv_has ls 1 [(0, .int v0_3)]) => ?_)
  refine lv_iload_n (pc := 41) hexec hb dJ6_bitCount_0f7a4_41 rfl (lv_at hl 0 rfl) ?_
  refine lv_iload_n (pc := 42) hexec hb dJ6_bitCount_0f7a4_42 rfl (lv_at hl 0 rfl) ?_
  refine lv_bipush (pc := 43) hexec hb dJ6_bitCount_0f7a4_43 kb_16 ?_
  refine lv_iushr (pc := 45) hexec hb dJ6_bitCount_0f7a4_45 (v := ushr v0_3 16) rfl ?_
  refine lv_iadd (pc := 46) hexec hb dJ6_bitCount_0f7a4_46 ?_
  obtain ⟨v0_4, ev0_4, hf⟩ := bv_e hf
  refine kn_i ev0_4 ?_
  refine lv_istore_n (pc := 47) hexec hb dJ6_bitCount_0f7a4_47 rfl hl (nle rfl) rfl (fun ls (hl : lv_has ls 1 [(0, .int v0_4)]) => ?_)
  refine lv_iload_n (pc := 48) hexec hb dJ6_bitCount_0f7a4_48 rfl (lv_at hl 0 rfl) ?_
  refine lv_bipush (pc := 49) hexec hb dJ6_bitCount_0f7a4_49 kb_63 ?_
  refine lv_iand (pc := 51) hexec hb dJ6_bitCount_0f7a4_51 ?_
  cases hf
  exact ke_i hQ hexec hb hr hP hD hS dJ6_bitCount_0f7a4_52 hlocks
abbrev w_J9_floorMod_7cf53 (g : GE) : va_W := []
set_option maxRecDepth 20000 in
theorem c_J9_floorMod_7cf53 (l : Launch) (g : GE) (sz : Nat)  (p0 : Int32) (p1 : Int32)  (r : Int32) (hf : f_J9_floorMod_7cf53 p0 p1 = some r) : MI l g yJ9_floorMod_7cf53 wsJ9_floorMod_7cf53 1 24 [.int p0, .int p1] (w_J9_floorMod_7cf53 g ) sz (some (.int r)) (w_J9_floorMod_7cf53 g ) := by
  refine MI.startF (cc := cJ9_floorMod_7cf53) (maxL := 3) (ret := (some .int)) (by decide +kernel) rfl (nle rfl) ?_
  intro p e s m args below meth c A ls Q hQ hexec hb hr hts hown hlocks hml hA hP hD hG hS hl
  unfold f_J9_floorMod_7cf53 at hf
  have hS : va_S A s.heap s.heap [] := hS
  refine lv_iload_n (pc := 0) hexec hb dJ9_floorMod_7cf53_0 rfl (lv_at hl 0 rfl) ?_
  refine lv_iload_n (pc := 1) hexec hb dJ9_floorMod_7cf53_1 rfl (lv_at hl 1 rfl) ?_
  refine kd_irem (pc := 2) hexec hb dJ9_floorMod_7cf53_2 hf (fun hf => ?_)
  obtain ⟨v2, ev2, hf⟩ := bv_e hf
  refine kn_i ev2 ?_
  refine lv_istore_n (pc := 3) hexec hb dJ9_floorMod_7cf53_3 rfl hl (nle rfl) rfl (fun ls (hl : lv_has ls 3 [(2, .int v2), (0, .int p0), (1, .int p1)]) => ?_)
  refine lv_iload_n (pc := 4) hexec hb dJ9_floorMod_7cf53_4 rfl (lv_at hl 1 rfl) ?_
  refine lv_iload_n (pc := 5) hexec hb dJ9_floorMod_7cf53_5 rfl (lv_at hl 2 rfl) ?_
  refine lv_ixor (pc := 6) hexec hb dJ9_floorMod_7cf53_6 ?_
  refine kb_ge (pc := 7) hexec hb dJ9_floorMod_7cf53_7 (tgt := 18) rfl hf (fun hc hf => ?_) (fun hc hf => ?_)
  · refine lv_iload_n (pc := 18) hexec hb dJ9_floorMod_7cf53_18 rfl (lv_at hl 0 rfl) ?_
    cases hf
    exact ke_i hQ hexec hb hr hP hD hS dJ9_floorMod_7cf53_19 hlocks
  · refine lv_iload_n (pc := 10) hexec hb dJ9_floorMod_7cf53_10 rfl (lv_at hl 0 rfl) ?_
    refine kb_eq (pc := 11) hexec hb dJ9_floorMod_7cf53_11 (tgt := 18) rfl hf (fun hc hf => ?_) (fun hc hf => ?_)
    · refine lv_iload_n (pc := 18) hexec hb dJ9_floorMod_7cf53_18 rfl (lv_at hl 0 rfl) ?_
      cases hf
      exact ke_i hQ hexec hb hr hP hD hS dJ9_floorMod_7cf53_19 hlocks
    · refine lv_iload_n (pc := 14) hexec hb dJ9_floorMod_7cf53_14 rfl (lv_at hl 0 rfl) ?_
      refine lv_iload_n (pc := 15) hexec hb dJ9_floorMod_7cf53_15 rfl (lv_at hl 2 rfl) ?_
      refine lv_iadd (pc := 16) hexec hb dJ9_floorMod_7cf53_16 ?_
      cases hf
      exact ke_i hQ hexec hb hr hP hD hS dJ9_floorMod_7cf53_17 hlocks
