abbrev w_X5_addByte (g : GE) (a0 a1 : Nat) (u0_0 u0_1 u0_4 u0_5 u0_6 u0_7 u0_8 u0_9 u0_10 u0_11 u0_12 u0_13 : Value) (x0_length : Int32) (y1_text : Nat → Int32) : va_W := [(a0, .inr (5, [u0_0, u0_1, .ref a1, .int x0_length, u0_4, u0_5, u0_6, u0_7, u0_8, u0_9, u0_10, u0_11, u0_12, u0_13])), (a1, .inl (g.2.1 0, 500, .inl y1_text))]
noncomputable def f_X5_addByte (x0_length : Int32) (y1_text : Nat → Int32) (p1 : Int32) : Option (Int32 × (Nat → Int32)) :=
  (if 500 ≤ x0_length then (
    some (x0_length, y1_text)
  ) else (
    ar x0_length 500 <| bv (upd y1_text x0_length.toNatClampNeg p1) fun y1_text_1 =>
    bv (x0_length + 1) fun x0_length_1 =>
    some (x0_length_1, y1_text_1)
  ))
set_option maxRecDepth 4000 in
theorem c_X5_addByte (l : Launch) (g : GE) (a0 a1 : Nat) (sz : Nat) (u0_0 u0_1 u0_4 u0_5 u0_6 u0_7 u0_8 u0_9 u0_10 u0_11 u0_12 u0_13 : Value) (x0_length : Int32) (y1_text : Nat → Int32) (p1 : Int32) (o_x0_length : Int32) (o_y1_text : Nat → Int32) (hf : f_X5_addByte x0_length y1_text p1 = some (o_x0_length, o_y1_text)) : MI l g yX5_addByte wsX5_addByte 1 24 [.ref a0, .int p1] (w_X5_addByte g a0 a1 u0_0 u0_1 u0_4 u0_5 u0_6 u0_7 u0_8 u0_9 u0_10 u0_11 u0_12 u0_13 x0_length y1_text) sz none (w_X5_addByte g a0 a1 u0_0 u0_1 u0_4 u0_5 u0_6 u0_7 u0_8 u0_9 u0_10 u0_11 u0_12 u0_13 o_x0_length o_y1_text) := by
  refine MI.start (cc := cX5_addByte) (maxL := 2) (ret := none) rfl rfl (nle rfl) ?_
  intro p e s m args below meth c A ls Q hQ hexec hb hr hts hown hlocks hml hA hP hD hG hS hl
  unfold f_X5_addByte at hf
  have hWX5 : ∀ w ∈ wsX50, w.before args s = true := fun w h => hts w (List.mem_cons_of_mem _ (List.mem_append_right _ h))
  have hS : va_S A s.heap s.heap [] := hS
  refine lv_aload_n (pc := 0) hexec hb dX5_addByte_0 rfl (lv_at hl 0 rfl) ?_
  refine kg_get (pc := 1) hexec hb (own := RX5) hWX5 hown hG hP 0 rfl rfl 3 (nle rfl) (hts _ (List.mem_cons_of_mem _ (List.mem_append_left _ (List.mem_of_getElem? (i := 0) rfl)))) rfl rfl dX5_addByte_1 ?_
  refine lv_sipush (pc := 4) hexec hb dX5_addByte_4 ks_500 ?_
  refine ki_ge (pc := 7) hexec hb dX5_addByte_7 (tgt := 30) rfl hf (fun hc hf => ?_) (fun hc hf => ?_)
  · cases hf
    exact ke_v hQ hexec hb hr hP hD hS dX5_addByte_30 hlocks
  · refine lv_aload_n (pc := 10) hexec hb dX5_addByte_10 rfl (lv_at hl 0 rfl) ?_
    refine kg_get (pc := 11) hexec hb (own := RX5) hWX5 hown hG hP 0 rfl rfl 2 (nle rfl) (hts _ (List.mem_cons_of_mem _ (List.mem_append_left _ (List.mem_of_getElem? (i := 1) rfl)))) rfl rfl dX5_addByte_11 ?_
    refine lv_aload_n (pc := 14) hexec hb dX5_addByte_14 rfl (lv_at hl 0 rfl) ?_
    refine kg_get (pc := 15) hexec hb (own := RX5) hWX5 hown hG hP 0 rfl rfl 3 (nle rfl) (hts _ (List.mem_cons_of_mem _ (List.mem_append_left _ (List.mem_of_getElem? (i := 0) rfl)))) rfl rfl dX5_addByte_15 ?_
    refine lv_iload_n (pc := 18) hexec hb dX5_addByte_18 rfl (lv_at hl 1 rfl) ?_
    refine kw_iast (pc := 19) hexec hb hG hP hD hS 1 rfl hf dX5_addByte_19 (fun y1_text_1 H locs hf (hP : va_P g.1 vwCl (w_X5_addByte g a0 a1 u0_0 u0_1 u0_4 u0_5 u0_6 u0_7 u0_8 u0_9 u0_10 u0_11 u0_12 u0_13 x0_length y1_text_1) H) (hD : va_D A (w_X5_addByte g a0 a1 u0_0 u0_1 u0_4 u0_5 u0_6 u0_7 u0_8 u0_9 u0_10 u0_11 u0_12 u0_13 x0_length y1_text_1)) hS => ?_)
    refine lv_aload_n (pc := 20) hexec hb dX5_addByte_20 rfl (lv_at hl 0 rfl) ?_
    refine lv_dup (pc := 21) hexec hb dX5_addByte_21 rfl ?_
    refine kg_get (pc := 22) hexec hb (own := RX5) hWX5 hown hG hP 0 rfl rfl 3 (nle rfl) (hts _ (List.mem_cons_of_mem _ (List.mem_append_left _ (List.mem_of_getElem? (i := 0) rfl)))) rfl rfl dX5_addByte_22 ?_
    refine lv_iconst (pc := 25) hexec hb dX5_addByte_25 ki_1 ?_
    refine lv_iadd (pc := 26) hexec hb dX5_addByte_26 ?_
    obtain ⟨x0_length_1, ex0_length_1, hf⟩ := bv_e hf
    refine kn_i ex0_length_1 ?_
    refine kp_put (pc := 27) hexec hb (own := RX5) hWX5 tyX5 tyX5_ok nmX5 hown hG hP hD hS 0 rfl rfl 3 (nle rfl) (hts _ (List.mem_cons_of_mem _ (List.mem_append_left _ (List.mem_of_getElem? (i := 0) rfl)))) rfl rfl rfl rfl (nle rfl) dX5_addByte_27 (fun H locs (hP : va_P g.1 vwCl (w_X5_addByte g a0 a1 u0_0 u0_1 u0_4 u0_5 u0_6 u0_7 u0_8 u0_9 u0_10 u0_11 u0_12 u0_13 x0_length_1 y1_text_1) H) (hD : va_D A (w_X5_addByte g a0 a1 u0_0 u0_1 u0_4 u0_5 u0_6 u0_7 u0_8 u0_9 u0_10 u0_11 u0_12 u0_13 x0_length_1 y1_text_1)) hS => ?_)
    cases hf
    exact ke_v hQ hexec hb hr hP hD hS dX5_addByte_30 hlocks
abbrev w_X5_fail (g : GE) (a0 : Nat) (u0_0 u0_1 u0_2 u0_3 u0_4 u0_5 u0_6 u0_7 u0_8 u0_9 u0_10 u0_11 : Value) (x0_error : Int32) (x0_errorAt : Int32) : va_W := [(a0, .inr (5, [u0_0, u0_1, u0_2, u0_3, u0_4, u0_5, u0_6, u0_7, u0_8, u0_9, u0_10, u0_11, .int x0_error, .int x0_errorAt]))]
noncomputable def f_X5_fail (x0_error : Int32) (x0_errorAt : Int32) (p1 : Int32) (p2 : Int32) : Option (Int32 × Int32 × Int32) :=
  some (0, p1, p2)
set_option maxRecDepth 4000 in
theorem c_X5_fail (l : Launch) (g : GE) (a0 : Nat) (sz : Nat) (u0_0 u0_1 u0_2 u0_3 u0_4 u0_5 u0_6 u0_7 u0_8 u0_9 u0_10 u0_11 : Value) (x0_error : Int32) (x0_errorAt : Int32) (p1 : Int32) (p2 : Int32) (r : Int32) (o_x0_error : Int32) (o_x0_errorAt : Int32) (hf : f_X5_fail x0_error x0_errorAt p1 p2 = some (r, o_x0_error, o_x0_errorAt)) : MI l g yX5_fail wsX5_fail 1 24 [.ref a0, .int p1, .int p2] (w_X5_fail g a0 u0_0 u0_1 u0_2 u0_3 u0_4 u0_5 u0_6 u0_7 u0_8 u0_9 u0_10 u0_11 x0_error x0_errorAt) sz (some (.int r)) (w_X5_fail g a0 u0_0 u0_1 u0_2 u0_3 u0_4 u0_5 u0_6 u0_7 u0_8 u0_9 u0_10 u0_11 o_x0_error o_x0_errorAt) := by
  refine MI.start (cc := cX5_fail) (maxL := 3) (ret := (some .boolean)) rfl rfl (nle rfl) ?_
  intro p e s m args below meth c A ls Q hQ hexec hb hr hts hown hlocks hml hA hP hD hG hS hl
  unfold f_X5_fail at hf
  have hWX5 : ∀ w ∈ wsX50, w.before args s = true := fun w h => hts w (List.mem_cons_of_mem _ (List.mem_append_right _ h))
  have hS : va_S A s.heap s.heap [] := hS
  refine lv_aload_n (pc := 0) hexec hb dX5_fail_0 rfl (lv_at hl 0 rfl) ?_
  refine lv_iload_n (pc := 1) hexec hb dX5_fail_1 rfl (lv_at hl 1 rfl) ?_
  refine kp_put (pc := 2) hexec hb (own := RX5) hWX5 tyX5 tyX5_ok nmX5 hown hG hP hD hS 0 rfl rfl 12 (nle rfl) (hts _ (List.mem_cons_of_mem _ (List.mem_append_left _ (List.mem_of_getElem? (i := 0) rfl)))) rfl rfl rfl rfl (nle rfl) dX5_fail_2 (fun H locs (hP : va_P g.1 vwCl (w_X5_fail g a0 u0_0 u0_1 u0_2 u0_3 u0_4 u0_5 u0_6 u0_7 u0_8 u0_9 u0_10 u0_11 p1 x0_errorAt) H) (hD : va_D A (w_X5_fail g a0 u0_0 u0_1 u0_2 u0_3 u0_4 u0_5 u0_6 u0_7 u0_8 u0_9 u0_10 u0_11 p1 x0_errorAt)) hS => ?_)
  refine lv_aload_n (pc := 5) hexec hb dX5_fail_5 rfl (lv_at hl 0 rfl) ?_
  refine lv_iload_n (pc := 6) hexec hb dX5_fail_6 rfl (lv_at hl 2 rfl) ?_
  refine kp_put (pc := 7) hexec hb (own := RX5) hWX5 tyX5 tyX5_ok nmX5 hown hG hP hD hS 0 rfl rfl 13 (nle rfl) (hts _ (List.mem_cons_of_mem _ (List.mem_append_left _ (List.mem_of_getElem? (i := 1) rfl)))) rfl rfl rfl rfl (nle rfl) dX5_fail_7 (fun H locs (hP : va_P g.1 vwCl (w_X5_fail g a0 u0_0 u0_1 u0_2 u0_3 u0_4 u0_5 u0_6 u0_7 u0_8 u0_9 u0_10 u0_11 p1 p2) H) (hD : va_D A (w_X5_fail g a0 u0_0 u0_1 u0_2 u0_3 u0_4 u0_5 u0_6 u0_7 u0_8 u0_9 u0_10 u0_11 p1 p2)) hS => ?_)
  refine lv_iconst (pc := 10) hexec hb dX5_fail_10 ki_0 ?_
  cases hf
  exact ke_z hQ hexec hb hr (.inl rfl) hP hD hS dX5_fail_11 hlocks
abbrev w_X5_signAt (g : GE) (a0 a1 : Nat) (u0_0 u0_1 u0_4 u0_5 u0_6 u0_7 u0_8 u0_9 u0_10 u0_11 u0_12 u0_13 : Value) (x0_length : Int32) (y1_text : Nat → Int32) : va_W := [(a0, .inr (5, [u0_0, u0_1, .ref a1, .int x0_length, u0_4, u0_5, u0_6, u0_7, u0_8, u0_9, u0_10, u0_11, u0_12, u0_13])), (a1, .inl (g.2.1 0, 500, .inl y1_text))]
noncomputable def f_X5_signAt (x0_length : Int32) (y1_text : Nat → Int32) (p1 : Int32) : Option (Int32) :=
  bv (fun (_ : Unit) => ((
    some (-1)
    ) : Option (Int32))) fun j28 =>
  (if p1 < 0 then (
    j28 ()
  ) else (
    (if x0_length ≤ p1 then (
      j28 ()
    ) else (
      (if 500 ≤ p1 then (
        j28 ()
      ) else (
        ar p1 500 <|
        some (y1_text p1.toNatClampNeg)
      ))
    ))
  ))
set_option maxRecDepth 4000 in
theorem c_X5_signAt (l : Launch) (g : GE) (a0 a1 : Nat) (sz : Nat) (u0_0 u0_1 u0_4 u0_5 u0_6 u0_7 u0_8 u0_9 u0_10 u0_11 u0_12 u0_13 : Value) (x0_length : Int32) (y1_text : Nat → Int32) (p1 : Int32) (r : Int32) (hf : f_X5_signAt x0_length y1_text p1 = some r) : MI l g yX5_signAt wsX5_signAt 1 24 [.ref a0, .int p1] (w_X5_signAt g a0 a1 u0_0 u0_1 u0_4 u0_5 u0_6 u0_7 u0_8 u0_9 u0_10 u0_11 u0_12 u0_13 x0_length y1_text) sz (some (.int r)) (w_X5_signAt g a0 a1 u0_0 u0_1 u0_4 u0_5 u0_6 u0_7 u0_8 u0_9 u0_10 u0_11 u0_12 u0_13 x0_length y1_text) := by
  refine MI.start (cc := cX5_signAt) (maxL := 2) (ret := (some .int)) rfl rfl (nle rfl) ?_
  intro p e s m args below meth c A ls Q hQ hexec hb hr hts hown hlocks hml hA hP hD hG hS hl
  unfold f_X5_signAt at hf
  have hWX5 : ∀ w ∈ wsX50, w.before args s = true := fun w h => hts w (List.mem_cons_of_mem _ (List.mem_append_right _ h))
  have hS : va_S A s.heap s.heap [] := hS
  refine lv_iload_n (pc := 0) hexec hb dX5_signAt_0 rfl (lv_at hl 1 rfl) ?_
  obtain ⟨j28, ej28, hf⟩ := bvf1 hf
  have hj28 : ∀ (u : Unit) (H : Heap) (locs : List Loc) (ls : Array Slot), j28 u = some r → va_P g.1 vwCl (w_X5_signAt g a0 a1 u0_0 u0_1 u0_4 u0_5 u0_6 u0_7 u0_8 u0_9 u0_10 u0_11 u0_12 u0_13 x0_length y1_text) H → va_D A (w_X5_signAt g a0 a1 u0_0 u0_1 u0_4 u0_5 u0_6 u0_7 u0_8 u0_9 u0_10 u0_11 u0_12 u0_13 x0_length y1_text) → va_S A s.heap H locs → lv_has ls 2 [] → W p l e (RM 1 24) s m args below meth c H locs 0 0 Q (F0 m 28 ls []) := by
    intro u H locs ls hf hP hD hS hl
    have hf := (ej28 u).symm.trans hf
    refine lv_iconst (pc := 28) hexec hb dX5_signAt_28 ki_m1 ?_
    cases hf
    exact ke_i hQ hexec hb hr hP hD hS dX5_signAt_29 hlocks
  refine kb_lt (pc := 1) hexec hb dX5_signAt_1 (tgt := 28) rfl hf (fun hc hf => ?_) (fun hc hf => ?_)
  · exact hj28 _ _ _ _ hf hP hD hS (lv_sub hl [] rfl)
  · refine lv_iload_n (pc := 4) hexec hb dX5_signAt_4 rfl (lv_at hl 1 rfl) ?_
    refine lv_aload_n (pc := 5) hexec hb dX5_signAt_5 rfl (lv_at hl 0 rfl) ?_
    refine kg_get (pc := 6) hexec hb (own := RX5) hWX5 hown hG hP 0 rfl rfl 3 (nle rfl) (hts _ (List.mem_cons_of_mem _ (List.mem_append_left _ (List.mem_of_getElem? (i := 0) rfl)))) rfl rfl dX5_signAt_6 ?_
    refine ki_ge (pc := 9) hexec hb dX5_signAt_9 (tgt := 28) rfl hf (fun hc hf => ?_) (fun hc hf => ?_)
    · exact hj28 _ _ _ _ hf hP hD hS (lv_sub hl [] rfl)
    · refine lv_iload_n (pc := 12) hexec hb dX5_signAt_12 rfl (lv_at hl 1 rfl) ?_
      refine lv_sipush (pc := 13) hexec hb dX5_signAt_13 ks_500 ?_
      refine ki_ge (pc := 16) hexec hb dX5_signAt_16 (tgt := 28) rfl hf (fun hc hf => ?_) (fun hc hf => ?_)
      · exact hj28 _ _ _ _ hf hP hD hS (lv_sub hl [] rfl)
      · refine lv_aload_n (pc := 19) hexec hb dX5_signAt_19 rfl (lv_at hl 0 rfl) ?_
        refine kg_get (pc := 20) hexec hb (own := RX5) hWX5 hown hG hP 0 rfl rfl 2 (nle rfl) (hts _ (List.mem_cons_of_mem _ (List.mem_append_left _ (List.mem_of_getElem? (i := 1) rfl)))) rfl rfl dX5_signAt_20 ?_
        refine lv_iload_n (pc := 23) hexec hb dX5_signAt_23 rfl (lv_at hl 1 rfl) ?_
        refine kr_iald (pc := 24) hexec hb hG hP 1 rfl hf dX5_signAt_24 (fun hf => ?_)
        refine lv_goto (pc := 25) hexec hb dX5_signAt_25 (tgt := 29) rfl ?_
        cases hf
        exact ke_i hQ hexec hb hr hP hD hS dX5_signAt_29 hlocks
abbrev w_X5_nextSign (g : GE) (a0 a1 : Nat) (u0_0 u0_1 u0_5 u0_6 u0_7 u0_8 u0_9 u0_10 u0_11 u0_12 u0_13 : Value) (x0_length : Int32) (x0_at : Int32) (y1_text : Nat → Int32) : va_W := [(a0, .inr (5, [u0_0, u0_1, .ref a1, .int x0_length, .int x0_at, u0_5, u0_6, u0_7, u0_8, u0_9, u0_10, u0_11, u0_12, u0_13])), (a1, .inl (g.2.1 0, 500, .inl y1_text))]
noncomputable def f_X5_nextSign (x0_length : Int32) (x0_at : Int32) (y1_text : Nat → Int32)  : Option (Int32 × Int32) :=
  bv (fun (v1 : Int32) (x0_at_1 : Int32) => ((
    (if x0_length ≤ v1 then (
      some (.inr x0_at_1)
    ) else (
      bd1 (f_X5_signAt x0_length y1_text x0_at_1) fun (r15 : Int32) =>
      (if r15 = 32 then (
        bv (x0_at_1 + 1) fun x0_at_3 =>
        bv (v1 + 1) fun v1_1 =>
        some (.inl (v1_1, x0_at_3))
      ) else (
        some (.inr x0_at_1)
      ))
    ))
    ) : Option ((Int32 × Int32) ⊕ (Int32)))) fun l2 =>
  bd1 (lq2 l2 0 x0_at) fun (x0_at_2 : Int32) =>
  bd1 (f_X5_signAt x0_length y1_text x0_at_2) fun (r44 : Int32) =>
  some (r44, x0_at_2)
set_option maxRecDepth 4000 in
theorem c_X5_nextSign (l : Launch) (g : GE) (a0 a1 : Nat) (sz : Nat) (u0_0 u0_1 u0_5 u0_6 u0_7 u0_8 u0_9 u0_10 u0_11 u0_12 u0_13 : Value) (x0_length : Int32) (x0_at : Int32) (y1_text : Nat → Int32)  (r : Int32) (o_x0_at : Int32) (hf : f_X5_nextSign x0_length x0_at y1_text = some (r, o_x0_at)) : MI l g yX5_nextSign wsX5_nextSign 2 45 [.ref a0] (w_X5_nextSign g a0 a1 u0_0 u0_1 u0_5 u0_6 u0_7 u0_8 u0_9 u0_10 u0_11 u0_12 u0_13 x0_length x0_at y1_text) sz (some (.int r)) (w_X5_nextSign g a0 a1 u0_0 u0_1 u0_5 u0_6 u0_7 u0_8 u0_9 u0_10 u0_11 u0_12 u0_13 x0_length o_x0_at y1_text) := by
  refine MI.start (cc := cX5_nextSign) (maxL := 2) (ret := (some .int)) rfl rfl (nle rfl) ?_
  intro p e s m args below meth c A ls Q hQ hexec hb hr hts hown hlocks hml hA hP hD hG hS hl
  unfold f_X5_nextSign at hf
  have hWX5 : ∀ w ∈ wsX50, w.before args s = true := fun w h => hts w (List.mem_cons_of_mem _ (List.mem_append_right _ h))
  have hS : va_S A s.heap s.heap [] := hS
  refine lv_iconst (pc := 0) hexec hb dX5_nextSign_0 ki_0 ?_
  refine lv_istore_n (pc := 1) hexec hb dX5_nextSign_1 rfl hl (nle rfl) rfl (fun ls (hl : lv_has ls 2 [(1, .int 0), (0, .ref a0)]) => ?_)
  obtain ⟨l2, el2, hf⟩ := bvf2 hf
  obtain ⟨x0_at_2, hz, hf⟩ := bd1_e hf
  have hE2 : ∀ (H : Heap) (locs : List Loc) (ls : Array Slot), va_P g.1 vwCl (w_X5_nextSign g a0 a1 u0_0 u0_1 u0_5 u0_6 u0_7 u0_8 u0_9 u0_10 u0_11 u0_12 u0_13 x0_length x0_at_2 y1_text) H → va_D A (w_X5_nextSign g a0 a1 u0_0 u0_1 u0_5 u0_6 u0_7 u0_8 u0_9 u0_10 u0_11 u0_12 u0_13 x0_length x0_at_2 y1_text) → va_S A s.heap H locs → lv_has ls 2 [(0, .ref a0)] → W p l e (RM 2 45) s m args below meth c H locs 0 0 Q (F0 m 39 ls []) := by
    intro H locs ls hP hD hS hl
    refine lv_aload_n (pc := 39) hexec hb dX5_nextSign_39 rfl (lv_at hl 0 rfl) ?_
    refine lv_aload_n (pc := 40) hexec hb dX5_nextSign_40 rfl (lv_at hl 0 rfl) ?_
    refine kg_get (pc := 41) hexec hb (own := RX5) hWX5 hown hG hP 0 rfl rfl 4 (nle rfl) (hts _ (List.mem_cons_of_mem _ (List.mem_append_left _ (List.mem_of_getElem? (i := 1) rfl)))) rfl rfl dX5_nextSign_41 ?_
    obtain ⟨r44, hc, hf⟩ := bd1_e hf
    refine kVp (pc := 44) (S := ⟨hexec, hb, hml, hown, hts⟩) hP hD hG hA hS [0, 1] [] [0, 1] (w2 := (w_X5_nextSign g a0 a1 u0_0 u0_1 u0_5 u0_6 u0_7 u0_8 u0_9 u0_10 u0_11 u0_12 u0_13 x0_length x0_at_2 y1_text)) rfl rfl rfl rfl rfl rfl (by decide) (c_X5_signAt l g a0 a1 _ u0_0 u0_1 (.int x0_at_2) u0_5 u0_6 u0_7 u0_8 u0_9 u0_10 u0_11 u0_12 u0_13 x0_length y1_text x0_at_2 r44 hc) gX5_nextSign_X5_signAt rfl hv_X5_signAt ⟨nle rfl, nle rfl⟩ 5 0 rfl rfl rfl (rest := []) rfl rfl hl.1 (nle rfl) dX5_nextSign_44 (fun H locs hP hD hS => ?_)
    cases hf
    exact ke_i hQ hexec hb hr hP hD hS dX5_nextSign_47 hlocks
  obtain ⟨n, hz⟩ := lq2_e hz
  have hL2 : ∀ (n : Nat) (v1 : Int32) (x0_at_1 : Int32) (H : Heap) (locs : List Loc) (ls : Array Slot), it2 l2 n v1 x0_at_1 = some x0_at_2 → va_P g.1 vwCl (w_X5_nextSign g a0 a1 u0_0 u0_1 u0_5 u0_6 u0_7 u0_8 u0_9 u0_10 u0_11 u0_12 u0_13 x0_length x0_at_1 y1_text) H → va_D A (w_X5_nextSign g a0 a1 u0_0 u0_1 u0_5 u0_6 u0_7 u0_8 u0_9 u0_10 u0_11 u0_12 u0_13 x0_length x0_at_1 y1_text) → va_S A s.heap H locs → lv_has ls 2 [(0, .ref a0), (1, .int v1)] → W p l e (RM 2 45) s m args below meth c H locs 0 0 Q (F0 m 2 ls []) := by
    intro n
    induction n with
    | zero =>
      intro v1 x0_at_1 H locs ls hf hP hD hS hl
      exact it2_0 hf
    | succ n2 ih2 =>
      intro v1 x0_at_1 H locs ls hf hP hD hS hl
      obtain ⟨q2, hf, hk2⟩ := it2_e hf
      have hf := (el2 v1 x0_at_1).symm.trans hf
      refine lv_iload_n (pc := 2) hexec hb dX5_nextSign_2 rfl (lv_at hl 1 rfl) ?_
      refine lv_aload_n (pc := 3) hexec hb dX5_nextSign_3 rfl (lv_at hl 0 rfl) ?_
      refine kg_get (pc := 4) hexec hb (own := RX5) hWX5 hown hG hP 0 rfl rfl 3 (nle rfl) (hts _ (List.mem_cons_of_mem _ (List.mem_append_left _ (List.mem_of_getElem? (i := 0) rfl)))) rfl rfl dX5_nextSign_4 ?_
      refine ki_ge (pc := 7) hexec hb dX5_nextSign_7 (tgt := 39) rfl hf (fun hc hf => ?_) (fun hc hf => ?_)
      · cases sr2 hf hk2
        exact hE2 _ _ _ hP hD hS (lv_sub hl [0] rfl)
      · refine lv_aload_n (pc := 10) hexec hb dX5_nextSign_10 rfl (lv_at hl 0 rfl) ?_
        refine lv_aload_n (pc := 11) hexec hb dX5_nextSign_11 rfl (lv_at hl 0 rfl) ?_
        refine kg_get (pc := 12) hexec hb (own := RX5) hWX5 hown hG hP 0 rfl rfl 4 (nle rfl) (hts _ (List.mem_cons_of_mem _ (List.mem_append_left _ (List.mem_of_getElem? (i := 1) rfl)))) rfl rfl dX5_nextSign_12 ?_
        obtain ⟨r15, hc, hf⟩ := bd1_e hf
        refine kVp (pc := 15) (S := ⟨hexec, hb, hml, hown, hts⟩) hP hD hG hA hS [0, 1] [] [0, 1] (w2 := (w_X5_nextSign g a0 a1 u0_0 u0_1 u0_5 u0_6 u0_7 u0_8 u0_9 u0_10 u0_11 u0_12 u0_13 x0_length x0_at_1 y1_text)) rfl rfl rfl rfl rfl rfl (by decide) (c_X5_signAt l g a0 a1 _ u0_0 u0_1 (.int x0_at_1) u0_5 u0_6 u0_7 u0_8 u0_9 u0_10 u0_11 u0_12 u0_13 x0_length y1_text x0_at_1 r15 hc) gX5_nextSign_X5_signAt rfl hv_X5_signAt ⟨nle rfl, nle rfl⟩ 5 0 rfl rfl rfl (rest := []) rfl rfl hl.1 (nle rfl) dX5_nextSign_15 (fun H locs hP hD hS => ?_)
        refine lv_bipush (pc := 18) hexec hb dX5_nextSign_18 kb_32 ?_
        refine ki_ne (pc := 20) hexec hb dX5_nextSign_20 (tgt := 39) rfl hf (fun hc hf => ?_) (fun hc hf => ?_)
        · cases sr2 hf hk2
          exact hE2 _ _ _ hP hD hS (lv_sub hl [0] rfl)
        · refine lv_aload_n (pc := 23) hexec hb dX5_nextSign_23 rfl (lv_at hl 0 rfl) ?_
          refine lv_dup (pc := 24) hexec hb dX5_nextSign_24 rfl ?_
          refine kg_get (pc := 25) hexec hb (own := RX5) hWX5 hown hG hP 0 rfl rfl 4 (nle rfl) (hts _ (List.mem_cons_of_mem _ (List.mem_append_left _ (List.mem_of_getElem? (i := 1) rfl)))) rfl rfl dX5_nextSign_25 ?_
          refine lv_iconst (pc := 28) hexec hb dX5_nextSign_28 ki_1 ?_
          refine lv_iadd (pc := 29) hexec hb dX5_nextSign_29 ?_
          obtain ⟨x0_at_3, ex0_at_3, hf⟩ := bv_e hf
          refine kn_i ex0_at_3 ?_
          refine kp_put (pc := 30) hexec hb (own := RX5) hWX5 tyX5 tyX5_ok nmX5 hown hG hP hD hS 0 rfl rfl 4 (nle rfl) (hts _ (List.mem_cons_of_mem _ (List.mem_append_left _ (List.mem_of_getElem? (i := 1) rfl)))) rfl rfl rfl rfl (nle rfl) dX5_nextSign_30 (fun H locs (hP : va_P g.1 vwCl (w_X5_nextSign g a0 a1 u0_0 u0_1 u0_5 u0_6 u0_7 u0_8 u0_9 u0_10 u0_11 u0_12 u0_13 x0_length x0_at_3 y1_text) H) (hD : va_D A (w_X5_nextSign g a0 a1 u0_0 u0_1 u0_5 u0_6 u0_7 u0_8 u0_9 u0_10 u0_11 u0_12 u0_13 x0_length x0_at_3 y1_text)) hS => ?_)
          obtain ⟨v1_1, ev1_1, hf⟩ := bv_e hf
          refine k_iinc (pc := 33) hexec hb dX5_nextSign_33 kq_1 hl (k := 1) rfl ev1_1 (nle rfl) rfl (fun ls (hl : lv_has ls 2 [(1, .int v1_1), (0, .ref a0)]) => ?_)
          refine lv_goto (pc := 36) hexec hb dX5_nextSign_36 (tgt := 2) rfl ?_
          exact ih2 _ _ _ _ _ (sl2 hf hk2) hP hD hS (lv_sub hl [1, 0] rfl)
  exact hL2 n _ _ _ _ _ hz hP hD hS (lv_sub hl [1, 0] rfl)
abbrev w_X5_isLetter (g : GE) : va_W := []
noncomputable def f_X5_isLetter  (p0 : Int32) : Option (Int32) :=
  bv (fun (_ : Unit) => ((
    some 0
    ) : Option (Int32))) fun j16 =>
  (if p0 < 97 then (
    j16 ()
  ) else (
    (if 122 < p0 then (
      j16 ()
    ) else (
      some 1
    ))
  ))
set_option maxRecDepth 4000 in
theorem c_X5_isLetter (l : Launch) (g : GE) (sz : Nat)  (p0 : Int32) (r : Int32) (hf : f_X5_isLetter p0 = some r) : MI l g yX5_isLetter wsX5_isLetter 1 24 [.int p0] (w_X5_isLetter g ) sz (some (.int r)) (w_X5_isLetter g ) := by
  refine MI.start (cc := cX5_isLetter) (maxL := 1) (ret := (some .boolean)) rfl rfl (nle rfl) ?_
  intro p e s m args below meth c A ls Q hQ hexec hb hr hts hown hlocks hml hA hP hD hG hS hl
  unfold f_X5_isLetter at hf
  have hS : va_S A s.heap s.heap [] := hS
  refine lv_iload_n (pc := 0) hexec hb dX5_isLetter_0 rfl (lv_at hl 0 rfl) ?_
  refine lv_bipush (pc := 1) hexec hb dX5_isLetter_1 kb_97 ?_
  obtain ⟨j16, ej16, hf⟩ := bvf1 hf
  have hj16 : ∀ (u : Unit) (H : Heap) (locs : List Loc) (ls : Array Slot), j16 u = some r → va_P g.1 vwCl (w_X5_isLetter g ) H → va_D A (w_X5_isLetter g ) → va_S A s.heap H locs → lv_has ls 1 [] → W p l e (RM 1 24) s m args below meth c H locs 0 0 Q (F0 m 16 ls []) := by
    intro u H locs ls hf hP hD hS hl
    have hf := (ej16 u).symm.trans hf
    refine lv_iconst (pc := 16) hexec hb dX5_isLetter_16 ki_0 ?_
    cases hf
    exact ke_z hQ hexec hb hr (.inl rfl) hP hD hS dX5_isLetter_17 hlocks
  refine ki_lt (pc := 3) hexec hb dX5_isLetter_3 (tgt := 16) rfl hf (fun hc hf => ?_) (fun hc hf => ?_)
  · exact hj16 _ _ _ _ hf hP hD hS (lv_sub hl [] rfl)
  · refine lv_iload_n (pc := 6) hexec hb dX5_isLetter_6 rfl (lv_at hl 0 rfl) ?_
    refine lv_bipush (pc := 7) hexec hb dX5_isLetter_7 kb_122 ?_
    refine ki_gt (pc := 9) hexec hb dX5_isLetter_9 (tgt := 16) rfl hf (fun hc hf => ?_) (fun hc hf => ?_)
    · exact hj16 _ _ _ _ hf hP hD hS (lv_sub hl [] rfl)
    · refine lv_iconst (pc := 12) hexec hb dX5_isLetter_12 ki_1 ?_
      refine lv_goto (pc := 13) hexec hb dX5_isLetter_13 (tgt := 17) rfl ?_
      cases hf
      exact ke_z hQ hexec hb hr (.inr rfl) hP hD hS dX5_isLetter_17 hlocks
abbrev w_X5_isDigit (g : GE) : va_W := []
noncomputable def f_X5_isDigit  (p0 : Int32) : Option (Int32) :=
  bv (fun (_ : Unit) => ((
    some 0
    ) : Option (Int32))) fun j16 =>
  (if p0 < 48 then (
    j16 ()
  ) else (
    (if 57 < p0 then (
      j16 ()
    ) else (
      some 1
    ))
  ))
set_option maxRecDepth 4000 in
theorem c_X5_isDigit (l : Launch) (g : GE) (sz : Nat)  (p0 : Int32) (r : Int32) (hf : f_X5_isDigit p0 = some r) : MI l g yX5_isDigit wsX5_isDigit 1 24 [.int p0] (w_X5_isDigit g ) sz (some (.int r)) (w_X5_isDigit g ) := by
  refine MI.start (cc := cX5_isDigit) (maxL := 1) (ret := (some .boolean)) rfl rfl (nle rfl) ?_
  intro p e s m args below meth c A ls Q hQ hexec hb hr hts hown hlocks hml hA hP hD hG hS hl
  unfold f_X5_isDigit at hf
  have hS : va_S A s.heap s.heap [] := hS
  refine lv_iload_n (pc := 0) hexec hb dX5_isDigit_0 rfl (lv_at hl 0 rfl) ?_
  refine lv_bipush (pc := 1) hexec hb dX5_isDigit_1 kb_48 ?_
  obtain ⟨j16, ej16, hf⟩ := bvf1 hf
  have hj16 : ∀ (u : Unit) (H : Heap) (locs : List Loc) (ls : Array Slot), j16 u = some r → va_P g.1 vwCl (w_X5_isDigit g ) H → va_D A (w_X5_isDigit g ) → va_S A s.heap H locs → lv_has ls 1 [] → W p l e (RM 1 24) s m args below meth c H locs 0 0 Q (F0 m 16 ls []) := by
    intro u H locs ls hf hP hD hS hl
    have hf := (ej16 u).symm.trans hf
    refine lv_iconst (pc := 16) hexec hb dX5_isDigit_16 ki_0 ?_
    cases hf
    exact ke_z hQ hexec hb hr (.inl rfl) hP hD hS dX5_isDigit_17 hlocks
  refine ki_lt (pc := 3) hexec hb dX5_isDigit_3 (tgt := 16) rfl hf (fun hc hf => ?_) (fun hc hf => ?_)
  · exact hj16 _ _ _ _ hf hP hD hS (lv_sub hl [] rfl)
  · refine lv_iload_n (pc := 6) hexec hb dX5_isDigit_6 rfl (lv_at hl 0 rfl) ?_
    refine lv_bipush (pc := 7) hexec hb dX5_isDigit_7 kb_57 ?_
    refine ki_gt (pc := 9) hexec hb dX5_isDigit_9 (tgt := 16) rfl hf (fun hc hf => ?_) (fun hc hf => ?_)
    · exact hj16 _ _ _ _ hf hP hD hS (lv_sub hl [] rfl)
    · refine lv_iconst (pc := 12) hexec hb dX5_isDigit_12 ki_1 ?_
      refine lv_goto (pc := 13) hexec hb dX5_isDigit_13 (tgt := 17) rfl ?_
      cases hf
      exact ke_z hQ hexec hb hr (.inr rfl) hP hD hS dX5_isDigit_17 hlocks
abbrev w_X5_takeWord (g : GE) (a0 a1 : Nat) (u0_0 u0_1 u0_5 u0_8 u0_9 u0_10 u0_11 : Value) (x0_length : Int32) (x0_at : Int32) (x0_wordStart : Int32) (x0_wordLength : Int32) (x0_error : Int32) (x0_errorAt : Int32) (y1_text : Nat → Int32) : va_W := [(a0, .inr (5, [u0_0, u0_1, .ref a1, .int x0_length, .int x0_at, u0_5, .int x0_wordStart, .int x0_wordLength, u0_8, u0_9, u0_10, u0_11, .int x0_error, .int x0_errorAt])), (a1, .inl (g.2.1 0, 500, .inl y1_text))]
noncomputable def f_X5_takeWord (x0_length : Int32) (x0_at : Int32) (x0_wordStart : Int32) (x0_wordLength : Int32) (x0_error : Int32) (x0_errorAt : Int32) (y1_text : Nat → Int32)  : Option (Int32 × Int32 × Int32 × Int32 × Int32 × Int32) :=
  bd2 (f_X5_nextSign x0_length x0_at y1_text) fun (r1 : Int32) (x0_at_1 : Int32) =>
  bv (fun (v1 : Int32) (x0_at_2 : Int32) => ((
    (if x0_length ≤ v1 then (
      some (.inr x0_at_2)
    ) else (
      bd1 (f_X5_signAt x0_length y1_text x0_at_2) fun (r28 : Int32) =>
      bd1 (f_X5_isLetter r28) fun (r31 : Int32) =>
      (if r31 = 0 then (
        some (.inr x0_at_2)
      ) else (
        bv (x0_at_2 + 1) fun x0_at_4 =>
        bv (v1 + 1) fun v1_1 =>
        some (.inl (v1_1, x0_at_4))
      ))
    ))
    ) : Option ((Int32 × Int32) ⊕ (Int32)))) fun l15 =>
  bd1 (lq2 l15 0 x0_at_1) fun (x0_at_3 : Int32) =>
  bv (x0_at_3 - x0_at_1) fun x0_wordLength_1 =>
  bv (fun (x0_error_1 : Int32) (x0_errorAt_1 : Int32) => ((
    some (1, x0_at_3, x0_at_1, x0_wordLength_1, x0_error_1, x0_errorAt_1)
    ) : Option (Int32 × Int32 × Int32 × Int32 × Int32 × Int32))) fun j85 =>
  (if 0 < x0_wordLength_1 then (
    j85 x0_error x0_errorAt
  ) else (
    bd3 (f_X5_fail x0_error x0_errorAt 1 x0_at_1) fun (r79 : Int32) (x0_error_2 : Int32) (x0_errorAt_2 : Int32) =>
    (if r79 = 0 then (
      some (0, x0_at_3, x0_at_1, x0_wordLength_1, x0_error_2, x0_errorAt_2)
    ) else (
      j85 x0_error_2 x0_errorAt_2
    ))
  ))
set_option maxRecDepth 4000 in
theorem c_X5_takeWord (l : Launch) (g : GE) (a0 a1 : Nat) (sz : Nat) (u0_0 u0_1 u0_5 u0_8 u0_9 u0_10 u0_11 : Value) (x0_length : Int32) (x0_at : Int32) (x0_wordStart : Int32) (x0_wordLength : Int32) (x0_error : Int32) (x0_errorAt : Int32) (y1_text : Nat → Int32)  (r : Int32) (o_x0_at : Int32) (o_x0_wordStart : Int32) (o_x0_wordLength : Int32) (o_x0_error : Int32) (o_x0_errorAt : Int32) (hf : f_X5_takeWord x0_length x0_at x0_wordStart x0_wordLength x0_error x0_errorAt y1_text = some (r, o_x0_at, o_x0_wordStart, o_x0_wordLength, o_x0_error, o_x0_errorAt)) : MI l g yX5_takeWord wsX5_takeWord 3 66 [.ref a0] (w_X5_takeWord g a0 a1 u0_0 u0_1 u0_5 u0_8 u0_9 u0_10 u0_11 x0_length x0_at x0_wordStart x0_wordLength x0_error x0_errorAt y1_text) sz (some (.int r)) (w_X5_takeWord g a0 a1 u0_0 u0_1 u0_5 u0_8 u0_9 u0_10 u0_11 x0_length o_x0_at o_x0_wordStart o_x0_wordLength o_x0_error o_x0_errorAt y1_text) := by
  refine MI.start (cc := cX5_takeWord) (maxL := 2) (ret := (some .boolean)) rfl rfl (nle rfl) ?_
  intro p e s m args below meth c A ls Q hQ hexec hb hr hts hown hlocks hml hA hP hD hG hS hl
  unfold f_X5_takeWord at hf
  have hWX5 : ∀ w ∈ wsX50, w.before args s = true := fun w h => hts w (List.mem_cons_of_mem _ (List.mem_append_right _ h))
  have hS : va_S A s.heap s.heap [] := hS
  refine lv_aload_n (pc := 0) hexec hb dX5_takeWord_0 rfl (lv_at hl 0 rfl) ?_
  obtain ⟨r1, x0_at_1, hc, hf⟩ := bd2_e hf
  refine kVp (pc := 1) (S := ⟨hexec, hb, hml, hown, hts⟩) hP hD hG hA hS [0, 1] [] [0, 1] (w2 := (w_X5_takeWord g a0 a1 u0_0 u0_1 u0_5 u0_8 u0_9 u0_10 u0_11 x0_length x0_at_1 x0_wordStart x0_wordLength x0_error x0_errorAt y1_text)) rfl rfl rfl rfl rfl rfl (by decide) (c_X5_nextSign l g a0 a1 _ u0_0 u0_1 u0_5 (.int x0_wordStart) (.int x0_wordLength) u0_8 u0_9 u0_10 u0_11 (.int x0_error) (.int x0_errorAt) x0_length x0_at y1_text r1 x0_at_1 hc) gX5_takeWord_X5_nextSign rfl hv_X5_nextSign ⟨nle rfl, nle rfl⟩ 5 0 rfl rfl rfl (rest := []) rfl rfl hl.1 (nle rfl) dX5_takeWord_1 (fun H locs hP hD hS => ?_)
  refine lv_pop (pc := 4) hexec hb dX5_takeWord_4 rfl ?_
  refine lv_aload_n (pc := 5) hexec hb dX5_takeWord_5 rfl (lv_at hl 0 rfl) ?_
  refine lv_aload_n (pc := 6) hexec hb dX5_takeWord_6 rfl (lv_at hl 0 rfl) ?_
  refine kg_get (pc := 7) hexec hb (own := RX5) hWX5 hown hG hP 0 rfl rfl 4 (nle rfl) (hts _ (List.mem_cons_of_mem _ (List.mem_append_left _ (List.mem_of_getElem? (i := 0) rfl)))) rfl rfl dX5_takeWord_7 ?_
  refine kp_put (pc := 10) hexec hb (own := RX5) hWX5 tyX5 tyX5_ok nmX5 hown hG hP hD hS 0 rfl rfl 6 (nle rfl) (hts _ (List.mem_cons_of_mem _ (List.mem_append_left _ (List.mem_of_getElem? (i := 1) rfl)))) rfl rfl rfl rfl (nle rfl) dX5_takeWord_10 (fun H locs (hP : va_P g.1 vwCl (w_X5_takeWord g a0 a1 u0_0 u0_1 u0_5 u0_8 u0_9 u0_10 u0_11 x0_length x0_at_1 x0_at_1 x0_wordLength x0_error x0_errorAt y1_text) H) (hD : va_D A (w_X5_takeWord g a0 a1 u0_0 u0_1 u0_5 u0_8 u0_9 u0_10 u0_11 x0_length x0_at_1 x0_at_1 x0_wordLength x0_error x0_errorAt y1_text)) hS => ?_)
  refine lv_iconst (pc := 13) hexec hb dX5_takeWord_13 ki_0 ?_
  refine lv_istore_n (pc := 14) hexec hb dX5_takeWord_14 rfl hl (nle rfl) rfl (fun ls (hl : lv_has ls 2 [(1, .int 0), (0, .ref a0)]) => ?_)
  obtain ⟨l15, el15, hf⟩ := bvf2 hf
  obtain ⟨x0_at_3, hz, hf⟩ := bd1_e hf
  have hE15 : ∀ (H : Heap) (locs : List Loc) (ls : Array Slot), va_P g.1 vwCl (w_X5_takeWord g a0 a1 u0_0 u0_1 u0_5 u0_8 u0_9 u0_10 u0_11 x0_length x0_at_3 x0_at_1 x0_wordLength x0_error x0_errorAt y1_text) H → va_D A (w_X5_takeWord g a0 a1 u0_0 u0_1 u0_5 u0_8 u0_9 u0_10 u0_11 x0_length x0_at_3 x0_at_1 x0_wordLength x0_error x0_errorAt y1_text) → va_S A s.heap H locs → lv_has ls 2 [(0, .ref a0)] → W p l e (RM 3 66) s m args below meth c H locs 0 0 Q (F0 m 53 ls []) := by
    intro H locs ls hP hD hS hl
    refine lv_aload_n (pc := 53) hexec hb dX5_takeWord_53 rfl (lv_at hl 0 rfl) ?_
    refine lv_aload_n (pc := 54) hexec hb dX5_takeWord_54 rfl (lv_at hl 0 rfl) ?_
    refine kg_get (pc := 55) hexec hb (own := RX5) hWX5 hown hG hP 0 rfl rfl 4 (nle rfl) (hts _ (List.mem_cons_of_mem _ (List.mem_append_left _ (List.mem_of_getElem? (i := 0) rfl)))) rfl rfl dX5_takeWord_55 ?_
    refine lv_aload_n (pc := 58) hexec hb dX5_takeWord_58 rfl (lv_at hl 0 rfl) ?_
    refine kg_get (pc := 59) hexec hb (own := RX5) hWX5 hown hG hP 0 rfl rfl 6 (nle rfl) (hts _ (List.mem_cons_of_mem _ (List.mem_append_left _ (List.mem_of_getElem? (i := 1) rfl)))) rfl rfl dX5_takeWord_59 ?_
    refine lv_isub (pc := 62) hexec hb dX5_takeWord_62 ?_
    obtain ⟨x0_wordLength_1, ex0_wordLength_1, hf⟩ := bv_e hf
    refine kn_i ex0_wordLength_1 ?_
    refine kp_put (pc := 63) hexec hb (own := RX5) hWX5 tyX5 tyX5_ok nmX5 hown hG hP hD hS 0 rfl rfl 7 (nle rfl) (hts _ (List.mem_cons_of_mem _ (List.mem_append_left _ (List.mem_of_getElem? (i := 3) rfl)))) rfl rfl rfl rfl (nle rfl) dX5_takeWord_63 (fun H locs (hP : va_P g.1 vwCl (w_X5_takeWord g a0 a1 u0_0 u0_1 u0_5 u0_8 u0_9 u0_10 u0_11 x0_length x0_at_3 x0_at_1 x0_wordLength_1 x0_error x0_errorAt y1_text) H) (hD : va_D A (w_X5_takeWord g a0 a1 u0_0 u0_1 u0_5 u0_8 u0_9 u0_10 u0_11 x0_length x0_at_3 x0_at_1 x0_wordLength_1 x0_error x0_errorAt y1_text)) hS => ?_)
    refine lv_aload_n (pc := 66) hexec hb dX5_takeWord_66 rfl (lv_at hl 0 rfl) ?_
    refine kg_get (pc := 67) hexec hb (own := RX5) hWX5 hown hG hP 0 rfl rfl 7 (nle rfl) (hts _ (List.mem_cons_of_mem _ (List.mem_append_left _ (List.mem_of_getElem? (i := 3) rfl)))) rfl rfl dX5_takeWord_67 ?_
    obtain ⟨j85, ej85, hf⟩ := bvf2 hf
    have hj85 : ∀ (x0_error_1 : Int32) (x0_errorAt_1 : Int32) (H : Heap) (locs : List Loc) (ls : Array Slot), j85 x0_error_1 x0_errorAt_1 = some (r, o_x0_at, o_x0_wordStart, o_x0_wordLength, o_x0_error, o_x0_errorAt) → va_P g.1 vwCl (w_X5_takeWord g a0 a1 u0_0 u0_1 u0_5 u0_8 u0_9 u0_10 u0_11 x0_length x0_at_3 x0_at_1 x0_wordLength_1 x0_error_1 x0_errorAt_1 y1_text) H → va_D A (w_X5_takeWord g a0 a1 u0_0 u0_1 u0_5 u0_8 u0_9 u0_10 u0_11 x0_length x0_at_3 x0_at_1 x0_wordLength_1 x0_error_1 x0_errorAt_1 y1_text) → va_S A s.heap H locs → lv_has ls 2 [] → W p l e (RM 3 66) s m args below meth c H locs 0 0 Q (F0 m 85 ls []) := by
      intro x0_error_1 x0_errorAt_1 H locs ls hf hP hD hS hl
      have hf := (ej85 x0_error_1 x0_errorAt_1).symm.trans hf
      refine lv_iconst (pc := 85) hexec hb dX5_takeWord_85 ki_1 ?_
      refine lv_goto (pc := 86) hexec hb dX5_takeWord_86 (tgt := 90) rfl ?_
      cases hf
      exact ke_z hQ hexec hb hr (.inr rfl) hP hD hS dX5_takeWord_90 hlocks
    refine kb_gt (pc := 70) hexec hb dX5_takeWord_70 (tgt := 85) rfl hf (fun hc hf => ?_) (fun hc hf => ?_)
    · exact hj85 _ _ _ _ _ hf hP hD hS (lv_sub hl [] rfl)
    · refine lv_aload_n (pc := 73) hexec hb dX5_takeWord_73 rfl (lv_at hl 0 rfl) ?_
      refine lv_iconst (pc := 74) hexec hb dX5_takeWord_74 ki_1 ?_
      refine lv_aload_n (pc := 75) hexec hb dX5_takeWord_75 rfl (lv_at hl 0 rfl) ?_
      refine kg_get (pc := 76) hexec hb (own := RX5) hWX5 hown hG hP 0 rfl rfl 6 (nle rfl) (hts _ (List.mem_cons_of_mem _ (List.mem_append_left _ (List.mem_of_getElem? (i := 1) rfl)))) rfl rfl dX5_takeWord_76 ?_
      obtain ⟨r79, x0_error_2, x0_errorAt_2, hc, hf⟩ := bd3_e hf
      refine kVp (pc := 79) (S := ⟨hexec, hb, hml, hown, hts⟩) hP hD hG hA hS [0] [1] [1, 0] (w2 := (w_X5_takeWord g a0 a1 u0_0 u0_1 u0_5 u0_8 u0_9 u0_10 u0_11 x0_length x0_at_3 x0_at_1 x0_wordLength_1 x0_error_2 x0_errorAt_2 y1_text)) rfl rfl rfl rfl rfl rfl (by decide) (c_X5_fail l g a0 _ u0_0 u0_1 (.ref a1) (.int x0_length) (.int x0_at_3) u0_5 (.int x0_at_1) (.int x0_wordLength_1) u0_8 u0_9 u0_10 u0_11 x0_error x0_errorAt 1 x0_at_1 r79 x0_error_2 x0_errorAt_2 hc) gX5_takeWord_X5_fail rfl hv_X5_fail ⟨nle rfl, nle rfl⟩ 5 0 rfl rfl rfl (rest := []) rfl rfl hl.1 (nle rfl) dX5_takeWord_79 (fun H locs hP hD hS => ?_)
      refine kb_eq (pc := 82) hexec hb dX5_takeWord_82 (tgt := 89) rfl hf (fun hc hf => ?_) (fun hc hf => ?_)
      · refine lv_iconst (pc := 89) hexec hb dX5_takeWord_89 ki_0 ?_
        cases hf
        exact ke_z hQ hexec hb hr (.inl rfl) hP hD hS dX5_takeWord_90 hlocks
      · exact hj85 _ _ _ _ _ hf hP hD hS (lv_sub hl [] rfl)
  obtain ⟨n, hz⟩ := lq2_e hz
  have hL15 : ∀ (n : Nat) (v1 : Int32) (x0_at_2 : Int32) (H : Heap) (locs : List Loc) (ls : Array Slot), it2 l15 n v1 x0_at_2 = some x0_at_3 → va_P g.1 vwCl (w_X5_takeWord g a0 a1 u0_0 u0_1 u0_5 u0_8 u0_9 u0_10 u0_11 x0_length x0_at_2 x0_at_1 x0_wordLength x0_error x0_errorAt y1_text) H → va_D A (w_X5_takeWord g a0 a1 u0_0 u0_1 u0_5 u0_8 u0_9 u0_10 u0_11 x0_length x0_at_2 x0_at_1 x0_wordLength x0_error x0_errorAt y1_text) → va_S A s.heap H locs → lv_has ls 2 [(0, .ref a0), (1, .int v1)] → W p l e (RM 3 66) s m args below meth c H locs 0 0 Q (F0 m 15 ls []) := by
    intro n
    induction n with
    | zero =>
      intro v1 x0_at_2 H locs ls hf hP hD hS hl
      exact it2_0 hf
    | succ n15 ih15 =>
      intro v1 x0_at_2 H locs ls hf hP hD hS hl
      obtain ⟨q15, hf, hk15⟩ := it2_e hf
      have hf := (el15 v1 x0_at_2).symm.trans hf
      refine lv_iload_n (pc := 15) hexec hb dX5_takeWord_15 rfl (lv_at hl 1 rfl) ?_
      refine lv_aload_n (pc := 16) hexec hb dX5_takeWord_16 rfl (lv_at hl 0 rfl) ?_
      refine kg_get (pc := 17) hexec hb (own := RX5) hWX5 hown hG hP 0 rfl rfl 3 (nle rfl) (hts _ (List.mem_cons_of_mem _ (List.mem_append_left _ (List.mem_of_getElem? (i := 2) rfl)))) rfl rfl dX5_takeWord_17 ?_
      refine ki_ge (pc := 20) hexec hb dX5_takeWord_20 (tgt := 53) rfl hf (fun hc hf => ?_) (fun hc hf => ?_)
      · cases sr2 hf hk15
        exact hE15 _ _ _ hP hD hS (lv_sub hl [0] rfl)
      · refine lv_aload_n (pc := 23) hexec hb dX5_takeWord_23 rfl (lv_at hl 0 rfl) ?_
        refine lv_aload_n (pc := 24) hexec hb dX5_takeWord_24 rfl (lv_at hl 0 rfl) ?_
        refine kg_get (pc := 25) hexec hb (own := RX5) hWX5 hown hG hP 0 rfl rfl 4 (nle rfl) (hts _ (List.mem_cons_of_mem _ (List.mem_append_left _ (List.mem_of_getElem? (i := 0) rfl)))) rfl rfl dX5_takeWord_25 ?_
        obtain ⟨r28, hc, hf⟩ := bd1_e hf
        refine kVp (pc := 28) (S := ⟨hexec, hb, hml, hown, hts⟩) hP hD hG hA hS [0, 1] [] [0, 1] (w2 := (w_X5_takeWord g a0 a1 u0_0 u0_1 u0_5 u0_8 u0_9 u0_10 u0_11 x0_length x0_at_2 x0_at_1 x0_wordLength x0_error x0_errorAt y1_text)) rfl rfl rfl rfl rfl rfl (by decide) (c_X5_signAt l g a0 a1 _ u0_0 u0_1 (.int x0_at_2) u0_5 (.int x0_at_1) (.int x0_wordLength) u0_8 u0_9 u0_10 u0_11 (.int x0_error) (.int x0_errorAt) x0_length y1_text x0_at_2 r28 hc) gX5_takeWord_X5_signAt rfl hv_X5_signAt ⟨nle rfl, nle rfl⟩ 5 0 rfl rfl rfl (rest := []) rfl rfl hl.1 (nle rfl) dX5_takeWord_28 (fun H locs hP hD hS => ?_)
        obtain ⟨r31, hc, hf⟩ := bd1_e hf
        refine kSp (pc := 31) (S := ⟨hexec, hb, hml, hown, hts⟩) hP hD hG hA hS [] [0, 1] [0, 1] (w2 := (w_X5_takeWord g a0 a1 u0_0 u0_1 u0_5 u0_8 u0_9 u0_10 u0_11 x0_length x0_at_2 x0_at_1 x0_wordLength x0_error x0_errorAt y1_text)) rfl rfl rfl rfl rfl rfl (by decide) (c_X5_isLetter l g _ r28 r31 hc) gX5_takeWord_X5_isLetter rfl hs_X5_isLetter ⟨nle rfl, nle rfl⟩ (rest := []) rfl rfl hl.1 (nle rfl) dX5_takeWord_31 (fun H locs hP hD hS => ?_)
        refine kb_eq (pc := 34) hexec hb dX5_takeWord_34 (tgt := 53) rfl hf (fun hc hf => ?_) (fun hc hf => ?_)
        · cases sr2 hf hk15
          exact hE15 _ _ _ hP hD hS (lv_sub hl [0] rfl)
        · refine lv_aload_n (pc := 37) hexec hb dX5_takeWord_37 rfl (lv_at hl 0 rfl) ?_
          refine lv_dup (pc := 38) hexec hb dX5_takeWord_38 rfl ?_
          refine kg_get (pc := 39) hexec hb (own := RX5) hWX5 hown hG hP 0 rfl rfl 4 (nle rfl) (hts _ (List.mem_cons_of_mem _ (List.mem_append_left _ (List.mem_of_getElem? (i := 0) rfl)))) rfl rfl dX5_takeWord_39 ?_
          refine lv_iconst (pc := 42) hexec hb dX5_takeWord_42 ki_1 ?_
          refine lv_iadd (pc := 43) hexec hb dX5_takeWord_43 ?_
          obtain ⟨x0_at_4, ex0_at_4, hf⟩ := bv_e hf
          refine kn_i ex0_at_4 ?_
          refine kp_put (pc := 44) hexec hb (own := RX5) hWX5 tyX5 tyX5_ok nmX5 hown hG hP hD hS 0 rfl rfl 4 (nle rfl) (hts _ (List.mem_cons_of_mem _ (List.mem_append_left _ (List.mem_of_getElem? (i := 0) rfl)))) rfl rfl rfl rfl (nle rfl) dX5_takeWord_44 (fun H locs (hP : va_P g.1 vwCl (w_X5_takeWord g a0 a1 u0_0 u0_1 u0_5 u0_8 u0_9 u0_10 u0_11 x0_length x0_at_4 x0_at_1 x0_wordLength x0_error x0_errorAt y1_text) H) (hD : va_D A (w_X5_takeWord g a0 a1 u0_0 u0_1 u0_5 u0_8 u0_9 u0_10 u0_11 x0_length x0_at_4 x0_at_1 x0_wordLength x0_error x0_errorAt y1_text)) hS => ?_)
          obtain ⟨v1_1, ev1_1, hf⟩ := bv_e hf
          refine k_iinc (pc := 47) hexec hb dX5_takeWord_47 kq_1 hl (k := 1) rfl ev1_1 (nle rfl) rfl (fun ls (hl : lv_has ls 2 [(1, .int v1_1), (0, .ref a0)]) => ?_)
          refine lv_goto (pc := 50) hexec hb dX5_takeWord_50 (tgt := 15) rfl ?_
          exact ih15 _ _ _ _ _ (sl2 hf hk15) hP hD hS (lv_sub hl [1, 0] rfl)
  exact hL15 n _ _ _ _ _ hz hP hD hS (lv_sub hl [1, 0] rfl)
abbrev w_X5_takeNumber (g : GE) (a0 a1 : Nat) (u0_0 u0_1 u0_5 u0_6 u0_7 u0_10 u0_11 : Value) (x0_length : Int32) (x0_at : Int32) (x0_numberStart : Int32) (x0_number : Int32) (x0_error : Int32) (x0_errorAt : Int32) (y1_text : Nat → Int32) : va_W := [(a0, .inr (5, [u0_0, u0_1, .ref a1, .int x0_length, .int x0_at, u0_5, u0_6, u0_7, .int x0_numberStart, .int x0_number, u0_10, u0_11, .int x0_error, .int x0_errorAt])), (a1, .inl (g.2.1 0, 500, .inl y1_text))]
noncomputable def f_X5_takeNumber (x0_length : Int32) (x0_at : Int32) (x0_numberStart : Int32) (x0_number : Int32) (x0_error : Int32) (x0_errorAt : Int32) (y1_text : Nat → Int32) (p1 : Int32) (p2 : Int32) : Option (Int32 × Int32 × Int32 × Int32 × Int32 × Int32) :=
  bd2 (f_X5_nextSign x0_length x0_at y1_text) fun (r1 : Int32) (x0_at_1 : Int32) =>
  bv (fun (v3 : Int32) (x0_at_2 : Int32) (x0_number_1 : Int32) => ((
    (if x0_length ≤ v3 then (
      some (.inr (x0_at_2, x0_number_1))
    ) else (
      bd1 (f_X5_signAt x0_length y1_text x0_at_2) fun (r33 : Int32) =>
      bd1 (f_X5_isDigit r33) fun (r36 : Int32) =>
      (if r36 = 0 then (
        some (.inr (x0_at_2, x0_number_1))
      ) else (
        bd1 (f_X5_signAt x0_length y1_text x0_at_2) fun (r55 : Int32) =>
        bv (if 1000 < (((x0_number_1 * 10) + r55) - 48) then 1000 else (((x0_number_1 * 10) + r55) - 48)) fun x0_number_3 =>
        bv (x0_at_2 + 1) fun x0_at_4 =>
        bv (v3 + 1) fun v3_1 =>
        some (.inl (v3_1, x0_at_4, x0_number_3))
      ))
    ))
    ) : Option ((Int32 × Int32 × Int32) ⊕ (Int32 × Int32)))) fun l20 =>
  bd2 (lq3 l20 0 x0_at_1 0) fun (x0_at_3 : Int32) (x0_number_2 : Int32) =>
  (if x0_at_3 = x0_at_1 then (
    bd3 (f_X5_fail x0_error x0_errorAt 1 x0_at_3) fun (r104 : Int32) (x0_error_3 : Int32) (x0_errorAt_3 : Int32) =>
    zb r104 (some (r104, x0_at_3, x0_at_1, x0_number_2, x0_error_3, x0_errorAt_3))
  ) else (
    bv (fun (x0_error_1 : Int32) (x0_errorAt_1 : Int32) => ((
      some (1, x0_at_3, x0_at_1, x0_number_2, x0_error_1, x0_errorAt_1)
      ) : Option (Int32 × Int32 × Int32 × Int32 × Int32 × Int32))) fun j136 =>
    bv (fun (_ : Unit) => ((
      bd3 (f_X5_fail x0_error x0_errorAt 2 x0_at_1) fun (r130 : Int32) (x0_error_2 : Int32) (x0_errorAt_2 : Int32) =>
      (if r130 = 0 then (
        some (0, x0_at_3, x0_at_1, x0_number_2, x0_error_2, x0_errorAt_2)
      ) else (
        j136 x0_error_2 x0_errorAt_2
      ))
      ) : Option (Int32 × Int32 × Int32 × Int32 × Int32 × Int32))) fun j124 =>
    (if x0_number_2 < p1 then (
      j124 ()
    ) else (
      (if x0_number_2 ≤ p2 then (
        j136 x0_error x0_errorAt
      ) else (
        j124 ()
      ))
    ))
  ))
set_option maxRecDepth 4000 in
theorem c_X5_takeNumber (l : Launch) (g : GE) (a0 a1 : Nat) (sz : Nat) (u0_0 u0_1 u0_5 u0_6 u0_7 u0_10 u0_11 : Value) (x0_length : Int32) (x0_at : Int32) (x0_numberStart : Int32) (x0_number : Int32) (x0_error : Int32) (x0_errorAt : Int32) (y1_text : Nat → Int32) (p1 : Int32) (p2 : Int32) (r : Int32) (o_x0_at : Int32) (o_x0_numberStart : Int32) (o_x0_number : Int32) (o_x0_error : Int32) (o_x0_errorAt : Int32) (hf : f_X5_takeNumber x0_length x0_at x0_numberStart x0_number x0_error x0_errorAt y1_text p1 p2 = some (r, o_x0_at, o_x0_numberStart, o_x0_number, o_x0_error, o_x0_errorAt)) : MI l g yX5_takeNumber wsX5_takeNumber 3 66 [.ref a0, .int p1, .int p2] (w_X5_takeNumber g a0 a1 u0_0 u0_1 u0_5 u0_6 u0_7 u0_10 u0_11 x0_length x0_at x0_numberStart x0_number x0_error x0_errorAt y1_text) sz (some (.int r)) (w_X5_takeNumber g a0 a1 u0_0 u0_1 u0_5 u0_6 u0_7 u0_10 u0_11 x0_length o_x0_at o_x0_numberStart o_x0_number o_x0_error o_x0_errorAt y1_text) := by
  refine MI.start (cc := cX5_takeNumber) (maxL := 4) (ret := (some .boolean)) rfl rfl (nle rfl) ?_
  intro p e s m args below meth c A ls Q hQ hexec hb hr hts hown hlocks hml hA hP hD hG hS hl
  unfold f_X5_takeNumber at hf
  have hWX5 : ∀ w ∈ wsX50, w.before args s = true := fun w h => hts w (List.mem_cons_of_mem _ (List.mem_append_right _ h))
  have hS : va_S A s.heap s.heap [] := hS
  refine lv_aload_n (pc := 0) hexec hb dX5_takeNumber_0 rfl (lv_at hl 0 rfl) ?_
  obtain ⟨r1, x0_at_1, hc, hf⟩ := bd2_e hf
  refine kVp (pc := 1) (S := ⟨hexec, hb, hml, hown, hts⟩) hP hD hG hA hS [0, 1] [] [0, 1] (w2 := (w_X5_takeNumber g a0 a1 u0_0 u0_1 u0_5 u0_6 u0_7 u0_10 u0_11 x0_length x0_at_1 x0_numberStart x0_number x0_error x0_errorAt y1_text)) rfl rfl rfl rfl rfl rfl (by decide) (c_X5_nextSign l g a0 a1 _ u0_0 u0_1 u0_5 u0_6 u0_7 (.int x0_numberStart) (.int x0_number) u0_10 u0_11 (.int x0_error) (.int x0_errorAt) x0_length x0_at y1_text r1 x0_at_1 hc) gX5_takeNumber_X5_nextSign rfl hv_X5_nextSign ⟨nle rfl, nle rfl⟩ 5 0 rfl rfl rfl (rest := []) rfl rfl hl.1 (nle rfl) dX5_takeNumber_1 (fun H locs hP hD hS => ?_)
  refine lv_pop (pc := 4) hexec hb dX5_takeNumber_4 rfl ?_
  refine lv_aload_n (pc := 5) hexec hb dX5_takeNumber_5 rfl (lv_at hl 0 rfl) ?_
  refine lv_aload_n (pc := 6) hexec hb dX5_takeNumber_6 rfl (lv_at hl 0 rfl) ?_
  refine kg_get (pc := 7) hexec hb (own := RX5) hWX5 hown hG hP 0 rfl rfl 4 (nle rfl) (hts _ (List.mem_cons_of_mem _ (List.mem_append_left _ (List.mem_append_left _ (List.mem_of_getElem? (i := 0) rfl))))) rfl rfl dX5_takeNumber_7 ?_
  refine kp_put (pc := 10) hexec hb (own := RX5) hWX5 tyX5 tyX5_ok nmX5 hown hG hP hD hS 0 rfl rfl 8 (nle rfl) (hts _ (List.mem_cons_of_mem _ (List.mem_append_left _ (List.mem_append_left _ (List.mem_of_getElem? (i := 1) rfl))))) rfl rfl rfl rfl (nle rfl) dX5_takeNumber_10 (fun H locs (hP : va_P g.1 vwCl (w_X5_takeNumber g a0 a1 u0_0 u0_1 u0_5 u0_6 u0_7 u0_10 u0_11 x0_length x0_at_1 x0_at_1 x0_number x0_error x0_errorAt y1_text) H) (hD : va_D A (w_X5_takeNumber g a0 a1 u0_0 u0_1 u0_5 u0_6 u0_7 u0_10 u0_11 x0_length x0_at_1 x0_at_1 x0_number x0_error x0_errorAt y1_text)) hS => ?_)
  refine lv_aload_n (pc := 13) hexec hb dX5_takeNumber_13 rfl (lv_at hl 0 rfl) ?_
  refine lv_iconst (pc := 14) hexec hb dX5_takeNumber_14 ki_0 ?_
  refine kp_put (pc := 15) hexec hb (own := RX5) hWX5 tyX5 tyX5_ok nmX5 hown hG hP hD hS 0 rfl rfl 9 (nle rfl) (hts _ (List.mem_cons_of_mem _ (List.mem_append_left _ (List.mem_append_left _ (List.mem_of_getElem? (i := 2) rfl))))) rfl rfl rfl rfl (nle rfl) dX5_takeNumber_15 (fun H locs (hP : va_P g.1 vwCl (w_X5_takeNumber g a0 a1 u0_0 u0_1 u0_5 u0_6 u0_7 u0_10 u0_11 x0_length x0_at_1 x0_at_1 0 x0_error x0_errorAt y1_text) H) (hD : va_D A (w_X5_takeNumber g a0 a1 u0_0 u0_1 u0_5 u0_6 u0_7 u0_10 u0_11 x0_length x0_at_1 x0_at_1 0 x0_error x0_errorAt y1_text)) hS => ?_)
  refine lv_iconst (pc := 18) hexec hb dX5_takeNumber_18 ki_0 ?_
  refine lv_istore_n (pc := 19) hexec hb dX5_takeNumber_19 rfl hl (nle rfl) rfl (fun ls (hl : lv_has ls 4 [(3, .int 0), (0, .ref a0), (1, .int p1), (2, .int p2)]) => ?_)
  obtain ⟨l20, el20, hf⟩ := bvf3 hf
  obtain ⟨x0_at_3, x0_number_2, hz, hf⟩ := bd2_e hf
  have hE20 : ∀ (H : Heap) (locs : List Loc) (ls : Array Slot), va_P g.1 vwCl (w_X5_takeNumber g a0 a1 u0_0 u0_1 u0_5 u0_6 u0_7 u0_10 u0_11 x0_length x0_at_3 x0_at_1 x0_number_2 x0_error x0_errorAt y1_text) H → va_D A (w_X5_takeNumber g a0 a1 u0_0 u0_1 u0_5 u0_6 u0_7 u0_10 u0_11 x0_length x0_at_3 x0_at_1 x0_number_2 x0_error x0_errorAt y1_text) → va_S A s.heap H locs → lv_has ls 4 [(0, .ref a0), (1, .int p1), (2, .int p2)] → W p l e (RM 3 66) s m args below meth c H locs 0 0 Q (F0 m 87 ls []) := by
    intro H locs ls hP hD hS hl
    refine lv_aload_n (pc := 87) hexec hb dX5_takeNumber_87 rfl (lv_at hl 0 rfl) ?_
    refine kg_get (pc := 88) hexec hb (own := RX5) hWX5 hown hG hP 0 rfl rfl 4 (nle rfl) (hts _ (List.mem_cons_of_mem _ (List.mem_append_left _ (List.mem_append_left _ (List.mem_of_getElem? (i := 0) rfl))))) rfl rfl dX5_takeNumber_88 ?_
    refine lv_aload_n (pc := 91) hexec hb dX5_takeNumber_91 rfl (lv_at hl 0 rfl) ?_
    refine kg_get (pc := 92) hexec hb (own := RX5) hWX5 hown hG hP 0 rfl rfl 8 (nle rfl) (hts _ (List.mem_cons_of_mem _ (List.mem_append_left _ (List.mem_append_left _ (List.mem_of_getElem? (i := 1) rfl))))) rfl rfl dX5_takeNumber_92 ?_
    refine ki_ne (pc := 95) hexec hb dX5_takeNumber_95 (tgt := 108) rfl hf (fun hc hf => ?_) (fun hc hf => ?_)
    · refine lv_aload_n (pc := 108) hexec hb dX5_takeNumber_108 rfl (lv_at hl 0 rfl) ?_
      refine kg_get (pc := 109) hexec hb (own := RX5) hWX5 hown hG hP 0 rfl rfl 9 (nle rfl) (hts _ (List.mem_cons_of_mem _ (List.mem_append_left _ (List.mem_append_left _ (List.mem_of_getElem? (i := 2) rfl))))) rfl rfl dX5_takeNumber_109 ?_
      refine lv_iload_n (pc := 112) hexec hb dX5_takeNumber_112 rfl (lv_at hl 1 rfl) ?_
      obtain ⟨j136, ej136, hf⟩ := bvf2 hf
      have hj136 : ∀ (x0_error_1 : Int32) (x0_errorAt_1 : Int32) (H : Heap) (locs : List Loc) (ls : Array Slot), j136 x0_error_1 x0_errorAt_1 = some (r, o_x0_at, o_x0_numberStart, o_x0_number, o_x0_error, o_x0_errorAt) → va_P g.1 vwCl (w_X5_takeNumber g a0 a1 u0_0 u0_1 u0_5 u0_6 u0_7 u0_10 u0_11 x0_length x0_at_3 x0_at_1 x0_number_2 x0_error_1 x0_errorAt_1 y1_text) H → va_D A (w_X5_takeNumber g a0 a1 u0_0 u0_1 u0_5 u0_6 u0_7 u0_10 u0_11 x0_length x0_at_3 x0_at_1 x0_number_2 x0_error_1 x0_errorAt_1 y1_text) → va_S A s.heap H locs → lv_has ls 4 [] → W p l e (RM 3 66) s m args below meth c H locs 0 0 Q (F0 m 136 ls []) := by
        intro x0_error_1 x0_errorAt_1 H locs ls hf hP hD hS hl
        have hf := (ej136 x0_error_1 x0_errorAt_1).symm.trans hf
        refine lv_iconst (pc := 136) hexec hb dX5_takeNumber_136 ki_1 ?_
        refine lv_goto (pc := 137) hexec hb dX5_takeNumber_137 (tgt := 141) rfl ?_
        cases hf
        exact ke_z hQ hexec hb hr (.inr rfl) hP hD hS dX5_takeNumber_141 hlocks
      obtain ⟨j124, ej124, hf⟩ := bvf1 hf
      have hj124 : ∀ (u : Unit) (H : Heap) (locs : List Loc) (ls : Array Slot), j124 u = some (r, o_x0_at, o_x0_numberStart, o_x0_number, o_x0_error, o_x0_errorAt) → va_P g.1 vwCl (w_X5_takeNumber g a0 a1 u0_0 u0_1 u0_5 u0_6 u0_7 u0_10 u0_11 x0_length x0_at_3 x0_at_1 x0_number_2 x0_error x0_errorAt y1_text) H → va_D A (w_X5_takeNumber g a0 a1 u0_0 u0_1 u0_5 u0_6 u0_7 u0_10 u0_11 x0_length x0_at_3 x0_at_1 x0_number_2 x0_error x0_errorAt y1_text) → va_S A s.heap H locs → lv_has ls 4 [(0, .ref a0)] → W p l e (RM 3 66) s m args below meth c H locs 0 0 Q (F0 m 124 ls []) := by
        intro u H locs ls hf hP hD hS hl
        have hf := (ej124 u).symm.trans hf
        refine lv_aload_n (pc := 124) hexec hb dX5_takeNumber_124 rfl (lv_at hl 0 rfl) ?_
        refine lv_iconst (pc := 125) hexec hb dX5_takeNumber_125 ki_2 ?_
        refine lv_aload_n (pc := 126) hexec hb dX5_takeNumber_126 rfl (lv_at hl 0 rfl) ?_
        refine kg_get (pc := 127) hexec hb (own := RX5) hWX5 hown hG hP 0 rfl rfl 8 (nle rfl) (hts _ (List.mem_cons_of_mem _ (List.mem_append_left _ (List.mem_append_left _ (List.mem_of_getElem? (i := 1) rfl))))) rfl rfl dX5_takeNumber_127 ?_
        obtain ⟨r130, x0_error_2, x0_errorAt_2, hc, hf⟩ := bd3_e hf
        refine kVp (pc := 130) (S := ⟨hexec, hb, hml, hown, hts⟩) hP hD hG hA hS [0] [1] [1, 0] (w2 := (w_X5_takeNumber g a0 a1 u0_0 u0_1 u0_5 u0_6 u0_7 u0_10 u0_11 x0_length x0_at_3 x0_at_1 x0_number_2 x0_error_2 x0_errorAt_2 y1_text)) rfl rfl rfl rfl rfl rfl (by decide) (c_X5_fail l g a0 _ u0_0 u0_1 (.ref a1) (.int x0_length) (.int x0_at_3) u0_5 u0_6 u0_7 (.int x0_at_1) (.int x0_number_2) u0_10 u0_11 x0_error x0_errorAt 2 x0_at_1 r130 x0_error_2 x0_errorAt_2 hc) gX5_takeNumber_X5_fail rfl hv_X5_fail ⟨nle rfl, nle rfl⟩ 5 0 rfl rfl rfl (rest := []) rfl rfl hl.1 (nle rfl) dX5_takeNumber_130 (fun H locs hP hD hS => ?_)
        refine kb_eq (pc := 133) hexec hb dX5_takeNumber_133 (tgt := 140) rfl hf (fun hc hf => ?_) (fun hc hf => ?_)
        · refine lv_iconst (pc := 140) hexec hb dX5_takeNumber_140 ki_0 ?_
          cases hf
          exact ke_z hQ hexec hb hr (.inl rfl) hP hD hS dX5_takeNumber_141 hlocks
        · exact hj136 _ _ _ _ _ hf hP hD hS (lv_sub hl [] rfl)
      refine ki_lt (pc := 113) hexec hb dX5_takeNumber_113 (tgt := 124) rfl hf (fun hc hf => ?_) (fun hc hf => ?_)
      · exact hj124 _ _ _ _ hf hP hD hS (lv_sub hl [0] rfl)
      · refine lv_aload_n (pc := 116) hexec hb dX5_takeNumber_116 rfl (lv_at hl 0 rfl) ?_
        refine kg_get (pc := 117) hexec hb (own := RX5) hWX5 hown hG hP 0 rfl rfl 9 (nle rfl) (hts _ (List.mem_cons_of_mem _ (List.mem_append_left _ (List.mem_append_left _ (List.mem_of_getElem? (i := 2) rfl))))) rfl rfl dX5_takeNumber_117 ?_
        refine lv_iload_n (pc := 120) hexec hb dX5_takeNumber_120 rfl (lv_at hl 2 rfl) ?_
        refine ki_le (pc := 121) hexec hb dX5_takeNumber_121 (tgt := 136) rfl hf (fun hc hf => ?_) (fun hc hf => ?_)
        · exact hj136 _ _ _ _ _ hf hP hD hS (lv_sub hl [] rfl)
        · exact hj124 _ _ _ _ hf hP hD hS (lv_sub hl [0] rfl)
    · refine lv_aload_n (pc := 98) hexec hb dX5_takeNumber_98 rfl (lv_at hl 0 rfl) ?_
      refine lv_iconst (pc := 99) hexec hb dX5_takeNumber_99 ki_1 ?_
      refine lv_aload_n (pc := 100) hexec hb dX5_takeNumber_100 rfl (lv_at hl 0 rfl) ?_
      refine kg_get (pc := 101) hexec hb (own := RX5) hWX5 hown hG hP 0 rfl rfl 4 (nle rfl) (hts _ (List.mem_cons_of_mem _ (List.mem_append_left _ (List.mem_append_left _ (List.mem_of_getElem? (i := 0) rfl))))) rfl rfl dX5_takeNumber_101 ?_
      obtain ⟨r104, x0_error_3, x0_errorAt_3, hc, hf⟩ := bd3_e hf
      refine kVp (pc := 104) (S := ⟨hexec, hb, hml, hown, hts⟩) hP hD hG hA hS [0] [1] [1, 0] (w2 := (w_X5_takeNumber g a0 a1 u0_0 u0_1 u0_5 u0_6 u0_7 u0_10 u0_11 x0_length x0_at_3 x0_at_1 x0_number_2 x0_error_3 x0_errorAt_3 y1_text)) rfl rfl rfl rfl rfl rfl (by decide) (c_X5_fail l g a0 _ u0_0 u0_1 (.ref a1) (.int x0_length) (.int x0_at_3) u0_5 u0_6 u0_7 (.int x0_at_1) (.int x0_number_2) u0_10 u0_11 x0_error x0_errorAt 1 x0_at_3 r104 x0_error_3 x0_errorAt_3 hc) gX5_takeNumber_X5_fail rfl hv_X5_fail ⟨nle rfl, nle rfl⟩ 5 0 rfl rfl rfl (rest := []) rfl rfl hl.1 (nle rfl) dX5_takeNumber_104 (fun H locs hP hD hS => ?_)
      obtain ⟨hx, hf⟩ := zb_e hf
      cases hf
      exact ke_z hQ hexec hb hr hx hP hD hS dX5_takeNumber_107 hlocks
  obtain ⟨n, hz⟩ := lq3_e hz
  have hL20 : ∀ (n : Nat) (v3 : Int32) (x0_at_2 : Int32) (x0_number_1 : Int32) (H : Heap) (locs : List Loc) (ls : Array Slot), it3 l20 n v3 x0_at_2 x0_number_1 = some (x0_at_3, x0_number_2) → va_P g.1 vwCl (w_X5_takeNumber g a0 a1 u0_0 u0_1 u0_5 u0_6 u0_7 u0_10 u0_11 x0_length x0_at_2 x0_at_1 x0_number_1 x0_error x0_errorAt y1_text) H → va_D A (w_X5_takeNumber g a0 a1 u0_0 u0_1 u0_5 u0_6 u0_7 u0_10 u0_11 x0_length x0_at_2 x0_at_1 x0_number_1 x0_error x0_errorAt y1_text) → va_S A s.heap H locs → lv_has ls 4 [(0, .ref a0), (1, .int p1), (2, .int p2), (3, .int v3)] → W p l e (RM 3 66) s m args below meth c H locs 0 0 Q (F0 m 20 ls []) := by
    intro n
    induction n with
    | zero =>
      intro v3 x0_at_2 x0_number_1 H locs ls hf hP hD hS hl
      exact it3_0 hf
    | succ n20 ih20 =>
      intro v3 x0_at_2 x0_number_1 H locs ls hf hP hD hS hl
      obtain ⟨q20, hf, hk20⟩ := it3_e hf
      have hf := (el20 v3 x0_at_2 x0_number_1).symm.trans hf
      refine lv_iload_n (pc := 20) hexec hb dX5_takeNumber_20 rfl (lv_at hl 3 rfl) ?_
      refine lv_aload_n (pc := 21) hexec hb dX5_takeNumber_21 rfl (lv_at hl 0 rfl) ?_
      refine kg_get (pc := 22) hexec hb (own := RX5) hWX5 hown hG hP 0 rfl rfl 3 (nle rfl) (hts _ (List.mem_cons_of_mem _ (List.mem_append_left _ (List.mem_append_left _ (List.mem_of_getElem? (i := 3) rfl))))) rfl rfl dX5_takeNumber_22 ?_
      refine ki_ge (pc := 25) hexec hb dX5_takeNumber_25 (tgt := 87) rfl hf (fun hc hf => ?_) (fun hc hf => ?_)
      · cases sr3 hf hk20
        exact hE20 _ _ _ hP hD hS (lv_sub hl [0, 1, 2] rfl)
      · refine lv_aload_n (pc := 28) hexec hb dX5_takeNumber_28 rfl (lv_at hl 0 rfl) ?_
        refine lv_aload_n (pc := 29) hexec hb dX5_takeNumber_29 rfl (lv_at hl 0 rfl) ?_
        refine kg_get (pc := 30) hexec hb (own := RX5) hWX5 hown hG hP 0 rfl rfl 4 (nle rfl) (hts _ (List.mem_cons_of_mem _ (List.mem_append_left _ (List.mem_append_left _ (List.mem_of_getElem? (i := 0) rfl))))) rfl rfl dX5_takeNumber_30 ?_
        obtain ⟨r33, hc, hf⟩ := bd1_e hf
        refine kVp (pc := 33) (S := ⟨hexec, hb, hml, hown, hts⟩) hP hD hG hA hS [0, 1] [] [0, 1] (w2 := (w_X5_takeNumber g a0 a1 u0_0 u0_1 u0_5 u0_6 u0_7 u0_10 u0_11 x0_length x0_at_2 x0_at_1 x0_number_1 x0_error x0_errorAt y1_text)) rfl rfl rfl rfl rfl rfl (by decide) (c_X5_signAt l g a0 a1 _ u0_0 u0_1 (.int x0_at_2) u0_5 u0_6 u0_7 (.int x0_at_1) (.int x0_number_1) u0_10 u0_11 (.int x0_error) (.int x0_errorAt) x0_length y1_text x0_at_2 r33 hc) gX5_takeNumber_X5_signAt rfl hv_X5_signAt ⟨nle rfl, nle rfl⟩ 5 0 rfl rfl rfl (rest := []) rfl rfl hl.1 (nle rfl) dX5_takeNumber_33 (fun H locs hP hD hS => ?_)
        obtain ⟨r36, hc, hf⟩ := bd1_e hf
        refine kSp (pc := 36) (S := ⟨hexec, hb, hml, hown, hts⟩) hP hD hG hA hS [] [0, 1] [0, 1] (w2 := (w_X5_takeNumber g a0 a1 u0_0 u0_1 u0_5 u0_6 u0_7 u0_10 u0_11 x0_length x0_at_2 x0_at_1 x0_number_1 x0_error x0_errorAt y1_text)) rfl rfl rfl rfl rfl rfl (by decide) (c_X5_isDigit l g _ r33 r36 hc) gX5_takeNumber_X5_isDigit rfl hs_X5_isDigit ⟨nle rfl, nle rfl⟩ (rest := []) rfl rfl hl.1 (nle rfl) dX5_takeNumber_36 (fun H locs hP hD hS => ?_)
        refine kb_eq (pc := 39) hexec hb dX5_takeNumber_39 (tgt := 87) rfl hf (fun hc hf => ?_) (fun hc hf => ?_)
        · cases sr3 hf hk20
          exact hE20 _ _ _ hP hD hS (lv_sub hl [0, 1, 2] rfl)
        · refine lv_aload_n (pc := 42) hexec hb dX5_takeNumber_42 rfl (lv_at hl 0 rfl) ?_
          refine lv_aload_n (pc := 43) hexec hb dX5_takeNumber_43 rfl (lv_at hl 0 rfl) ?_
          refine kg_get (pc := 44) hexec hb (own := RX5) hWX5 hown hG hP 0 rfl rfl 9 (nle rfl) (hts _ (List.mem_cons_of_mem _ (List.mem_append_left _ (List.mem_append_left _ (List.mem_of_getElem? (i := 2) rfl))))) rfl rfl dX5_takeNumber_44 ?_
          refine lv_bipush (pc := 47) hexec hb dX5_takeNumber_47 kb_10 ?_
          refine lv_imul (pc := 49) hexec hb dX5_takeNumber_49 ?_
          refine lv_aload_n (pc := 50) hexec hb dX5_takeNumber_50 rfl (lv_at hl 0 rfl) ?_
          refine lv_aload_n (pc := 51) hexec hb dX5_takeNumber_51 rfl (lv_at hl 0 rfl) ?_
          refine kg_get (pc := 52) hexec hb (own := RX5) hWX5 hown hG hP 0 rfl rfl 4 (nle rfl) (hts _ (List.mem_cons_of_mem _ (List.mem_append_left _ (List.mem_append_left _ (List.mem_of_getElem? (i := 0) rfl))))) rfl rfl dX5_takeNumber_52 ?_
          obtain ⟨r55, hc, hf⟩ := bd1_e hf
          refine kVp (pc := 55) (S := ⟨hexec, hb, hml, hown, hts⟩) hP hD hG hA hS [0, 1] [] [0, 1] (w2 := (w_X5_takeNumber g a0 a1 u0_0 u0_1 u0_5 u0_6 u0_7 u0_10 u0_11 x0_length x0_at_2 x0_at_1 x0_number_1 x0_error x0_errorAt y1_text)) rfl rfl rfl rfl rfl rfl (by decide) (c_X5_signAt l g a0 a1 _ u0_0 u0_1 (.int x0_at_2) u0_5 u0_6 u0_7 (.int x0_at_1) (.int x0_number_1) u0_10 u0_11 (.int x0_error) (.int x0_errorAt) x0_length y1_text x0_at_2 r55 hc) gX5_takeNumber_X5_signAt rfl hv_X5_signAt ⟨nle rfl, nle rfl⟩ 5 0 rfl rfl rfl (rest := [.int (x0_number_1 * 10), .ref a0]) rfl rfl hl.1 (nle rfl) dX5_takeNumber_55 (fun H locs hP hD hS => ?_)
          refine lv_iadd (pc := 58) hexec hb dX5_takeNumber_58 ?_
          refine lv_bipush (pc := 59) hexec hb dX5_takeNumber_59 kb_48 ?_
          refine lv_isub (pc := 61) hexec hb dX5_takeNumber_61 ?_
          refine lv_sipush (pc := 62) hexec hb dX5_takeNumber_62 ks_1000 ?_
          refine va_mmin (pc := 65) hexec hb (hml.trans hl.1.symm) (own := RX5) hown (hts _ (List.mem_cons_of_mem _ (List.mem_append_left _ (List.mem_append_left _ (List.mem_of_getElem? (i := 4) rfl))))) (hts _ (List.mem_cons_of_mem _ (List.mem_append_left _ (List.mem_append_left _ (List.mem_of_getElem? (i := 5) rfl))))) (hts _ (List.mem_cons_of_mem _ (List.mem_append_left _ (List.mem_append_left _ (List.mem_of_getElem? (i := 6) rfl))))) (hts _ (List.mem_cons_of_mem _ (List.mem_append_left _ (List.mem_append_left _ (List.mem_of_getElem? (i := 7) rfl))))) (nle rfl) (nle rfl) (nle rfl) (nle rfl) dX5_takeNumber_65 ?_
          obtain ⟨x0_number_3, ex0_number_3, hf⟩ := bv_e hf
          refine kn_i ex0_number_3 ?_
          refine kp_put (pc := 68) hexec hb (own := RX5) hWX5 tyX5 tyX5_ok nmX5 hown hG hP hD hS 0 rfl rfl 9 (nle rfl) (hts _ (List.mem_cons_of_mem _ (List.mem_append_left _ (List.mem_append_left _ (List.mem_of_getElem? (i := 2) rfl))))) rfl rfl rfl rfl (nle rfl) dX5_takeNumber_68 (fun H locs (hP : va_P g.1 vwCl (w_X5_takeNumber g a0 a1 u0_0 u0_1 u0_5 u0_6 u0_7 u0_10 u0_11 x0_length x0_at_2 x0_at_1 x0_number_3 x0_error x0_errorAt y1_text) H) (hD : va_D A (w_X5_takeNumber g a0 a1 u0_0 u0_1 u0_5 u0_6 u0_7 u0_10 u0_11 x0_length x0_at_2 x0_at_1 x0_number_3 x0_error x0_errorAt y1_text)) hS => ?_)
          refine lv_aload_n (pc := 71) hexec hb dX5_takeNumber_71 rfl (lv_at hl 0 rfl) ?_
          refine lv_dup (pc := 72) hexec hb dX5_takeNumber_72 rfl ?_
          refine kg_get (pc := 73) hexec hb (own := RX5) hWX5 hown hG hP 0 rfl rfl 4 (nle rfl) (hts _ (List.mem_cons_of_mem _ (List.mem_append_left _ (List.mem_append_left _ (List.mem_of_getElem? (i := 0) rfl))))) rfl rfl dX5_takeNumber_73 ?_
          refine lv_iconst (pc := 76) hexec hb dX5_takeNumber_76 ki_1 ?_
          refine lv_iadd (pc := 77) hexec hb dX5_takeNumber_77 ?_
          obtain ⟨x0_at_4, ex0_at_4, hf⟩ := bv_e hf
          refine kn_i ex0_at_4 ?_
          refine kp_put (pc := 78) hexec hb (own := RX5) hWX5 tyX5 tyX5_ok nmX5 hown hG hP hD hS 0 rfl rfl 4 (nle rfl) (hts _ (List.mem_cons_of_mem _ (List.mem_append_left _ (List.mem_append_left _ (List.mem_of_getElem? (i := 0) rfl))))) rfl rfl rfl rfl (nle rfl) dX5_takeNumber_78 (fun H locs (hP : va_P g.1 vwCl (w_X5_takeNumber g a0 a1 u0_0 u0_1 u0_5 u0_6 u0_7 u0_10 u0_11 x0_length x0_at_4 x0_at_1 x0_number_3 x0_error x0_errorAt y1_text) H) (hD : va_D A (w_X5_takeNumber g a0 a1 u0_0 u0_1 u0_5 u0_6 u0_7 u0_10 u0_11 x0_length x0_at_4 x0_at_1 x0_number_3 x0_error x0_errorAt y1_text)) hS => ?_)
          obtain ⟨v3_1, ev3_1, hf⟩ := bv_e hf
          refine k_iinc (pc := 81) hexec hb dX5_takeNumber_81 kq_1 hl (k := 3) rfl ev3_1 (nle rfl) rfl (fun ls (hl : lv_has ls 4 [(3, .int v3_1), (0, .ref a0), (1, .int p1), (2, .int p2)]) => ?_)
          refine lv_goto (pc := 84) hexec hb dX5_takeNumber_84 (tgt := 20) rfl ?_
          exact ih20 _ _ _ _ _ _ (sl3 hf hk20) hP hD hS (lv_sub hl [1, 2, 3, 0] rfl)
  exact hL20 n _ _ _ _ _ _ hz hP hD hS (lv_sub hl [1, 2, 3, 0] rfl)
abbrev w_X5_takeName (g : GE) (a0 a1 : Nat) (u0_0 u0_1 u0_5 u0_8 u0_9 u0_10 u0_11 : Value) (x0_length : Int32) (x0_at : Int32) (x0_wordStart : Int32) (x0_wordLength : Int32) (x0_error : Int32) (x0_errorAt : Int32) (y1_text : Nat → Int32) : va_W := [(a0, .inr (5, [u0_0, u0_1, .ref a1, .int x0_length, .int x0_at, u0_5, .int x0_wordStart, .int x0_wordLength, u0_8, u0_9, u0_10, u0_11, .int x0_error, .int x0_errorAt])), (a1, .inl (g.2.1 0, 500, .inl y1_text))]
noncomputable def f_X5_takeName (x0_length : Int32) (x0_at : Int32) (x0_wordStart : Int32) (x0_wordLength : Int32) (x0_error : Int32) (x0_errorAt : Int32) (y1_text : Nat → Int32)  : Option (Int32 × Int32 × Int32 × Int32 × Int32 × Int32) :=
  bd6 (f_X5_takeWord x0_length x0_at x0_wordStart x0_wordLength x0_error x0_errorAt y1_text) fun (r1 : Int32) (x0_at_1 : Int32) (x0_wordStart_1 : Int32) (x0_wordLength_1 : Int32) (x0_error_1 : Int32) (x0_errorAt_1 : Int32) =>
  bv (fun (x0_error_2 : Int32) (x0_errorAt_2 : Int32) => ((
    some (0, x0_at_1, x0_wordStart_1, x0_wordLength_1, x0_error_2, x0_errorAt_2)
    ) : Option (Int32 × Int32 × Int32 × Int32 × Int32 × Int32))) fun j32 =>
  (if r1 = 0 then (
    j32 x0_error_1 x0_errorAt_1
  ) else (
    bv (fun (x0_error_3 : Int32) (x0_errorAt_3 : Int32) => ((
      some (1, x0_at_1, x0_wordStart_1, x0_wordLength_1, x0_error_3, x0_errorAt_3)
      ) : Option (Int32 × Int32 × Int32 × Int32 × Int32 × Int32))) fun j28 =>
    (if x0_wordLength_1 ≤ 8 then (
      j28 x0_error_1 x0_errorAt_1
    ) else (
      bd3 (f_X5_fail x0_error_1 x0_errorAt_1 1 x0_wordStart_1) fun (r22 : Int32) (x0_error_4 : Int32) (x0_errorAt_4 : Int32) =>
      (if r22 = 0 then (
        j32 x0_error_4 x0_errorAt_4
      ) else (
        j28 x0_error_4 x0_errorAt_4
      ))
    ))
  ))
set_option maxRecDepth 4000 in
theorem c_X5_takeName (l : Launch) (g : GE) (a0 a1 : Nat) (sz : Nat) (u0_0 u0_1 u0_5 u0_8 u0_9 u0_10 u0_11 : Value) (x0_length : Int32) (x0_at : Int32) (x0_wordStart : Int32) (x0_wordLength : Int32) (x0_error : Int32) (x0_errorAt : Int32) (y1_text : Nat → Int32)  (r : Int32) (o_x0_at : Int32) (o_x0_wordStart : Int32) (o_x0_wordLength : Int32) (o_x0_error : Int32) (o_x0_errorAt : Int32) (hf : f_X5_takeName x0_length x0_at x0_wordStart x0_wordLength x0_error x0_errorAt y1_text = some (r, o_x0_at, o_x0_wordStart, o_x0_wordLength, o_x0_error, o_x0_errorAt)) : MI l g yX5_takeName wsX5_takeName 4 87 [.ref a0] (w_X5_takeName g a0 a1 u0_0 u0_1 u0_5 u0_8 u0_9 u0_10 u0_11 x0_length x0_at x0_wordStart x0_wordLength x0_error x0_errorAt y1_text) sz (some (.int r)) (w_X5_takeName g a0 a1 u0_0 u0_1 u0_5 u0_8 u0_9 u0_10 u0_11 x0_length o_x0_at o_x0_wordStart o_x0_wordLength o_x0_error o_x0_errorAt y1_text) := by
  refine MI.start (cc := cX5_takeName) (maxL := 1) (ret := (some .boolean)) rfl rfl (nle rfl) ?_
  intro p e s m args below meth c A ls Q hQ hexec hb hr hts hown hlocks hml hA hP hD hG hS hl
  unfold f_X5_takeName at hf
  have hWX5 : ∀ w ∈ wsX50, w.before args s = true := fun w h => hts w (List.mem_cons_of_mem _ (List.mem_append_right _ h))
  have hS : va_S A s.heap s.heap [] := hS
  refine lv_aload_n (pc := 0) hexec hb dX5_takeName_0 rfl (lv_at hl 0 rfl) ?_
  obtain ⟨r1, x0_at_1, x0_wordStart_1, x0_wordLength_1, x0_error_1, x0_errorAt_1, hc, hf⟩ := bd6_e hf
  refine kVp (pc := 1) (S := ⟨hexec, hb, hml, hown, hts⟩) hP hD hG hA hS [0, 1] [] [0, 1] (w2 := (w_X5_takeName g a0 a1 u0_0 u0_1 u0_5 u0_8 u0_9 u0_10 u0_11 x0_length x0_at_1 x0_wordStart_1 x0_wordLength_1 x0_error_1 x0_errorAt_1 y1_text)) rfl rfl rfl rfl rfl rfl (by decide) (c_X5_takeWord l g a0 a1 _ u0_0 u0_1 u0_5 u0_8 u0_9 u0_10 u0_11 x0_length x0_at x0_wordStart x0_wordLength x0_error x0_errorAt y1_text r1 x0_at_1 x0_wordStart_1 x0_wordLength_1 x0_error_1 x0_errorAt_1 hc) gX5_takeName_X5_takeWord rfl hv_X5_takeWord ⟨nle rfl, nle rfl⟩ 5 0 rfl rfl rfl (rest := []) rfl rfl hl.1 (nle rfl) dX5_takeName_1 (fun H locs hP hD hS => ?_)
  obtain ⟨j32, ej32, hf⟩ := bvf2 hf
  have hj32 : ∀ (x0_error_2 : Int32) (x0_errorAt_2 : Int32) (H : Heap) (locs : List Loc) (ls : Array Slot), j32 x0_error_2 x0_errorAt_2 = some (r, o_x0_at, o_x0_wordStart, o_x0_wordLength, o_x0_error, o_x0_errorAt) → va_P g.1 vwCl (w_X5_takeName g a0 a1 u0_0 u0_1 u0_5 u0_8 u0_9 u0_10 u0_11 x0_length x0_at_1 x0_wordStart_1 x0_wordLength_1 x0_error_2 x0_errorAt_2 y1_text) H → va_D A (w_X5_takeName g a0 a1 u0_0 u0_1 u0_5 u0_8 u0_9 u0_10 u0_11 x0_length x0_at_1 x0_wordStart_1 x0_wordLength_1 x0_error_2 x0_errorAt_2 y1_text) → va_S A s.heap H locs → lv_has ls 1 [] → W p l e (RM 4 87) s m args below meth c H locs 0 0 Q (F0 m 32 ls []) := by
    intro x0_error_2 x0_errorAt_2 H locs ls hf hP hD hS hl
    have hf := (ej32 x0_error_2 x0_errorAt_2).symm.trans hf
    refine lv_iconst (pc := 32) hexec hb dX5_takeName_32 ki_0 ?_
    cases hf
    exact ke_z hQ hexec hb hr (.inl rfl) hP hD hS dX5_takeName_33 hlocks
  refine kb_eq (pc := 4) hexec hb dX5_takeName_4 (tgt := 32) rfl hf (fun hc hf => ?_) (fun hc hf => ?_)
  · exact hj32 _ _ _ _ _ hf hP hD hS (lv_sub hl [] rfl)
  · refine lv_aload_n (pc := 7) hexec hb dX5_takeName_7 rfl (lv_at hl 0 rfl) ?_
    refine kg_get (pc := 8) hexec hb (own := RX5) hWX5 hown hG hP 0 rfl rfl 7 (nle rfl) (hts _ (List.mem_cons_of_mem _ (List.mem_append_left _ (List.mem_append_left _ (List.mem_of_getElem? (i := 0) rfl))))) rfl rfl dX5_takeName_8 ?_
    refine lv_bipush (pc := 11) hexec hb dX5_takeName_11 kb_8 ?_
    obtain ⟨j28, ej28, hf⟩ := bvf2 hf
    have hj28 : ∀ (x0_error_3 : Int32) (x0_errorAt_3 : Int32) (H : Heap) (locs : List Loc) (ls : Array Slot), j28 x0_error_3 x0_errorAt_3 = some (r, o_x0_at, o_x0_wordStart, o_x0_wordLength, o_x0_error, o_x0_errorAt) → va_P g.1 vwCl (w_X5_takeName g a0 a1 u0_0 u0_1 u0_5 u0_8 u0_9 u0_10 u0_11 x0_length x0_at_1 x0_wordStart_1 x0_wordLength_1 x0_error_3 x0_errorAt_3 y1_text) H → va_D A (w_X5_takeName g a0 a1 u0_0 u0_1 u0_5 u0_8 u0_9 u0_10 u0_11 x0_length x0_at_1 x0_wordStart_1 x0_wordLength_1 x0_error_3 x0_errorAt_3 y1_text) → va_S A s.heap H locs → lv_has ls 1 [] → W p l e (RM 4 87) s m args below meth c H locs 0 0 Q (F0 m 28 ls []) := by
      intro x0_error_3 x0_errorAt_3 H locs ls hf hP hD hS hl
      have hf := (ej28 x0_error_3 x0_errorAt_3).symm.trans hf
      refine lv_iconst (pc := 28) hexec hb dX5_takeName_28 ki_1 ?_
      refine lv_goto (pc := 29) hexec hb dX5_takeName_29 (tgt := 33) rfl ?_
      cases hf
      exact ke_z hQ hexec hb hr (.inr rfl) hP hD hS dX5_takeName_33 hlocks
    refine ki_le (pc := 13) hexec hb dX5_takeName_13 (tgt := 28) rfl hf (fun hc hf => ?_) (fun hc hf => ?_)
    · exact hj28 _ _ _ _ _ hf hP hD hS (lv_sub hl [] rfl)
    · refine lv_aload_n (pc := 16) hexec hb dX5_takeName_16 rfl (lv_at hl 0 rfl) ?_
      refine lv_iconst (pc := 17) hexec hb dX5_takeName_17 ki_1 ?_
      refine lv_aload_n (pc := 18) hexec hb dX5_takeName_18 rfl (lv_at hl 0 rfl) ?_
      refine kg_get (pc := 19) hexec hb (own := RX5) hWX5 hown hG hP 0 rfl rfl 6 (nle rfl) (hts _ (List.mem_cons_of_mem _ (List.mem_append_left _ (List.mem_append_left _ (List.mem_of_getElem? (i := 1) rfl))))) rfl rfl dX5_takeName_19 ?_
      obtain ⟨r22, x0_error_4, x0_errorAt_4, hc, hf⟩ := bd3_e hf
      refine kVp (pc := 22) (S := ⟨hexec, hb, hml, hown, hts⟩) hP hD hG hA hS [0] [1] [1, 0] (w2 := (w_X5_takeName g a0 a1 u0_0 u0_1 u0_5 u0_8 u0_9 u0_10 u0_11 x0_length x0_at_1 x0_wordStart_1 x0_wordLength_1 x0_error_4 x0_errorAt_4 y1_text)) rfl rfl rfl rfl rfl rfl (by decide) (c_X5_fail l g a0 _ u0_0 u0_1 (.ref a1) (.int x0_length) (.int x0_at_1) u0_5 (.int x0_wordStart_1) (.int x0_wordLength_1) u0_8 u0_9 u0_10 u0_11 x0_error_1 x0_errorAt_1 1 x0_wordStart_1 r22 x0_error_4 x0_errorAt_4 hc) gX5_takeName_X5_fail rfl hv_X5_fail ⟨nle rfl, nle rfl⟩ 5 0 rfl rfl rfl (rest := []) rfl rfl hl.1 (nle rfl) dX5_takeName_22 (fun H locs hP hD hS => ?_)
      refine kb_eq (pc := 25) hexec hb dX5_takeName_25 (tgt := 32) rfl hf (fun hc hf => ?_) (fun hc hf => ?_)
      · exact hj32 _ _ _ _ _ hf hP hD hS (lv_sub hl [] rfl)
      · exact hj28 _ _ _ _ _ hf hP hD hS (lv_sub hl [] rfl)
abbrev w_X5_namedHarbour (g : GE) (a0 a1 a2 a3 a4 a5 : Nat) (u0_1 u0_4 u0_5 u0_8 u0_9 u0_10 u0_11 u0_12 u0_13 u1_0 u1_2 u1_3 u1_4 u3_1 u3_2 u3_3 : Value) (x0_length : Int32) (x0_wordStart : Int32) (x0_wordLength : Int32) (y2_text : Nat → Int32) (x3_count : Int32) (y4_length : Nat → Int32) (y5_letters : Nat → Int32) : va_W := [(a0, .inr (5, [.ref a1, u0_1, .ref a2, .int x0_length, u0_4, u0_5, .int x0_wordStart, .int x0_wordLength, u0_8, u0_9, u0_10, u0_11, u0_12, u0_13])), (a1, .inr (6, [u1_0, .ref a3, u1_2, u1_3, u1_4])), (a2, .inl (g.2.1 0, 500, .inl y2_text)), (a3, .inr (2, [.int x3_count, u3_1, u3_2, u3_3, .ref a4, .ref a5])), (a4, .inl (g.2.1 0, 8, .inl y4_length)), (a5, .inl (g.2.1 0, 64, .inl y5_letters))]
noncomputable def f_X5_namedHarbour (x0_length : Int32) (x0_wordStart : Int32) (x0_wordLength : Int32) (y2_text : Nat → Int32) (x3_count : Int32) (y4_length : Nat → Int32) (y5_letters : Nat → Int32)  : Option (Int32) :=
  bv (fun (v1 : Int32) => ((
    (if x3_count ≤ v1 then (
      mr (some (-1))
    ) else (
      bd1 (f_X2_lengthOf x3_count y4_length v1) fun (r24 : Int32) =>
      bv (fun (t39 : Int32) => ((
        bv (fun (v2 : Int32) (v3 : Int32) => ((
          (if x0_wordLength ≤ v3 then (
            some (.inr v2)
          ) else (
            (if v2 = 0 then (
              some (.inr v2)
            ) else (
              bd1 (f_X2_letterOf x3_count y4_length y5_letters v1 v3) fun (r63 : Int32) =>
              bd1 (f_X5_signAt x0_length y2_text (x0_wordStart + v3)) fun (r73 : Int32) =>
              bv (fun (t84 : Int32) => ((
                bv (v3 + 1) fun v3_1 =>
                some (.inl (t84, v3_1))
                ) : Option ((Int32 × Int32) ⊕ (Int32)))) fun j84 =>
              (if r63 = r73 then (
                j84 1
              ) else (
                j84 0
              ))
            ))
          ))
          ) : Option ((Int32 × Int32) ⊕ (Int32)))) fun l42 =>
        bd1 (lq2 l42 t39 0) fun (v2_1 : Int32) =>
        (if v2_1 = 0 then (
          bv (v1 + 1) fun v1_1 =>
          some (.inl v1_1)
        ) else (
          mr (some v1)
        ))
        ) : Option ((Int32) ⊕ (Int32)))) fun j39 =>
      (if r24 = x0_wordLength then (
        j39 1
      ) else (
        j39 0
      ))
    ))
    ) : Option ((Int32) ⊕ (Int32)))) fun l2 =>
  lq1 l2 0
set_option maxRecDepth 4000 in
theorem c_X5_namedHarbour (l : Launch) (g : GE) (a0 a1 a2 a3 a4 a5 : Nat) (sz : Nat) (u0_1 u0_4 u0_5 u0_8 u0_9 u0_10 u0_11 u0_12 u0_13 u1_0 u1_2 u1_3 u1_4 u3_1 u3_2 u3_3 : Value) (x0_length : Int32) (x0_wordStart : Int32) (x0_wordLength : Int32) (y2_text : Nat → Int32) (x3_count : Int32) (y4_length : Nat → Int32) (y5_letters : Nat → Int32)  (r : Int32) (hf : f_X5_namedHarbour x0_length x0_wordStart x0_wordLength y2_text x3_count y4_length y5_letters = some r) : MI l g yX5_namedHarbour wsX5_namedHarbour 3 68 [.ref a0] (w_X5_namedHarbour g a0 a1 a2 a3 a4 a5 u0_1 u0_4 u0_5 u0_8 u0_9 u0_10 u0_11 u0_12 u0_13 u1_0 u1_2 u1_3 u1_4 u3_1 u3_2 u3_3 x0_length x0_wordStart x0_wordLength y2_text x3_count y4_length y5_letters) sz (some (.int r)) (w_X5_namedHarbour g a0 a1 a2 a3 a4 a5 u0_1 u0_4 u0_5 u0_8 u0_9 u0_10 u0_11 u0_12 u0_13 u1_0 u1_2 u1_3 u1_4 u3_1 u3_2 u3_3 x0_length x0_wordStart x0_wordLength y2_text x3_count y4_length y5_letters) := by
  refine MI.start (cc := cX5_namedHarbour) (maxL := 4) (ret := (some .int)) rfl rfl (nle rfl) ?_
  intro p e s m args below meth c A ls Q hQ hexec hb hr hts hown hlocks hml hA hP hD hG hS hl
  unfold f_X5_namedHarbour at hf
  have hWX2 : ∀ w ∈ wsX20, w.before args s = true := fun w h => hts w (List.mem_cons_of_mem _ (List.mem_append_right _ h))
  have hWX5 : ∀ w ∈ wsX50, w.before args s = true := fun w h => hts w (List.mem_cons_of_mem _ (List.mem_append_left _ (List.mem_append_left _ (List.mem_append_right _ h))))
  have hWX6 : ∀ w ∈ wsX60, w.before args s = true := fun w h => hts w (List.mem_cons_of_mem _ (List.mem_append_left _ (List.mem_append_right _ h)))
  have hS : va_S A s.heap s.heap [] := hS
  refine lv_iconst (pc := 0) hexec hb dX5_namedHarbour_0 ki_0 ?_
  refine lv_istore_n (pc := 1) hexec hb dX5_namedHarbour_1 rfl hl (nle rfl) rfl (fun ls (hl : lv_has ls 4 [(1, .int 0), (0, .ref a0)]) => ?_)
  obtain ⟨l2, el2, hf⟩ := bvf1 hf
  obtain ⟨n, hz⟩ := lq1_e hf
  have hL2 : ∀ (n : Nat) (v1 : Int32) (H : Heap) (locs : List Loc) (ls : Array Slot), it1 l2 n v1 = some r → va_P g.1 vwCl (w_X5_namedHarbour g a0 a1 a2 a3 a4 a5 u0_1 u0_4 u0_5 u0_8 u0_9 u0_10 u0_11 u0_12 u0_13 u1_0 u1_2 u1_3 u1_4 u3_1 u3_2 u3_3 x0_length x0_wordStart x0_wordLength y2_text x3_count y4_length y5_letters) H → va_D A (w_X5_namedHarbour g a0 a1 a2 a3 a4 a5 u0_1 u0_4 u0_5 u0_8 u0_9 u0_10 u0_11 u0_12 u0_13 u1_0 u1_2 u1_3 u1_4 u3_1 u3_2 u3_3 x0_length x0_wordStart x0_wordLength y2_text x3_count y4_length y5_letters) → va_S A s.heap H locs → lv_has ls 4 [(0, .ref a0), (1, .int v1)] → W p l e (RM 3 68) s m args below meth c H locs 0 0 Q (F0 m 2 ls []) := by
    intro n
    induction n with
    | zero =>
      intro v1 H locs ls hf hP hD hS hl
      exact it1_0 hf
    | succ n2 ih2 =>
      intro v1 H locs ls hf hP hD hS hl
      obtain ⟨q2, hf, hk2⟩ := it1_e hf
      have hf := (el2 v1).symm.trans hf
      refine lv_iload_n (pc := 2) hexec hb dX5_namedHarbour_2 rfl (lv_at hl 1 rfl) ?_
      refine lv_aload_n (pc := 3) hexec hb dX5_namedHarbour_3 rfl (lv_at hl 0 rfl) ?_
      refine kg_get (pc := 4) hexec hb (own := RX5) hWX5 hown hG hP 0 rfl rfl 0 (nle rfl) (hts _ (List.mem_cons_of_mem _ (List.mem_append_left _ (List.mem_append_left _ (List.mem_append_left _ (List.mem_of_getElem? (i := 0) rfl)))))) rfl rfl dX5_namedHarbour_4 ?_
      refine kg_getN (pc := 7) hexec hb (own := RX5) hWX6 hown hG hP 1 rfl rfl 1 (nle rfl) 26 rfl rfl rfl dX5_namedHarbour_7 ?_
      refine kg_getN (pc := 10) hexec hb (own := RX5) hWX2 hown hG hP 3 rfl rfl 0 (nle rfl) 9 rfl rfl rfl dX5_namedHarbour_10 ?_
      refine ki_ge (pc := 13) hexec hb dX5_namedHarbour_13 (tgt := 103) rfl hf (fun hc hf => ?_) (fun hc hf => ?_)
      · have hf := mk1 hf hk2
        refine lv_iconst (pc := 103) hexec hb dX5_namedHarbour_103 ki_m1 ?_
        cases hf
        exact ke_i hQ hexec hb hr hP hD hS dX5_namedHarbour_104 hlocks
      · refine lv_aload_n (pc := 16) hexec hb dX5_namedHarbour_16 rfl (lv_at hl 0 rfl) ?_
        refine kg_get (pc := 17) hexec hb (own := RX5) hWX5 hown hG hP 0 rfl rfl 0 (nle rfl) (hts _ (List.mem_cons_of_mem _ (List.mem_append_left _ (List.mem_append_left _ (List.mem_append_left _ (List.mem_of_getElem? (i := 0) rfl)))))) rfl rfl dX5_namedHarbour_17 ?_
        refine kg_getN (pc := 20) hexec hb (own := RX5) hWX6 hown hG hP 1 rfl rfl 1 (nle rfl) 26 rfl rfl rfl dX5_namedHarbour_20 ?_
        refine lv_iload_n (pc := 23) hexec hb dX5_namedHarbour_23 rfl (lv_at hl 1 rfl) ?_
        obtain ⟨r24, hc, hf⟩ := bd1_e hf
        refine kVp (pc := 24) (S := ⟨hexec, hb, hml, hown, hts⟩) hP hD hG hA hS [3, 4] [0, 1, 2, 5] [0, 1, 2, 4, 5, 3] (w2 := (w_X5_namedHarbour g a0 a1 a2 a3 a4 a5 u0_1 u0_4 u0_5 u0_8 u0_9 u0_10 u0_11 u0_12 u0_13 u1_0 u1_2 u1_3 u1_4 u3_1 u3_2 u3_3 x0_length x0_wordStart x0_wordLength y2_text x3_count y4_length y5_letters)) rfl rfl rfl rfl rfl rfl (by decide) (c_X2_lengthOf l g a3 a4 _ u3_1 u3_2 u3_3 (.ref a5) x3_count y4_length v1 r24 hc) gX5_namedHarbour_X2_lengthOf rfl hv_X2_lengthOf ⟨nle rfl, nle rfl⟩ 2 0 rfl rfl rfl (rest := []) rfl rfl hl.1 (nle rfl) dX5_namedHarbour_24 (fun H locs hP hD hS => ?_)
        refine lv_aload_n (pc := 27) hexec hb dX5_namedHarbour_27 rfl (lv_at hl 0 rfl) ?_
        refine kg_get (pc := 28) hexec hb (own := RX5) hWX5 hown hG hP 0 rfl rfl 7 (nle rfl) (hts _ (List.mem_cons_of_mem _ (List.mem_append_left _ (List.mem_append_left _ (List.mem_append_left _ (List.mem_of_getElem? (i := 1) rfl)))))) rfl rfl dX5_namedHarbour_28 ?_
        obtain ⟨j39, ej39, hf⟩ := bvf1 hf
        have hj39 : ∀ (t39 : Int32) (H : Heap) (locs : List Loc) (ls : Array Slot), j39 t39 = some q2 → va_P g.1 vwCl (w_X5_namedHarbour g a0 a1 a2 a3 a4 a5 u0_1 u0_4 u0_5 u0_8 u0_9 u0_10 u0_11 u0_12 u0_13 u1_0 u1_2 u1_3 u1_4 u3_1 u3_2 u3_3 x0_length x0_wordStart x0_wordLength y2_text x3_count y4_length y5_letters) H → va_D A (w_X5_namedHarbour g a0 a1 a2 a3 a4 a5 u0_1 u0_4 u0_5 u0_8 u0_9 u0_10 u0_11 u0_12 u0_13 u1_0 u1_2 u1_3 u1_4 u3_1 u3_2 u3_3 x0_length x0_wordStart x0_wordLength y2_text x3_count y4_length y5_letters) → va_S A s.heap H locs → lv_has ls 4 [(0, .ref a0), (1, .int v1)] → W p l e (RM 3 68) s m args below meth c H locs 0 0 Q (F0 m 39 ls [.int t39]) := by
          intro t39 H locs ls hf hP hD hS hl
          have hf := (ej39 t39).symm.trans hf
          refine lv_istore_n (pc := 39) hexec hb dX5_namedHarbour_39 rfl hl (nle rfl) rfl (fun ls (hl : lv_has ls 4 [(2, .int t39), (0, .ref a0), (1, .int v1)]) => ?_)
          refine lv_iconst (pc := 40) hexec hb dX5_namedHarbour_40 ki_0 ?_
          refine lv_istore_n (pc := 41) hexec hb dX5_namedHarbour_41 rfl hl (nle rfl) rfl (fun ls (hl : lv_has ls 4 [(3, .int 0), (2, .int t39), (0, .ref a0), (1, .int v1)]) => ?_)
          obtain ⟨l42, el42, hf⟩ := bvf2 hf
          obtain ⟨v2_1, hz, hf⟩ := bd1_e hf
          have hE42 : ∀ (H : Heap) (locs : List Loc) (ls : Array Slot), va_P g.1 vwCl (w_X5_namedHarbour g a0 a1 a2 a3 a4 a5 u0_1 u0_4 u0_5 u0_8 u0_9 u0_10 u0_11 u0_12 u0_13 u1_0 u1_2 u1_3 u1_4 u3_1 u3_2 u3_3 x0_length x0_wordStart x0_wordLength y2_text x3_count y4_length y5_letters) H → va_D A (w_X5_namedHarbour g a0 a1 a2 a3 a4 a5 u0_1 u0_4 u0_5 u0_8 u0_9 u0_10 u0_11 u0_12 u0_13 u1_0 u1_2 u1_3 u1_4 u3_1 u3_2 u3_3 x0_length x0_wordStart x0_wordLength y2_text x3_count y4_length y5_letters) → va_S A s.heap H locs → lv_has ls 4 [(0, .ref a0), (1, .int v1), (2, .int v2_1)] → W p l e (RM 3 68) s m args below meth c H locs 0 0 Q (F0 m 91 ls []) := by
            intro H locs ls hP hD hS hl
            refine lv_iload_n (pc := 91) hexec hb dX5_namedHarbour_91 rfl (lv_at hl 2 rfl) ?_
            refine kb_eq (pc := 92) hexec hb dX5_namedHarbour_92 (tgt := 97) rfl hf (fun hc hf => ?_) (fun hc hf => ?_)
            · obtain ⟨v1_1, ev1_1, hf⟩ := bv_e hf
              refine k_iinc (pc := 97) hexec hb dX5_namedHarbour_97 kq_1 hl (k := 1) rfl ev1_1 (nle rfl) rfl (fun ls (hl : lv_has ls 4 [(1, .int v1_1), (0, .ref a0), (2, .int v2_1)]) => ?_)
              refine lv_goto (pc := 100) hexec hb dX5_namedHarbour_100 (tgt := 2) rfl ?_
              exact ih2 _ _ _ _ (sl1 hf hk2) hP hD hS (lv_sub hl [1, 0] rfl)
            · have hf := mk1 hf hk2
              refine lv_iload_n (pc := 95) hexec hb dX5_namedHarbour_95 rfl (lv_at hl 1 rfl) ?_
              cases hf
              exact ke_i hQ hexec hb hr hP hD hS dX5_namedHarbour_96 hlocks
          obtain ⟨n, hz⟩ := lq2_e hz
          have hL42 : ∀ (n : Nat) (v2 : Int32) (v3 : Int32) (H : Heap) (locs : List Loc) (ls : Array Slot), it2 l42 n v2 v3 = some v2_1 → va_P g.1 vwCl (w_X5_namedHarbour g a0 a1 a2 a3 a4 a5 u0_1 u0_4 u0_5 u0_8 u0_9 u0_10 u0_11 u0_12 u0_13 u1_0 u1_2 u1_3 u1_4 u3_1 u3_2 u3_3 x0_length x0_wordStart x0_wordLength y2_text x3_count y4_length y5_letters) H → va_D A (w_X5_namedHarbour g a0 a1 a2 a3 a4 a5 u0_1 u0_4 u0_5 u0_8 u0_9 u0_10 u0_11 u0_12 u0_13 u1_0 u1_2 u1_3 u1_4 u3_1 u3_2 u3_3 x0_length x0_wordStart x0_wordLength y2_text x3_count y4_length y5_letters) → va_S A s.heap H locs → lv_has ls 4 [(0, .ref a0), (1, .int v1), (2, .int v2), (3, .int v3)] → W p l e (RM 3 68) s m args below meth c H locs 0 0 Q (F0 m 42 ls []) := by
            intro n
            induction n with
            | zero =>
              intro v2 v3 H locs ls hf hP hD hS hl
              exact it2_0 hf
            | succ n42 ih42 =>
              intro v2 v3 H locs ls hf hP hD hS hl
              obtain ⟨q42, hf, hk42⟩ := it2_e hf
              have hf := (el42 v2 v3).symm.trans hf
              refine lv_iload_n (pc := 42) hexec hb dX5_namedHarbour_42 rfl (lv_at hl 3 rfl) ?_
              refine lv_aload_n (pc := 43) hexec hb dX5_namedHarbour_43 rfl (lv_at hl 0 rfl) ?_
              refine kg_get (pc := 44) hexec hb (own := RX5) hWX5 hown hG hP 0 rfl rfl 7 (nle rfl) (hts _ (List.mem_cons_of_mem _ (List.mem_append_left _ (List.mem_append_left _ (List.mem_append_left _ (List.mem_of_getElem? (i := 1) rfl)))))) rfl rfl dX5_namedHarbour_44 ?_
              refine ki_ge (pc := 47) hexec hb dX5_namedHarbour_47 (tgt := 91) rfl hf (fun hc hf => ?_) (fun hc hf => ?_)
              · cases sr2 hf hk42
                exact hE42 _ _ _ hP hD hS (lv_sub hl [0, 1, 2] rfl)
              · refine lv_iload_n (pc := 50) hexec hb dX5_namedHarbour_50 rfl (lv_at hl 2 rfl) ?_
                refine kb_eq (pc := 51) hexec hb dX5_namedHarbour_51 (tgt := 91) rfl hf (fun hc hf => ?_) (fun hc hf => ?_)
                · cases sr2 hf hk42
                  exact hE42 _ _ _ hP hD hS (lv_sub hl [0, 1, 2] rfl)
                · refine lv_aload_n (pc := 54) hexec hb dX5_namedHarbour_54 rfl (lv_at hl 0 rfl) ?_
                  refine kg_get (pc := 55) hexec hb (own := RX5) hWX5 hown hG hP 0 rfl rfl 0 (nle rfl) (hts _ (List.mem_cons_of_mem _ (List.mem_append_left _ (List.mem_append_left _ (List.mem_append_left _ (List.mem_of_getElem? (i := 0) rfl)))))) rfl rfl dX5_namedHarbour_55 ?_
                  refine kg_getN (pc := 58) hexec hb (own := RX5) hWX6 hown hG hP 1 rfl rfl 1 (nle rfl) 26 rfl rfl rfl dX5_namedHarbour_58 ?_
                  refine lv_iload_n (pc := 61) hexec hb dX5_namedHarbour_61 rfl (lv_at hl 1 rfl) ?_
                  refine lv_iload_n (pc := 62) hexec hb dX5_namedHarbour_62 rfl (lv_at hl 3 rfl) ?_
                  obtain ⟨r63, hc, hf⟩ := bd1_e hf
                  refine kVp (pc := 63) (S := ⟨hexec, hb, hml, hown, hts⟩) hP hD hG hA hS [3, 4, 5] [0, 1, 2] [0, 1, 2, 3, 4, 5] (w2 := (w_X5_namedHarbour g a0 a1 a2 a3 a4 a5 u0_1 u0_4 u0_5 u0_8 u0_9 u0_10 u0_11 u0_12 u0_13 u1_0 u1_2 u1_3 u1_4 u3_1 u3_2 u3_3 x0_length x0_wordStart x0_wordLength y2_text x3_count y4_length y5_letters)) rfl rfl rfl rfl rfl rfl (by decide) (c_X2_letterOf l g a3 a4 a5 _ u3_1 u3_2 u3_3 x3_count y4_length y5_letters v1 v3 r63 hc) gX5_namedHarbour_X2_letterOf rfl hv_X2_letterOf ⟨nle rfl, nle rfl⟩ 2 0 rfl rfl rfl (rest := []) rfl rfl hl.1 (nle rfl) dX5_namedHarbour_63 (fun H locs hP hD hS => ?_)
                  refine lv_aload_n (pc := 66) hexec hb dX5_namedHarbour_66 rfl (lv_at hl 0 rfl) ?_
                  refine lv_aload_n (pc := 67) hexec hb dX5_namedHarbour_67 rfl (lv_at hl 0 rfl) ?_
                  refine kg_get (pc := 68) hexec hb (own := RX5) hWX5 hown hG hP 0 rfl rfl 6 (nle rfl) (hts _ (List.mem_cons_of_mem _ (List.mem_append_left _ (List.mem_append_left _ (List.mem_append_left _ (List.mem_of_getElem? (i := 2) rfl)))))) rfl rfl dX5_namedHarbour_68 ?_
                  refine lv_iload_n (pc := 71) hexec hb dX5_namedHarbour_71 rfl (lv_at hl 3 rfl) ?_
                  refine lv_iadd (pc := 72) hexec hb dX5_namedHarbour_72 ?_
                  obtain ⟨r73, hc, hf⟩ := bd1_e hf
                  refine kVp (pc := 73) (S := ⟨hexec, hb, hml, hown, hts⟩) hP hD hG hA hS [0, 2] [1, 3, 4, 5] [4, 0, 5, 1, 2, 3] (w2 := (w_X5_namedHarbour g a0 a1 a2 a3 a4 a5 u0_1 u0_4 u0_5 u0_8 u0_9 u0_10 u0_11 u0_12 u0_13 u1_0 u1_2 u1_3 u1_4 u3_1 u3_2 u3_3 x0_length x0_wordStart x0_wordLength y2_text x3_count y4_length y5_letters)) rfl rfl rfl rfl rfl rfl (by decide) (c_X5_signAt l g a0 a2 _ (.ref a1) u0_1 u0_4 u0_5 (.int x0_wordStart) (.int x0_wordLength) u0_8 u0_9 u0_10 u0_11 u0_12 u0_13 x0_length y2_text (x0_wordStart + v3) r73 hc) gX5_namedHarbour_X5_signAt rfl hv_X5_signAt ⟨nle rfl, nle rfl⟩ 5 0 rfl rfl rfl (rest := [.int r63]) rfl rfl hl.1 (nle rfl) dX5_namedHarbour_73 (fun H locs hP hD hS => ?_)
                  obtain ⟨j84, ej84, hf⟩ := bvf1 hf
                  have hj84 : ∀ (t84 : Int32) (H : Heap) (locs : List Loc) (ls : Array Slot), j84 t84 = some q42 → va_P g.1 vwCl (w_X5_namedHarbour g a0 a1 a2 a3 a4 a5 u0_1 u0_4 u0_5 u0_8 u0_9 u0_10 u0_11 u0_12 u0_13 u1_0 u1_2 u1_3 u1_4 u3_1 u3_2 u3_3 x0_length x0_wordStart x0_wordLength y2_text x3_count y4_length y5_letters) H → va_D A (w_X5_namedHarbour g a0 a1 a2 a3 a4 a5 u0_1 u0_4 u0_5 u0_8 u0_9 u0_10 u0_11 u0_12 u0_13 u1_0 u1_2 u1_3 u1_4 u3_1 u3_2 u3_3 x0_length x0_wordStart x0_wordLength y2_text x3_count y4_length y5_letters) → va_S A s.heap H locs → lv_has ls 4 [(0, .ref a0), (1, .int v1), (3, .int v3)] → W p l e (RM 3 68) s m args below meth c H locs 0 0 Q (F0 m 84 ls [.int t84]) := by
                    intro t84 H locs ls hf hP hD hS hl
                    have hf := (ej84 t84).symm.trans hf
                    refine lv_istore_n (pc := 84) hexec hb dX5_namedHarbour_84 rfl hl (nle rfl) rfl (fun ls (hl : lv_has ls 4 [(2, .int t84), (0, .ref a0), (1, .int v1), (3, .int v3)]) => ?_)
                    obtain ⟨v3_1, ev3_1, hf⟩ := bv_e hf
                    refine k_iinc (pc := 85) hexec hb dX5_namedHarbour_85 kq_1 hl (k := 3) rfl ev3_1 (nle rfl) rfl (fun ls (hl : lv_has ls 4 [(3, .int v3_1), (2, .int t84), (0, .ref a0), (1, .int v1)]) => ?_)
                    refine lv_goto (pc := 88) hexec hb dX5_namedHarbour_88 (tgt := 42) rfl ?_
                    exact ih42 _ _ _ _ _ (sl2 hf hk42) hP hD hS (lv_sub hl [2, 3, 1, 0] rfl)
                  refine ki_ne (pc := 76) hexec hb dX5_namedHarbour_76 (tgt := 83) rfl hf (fun hc hf => ?_) (fun hc hf => ?_)
                  · refine lv_iconst (pc := 83) hexec hb dX5_namedHarbour_83 ki_0 ?_
                    exact hj84 _ _ _ _ hf hP hD hS (lv_sub hl [0, 1, 3] rfl)
                  · refine lv_iconst (pc := 79) hexec hb dX5_namedHarbour_79 ki_1 ?_
                    refine lv_goto (pc := 80) hexec hb dX5_namedHarbour_80 (tgt := 84) rfl ?_
                    exact hj84 _ _ _ _ hf hP hD hS (lv_sub hl [0, 1, 3] rfl)
          exact hL42 n _ _ _ _ _ hz hP hD hS (lv_sub hl [2, 3, 1, 0] rfl)
        refine ki_ne (pc := 31) hexec hb dX5_namedHarbour_31 (tgt := 38) rfl hf (fun hc hf => ?_) (fun hc hf => ?_)
        · refine lv_iconst (pc := 38) hexec hb dX5_namedHarbour_38 ki_0 ?_
          exact hj39 _ _ _ _ hf hP hD hS (lv_sub hl [0, 1] rfl)
        · refine lv_iconst (pc := 34) hexec hb dX5_namedHarbour_34 ki_1 ?_
          refine lv_goto (pc := 35) hexec hb dX5_namedHarbour_35 (tgt := 39) rfl ?_
          exact hj39 _ _ _ _ hf hP hD hS (lv_sub hl [0, 1] rfl)
  exact hL2 n _ _ _ _ hz hP hD hS (lv_sub hl [1, 0] rfl)
abbrev w_X5_takeCell (g : GE) (a0 a1 a2 a3 : Nat) (u0_1 u0_5 u0_6 u0_7 u0_11 u1_1 u1_2 u1_3 u1_4 u3_2 u3_3 u3_4 u3_5 : Value) (x0_length : Int32) (x0_at : Int32) (x0_numberStart : Int32) (x0_number : Int32) (x0_cell : Int32) (x0_error : Int32) (x0_errorAt : Int32) (y2_text : Nat → Int32) (x3_rows : Int32) (x3_columns : Int32) : va_W := [(a0, .inr (5, [.ref a1, u0_1, .ref a2, .int x0_length, .int x0_at, u0_5, u0_6, u0_7, .int x0_numberStart, .int x0_number, .int x0_cell, u0_11, .int x0_error, .int x0_errorAt])), (a1, .inr (6, [.ref a3, u1_1, u1_2, u1_3, u1_4])), (a2, .inl (g.2.1 0, 500, .inl y2_text)), (a3, .inr (1, [.int x3_rows, .int x3_columns, u3_2, u3_3, u3_4, u3_5]))]
noncomputable def f_X5_takeCell (x0_length : Int32) (x0_at : Int32) (x0_numberStart : Int32) (x0_number : Int32) (x0_cell : Int32) (x0_error : Int32) (x0_errorAt : Int32) (y2_text : Nat → Int32) (x3_rows : Int32) (x3_columns : Int32)  : Option (Int32 × Int32 × Int32 × Int32 × Int32 × Int32 × Int32) :=
  bd6 (f_X5_takeNumber x0_length x0_at x0_numberStart x0_number x0_error x0_errorAt y2_text 0 (x3_rows - 1)) fun (r14 : Int32) (x0_at_1 : Int32) (x0_numberStart_1 : Int32) (x0_number_1 : Int32) (x0_error_1 : Int32) (x0_errorAt_1 : Int32) =>
  (if r14 = 0 then (
    some (0, x0_at_1, x0_numberStart_1, x0_number_1, x0_cell, x0_error_1, x0_errorAt_1)
  ) else (
    bd6 (f_X5_takeNumber x0_length x0_at_1 x0_numberStart_1 x0_number_1 x0_error_1 x0_errorAt_1 y2_text 0 (x3_columns - 1)) fun (r41 : Int32) (x0_at_2 : Int32) (x0_numberStart_2 : Int32) (x0_number_2 : Int32) (x0_error_2 : Int32) (x0_errorAt_2 : Int32) =>
    (if r41 = 0 then (
      some (0, x0_at_2, x0_numberStart_2, x0_number_2, x0_cell, x0_error_2, x0_errorAt_2)
    ) else (
      bv ((x0_number_1 * x3_columns) + x0_number_2) fun x0_cell_1 =>
      some (1, x0_at_2, x0_numberStart_2, x0_number_2, x0_cell_1, x0_error_2, x0_errorAt_2)
    ))
  ))
set_option maxRecDepth 4000 in
theorem c_X5_takeCell (l : Launch) (g : GE) (a0 a1 a2 a3 : Nat) (sz : Nat) (u0_1 u0_5 u0_6 u0_7 u0_11 u1_1 u1_2 u1_3 u1_4 u3_2 u3_3 u3_4 u3_5 : Value) (x0_length : Int32) (x0_at : Int32) (x0_numberStart : Int32) (x0_number : Int32) (x0_cell : Int32) (x0_error : Int32) (x0_errorAt : Int32) (y2_text : Nat → Int32) (x3_rows : Int32) (x3_columns : Int32)  (r : Int32) (o_x0_at : Int32) (o_x0_numberStart : Int32) (o_x0_number : Int32) (o_x0_cell : Int32) (o_x0_error : Int32) (o_x0_errorAt : Int32) (hf : f_X5_takeCell x0_length x0_at x0_numberStart x0_number x0_cell x0_error x0_errorAt y2_text x3_rows x3_columns = some (r, o_x0_at, o_x0_numberStart, o_x0_number, o_x0_cell, o_x0_error, o_x0_errorAt)) : MI l g yX5_takeCell wsX5_takeCell 4 89 [.ref a0] (w_X5_takeCell g a0 a1 a2 a3 u0_1 u0_5 u0_6 u0_7 u0_11 u1_1 u1_2 u1_3 u1_4 u3_2 u3_3 u3_4 u3_5 x0_length x0_at x0_numberStart x0_number x0_cell x0_error x0_errorAt y2_text x3_rows x3_columns) sz (some (.int r)) (w_X5_takeCell g a0 a1 a2 a3 u0_1 u0_5 u0_6 u0_7 u0_11 u1_1 u1_2 u1_3 u1_4 u3_2 u3_3 u3_4 u3_5 x0_length o_x0_at o_x0_numberStart o_x0_number o_x0_cell o_x0_error o_x0_errorAt y2_text x3_rows x3_columns) := by
  refine MI.start (cc := cX5_takeCell) (maxL := 2) (ret := (some .boolean)) rfl rfl (nle rfl) ?_
  intro p e s m args below meth c A ls Q hQ hexec hb hr hts hown hlocks hml hA hP hD hG hS hl
  unfold f_X5_takeCell at hf
  have hWX1 : ∀ w ∈ wsX10, w.before args s = true := fun w h => hts w (List.mem_cons_of_mem _ (List.mem_append_right _ h))
  have hWX5 : ∀ w ∈ wsX50, w.before args s = true := fun w h => hts w (List.mem_cons_of_mem _ (List.mem_append_left _ (List.mem_append_left _ (List.mem_append_right _ h))))
  have hWX6 : ∀ w ∈ wsX60, w.before args s = true := fun w h => hts w (List.mem_cons_of_mem _ (List.mem_append_left _ (List.mem_append_right _ h)))
  have hS : va_S A s.heap s.heap [] := hS
  refine lv_aload_n (pc := 0) hexec hb dX5_takeCell_0 rfl (lv_at hl 0 rfl) ?_
  refine lv_iconst (pc := 1) hexec hb dX5_takeCell_1 ki_0 ?_
  refine lv_aload_n (pc := 2) hexec hb dX5_takeCell_2 rfl (lv_at hl 0 rfl) ?_
  refine kg_get (pc := 3) hexec hb (own := RX5) hWX5 hown hG hP 0 rfl rfl 0 (nle rfl) (hts _ (List.mem_cons_of_mem _ (List.mem_append_left _ (List.mem_append_left _ (List.mem_append_left _ (List.mem_append_left _ (List.mem_of_getElem? (i := 0) rfl))))))) rfl rfl dX5_takeCell_3 ?_
  refine kg_getN (pc := 6) hexec hb (own := RX5) hWX6 hown hG hP 1 rfl rfl 0 (nle rfl) 23 rfl rfl rfl dX5_takeCell_6 ?_
  refine kg_getN (pc := 9) hexec hb (own := RX5) hWX1 hown hG hP 3 rfl rfl 0 (nle rfl) 1 rfl rfl rfl dX5_takeCell_9 ?_
  refine lv_iconst (pc := 12) hexec hb dX5_takeCell_12 ki_1 ?_
  refine lv_isub (pc := 13) hexec hb dX5_takeCell_13 ?_
  obtain ⟨r14, x0_at_1, x0_numberStart_1, x0_number_1, x0_error_1, x0_errorAt_1, hc, hf⟩ := bd6_e hf
  refine kVp (pc := 14) (S := ⟨hexec, hb, hml, hown, hts⟩) hP hD hG hA hS [0, 2] [1, 3] [2, 0, 3, 1] (w2 := (w_X5_takeCell g a0 a1 a2 a3 u0_1 u0_5 u0_6 u0_7 u0_11 u1_1 u1_2 u1_3 u1_4 u3_2 u3_3 u3_4 u3_5 x0_length x0_at_1 x0_numberStart_1 x0_number_1 x0_cell x0_error_1 x0_errorAt_1 y2_text x3_rows x3_columns)) rfl rfl rfl rfl rfl rfl (by decide) (c_X5_takeNumber l g a0 a2 _ (.ref a1) u0_1 u0_5 u0_6 u0_7 (.int x0_cell) u0_11 x0_length x0_at x0_numberStart x0_number x0_error x0_errorAt y2_text 0 (x3_rows - 1) r14 x0_at_1 x0_numberStart_1 x0_number_1 x0_error_1 x0_errorAt_1 hc) gX5_takeCell_X5_takeNumber rfl hv_X5_takeNumber ⟨nle rfl, nle rfl⟩ 5 0 rfl rfl rfl (rest := []) rfl rfl hl.1 (nle rfl) dX5_takeCell_14 (fun H locs hP hD hS => ?_)
  refine kb_ne (pc := 17) hexec hb dX5_takeCell_17 (tgt := 22) rfl hf (fun hc hf => ?_) (fun hc hf => ?_)
  · refine lv_aload_n (pc := 22) hexec hb dX5_takeCell_22 rfl (lv_at hl 0 rfl) ?_
    refine kg_get (pc := 23) hexec hb (own := RX5) hWX5 hown hG hP 0 rfl rfl 9 (nle rfl) (hts _ (List.mem_cons_of_mem _ (List.mem_append_left _ (List.mem_append_left _ (List.mem_append_left _ (List.mem_append_left _ (List.mem_of_getElem? (i := 1) rfl))))))) rfl rfl dX5_takeCell_23 ?_
    refine lv_istore_n (pc := 26) hexec hb dX5_takeCell_26 rfl hl (nle rfl) rfl (fun ls (hl : lv_has ls 2 [(1, .int x0_number_1), (0, .ref a0)]) => ?_)
    refine lv_aload_n (pc := 27) hexec hb dX5_takeCell_27 rfl (lv_at hl 1 rfl) ?_
    refine lv_iconst (pc := 28) hexec hb dX5_takeCell_28 ki_0 ?_
    refine lv_aload_n (pc := 29) hexec hb dX5_takeCell_29 rfl (lv_at hl 1 rfl) ?_
    refine kg_get (pc := 30) hexec hb (own := RX5) hWX5 hown hG hP 0 rfl rfl 0 (nle rfl) (hts _ (List.mem_cons_of_mem _ (List.mem_append_left _ (List.mem_append_left _ (List.mem_append_left _ (List.mem_append_left _ (List.mem_of_getElem? (i := 0) rfl))))))) rfl rfl dX5_takeCell_30 ?_
    refine kg_getN (pc := 33) hexec hb (own := RX5) hWX6 hown hG hP 1 rfl rfl 0 (nle rfl) 23 rfl rfl rfl dX5_takeCell_33 ?_
    refine kg_getN (pc := 36) hexec hb (own := RX5) hWX1 hown hG hP 3 rfl rfl 1 (nle rfl) 3 rfl rfl rfl dX5_takeCell_36 ?_
    refine lv_iconst (pc := 39) hexec hb dX5_takeCell_39 ki_1 ?_
    refine lv_isub (pc := 40) hexec hb dX5_takeCell_40 ?_
    obtain ⟨r41, x0_at_2, x0_numberStart_2, x0_number_2, x0_error_2, x0_errorAt_2, hc, hf⟩ := bd6_e hf
    refine kVp (pc := 41) (S := ⟨hexec, hb, hml, hown, hts⟩) hP hD hG hA hS [0, 2] [1, 3] [2, 0, 3, 1] (w2 := (w_X5_takeCell g a0 a1 a2 a3 u0_1 u0_5 u0_6 u0_7 u0_11 u1_1 u1_2 u1_3 u1_4 u3_2 u3_3 u3_4 u3_5 x0_length x0_at_2 x0_numberStart_2 x0_number_2 x0_cell x0_error_2 x0_errorAt_2 y2_text x3_rows x3_columns)) rfl rfl rfl rfl rfl rfl (by decide) (c_X5_takeNumber l g a0 a2 _ (.ref a1) u0_1 u0_5 u0_6 u0_7 (.int x0_cell) u0_11 x0_length x0_at_1 x0_numberStart_1 x0_number_1 x0_error_1 x0_errorAt_1 y2_text 0 (x3_columns - 1) r41 x0_at_2 x0_numberStart_2 x0_number_2 x0_error_2 x0_errorAt_2 hc) gX5_takeCell_X5_takeNumber rfl hv_X5_takeNumber ⟨nle rfl, nle rfl⟩ 5 0 rfl rfl rfl (rest := []) rfl rfl hl.1 (nle rfl) dX5_takeCell_41 (fun H locs hP hD hS => ?_)
    refine kb_ne (pc := 44) hexec hb dX5_takeCell_44 (tgt := 49) rfl hf (fun hc hf => ?_) (fun hc hf => ?_)
    · refine lv_aload_n (pc := 49) hexec hb dX5_takeCell_49 rfl (lv_at hl 1 rfl) ?_
      refine lv_iload_n (pc := 50) hexec hb dX5_takeCell_50 rfl (lv_at hl 0 rfl) ?_
      refine lv_aload_n (pc := 51) hexec hb dX5_takeCell_51 rfl (lv_at hl 1 rfl) ?_
      refine kg_get (pc := 52) hexec hb (own := RX5) hWX5 hown hG hP 0 rfl rfl 0 (nle rfl) (hts _ (List.mem_cons_of_mem _ (List.mem_append_left _ (List.mem_append_left _ (List.mem_append_left _ (List.mem_append_left _ (List.mem_of_getElem? (i := 0) rfl))))))) rfl rfl dX5_takeCell_52 ?_
      refine kg_getN (pc := 55) hexec hb (own := RX5) hWX6 hown hG hP 1 rfl rfl 0 (nle rfl) 23 rfl rfl rfl dX5_takeCell_55 ?_
      refine kg_getN (pc := 58) hexec hb (own := RX5) hWX1 hown hG hP 3 rfl rfl 1 (nle rfl) 3 rfl rfl rfl dX5_takeCell_58 ?_
      refine lv_imul (pc := 61) hexec hb dX5_takeCell_61 ?_
      refine lv_aload_n (pc := 62) hexec hb dX5_takeCell_62 rfl (lv_at hl 1 rfl) ?_
      refine kg_get (pc := 63) hexec hb (own := RX5) hWX5 hown hG hP 0 rfl rfl 9 (nle rfl) (hts _ (List.mem_cons_of_mem _ (List.mem_append_left _ (List.mem_append_left _ (List.mem_append_left _ (List.mem_append_left _ (List.mem_of_getElem? (i := 1) rfl))))))) rfl rfl dX5_takeCell_63 ?_
      refine lv_iadd (pc := 66) hexec hb dX5_takeCell_66 ?_
      obtain ⟨x0_cell_1, ex0_cell_1, hf⟩ := bv_e hf
      refine kn_i ex0_cell_1 ?_
      refine kp_put (pc := 67) hexec hb (own := RX5) hWX5 tyX5 tyX5_ok nmX5 hown hG hP hD hS 0 rfl rfl 10 (nle rfl) (hts _ (List.mem_cons_of_mem _ (List.mem_append_left _ (List.mem_append_left _ (List.mem_append_left _ (List.mem_append_left _ (List.mem_of_getElem? (i := 2) rfl))))))) rfl rfl rfl rfl (nle rfl) dX5_takeCell_67 (fun H locs (hP : va_P g.1 vwCl (w_X5_takeCell g a0 a1 a2 a3 u0_1 u0_5 u0_6 u0_7 u0_11 u1_1 u1_2 u1_3 u1_4 u3_2 u3_3 u3_4 u3_5 x0_length x0_at_2 x0_numberStart_2 x0_number_2 x0_cell_1 x0_error_2 x0_errorAt_2 y2_text x3_rows x3_columns) H) (hD : va_D A (w_X5_takeCell g a0 a1 a2 a3 u0_1 u0_5 u0_6 u0_7 u0_11 u1_1 u1_2 u1_3 u1_4 u3_2 u3_3 u3_4 u3_5 x0_length x0_at_2 x0_numberStart_2 x0_number_2 x0_cell_1 x0_error_2 x0_errorAt_2 y2_text x3_rows x3_columns)) hS => ?_)
      refine lv_iconst (pc := 70) hexec hb dX5_takeCell_70 ki_1 ?_
      cases hf
      exact ke_z hQ hexec hb hr (.inr rfl) hP hD hS dX5_takeCell_71 hlocks
    · refine lv_iconst (pc := 47) hexec hb dX5_takeCell_47 ki_0 ?_
      cases hf
      exact ke_z hQ hexec hb hr (.inl rfl) hP hD hS dX5_takeCell_48 hlocks
  · refine lv_iconst (pc := 20) hexec hb dX5_takeCell_20 ki_0 ?_
    cases hf
    exact ke_z hQ hexec hb hr (.inl rfl) hP hD hS dX5_takeCell_21 hlocks
abbrev w_X5_takeSemicolon (g : GE) (a0 a1 : Nat) (u0_0 u0_1 u0_5 u0_6 u0_7 u0_8 u0_9 u0_10 : Value) (x0_length : Int32) (x0_at : Int32) (x0_statement : Int32) (x0_error : Int32) (x0_errorAt : Int32) (y1_text : Nat → Int32) : va_W := [(a0, .inr (5, [u0_0, u0_1, .ref a1, .int x0_length, .int x0_at, u0_5, u0_6, u0_7, u0_8, u0_9, u0_10, .int x0_statement, .int x0_error, .int x0_errorAt])), (a1, .inl (g.2.1 0, 500, .inl y1_text))]
noncomputable def f_X5_takeSemicolon (x0_length : Int32) (x0_at : Int32) (x0_statement : Int32) (x0_error : Int32) (x0_errorAt : Int32) (y1_text : Nat → Int32)  : Option (Int32 × Int32 × Int32 × Int32 × Int32) :=
  bd2 (f_X5_nextSign x0_length x0_at y1_text) fun (r1 : Int32) (x0_at_1 : Int32) =>
  (if r1 = 59 then (
    bv (x0_at_1 + 1) fun x0_at_2 =>
    bv (x0_statement + 1) fun x0_statement_1 =>
    some (1, x0_at_2, x0_statement_1, x0_error, x0_errorAt)
  ) else (
    bd3 (f_X5_fail x0_error x0_errorAt 1 x0_at_1) fun (r15 : Int32) (x0_error_1 : Int32) (x0_errorAt_1 : Int32) =>
    zb r15 (some (r15, x0_at_1, x0_statement, x0_error_1, x0_errorAt_1))
  ))
set_option maxRecDepth 4000 in
theorem c_X5_takeSemicolon (l : Launch) (g : GE) (a0 a1 : Nat) (sz : Nat) (u0_0 u0_1 u0_5 u0_6 u0_7 u0_8 u0_9 u0_10 : Value) (x0_length : Int32) (x0_at : Int32) (x0_statement : Int32) (x0_error : Int32) (x0_errorAt : Int32) (y1_text : Nat → Int32)  (r : Int32) (o_x0_at : Int32) (o_x0_statement : Int32) (o_x0_error : Int32) (o_x0_errorAt : Int32) (hf : f_X5_takeSemicolon x0_length x0_at x0_statement x0_error x0_errorAt y1_text = some (r, o_x0_at, o_x0_statement, o_x0_error, o_x0_errorAt)) : MI l g yX5_takeSemicolon wsX5_takeSemicolon 3 66 [.ref a0] (w_X5_takeSemicolon g a0 a1 u0_0 u0_1 u0_5 u0_6 u0_7 u0_8 u0_9 u0_10 x0_length x0_at x0_statement x0_error x0_errorAt y1_text) sz (some (.int r)) (w_X5_takeSemicolon g a0 a1 u0_0 u0_1 u0_5 u0_6 u0_7 u0_8 u0_9 u0_10 x0_length o_x0_at o_x0_statement o_x0_error o_x0_errorAt y1_text) := by
  refine MI.start (cc := cX5_takeSemicolon) (maxL := 1) (ret := (some .boolean)) rfl rfl (nle rfl) ?_
  intro p e s m args below meth c A ls Q hQ hexec hb hr hts hown hlocks hml hA hP hD hG hS hl
  unfold f_X5_takeSemicolon at hf
  have hWX5 : ∀ w ∈ wsX50, w.before args s = true := fun w h => hts w (List.mem_cons_of_mem _ (List.mem_append_right _ h))
  have hS : va_S A s.heap s.heap [] := hS
  refine lv_aload_n (pc := 0) hexec hb dX5_takeSemicolon_0 rfl (lv_at hl 0 rfl) ?_
  obtain ⟨r1, x0_at_1, hc, hf⟩ := bd2_e hf
  refine kVp (pc := 1) (S := ⟨hexec, hb, hml, hown, hts⟩) hP hD hG hA hS [0, 1] [] [0, 1] (w2 := (w_X5_takeSemicolon g a0 a1 u0_0 u0_1 u0_5 u0_6 u0_7 u0_8 u0_9 u0_10 x0_length x0_at_1 x0_statement x0_error x0_errorAt y1_text)) rfl rfl rfl rfl rfl rfl (by decide) (c_X5_nextSign l g a0 a1 _ u0_0 u0_1 u0_5 u0_6 u0_7 u0_8 u0_9 u0_10 (.int x0_statement) (.int x0_error) (.int x0_errorAt) x0_length x0_at y1_text r1 x0_at_1 hc) gX5_takeSemicolon_X5_nextSign rfl hv_X5_nextSign ⟨nle rfl, nle rfl⟩ 5 0 rfl rfl rfl (rest := []) rfl rfl hl.1 (nle rfl) dX5_takeSemicolon_1 (fun H locs hP hD hS => ?_)
  refine lv_bipush (pc := 4) hexec hb dX5_takeSemicolon_4 kb_59 ?_
  refine ki_eq (pc := 6) hexec hb dX5_takeSemicolon_6 (tgt := 19) rfl hf (fun hc hf => ?_) (fun hc hf => ?_)
  · refine lv_aload_n (pc := 19) hexec hb dX5_takeSemicolon_19 rfl (lv_at hl 0 rfl) ?_
    refine lv_dup (pc := 20) hexec hb dX5_takeSemicolon_20 rfl ?_
    refine kg_get (pc := 21) hexec hb (own := RX5) hWX5 hown hG hP 0 rfl rfl 4 (nle rfl) (hts _ (List.mem_cons_of_mem _ (List.mem_append_left _ (List.mem_of_getElem? (i := 0) rfl)))) rfl rfl dX5_takeSemicolon_21 ?_
    refine lv_iconst (pc := 24) hexec hb dX5_takeSemicolon_24 ki_1 ?_
    refine lv_iadd (pc := 25) hexec hb dX5_takeSemicolon_25 ?_
    obtain ⟨x0_at_2, ex0_at_2, hf⟩ := bv_e hf
    refine kn_i ex0_at_2 ?_
    refine kp_put (pc := 26) hexec hb (own := RX5) hWX5 tyX5 tyX5_ok nmX5 hown hG hP hD hS 0 rfl rfl 4 (nle rfl) (hts _ (List.mem_cons_of_mem _ (List.mem_append_left _ (List.mem_of_getElem? (i := 0) rfl)))) rfl rfl rfl rfl (nle rfl) dX5_takeSemicolon_26 (fun H locs (hP : va_P g.1 vwCl (w_X5_takeSemicolon g a0 a1 u0_0 u0_1 u0_5 u0_6 u0_7 u0_8 u0_9 u0_10 x0_length x0_at_2 x0_statement x0_error x0_errorAt y1_text) H) (hD : va_D A (w_X5_takeSemicolon g a0 a1 u0_0 u0_1 u0_5 u0_6 u0_7 u0_8 u0_9 u0_10 x0_length x0_at_2 x0_statement x0_error x0_errorAt y1_text)) hS => ?_)
    refine lv_aload_n (pc := 29) hexec hb dX5_takeSemicolon_29 rfl (lv_at hl 0 rfl) ?_
    refine lv_dup (pc := 30) hexec hb dX5_takeSemicolon_30 rfl ?_
    refine kg_get (pc := 31) hexec hb (own := RX5) hWX5 hown hG hP 0 rfl rfl 11 (nle rfl) (hts _ (List.mem_cons_of_mem _ (List.mem_append_left _ (List.mem_of_getElem? (i := 1) rfl)))) rfl rfl dX5_takeSemicolon_31 ?_
    refine lv_iconst (pc := 34) hexec hb dX5_takeSemicolon_34 ki_1 ?_
    refine lv_iadd (pc := 35) hexec hb dX5_takeSemicolon_35 ?_
    obtain ⟨x0_statement_1, ex0_statement_1, hf⟩ := bv_e hf
    refine kn_i ex0_statement_1 ?_
    refine kp_put (pc := 36) hexec hb (own := RX5) hWX5 tyX5 tyX5_ok nmX5 hown hG hP hD hS 0 rfl rfl 11 (nle rfl) (hts _ (List.mem_cons_of_mem _ (List.mem_append_left _ (List.mem_of_getElem? (i := 1) rfl)))) rfl rfl rfl rfl (nle rfl) dX5_takeSemicolon_36 (fun H locs (hP : va_P g.1 vwCl (w_X5_takeSemicolon g a0 a1 u0_0 u0_1 u0_5 u0_6 u0_7 u0_8 u0_9 u0_10 x0_length x0_at_2 x0_statement_1 x0_error x0_errorAt y1_text) H) (hD : va_D A (w_X5_takeSemicolon g a0 a1 u0_0 u0_1 u0_5 u0_6 u0_7 u0_8 u0_9 u0_10 x0_length x0_at_2 x0_statement_1 x0_error x0_errorAt y1_text)) hS => ?_)
    refine lv_iconst (pc := 39) hexec hb dX5_takeSemicolon_39 ki_1 ?_
    cases hf
    exact ke_z hQ hexec hb hr (.inr rfl) hP hD hS dX5_takeSemicolon_40 hlocks
  · refine lv_aload_n (pc := 9) hexec hb dX5_takeSemicolon_9 rfl (lv_at hl 0 rfl) ?_
    refine lv_iconst (pc := 10) hexec hb dX5_takeSemicolon_10 ki_1 ?_
    refine lv_aload_n (pc := 11) hexec hb dX5_takeSemicolon_11 rfl (lv_at hl 0 rfl) ?_
    refine kg_get (pc := 12) hexec hb (own := RX5) hWX5 hown hG hP 0 rfl rfl 4 (nle rfl) (hts _ (List.mem_cons_of_mem _ (List.mem_append_left _ (List.mem_of_getElem? (i := 0) rfl)))) rfl rfl dX5_takeSemicolon_12 ?_
    obtain ⟨r15, x0_error_1, x0_errorAt_1, hc, hf⟩ := bd3_e hf
    refine kVp (pc := 15) (S := ⟨hexec, hb, hml, hown, hts⟩) hP hD hG hA hS [0] [1] [1, 0] (w2 := (w_X5_takeSemicolon g a0 a1 u0_0 u0_1 u0_5 u0_6 u0_7 u0_8 u0_9 u0_10 x0_length x0_at_1 x0_statement x0_error_1 x0_errorAt_1 y1_text)) rfl rfl rfl rfl rfl rfl (by decide) (c_X5_fail l g a0 _ u0_0 u0_1 (.ref a1) (.int x0_length) (.int x0_at_1) u0_5 u0_6 u0_7 u0_8 u0_9 u0_10 (.int x0_statement) x0_error x0_errorAt 1 x0_at_1 r15 x0_error_1 x0_errorAt_1 hc) gX5_takeSemicolon_X5_fail rfl hv_X5_fail ⟨nle rfl, nle rfl⟩ 5 0 rfl rfl rfl (rest := []) rfl rfl hl.1 (nle rfl) dX5_takeSemicolon_15 (fun H locs hP hD hS => ?_)
    obtain ⟨hx, hf⟩ := zb_e hf
    cases hf
    exact ke_z hQ hexec hb hr hx hP hD hS dX5_takeSemicolon_18 hlocks
abbrev w_X5_readLand (g : GE) (a0 a1 a2 a3 a4 a5 : Nat) (u0_1 u0_5 u0_7 u0_11 u1_2 u1_3 u1_4 u3_4 u3_5 u4_1 u4_2 u4_3 u4_4 u4_5 : Value) (x0_length : Int32) (x0_at : Int32) (x0_wordStart : Int32) (x0_numberStart : Int32) (x0_number : Int32) (x0_cell : Int32) (x0_error : Int32) (x0_errorAt : Int32) (y2_text : Nat → Int32) (x3_rows : Int32) (x3_columns : Int32) (x3_rivers : Int32) (x4_count : Int32) (y5_land : Nat → Int32) : va_W := [(a0, .inr (5, [.ref a1, u0_1, .ref a2, .int x0_length, .int x0_at, u0_5, .int x0_wordStart, u0_7, .int x0_numberStart, .int x0_number, .int x0_cell, u0_11, .int x0_error, .int x0_errorAt])), (a1, .inr (6, [.ref a3, .ref a4, u1_2, u1_3, u1_4])), (a2, .inl (g.2.1 0, 500, .inl y2_text)), (a3, .inr (1, [.int x3_rows, .int x3_columns, .int x3_rivers, .ref a5, u3_4, u3_5])), (a4, .inr (2, [.int x4_count, u4_1, u4_2, u4_3, u4_4, u4_5])), (a5, .inl (g.2.1 1, 144, .inl y5_land))]
noncomputable def f_X5_readLand (x0_length : Int32) (x0_at : Int32) (x0_wordStart : Int32) (x0_numberStart : Int32) (x0_number : Int32) (x0_cell : Int32) (x0_error : Int32) (x0_errorAt : Int32) (y2_text : Nat → Int32) (x3_rows : Int32) (x3_columns : Int32) (x3_rivers : Int32) (x4_count : Int32) (y5_land : Nat → Int32)  : Option (Int32 × Int32 × Int32 × Int32 × Int32 × Int32 × Int32 × (Nat → Int32)) :=
  bv (fun (_ : Unit) => ((
    bd3 (f_X5_fail x0_error x0_errorAt 3 x0_wordStart) fun (r32 : Int32) (x0_error_1 : Int32) (x0_errorAt_1 : Int32) =>
    zb r32 (some (r32, x0_at, x0_numberStart, x0_number, x0_cell, x0_error_1, x0_errorAt_1, y5_land))
    ) : Option (Int32 × Int32 × Int32 × Int32 × Int32 × Int32 × Int32 × (Nat → Int32)))) fun j26 =>
  (if 0 < x4_count then (
    j26 ()
  ) else (
    (if x3_rivers ≤ 0 then (
      bd7 (f_X5_takeCell x0_length x0_at x0_numberStart x0_number x0_cell x0_error x0_errorAt y2_text x3_rows x3_columns) fun (r37 : Int32) (x0_at_1 : Int32) (x0_numberStart_1 : Int32) (x0_number_1 : Int32) (x0_cell_1 : Int32) (x0_error_2 : Int32) (x0_errorAt_2 : Int32) =>
      (if r37 = 0 then (
        some (0, x0_at_1, x0_numberStart_1, x0_number_1, x0_cell_1, x0_error_2, x0_errorAt_2, y5_land)
      ) else (
        bd6 (f_X5_takeNumber x0_length x0_at_1 x0_numberStart_1 x0_number_1 x0_error_2 x0_errorAt_2 y2_text x0_number_1 (x3_columns - 1)) fun (r67 : Int32) (x0_at_2 : Int32) (x0_numberStart_2 : Int32) (x0_number_2 : Int32) (x0_error_3 : Int32) (x0_errorAt_3 : Int32) =>
        (if r67 = 0 then (
          some (0, x0_at_2, x0_numberStart_2, x0_number_2, x0_cell_1, x0_error_3, x0_errorAt_3, y5_land)
        ) else (
          dv (if 1 < x3_columns then x3_columns else 1) <|
          bv ((x0_cell_1 - (x0_cell_1 - x0_cell_1 / (if 1 < x3_columns then x3_columns else 1) * (if 1 < x3_columns then x3_columns else 1))) + x0_number_2) fun v2 =>
          bv (fun (v3 : Int32) (y5_land_1 : Nat → Int32) => ((
            (if v2 < v3 then (
              some (.inr y5_land_1)
            ) else (
              bd1 (f_X1_setLand y5_land_1 v3 1) fun (y5_land_3 : Nat → Int32) =>
              bv (v3 + 1) fun v3_1 =>
              some (.inl (v3_1, y5_land_3))
            ))
            ) : Option ((Int32 × (Nat → Int32)) ⊕ ((Nat → Int32))))) fun l101 =>
          bd1 (lq2 l101 x0_cell_1 y5_land) fun (y5_land_2 : Nat → Int32) =>
          some (1, x0_at_2, x0_numberStart_2, x0_number_2, x0_cell_1, x0_error_3, x0_errorAt_3, y5_land_2)
        ))
      ))
    ) else (
      j26 ()
    ))
  ))
set_option maxRecDepth 4000 in
theorem c_X5_readLand (l : Launch) (g : GE) (a0 a1 a2 a3 a4 a5 : Nat) (sz : Nat) (u0_1 u0_5 u0_7 u0_11 u1_2 u1_3 u1_4 u3_4 u3_5 u4_1 u4_2 u4_3 u4_4 u4_5 : Value) (x0_length : Int32) (x0_at : Int32) (x0_wordStart : Int32) (x0_numberStart : Int32) (x0_number : Int32) (x0_cell : Int32) (x0_error : Int32) (x0_errorAt : Int32) (y2_text : Nat → Int32) (x3_rows : Int32) (x3_columns : Int32) (x3_rivers : Int32) (x4_count : Int32) (y5_land : Nat → Int32)  (r : Int32) (o_x0_at : Int32) (o_x0_numberStart : Int32) (o_x0_number : Int32) (o_x0_cell : Int32) (o_x0_error : Int32) (o_x0_errorAt : Int32) (o_y5_land : Nat → Int32) (hf : f_X5_readLand x0_length x0_at x0_wordStart x0_numberStart x0_number x0_cell x0_error x0_errorAt y2_text x3_rows x3_columns x3_rivers x4_count y5_land = some (r, o_x0_at, o_x0_numberStart, o_x0_number, o_x0_cell, o_x0_error, o_x0_errorAt, o_y5_land)) : MI l g yX5_readLand wsX5_readLand 5 110 [.ref a0] (w_X5_readLand g a0 a1 a2 a3 a4 a5 u0_1 u0_5 u0_7 u0_11 u1_2 u1_3 u1_4 u3_4 u3_5 u4_1 u4_2 u4_3 u4_4 u4_5 x0_length x0_at x0_wordStart x0_numberStart x0_number x0_cell x0_error x0_errorAt y2_text x3_rows x3_columns x3_rivers x4_count y5_land) sz (some (.int r)) (w_X5_readLand g a0 a1 a2 a3 a4 a5 u0_1 u0_5 u0_7 u0_11 u1_2 u1_3 u1_4 u3_4 u3_5 u4_1 u4_2 u4_3 u4_4 u4_5 x0_length o_x0_at x0_wordStart o_x0_numberStart o_x0_number o_x0_cell o_x0_error o_x0_errorAt y2_text x3_rows x3_columns x3_rivers x4_count o_y5_land) := by
  refine MI.start (cc := cX5_readLand) (maxL := 4) (ret := (some .boolean)) rfl rfl (nle rfl) ?_
  intro p e s m args below meth c A ls Q hQ hexec hb hr hts hown hlocks hml hA hP hD hG hS hl
  unfold f_X5_readLand at hf
  have hWX1 : ∀ w ∈ wsX10, w.before args s = true := fun w h => hts w (List.mem_cons_of_mem _ (List.mem_append_right _ h))
  have hWX2 : ∀ w ∈ wsX20, w.before args s = true := fun w h => hts w (List.mem_cons_of_mem _ (List.mem_append_left _ (List.mem_append_right _ h)))
  have hWX5 : ∀ w ∈ wsX50, w.before args s = true := fun w h => hts w (List.mem_cons_of_mem _ (List.mem_append_left _ (List.mem_append_left _ (List.mem_append_left _ (List.mem_append_right _ h)))))
  have hWX6 : ∀ w ∈ wsX60, w.before args s = true := fun w h => hts w (List.mem_cons_of_mem _ (List.mem_append_left _ (List.mem_append_left _ (List.mem_append_right _ h))))
  have hS : va_S A s.heap s.heap [] := hS
  refine lv_aload_n (pc := 0) hexec hb dX5_readLand_0 rfl (lv_at hl 0 rfl) ?_
  refine kg_get (pc := 1) hexec hb (own := RX5) hWX5 hown hG hP 0 rfl rfl 0 (nle rfl) (hts _ (List.mem_cons_of_mem _ (List.mem_append_left _ (List.mem_append_left _ (List.mem_append_left _ (List.mem_append_left _ (List.mem_append_left _ (List.mem_of_getElem? (i := 0) rfl)))))))) rfl rfl dX5_readLand_1 ?_
  refine kg_getN (pc := 4) hexec hb (own := RX5) hWX6 hown hG hP 1 rfl rfl 1 (nle rfl) 26 rfl rfl rfl dX5_readLand_4 ?_
  refine kg_getN (pc := 7) hexec hb (own := RX5) hWX2 hown hG hP 4 rfl rfl 0 (nle rfl) 9 rfl rfl rfl dX5_readLand_7 ?_
  obtain ⟨j26, ej26, hf⟩ := bvf1 hf
  have hj26 : ∀ (u : Unit) (H : Heap) (locs : List Loc) (ls : Array Slot), j26 u = some (r, o_x0_at, o_x0_numberStart, o_x0_number, o_x0_cell, o_x0_error, o_x0_errorAt, o_y5_land) → va_P g.1 vwCl (w_X5_readLand g a0 a1 a2 a3 a4 a5 u0_1 u0_5 u0_7 u0_11 u1_2 u1_3 u1_4 u3_4 u3_5 u4_1 u4_2 u4_3 u4_4 u4_5 x0_length x0_at x0_wordStart x0_numberStart x0_number x0_cell x0_error x0_errorAt y2_text x3_rows x3_columns x3_rivers x4_count y5_land) H → va_D A (w_X5_readLand g a0 a1 a2 a3 a4 a5 u0_1 u0_5 u0_7 u0_11 u1_2 u1_3 u1_4 u3_4 u3_5 u4_1 u4_2 u4_3 u4_4 u4_5 x0_length x0_at x0_wordStart x0_numberStart x0_number x0_cell x0_error x0_errorAt y2_text x3_rows x3_columns x3_rivers x4_count y5_land) → va_S A s.heap H locs → lv_has ls 4 [(0, .ref a0)] → W p l e (RM 5 110) s m args below meth c H locs 0 0 Q (F0 m 26 ls []) := by
    intro u H locs ls hf hP hD hS hl
    have hf := (ej26 u).symm.trans hf
    refine lv_aload_n (pc := 26) hexec hb dX5_readLand_26 rfl (lv_at hl 0 rfl) ?_
    refine lv_iconst (pc := 27) hexec hb dX5_readLand_27 ki_3 ?_
    refine lv_aload_n (pc := 28) hexec hb dX5_readLand_28 rfl (lv_at hl 0 rfl) ?_
    refine kg_get (pc := 29) hexec hb (own := RX5) hWX5 hown hG hP 0 rfl rfl 6 (nle rfl) (hts _ (List.mem_cons_of_mem _ (List.mem_append_left _ (List.mem_append_left _ (List.mem_append_left _ (List.mem_append_left _ (List.mem_append_left _ (List.mem_of_getElem? (i := 1) rfl)))))))) rfl rfl dX5_readLand_29 ?_
    obtain ⟨r32, x0_error_1, x0_errorAt_1, hc, hf⟩ := bd3_e hf
    refine kVp (pc := 32) (S := ⟨hexec, hb, hml, hown, hts⟩) hP hD hG hA hS [0] [1, 2, 3, 4, 5] [5, 0, 1, 2, 3, 4] (w2 := (w_X5_readLand g a0 a1 a2 a3 a4 a5 u0_1 u0_5 u0_7 u0_11 u1_2 u1_3 u1_4 u3_4 u3_5 u4_1 u4_2 u4_3 u4_4 u4_5 x0_length x0_at x0_wordStart x0_numberStart x0_number x0_cell x0_error_1 x0_errorAt_1 y2_text x3_rows x3_columns x3_rivers x4_count y5_land)) rfl rfl rfl rfl rfl rfl (by decide) (c_X5_fail l g a0 _ (.ref a1) u0_1 (.ref a2) (.int x0_length) (.int x0_at) u0_5 (.int x0_wordStart) u0_7 (.int x0_numberStart) (.int x0_number) (.int x0_cell) u0_11 x0_error x0_errorAt 3 x0_wordStart r32 x0_error_1 x0_errorAt_1 hc) gX5_readLand_X5_fail rfl hv_X5_fail ⟨nle rfl, nle rfl⟩ 5 0 rfl rfl rfl (rest := []) rfl rfl hl.1 (nle rfl) dX5_readLand_32 (fun H locs hP hD hS => ?_)
    obtain ⟨hx, hf⟩ := zb_e hf
    cases hf
    exact ke_z hQ hexec hb hr hx hP hD hS dX5_readLand_35 hlocks
  refine kb_gt (pc := 10) hexec hb dX5_readLand_10 (tgt := 26) rfl hf (fun hc hf => ?_) (fun hc hf => ?_)
  · exact hj26 _ _ _ _ hf hP hD hS (lv_sub hl [0] rfl)
  · refine lv_aload_n (pc := 13) hexec hb dX5_readLand_13 rfl (lv_at hl 0 rfl) ?_
    refine kg_get (pc := 14) hexec hb (own := RX5) hWX5 hown hG hP 0 rfl rfl 0 (nle rfl) (hts _ (List.mem_cons_of_mem _ (List.mem_append_left _ (List.mem_append_left _ (List.mem_append_left _ (List.mem_append_left _ (List.mem_append_left _ (List.mem_of_getElem? (i := 0) rfl)))))))) rfl rfl dX5_readLand_14 ?_
    refine kg_getN (pc := 17) hexec hb (own := RX5) hWX6 hown hG hP 1 rfl rfl 0 (nle rfl) 23 rfl rfl rfl dX5_readLand_17 ?_
    refine kg_getN (pc := 20) hexec hb (own := RX5) hWX1 hown hG hP 3 rfl rfl 2 (nle rfl) 5 rfl rfl rfl dX5_readLand_20 ?_
    refine kb_le (pc := 23) hexec hb dX5_readLand_23 (tgt := 36) rfl hf (fun hc hf => ?_) (fun hc hf => ?_)
    · refine lv_aload_n (pc := 36) hexec hb dX5_readLand_36 rfl (lv_at hl 0 rfl) ?_
      obtain ⟨r37, x0_at_1, x0_numberStart_1, x0_number_1, x0_cell_1, x0_error_2, x0_errorAt_2, hc, hf⟩ := bd7_e hf
      refine kVp (pc := 37) (S := ⟨hexec, hb, hml, hown, hts⟩) hP hD hG hA hS [0, 1, 2, 3] [4, 5] [2, 3, 4, 5, 0, 1] (w2 := (w_X5_readLand g a0 a1 a2 a3 a4 a5 u0_1 u0_5 u0_7 u0_11 u1_2 u1_3 u1_4 u3_4 u3_5 u4_1 u4_2 u4_3 u4_4 u4_5 x0_length x0_at_1 x0_wordStart x0_numberStart_1 x0_number_1 x0_cell_1 x0_error_2 x0_errorAt_2 y2_text x3_rows x3_columns x3_rivers x4_count y5_land)) rfl rfl rfl rfl rfl rfl (by decide) (c_X5_takeCell l g a0 a1 a2 a3 _ u0_1 u0_5 (.int x0_wordStart) u0_7 u0_11 (.ref a4) u1_2 u1_3 u1_4 (.int x3_rivers) (.ref a5) u3_4 u3_5 x0_length x0_at x0_numberStart x0_number x0_cell x0_error x0_errorAt y2_text x3_rows x3_columns r37 x0_at_1 x0_numberStart_1 x0_number_1 x0_cell_1 x0_error_2 x0_errorAt_2 hc) gX5_readLand_X5_takeCell rfl hv_X5_takeCell ⟨nle rfl, nle rfl⟩ 5 0 rfl rfl rfl (rest := []) rfl rfl hl.1 (nle rfl) dX5_readLand_37 (fun H locs hP hD hS => ?_)
      refine kb_ne (pc := 40) hexec hb dX5_readLand_40 (tgt := 45) rfl hf (fun hc hf => ?_) (fun hc hf => ?_)
      · refine lv_aload_n (pc := 45) hexec hb dX5_readLand_45 rfl (lv_at hl 0 rfl) ?_
        refine kg_get (pc := 46) hexec hb (own := RX5) hWX5 hown hG hP 0 rfl rfl 10 (nle rfl) (hts _ (List.mem_cons_of_mem _ (List.mem_append_left _ (List.mem_append_left _ (List.mem_append_left _ (List.mem_append_left _ (List.mem_append_left _ (List.mem_of_getElem? (i := 2) rfl)))))))) rfl rfl dX5_readLand_46 ?_
        refine lv_istore_n (pc := 49) hexec hb dX5_readLand_49 rfl hl (nle rfl) rfl (fun ls (hl : lv_has ls 4 [(1, .int x0_cell_1), (0, .ref a0)]) => ?_)
        refine lv_aload_n (pc := 50) hexec hb dX5_readLand_50 rfl (lv_at hl 1 rfl) ?_
        refine lv_aload_n (pc := 51) hexec hb dX5_readLand_51 rfl (lv_at hl 1 rfl) ?_
        refine kg_get (pc := 52) hexec hb (own := RX5) hWX5 hown hG hP 0 rfl rfl 9 (nle rfl) (hts _ (List.mem_cons_of_mem _ (List.mem_append_left _ (List.mem_append_left _ (List.mem_append_left _ (List.mem_append_left _ (List.mem_append_left _ (List.mem_of_getElem? (i := 3) rfl)))))))) rfl rfl dX5_readLand_52 ?_
        refine lv_aload_n (pc := 55) hexec hb dX5_readLand_55 rfl (lv_at hl 1 rfl) ?_
        refine kg_get (pc := 56) hexec hb (own := RX5) hWX5 hown hG hP 0 rfl rfl 0 (nle rfl) (hts _ (List.mem_cons_of_mem _ (List.mem_append_left _ (List.mem_append_left _ (List.mem_append_left _ (List.mem_append_left _ (List.mem_append_left _ (List.mem_of_getElem? (i := 0) rfl)))))))) rfl rfl dX5_readLand_56 ?_
        refine kg_getN (pc := 59) hexec hb (own := RX5) hWX6 hown hG hP 1 rfl rfl 0 (nle rfl) 23 rfl rfl rfl dX5_readLand_59 ?_
        refine kg_getN (pc := 62) hexec hb (own := RX5) hWX1 hown hG hP 3 rfl rfl 1 (nle rfl) 3 rfl rfl rfl dX5_readLand_62 ?_
        refine lv_iconst (pc := 65) hexec hb dX5_readLand_65 ki_1 ?_
        refine lv_isub (pc := 66) hexec hb dX5_readLand_66 ?_
        obtain ⟨r67, x0_at_2, x0_numberStart_2, x0_number_2, x0_error_3, x0_errorAt_3, hc, hf⟩ := bd6_e hf
        refine kVp (pc := 67) (S := ⟨hexec, hb, hml, hown, hts⟩) hP hD hG hA hS [0, 2] [1, 3, 4, 5] [4, 0, 5, 1, 2, 3] (w2 := (w_X5_readLand g a0 a1 a2 a3 a4 a5 u0_1 u0_5 u0_7 u0_11 u1_2 u1_3 u1_4 u3_4 u3_5 u4_1 u4_2 u4_3 u4_4 u4_5 x0_length x0_at_2 x0_wordStart x0_numberStart_2 x0_number_2 x0_cell_1 x0_error_3 x0_errorAt_3 y2_text x3_rows x3_columns x3_rivers x4_count y5_land)) rfl rfl rfl rfl rfl rfl (by decide) (c_X5_takeNumber l g a0 a2 _ (.ref a1) u0_1 u0_5 (.int x0_wordStart) u0_7 (.int x0_cell_1) u0_11 x0_length x0_at_1 x0_numberStart_1 x0_number_1 x0_error_2 x0_errorAt_2 y2_text x0_number_1 (x3_columns - 1) r67 x0_at_2 x0_numberStart_2 x0_number_2 x0_error_3 x0_errorAt_3 hc) gX5_readLand_X5_takeNumber rfl hv_X5_takeNumber ⟨nle rfl, nle rfl⟩ 5 0 rfl rfl rfl (rest := []) rfl rfl hl.1 (nle rfl) dX5_readLand_67 (fun H locs hP hD hS => ?_)
        refine kb_ne (pc := 70) hexec hb dX5_readLand_70 (tgt := 75) rfl hf (fun hc hf => ?_) (fun hc hf => ?_)
        · refine lv_iload_n (pc := 75) hexec hb dX5_readLand_75 rfl (lv_at hl 0 rfl) ?_
          refine lv_iload_n (pc := 76) hexec hb dX5_readLand_76 rfl (lv_at hl 0 rfl) ?_
          refine lv_iconst (pc := 77) hexec hb dX5_readLand_77 ki_1 ?_
          refine lv_aload_n (pc := 78) hexec hb dX5_readLand_78 rfl (lv_at hl 1 rfl) ?_
          refine kg_get (pc := 79) hexec hb (own := RX5) hWX5 hown hG hP 0 rfl rfl 0 (nle rfl) (hts _ (List.mem_cons_of_mem _ (List.mem_append_left _ (List.mem_append_left _ (List.mem_append_left _ (List.mem_append_left _ (List.mem_append_left _ (List.mem_of_getElem? (i := 0) rfl)))))))) rfl rfl dX5_readLand_79 ?_
          refine kg_getN (pc := 82) hexec hb (own := RX5) hWX6 hown hG hP 1 rfl rfl 0 (nle rfl) 23 rfl rfl rfl dX5_readLand_82 ?_
          refine kg_getN (pc := 85) hexec hb (own := RX5) hWX1 hown hG hP 3 rfl rfl 1 (nle rfl) 3 rfl rfl rfl dX5_readLand_85 ?_
          refine va_mmax (pc := 88) hexec hb (hml.trans hl.1.symm) (own := RX5) hown (hts _ (List.mem_cons_of_mem _ (List.mem_append_left _ (List.mem_append_left _ (List.mem_append_left _ (List.mem_append_left _ (List.mem_append_left _ (List.mem_of_getElem? (i := 4) rfl)))))))) (hts _ (List.mem_cons_of_mem _ (List.mem_append_left _ (List.mem_append_left _ (List.mem_append_left _ (List.mem_append_left _ (List.mem_append_left _ (List.mem_of_getElem? (i := 5) rfl)))))))) (hts _ (List.mem_cons_of_mem _ (List.mem_append_left _ (List.mem_append_left _ (List.mem_append_left _ (List.mem_append_left _ (List.mem_append_left _ (List.mem_of_getElem? (i := 6) rfl)))))))) (hts _ (List.mem_cons_of_mem _ (List.mem_append_left _ (List.mem_append_left _ (List.mem_append_left _ (List.mem_append_left _ (List.mem_append_left _ (List.mem_of_getElem? (i := 7) rfl)))))))) (nle rfl) (nle rfl) (nle rfl) (nle rfl) dX5_readLand_88 ?_
          refine kd_irem (pc := 91) hexec hb dX5_readLand_91 hf (fun hf => ?_)
          refine lv_isub (pc := 92) hexec hb dX5_readLand_92 ?_
          refine lv_aload_n (pc := 93) hexec hb dX5_readLand_93 rfl (lv_at hl 1 rfl) ?_
          refine kg_get (pc := 94) hexec hb (own := RX5) hWX5 hown hG hP 0 rfl rfl 9 (nle rfl) (hts _ (List.mem_cons_of_mem _ (List.mem_append_left _ (List.mem_append_left _ (List.mem_append_left _ (List.mem_append_left _ (List.mem_append_left _ (List.mem_of_getElem? (i := 3) rfl)))))))) rfl rfl dX5_readLand_94 ?_
          refine lv_iadd (pc := 97) hexec hb dX5_readLand_97 ?_
          obtain ⟨v2, ev2, hf⟩ := bv_e hf
          refine kn_i ev2 ?_
          refine lv_istore_n (pc := 98) hexec hb dX5_readLand_98 rfl hl (nle rfl) rfl (fun ls (hl : lv_has ls 4 [(2, .int v2), (1, .int x0_cell_1), (0, .ref a0)]) => ?_)
          refine lv_iload_n (pc := 99) hexec hb dX5_readLand_99 rfl (lv_at hl 1 rfl) ?_
          refine lv_istore_n (pc := 100) hexec hb dX5_readLand_100 rfl hl (nle rfl) rfl (fun ls (hl : lv_has ls 4 [(3, .int x0_cell_1), (2, .int v2), (1, .int x0_cell_1), (0, .ref a0)]) => ?_)
          obtain ⟨l101, el101, hf⟩ := bvf2 hf
          obtain ⟨y5_land_2, hz, hf⟩ := bd1_e hf
          have hE101 : ∀ (H : Heap) (locs : List Loc) (ls : Array Slot), va_P g.1 vwCl (w_X5_readLand g a0 a1 a2 a3 a4 a5 u0_1 u0_5 u0_7 u0_11 u1_2 u1_3 u1_4 u3_4 u3_5 u4_1 u4_2 u4_3 u4_4 u4_5 x0_length x0_at_2 x0_wordStart x0_numberStart_2 x0_number_2 x0_cell_1 x0_error_3 x0_errorAt_3 y2_text x3_rows x3_columns x3_rivers x4_count y5_land_2) H → va_D A (w_X5_readLand g a0 a1 a2 a3 a4 a5 u0_1 u0_5 u0_7 u0_11 u1_2 u1_3 u1_4 u3_4 u3_5 u4_1 u4_2 u4_3 u4_4 u4_5 x0_length x0_at_2 x0_wordStart x0_numberStart_2 x0_number_2 x0_cell_1 x0_error_3 x0_errorAt_3 y2_text x3_rows x3_columns x3_rivers x4_count y5_land_2) → va_S A s.heap H locs → lv_has ls 4 [] → W p l e (RM 5 110) s m args below meth c H locs 0 0 Q (F0 m 124 ls []) := by
            intro H locs ls hP hD hS hl
            refine lv_iconst (pc := 124) hexec hb dX5_readLand_124 ki_1 ?_
            cases hf
            exact ke_z hQ hexec hb hr (.inr rfl) hP hD hS dX5_readLand_125 hlocks
          obtain ⟨n, hz⟩ := lq2_e hz
          have hL101 : ∀ (n : Nat) (v3 : Int32) (y5_land_1 : Nat → Int32) (H : Heap) (locs : List Loc) (ls : Array Slot), it2 l101 n v3 y5_land_1 = some y5_land_2 → va_P g.1 vwCl (w_X5_readLand g a0 a1 a2 a3 a4 a5 u0_1 u0_5 u0_7 u0_11 u1_2 u1_3 u1_4 u3_4 u3_5 u4_1 u4_2 u4_3 u4_4 u4_5 x0_length x0_at_2 x0_wordStart x0_numberStart_2 x0_number_2 x0_cell_1 x0_error_3 x0_errorAt_3 y2_text x3_rows x3_columns x3_rivers x4_count y5_land_1) H → va_D A (w_X5_readLand g a0 a1 a2 a3 a4 a5 u0_1 u0_5 u0_7 u0_11 u1_2 u1_3 u1_4 u3_4 u3_5 u4_1 u4_2 u4_3 u4_4 u4_5 x0_length x0_at_2 x0_wordStart x0_numberStart_2 x0_number_2 x0_cell_1 x0_error_3 x0_errorAt_3 y2_text x3_rows x3_columns x3_rivers x4_count y5_land_1) → va_S A s.heap H locs → lv_has ls 4 [(0, .ref a0), (2, .int v2), (3, .int v3)] → W p l e (RM 5 110) s m args below meth c H locs 0 0 Q (F0 m 101 ls []) := by
            intro n
            induction n with
            | zero =>
              intro v3 y5_land_1 H locs ls hf hP hD hS hl
              exact it2_0 hf
            | succ n101 ih101 =>
              intro v3 y5_land_1 H locs ls hf hP hD hS hl
              obtain ⟨q101, hf, hk101⟩ := it2_e hf
              have hf := (el101 v3 y5_land_1).symm.trans hf
              refine lv_iload_n (pc := 101) hexec hb dX5_readLand_101 rfl (lv_at hl 2 rfl) ?_
              refine lv_iload_n (pc := 102) hexec hb dX5_readLand_102 rfl (lv_at hl 1 rfl) ?_
              refine ki_gt (pc := 103) hexec hb dX5_readLand_103 (tgt := 124) rfl hf (fun hc hf => ?_) (fun hc hf => ?_)
              · cases sr2 hf hk101
                exact hE101 _ _ _ hP hD hS (lv_sub hl [] rfl)
              · refine lv_aload_n (pc := 106) hexec hb dX5_readLand_106 rfl (lv_at hl 0 rfl) ?_
                refine kg_get (pc := 107) hexec hb (own := RX5) hWX5 hown hG hP 0 rfl rfl 0 (nle rfl) (hts _ (List.mem_cons_of_mem _ (List.mem_append_left _ (List.mem_append_left _ (List.mem_append_left _ (List.mem_append_left _ (List.mem_append_left _ (List.mem_of_getElem? (i := 0) rfl)))))))) rfl rfl dX5_readLand_107 ?_
                refine kg_getN (pc := 110) hexec hb (own := RX5) hWX6 hown hG hP 1 rfl rfl 0 (nle rfl) 23 rfl rfl rfl dX5_readLand_110 ?_
                refine lv_iload_n (pc := 113) hexec hb dX5_readLand_113 rfl (lv_at hl 2 rfl) ?_
                refine lv_iconst (pc := 114) hexec hb dX5_readLand_114 ki_1 ?_
                obtain ⟨y5_land_3, hc, hf⟩ := bd1_e hf
                refine kVp (pc := 115) (S := ⟨hexec, hb, hml, hown, hts⟩) hP hD hG hA hS [3, 5] [0, 1, 2, 4] [0, 1, 2, 4, 3, 5] (w2 := (w_X5_readLand g a0 a1 a2 a3 a4 a5 u0_1 u0_5 u0_7 u0_11 u1_2 u1_3 u1_4 u3_4 u3_5 u4_1 u4_2 u4_3 u4_4 u4_5 x0_length x0_at_2 x0_wordStart x0_numberStart_2 x0_number_2 x0_cell_1 x0_error_3 x0_errorAt_3 y2_text x3_rows x3_columns x3_rivers x4_count y5_land_3)) rfl rfl rfl rfl rfl rfl (by decide) (c_X1_setLand l g a3 a5 _ (.int x3_rows) (.int x3_columns) (.int x3_rivers) u3_4 u3_5 y5_land_1 v3 1 y5_land_3 hc) gX5_readLand_X1_setLand rfl hv_X1_setLand ⟨nle rfl, nle rfl⟩ 1 0 rfl rfl rfl (rest := []) rfl rfl hl.1 (nle rfl) dX5_readLand_115 (fun H locs hP hD hS => ?_)
                obtain ⟨v3_1, ev3_1, hf⟩ := bv_e hf
                refine k_iinc (pc := 118) hexec hb dX5_readLand_118 kq_1 hl (k := 2) rfl ev3_1 (nle rfl) rfl (fun ls (hl : lv_has ls 4 [(3, .int v3_1), (0, .ref a0), (2, .int v2)]) => ?_)
                refine lv_goto (pc := 121) hexec hb dX5_readLand_121 (tgt := 101) rfl ?_
                exact ih101 _ _ _ _ _ (sl2 hf hk101) hP hD hS (lv_sub hl [1, 2, 0] rfl)
          exact hL101 n _ _ _ _ _ hz hP hD hS (lv_sub hl [3, 1, 0] rfl)
        · refine lv_iconst (pc := 73) hexec hb dX5_readLand_73 ki_0 ?_
          cases hf
          exact ke_z hQ hexec hb hr (.inl rfl) hP hD hS dX5_readLand_74 hlocks
      · refine lv_iconst (pc := 43) hexec hb dX5_readLand_43 ki_0 ?_
        cases hf
        exact ke_z hQ hexec hb hr (.inl rfl) hP hD hS dX5_readLand_44 hlocks
    · exact hj26 _ _ _ _ hf hP hD hS (lv_sub hl [0] rfl)
abbrev w_X5_readRiver (g : GE) (a0 a1 a2 a3 a4 a5 a6 a7 a8 a9 a10 a11 a12 a13 a14 a15 : Nat) (u0_5 u0_7 u0_11 u1_2 u1_4 u5_1 u5_5 : Value) (x0_length : Int32) (x0_at : Int32) (x0_wordStart : Int32) (x0_numberStart : Int32) (x0_number : Int32) (x0_cell : Int32) (x0_error : Int32) (x0_errorAt : Int32) (x2_length : Int32) (y3_text : Nat → Int32) (x4_rows : Int32) (x4_columns : Int32) (x4_rivers : Int32) (x5_count : Int32) (y6_namesOn : Nat → Int32) (y7_costs : Nat → Int32) (y8_sums : Nat → Int32) (y9_way : Nat → Int32) (y10_land : Nat → Int32) (y11_riverOf : Nat → Int32) (y12_riverPlace : Nat → Int32) (y13_direction : Nat → Int32) (y14_home : Nat → Int32) (y15_length : Nat → Int32) : va_W := [(a0, .inr (5, [.ref a1, .ref a2, .ref a3, .int x0_length, .int x0_at, u0_5, .int x0_wordStart, u0_7, .int x0_numberStart, .int x0_number, .int x0_cell, u0_11, .int x0_error, .int x0_errorAt])), (a1, .inr (6, [.ref a4, .ref a5, u1_2, .ref a6, u1_4])), (a2, .inr (7, [.ref a7, .ref a8, .ref a9, .int x2_length])), (a3, .inl (g.2.1 0, 500, .inl y3_text)), (a4, .inr (1, [.int x4_rows, .int x4_columns, .int x4_rivers, .ref a10, .ref a11, .ref a12])), (a5, .inr (2, [.int x5_count, u5_1, .ref a14, .ref a13, .ref a15, u5_5])), (a6, .inl (g.2.1 0, 144, .inl y6_namesOn)), (a7, .inl (g.2.1 0, 144, .inl y7_costs)), (a8, .inl (g.2.1 0, 144, .inl y8_sums)), (a9, .inl (g.2.1 0, 144, .inl y9_way)), (a10, .inl (g.2.1 1, 144, .inl y10_land)), (a11, .inl (g.2.1 0, 144, .inl y11_riverOf)), (a12, .inl (g.2.1 0, 144, .inl y12_riverPlace)), (a13, .inl (g.2.1 0, 8, .inl y13_direction)), (a14, .inl (g.2.1 0, 8, .inl y14_home)), (a15, .inl (g.2.1 0, 8, .inl y15_length))]
noncomputable def f_X5_readRiver (x0_length : Int32) (x0_at : Int32) (x0_wordStart : Int32) (x0_numberStart : Int32) (x0_number : Int32) (x0_cell : Int32) (x0_error : Int32) (x0_errorAt : Int32) (x2_length : Int32) (y3_text : Nat → Int32) (x4_rows : Int32) (x4_columns : Int32) (x4_rivers : Int32) (x5_count : Int32) (y6_namesOn : Nat → Int32) (y7_costs : Nat → Int32) (y8_sums : Nat → Int32) (y9_way : Nat → Int32) (y10_land : Nat → Int32) (y11_riverOf : Nat → Int32) (y12_riverPlace : Nat → Int32) (y13_direction : Nat → Int32) (y14_home : Nat → Int32) (y15_length : Nat → Int32)  : Option (Int32 × Int32 × Int32 × Int32 × Int32 × Int32 × Int32 × Int32 × Int32 × (Nat → Int32) × (Nat → Int32) × (Nat → Int32) × (Nat → Int32) × (Nat → Int32) × (Nat → Int32) × (Nat → Int32)) :=
  (if x4_rivers < 8 then (
    bd7 (f_X5_takeCell x0_length x0_at x0_numberStart x0_number x0_cell x0_error x0_errorAt y3_text x4_rows x4_columns) fun (r26 : Int32) (x0_at_1 : Int32) (x0_numberStart_1 : Int32) (x0_number_1 : Int32) (x0_cell_1 : Int32) (x0_error_1 : Int32) (x0_errorAt_1 : Int32) =>
    (if r26 = 0 then (
      some (0, x0_at_1, x0_numberStart_1, x0_number_1, x0_cell_1, x0_error_1, x0_errorAt_1, x2_length, x4_rivers, y6_namesOn, y7_costs, y8_sums, y9_way, y11_riverOf, y12_riverPlace, y13_direction)
    ) else (
      bd2 (f_X7_survey y7_costs y8_sums x4_rows x4_columns x5_count y6_namesOn y10_land y11_riverOf y14_home) fun (y7_costs_1 : Nat → Int32) (y8_sums_1 : Nat → Int32) =>
      bd3 (f_X7_trace x2_length y7_costs_1 y8_sums_1 y9_way x4_rows x4_columns x0_cell_1) fun (r60 : Int32) (x2_length_1 : Int32) (y9_way_1 : Nat → Int32) =>
      (if r60 = 0 then (
        bd3 (f_X5_fail x0_error_1 x0_errorAt_1 3 x0_numberStart_1) fun (r72 : Int32) (x0_error_2 : Int32) (x0_errorAt_2 : Int32) =>
        zb r72 (some (r72, x0_at_1, x0_numberStart_1, x0_number_1, x0_cell_1, x0_error_2, x0_errorAt_2, x2_length_1, x4_rivers, y6_namesOn, y7_costs_1, y8_sums_1, y9_way_1, y11_riverOf, y12_riverPlace, y13_direction))
      ) else (
        bd1 (f_X7_namesOnWay x2_length_1 y9_way_1 y6_namesOn) fun (r88 : Int32) =>
        bd2 (f_X6_takeNames x4_rows x4_columns x5_count y6_namesOn y13_direction y14_home y15_length r88) fun (y6_namesOn_1 : Nat → Int32) (y13_direction_1 : Nat → Int32) =>
        bd3 (f_X1_layRiver x4_rivers y11_riverOf y12_riverPlace y9_way_1 x2_length_1) fun (x4_rivers_1 : Int32) (y11_riverOf_1 : Nat → Int32) (y12_riverPlace_1 : Nat → Int32) =>
        some (1, x0_at_1, x0_numberStart_1, x0_number_1, x0_cell_1, x0_error_1, x0_errorAt_1, x2_length_1, x4_rivers_1, y6_namesOn_1, y7_costs_1, y8_sums_1, y9_way_1, y11_riverOf_1, y12_riverPlace_1, y13_direction_1)
      ))
    ))
  ) else (
    bd3 (f_X5_fail x0_error x0_errorAt 3 x0_wordStart) fun (r21 : Int32) (x0_error_3 : Int32) (x0_errorAt_3 : Int32) =>
    zb r21 (some (r21, x0_at, x0_numberStart, x0_number, x0_cell, x0_error_3, x0_errorAt_3, x2_length, x4_rivers, y6_namesOn, y7_costs, y8_sums, y9_way, y11_riverOf, y12_riverPlace, y13_direction))
  ))
set_option maxRecDepth 4000 in
theorem c_X5_readRiver (l : Launch) (g : GE) (a0 a1 a2 a3 a4 a5 a6 a7 a8 a9 a10 a11 a12 a13 a14 a15 : Nat) (sz : Nat) (u0_5 u0_7 u0_11 u1_2 u1_4 u5_1 u5_5 : Value) (x0_length : Int32) (x0_at : Int32) (x0_wordStart : Int32) (x0_numberStart : Int32) (x0_number : Int32) (x0_cell : Int32) (x0_error : Int32) (x0_errorAt : Int32) (x2_length : Int32) (y3_text : Nat → Int32) (x4_rows : Int32) (x4_columns : Int32) (x4_rivers : Int32) (x5_count : Int32) (y6_namesOn : Nat → Int32) (y7_costs : Nat → Int32) (y8_sums : Nat → Int32) (y9_way : Nat → Int32) (y10_land : Nat → Int32) (y11_riverOf : Nat → Int32) (y12_riverPlace : Nat → Int32) (y13_direction : Nat → Int32) (y14_home : Nat → Int32) (y15_length : Nat → Int32)  (r : Int32) (o_x0_at : Int32) (o_x0_numberStart : Int32) (o_x0_number : Int32) (o_x0_cell : Int32) (o_x0_error : Int32) (o_x0_errorAt : Int32) (o_x2_length : Int32) (o_x4_rivers : Int32) (o_y6_namesOn : Nat → Int32) (o_y7_costs : Nat → Int32) (o_y8_sums : Nat → Int32) (o_y9_way : Nat → Int32) (o_y11_riverOf : Nat → Int32) (o_y12_riverPlace : Nat → Int32) (o_y13_direction : Nat → Int32) (hf : f_X5_readRiver x0_length x0_at x0_wordStart x0_numberStart x0_number x0_cell x0_error x0_errorAt x2_length y3_text x4_rows x4_columns x4_rivers x5_count y6_namesOn y7_costs y8_sums y9_way y10_land y11_riverOf y12_riverPlace y13_direction y14_home y15_length = some (r, o_x0_at, o_x0_numberStart, o_x0_number, o_x0_cell, o_x0_error, o_x0_errorAt, o_x2_length, o_x4_rivers, o_y6_namesOn, o_y7_costs, o_y8_sums, o_y9_way, o_y11_riverOf, o_y12_riverPlace, o_y13_direction)) : MI l g yX5_readRiver wsX5_readRiver 5 110 [.ref a0] (w_X5_readRiver g a0 a1 a2 a3 a4 a5 a6 a7 a8 a9 a10 a11 a12 a13 a14 a15 u0_5 u0_7 u0_11 u1_2 u1_4 u5_1 u5_5 x0_length x0_at x0_wordStart x0_numberStart x0_number x0_cell x0_error x0_errorAt x2_length y3_text x4_rows x4_columns x4_rivers x5_count y6_namesOn y7_costs y8_sums y9_way y10_land y11_riverOf y12_riverPlace y13_direction y14_home y15_length) sz (some (.int r)) (w_X5_readRiver g a0 a1 a2 a3 a4 a5 a6 a7 a8 a9 a10 a11 a12 a13 a14 a15 u0_5 u0_7 u0_11 u1_2 u1_4 u5_1 u5_5 x0_length o_x0_at x0_wordStart o_x0_numberStart o_x0_number o_x0_cell o_x0_error o_x0_errorAt o_x2_length y3_text x4_rows x4_columns o_x4_rivers x5_count o_y6_namesOn o_y7_costs o_y8_sums o_y9_way y10_land o_y11_riverOf o_y12_riverPlace o_y13_direction y14_home y15_length) := by
  refine MI.start (cc := cX5_readRiver) (maxL := 1) (ret := (some .boolean)) rfl rfl (nle rfl) ?_
  intro p e s m args below meth c A ls Q hQ hexec hb hr hts hown hlocks hml hA hP hD hG hS hl
  unfold f_X5_readRiver at hf
  have hWX1 : ∀ w ∈ wsX10, w.before args s = true := fun w h => hts w (List.mem_cons_of_mem _ (List.mem_append_left _ (List.mem_append_left _ (List.mem_append_right _ h))))
  have hWX2 : ∀ w ∈ wsX20, w.before args s = true := fun w h => hts w (List.mem_cons_of_mem _ (List.mem_append_right _ h))
  have hWX5 : ∀ w ∈ wsX50, w.before args s = true := fun w h => hts w (List.mem_cons_of_mem _ (List.mem_append_left _ (List.mem_append_left _ (List.mem_append_left _ (List.mem_append_left _ (List.mem_append_right _ h))))))
  have hWX6 : ∀ w ∈ wsX60, w.before args s = true := fun w h => hts w (List.mem_cons_of_mem _ (List.mem_append_left _ (List.mem_append_left _ (List.mem_append_left _ (List.mem_append_right _ h)))))
  have hWX7 : ∀ w ∈ wsX70, w.before args s = true := fun w h => hts w (List.mem_cons_of_mem _ (List.mem_append_left _ (List.mem_append_right _ h)))
  have hS : va_S A s.heap s.heap [] := hS
  refine lv_aload_n (pc := 0) hexec hb dX5_readRiver_0 rfl (lv_at hl 0 rfl) ?_
  refine kg_get (pc := 1) hexec hb (own := RX5) hWX5 hown hG hP 0 rfl rfl 0 (nle rfl) (hts _ (List.mem_cons_of_mem _ (List.mem_append_left _ (List.mem_append_left _ (List.mem_append_left _ (List.mem_append_left _ (List.mem_append_left _ (List.mem_append_left _ (List.mem_of_getElem? (i := 0) rfl))))))))) rfl rfl dX5_readRiver_1 ?_
  refine kg_getN (pc := 4) hexec hb (own := RX5) hWX6 hown hG hP 1 rfl rfl 0 (nle rfl) 23 rfl rfl rfl dX5_readRiver_4 ?_
  refine kg_getN (pc := 7) hexec hb (own := RX5) hWX1 hown hG hP 4 rfl rfl 2 (nle rfl) 5 rfl rfl rfl dX5_readRiver_7 ?_
  refine lv_bipush (pc := 10) hexec hb dX5_readRiver_10 kb_8 ?_
  refine ki_lt (pc := 12) hexec hb dX5_readRiver_12 (tgt := 25) rfl hf (fun hc hf => ?_) (fun hc hf => ?_)
  · refine lv_aload_n (pc := 25) hexec hb dX5_readRiver_25 rfl (lv_at hl 0 rfl) ?_
    obtain ⟨r26, x0_at_1, x0_numberStart_1, x0_number_1, x0_cell_1, x0_error_1, x0_errorAt_1, hc, hf⟩ := bd7_e hf
    refine kVp (pc := 26) (S := ⟨hexec, hb, hml, hown, hts⟩) hP hD hG hA hS [0, 1, 3, 4] [2, 5, 6, 7, 8, 9, 10, 11, 12, 13, 14, 15] [12, 13, 0, 14, 15, 1, 2, 3, 4, 5, 6, 7, 8, 9, 10, 11] (w2 := (w_X5_readRiver g a0 a1 a2 a3 a4 a5 a6 a7 a8 a9 a10 a11 a12 a13 a14 a15 u0_5 u0_7 u0_11 u1_2 u1_4 u5_1 u5_5 x0_length x0_at_1 x0_wordStart x0_numberStart_1 x0_number_1 x0_cell_1 x0_error_1 x0_errorAt_1 x2_length y3_text x4_rows x4_columns x4_rivers x5_count y6_namesOn y7_costs y8_sums y9_way y10_land y11_riverOf y12_riverPlace y13_direction y14_home y15_length)) rfl rfl rfl rfl rfl rfl (by decide) (c_X5_takeCell l g a0 a1 a3 a4 _ (.ref a2) u0_5 (.int x0_wordStart) u0_7 u0_11 (.ref a5) u1_2 (.ref a6) u1_4 (.int x4_rivers) (.ref a10) (.ref a11) (.ref a12) x0_length x0_at x0_numberStart x0_number x0_cell x0_error x0_errorAt y3_text x4_rows x4_columns r26 x0_at_1 x0_numberStart_1 x0_number_1 x0_cell_1 x0_error_1 x0_errorAt_1 hc) gX5_readRiver_X5_takeCell rfl hv_X5_takeCell ⟨nle rfl, nle rfl⟩ 5 0 rfl rfl rfl (rest := []) rfl rfl hl.1 (nle rfl) dX5_readRiver_26 (fun H locs hP hD hS => ?_)
    refine kb_ne (pc := 29) hexec hb dX5_readRiver_29 (tgt := 34) rfl hf (fun hc hf => ?_) (fun hc hf => ?_)
    · refine lv_aload_n (pc := 34) hexec hb dX5_readRiver_34 rfl (lv_at hl 0 rfl) ?_
      refine kg_get (pc := 35) hexec hb (own := RX5) hWX5 hown hG hP 0 rfl rfl 1 (nle rfl) (hts _ (List.mem_cons_of_mem _ (List.mem_append_left _ (List.mem_append_left _ (List.mem_append_left _ (List.mem_append_left _ (List.mem_append_left _ (List.mem_append_left _ (List.mem_of_getElem? (i := 2) rfl))))))))) rfl rfl dX5_readRiver_35 ?_
      refine lv_aload_n (pc := 38) hexec hb dX5_readRiver_38 rfl (lv_at hl 0 rfl) ?_
      refine kg_get (pc := 39) hexec hb (own := RX5) hWX5 hown hG hP 0 rfl rfl 0 (nle rfl) (hts _ (List.mem_cons_of_mem _ (List.mem_append_left _ (List.mem_append_left _ (List.mem_append_left _ (List.mem_append_left _ (List.mem_append_left _ (List.mem_append_left _ (List.mem_of_getElem? (i := 0) rfl))))))))) rfl rfl dX5_readRiver_39 ?_
      obtain ⟨y7_costs_1, y8_sums_1, hc, hf⟩ := bd2_e hf
      refine kVp (pc := 42) (S := ⟨hexec, hb, hml, hown, hts⟩) hP hD hG hA hS [2, 7, 8, 1, 4, 5, 6, 10, 11, 14] [0, 3, 9, 12, 13, 15] [0, 9, 6, 1, 10, 11, 12, 7, 8, 2, 13, 14, 3, 4, 15, 5] (w2 := (w_X5_readRiver g a0 a1 a2 a3 a4 a5 a6 a7 a8 a9 a10 a11 a12 a13 a14 a15 u0_5 u0_7 u0_11 u1_2 u1_4 u5_1 u5_5 x0_length x0_at_1 x0_wordStart x0_numberStart_1 x0_number_1 x0_cell_1 x0_error_1 x0_errorAt_1 x2_length y3_text x4_rows x4_columns x4_rivers x5_count y6_namesOn y7_costs_1 y8_sums_1 y9_way y10_land y11_riverOf y12_riverPlace y13_direction y14_home y15_length)) rfl rfl rfl rfl rfl rfl (by decide) (c_X7_survey l g a2 a7 a8 a1 a4 a5 a6 a10 a11 a14 _ (.ref a9) (.int x2_length) u1_2 u1_4 (.int x4_rivers) (.ref a12) u5_1 (.ref a13) (.ref a15) u5_5 y7_costs y8_sums x4_rows x4_columns x5_count y6_namesOn y10_land y11_riverOf y14_home y7_costs_1 y8_sums_1 hc) gX5_readRiver_X7_survey rfl hv_X7_survey ⟨nle rfl, nle rfl⟩ 7 0 rfl rfl rfl (rest := []) rfl rfl hl.1 (nle rfl) dX5_readRiver_42 (fun H locs hP hD hS => ?_)
      refine lv_aload_n (pc := 45) hexec hb dX5_readRiver_45 rfl (lv_at hl 0 rfl) ?_
      refine kg_get (pc := 46) hexec hb (own := RX5) hWX5 hown hG hP 0 rfl rfl 1 (nle rfl) (hts _ (List.mem_cons_of_mem _ (List.mem_append_left _ (List.mem_append_left _ (List.mem_append_left _ (List.mem_append_left _ (List.mem_append_left _ (List.mem_append_left _ (List.mem_of_getElem? (i := 2) rfl))))))))) rfl rfl dX5_readRiver_46 ?_
      refine lv_aload_n (pc := 49) hexec hb dX5_readRiver_49 rfl (lv_at hl 0 rfl) ?_
      refine kg_get (pc := 50) hexec hb (own := RX5) hWX5 hown hG hP 0 rfl rfl 0 (nle rfl) (hts _ (List.mem_cons_of_mem _ (List.mem_append_left _ (List.mem_append_left _ (List.mem_append_left _ (List.mem_append_left _ (List.mem_append_left _ (List.mem_append_left _ (List.mem_of_getElem? (i := 0) rfl))))))))) rfl rfl dX5_readRiver_50 ?_
      refine kg_getN (pc := 53) hexec hb (own := RX5) hWX6 hown hG hP 1 rfl rfl 0 (nle rfl) 23 rfl rfl rfl dX5_readRiver_53 ?_
      refine lv_aload_n (pc := 56) hexec hb dX5_readRiver_56 rfl (lv_at hl 0 rfl) ?_
      refine kg_get (pc := 57) hexec hb (own := RX5) hWX5 hown hG hP 0 rfl rfl 10 (nle rfl) (hts _ (List.mem_cons_of_mem _ (List.mem_append_left _ (List.mem_append_left _ (List.mem_append_left _ (List.mem_append_left _ (List.mem_append_left _ (List.mem_append_left _ (List.mem_of_getElem? (i := 3) rfl))))))))) rfl rfl dX5_readRiver_57 ?_
      obtain ⟨r60, x2_length_1, y9_way_1, hc, hf⟩ := bd3_e hf
      refine kVp (pc := 60) (S := ⟨hexec, hb, hml, hown, hts⟩) hP hD hG hA hS [2, 7, 8, 9, 4] [0, 1, 3, 5, 6, 10, 11, 12, 13, 14, 15] [0, 1, 11, 2, 15, 3, 4, 12, 13, 14, 5, 6, 7, 8, 9, 10] (w2 := (w_X5_readRiver g a0 a1 a2 a3 a4 a5 a6 a7 a8 a9 a10 a11 a12 a13 a14 a15 u0_5 u0_7 u0_11 u1_2 u1_4 u5_1 u5_5 x0_length x0_at_1 x0_wordStart x0_numberStart_1 x0_number_1 x0_cell_1 x0_error_1 x0_errorAt_1 x2_length_1 y3_text x4_rows x4_columns x4_rivers x5_count y6_namesOn y7_costs_1 y8_sums_1 y9_way_1 y10_land y11_riverOf y12_riverPlace y13_direction y14_home y15_length)) rfl rfl rfl rfl rfl rfl (by decide) (c_X7_trace l g a2 a7 a8 a9 a4 _ (.int x4_rivers) (.ref a10) (.ref a11) (.ref a12) x2_length y7_costs_1 y8_sums_1 y9_way x4_rows x4_columns x0_cell_1 r60 x2_length_1 y9_way_1 hc) gX5_readRiver_X7_trace rfl hv_X7_trace ⟨nle rfl, nle rfl⟩ 7 0 rfl rfl rfl (rest := []) rfl rfl hl.1 (nle rfl) dX5_readRiver_60 (fun H locs hP hD hS => ?_)
      refine kb_ne (pc := 63) hexec hb dX5_readRiver_63 (tgt := 76) rfl hf (fun hc hf => ?_) (fun hc hf => ?_)
      · refine lv_aload_n (pc := 76) hexec hb dX5_readRiver_76 rfl (lv_at hl 0 rfl) ?_
        refine kg_get (pc := 77) hexec hb (own := RX5) hWX5 hown hG hP 0 rfl rfl 0 (nle rfl) (hts _ (List.mem_cons_of_mem _ (List.mem_append_left _ (List.mem_append_left _ (List.mem_append_left _ (List.mem_append_left _ (List.mem_append_left _ (List.mem_append_left _ (List.mem_of_getElem? (i := 0) rfl))))))))) rfl rfl dX5_readRiver_77 ?_
        refine lv_aload_n (pc := 80) hexec hb dX5_readRiver_80 rfl (lv_at hl 0 rfl) ?_
        refine kg_get (pc := 81) hexec hb (own := RX5) hWX5 hown hG hP 0 rfl rfl 1 (nle rfl) (hts _ (List.mem_cons_of_mem _ (List.mem_append_left _ (List.mem_append_left _ (List.mem_append_left _ (List.mem_append_left _ (List.mem_append_left _ (List.mem_append_left _ (List.mem_of_getElem? (i := 2) rfl))))))))) rfl rfl dX5_readRiver_81 ?_
        refine lv_aload_n (pc := 84) hexec hb dX5_readRiver_84 rfl (lv_at hl 0 rfl) ?_
        refine kg_get (pc := 85) hexec hb (own := RX5) hWX5 hown hG hP 0 rfl rfl 0 (nle rfl) (hts _ (List.mem_cons_of_mem _ (List.mem_append_left _ (List.mem_append_left _ (List.mem_append_left _ (List.mem_append_left _ (List.mem_append_left _ (List.mem_append_left _ (List.mem_of_getElem? (i := 0) rfl))))))))) rfl rfl dX5_readRiver_85 ?_
        obtain ⟨r88, hc, hf⟩ := bd1_e hf
        refine kVp (pc := 88) (S := ⟨hexec, hb, hml, hown, hts⟩) hP hD hG hA hS [2, 9, 1, 6] [0, 3, 4, 5, 7, 8, 10, 11, 12, 13, 14, 15] [0, 14, 12, 1, 2, 3, 15, 4, 5, 13, 6, 7, 8, 9, 10, 11] (w2 := (w_X5_readRiver g a0 a1 a2 a3 a4 a5 a6 a7 a8 a9 a10 a11 a12 a13 a14 a15 u0_5 u0_7 u0_11 u1_2 u1_4 u5_1 u5_5 x0_length x0_at_1 x0_wordStart x0_numberStart_1 x0_number_1 x0_cell_1 x0_error_1 x0_errorAt_1 x2_length_1 y3_text x4_rows x4_columns x4_rivers x5_count y6_namesOn y7_costs_1 y8_sums_1 y9_way_1 y10_land y11_riverOf y12_riverPlace y13_direction y14_home y15_length)) rfl rfl rfl rfl rfl rfl (by decide) (c_X7_namesOnWay l g a2 a9 a1 a6 _ (.ref a7) (.ref a8) (.ref a4) (.ref a5) u1_2 u1_4 x2_length_1 y9_way_1 y6_namesOn r88 hc) gX5_readRiver_X7_namesOnWay rfl hv_X7_namesOnWay ⟨nle rfl, nle rfl⟩ 7 0 rfl rfl rfl (rest := [.ref a1]) rfl rfl hl.1 (nle rfl) dX5_readRiver_88 (fun H locs hP hD hS => ?_)
        obtain ⟨y6_namesOn_1, y13_direction_1, hc, hf⟩ := bd2_e hf
        refine kVp (pc := 91) (S := ⟨hexec, hb, hml, hown, hts⟩) hP hD hG hA hS [1, 4, 5, 6, 13, 14, 15] [0, 2, 3, 7, 8, 9, 10, 11, 12] [0, 9, 1, 2, 10, 11, 12, 3, 4, 5, 6, 7, 8, 13, 14, 15] (w2 := (w_X5_readRiver g a0 a1 a2 a3 a4 a5 a6 a7 a8 a9 a10 a11 a12 a13 a14 a15 u0_5 u0_7 u0_11 u1_2 u1_4 u5_1 u5_5 x0_length x0_at_1 x0_wordStart x0_numberStart_1 x0_number_1 x0_cell_1 x0_error_1 x0_errorAt_1 x2_length_1 y3_text x4_rows x4_columns x4_rivers x5_count y6_namesOn_1 y7_costs_1 y8_sums_1 y9_way_1 y10_land y11_riverOf y12_riverPlace y13_direction_1 y14_home y15_length)) rfl rfl rfl rfl rfl rfl (by decide) (c_X6_takeNames l g a1 a4 a5 a6 a13 a14 a15 _ u1_2 u1_4 (.int x4_rivers) (.ref a10) (.ref a11) (.ref a12) u5_1 u5_5 x4_rows x4_columns x5_count y6_namesOn y13_direction y14_home y15_length r88 y6_namesOn_1 y13_direction_1 hc) gX5_readRiver_X6_takeNames rfl hv_X6_takeNames ⟨nle rfl, nle rfl⟩ 6 0 rfl rfl rfl (rest := []) rfl rfl hl.1 (nle rfl) dX5_readRiver_91 (fun H locs hP hD hS => ?_)
        refine lv_aload_n (pc := 94) hexec hb dX5_readRiver_94 rfl (lv_at hl 0 rfl) ?_
        refine kg_get (pc := 95) hexec hb (own := RX5) hWX5 hown hG hP 0 rfl rfl 0 (nle rfl) (hts _ (List.mem_cons_of_mem _ (List.mem_append_left _ (List.mem_append_left _ (List.mem_append_left _ (List.mem_append_left _ (List.mem_append_left _ (List.mem_append_left _ (List.mem_of_getElem? (i := 0) rfl))))))))) rfl rfl dX5_readRiver_95 ?_
        refine kg_getN (pc := 98) hexec hb (own := RX5) hWX6 hown hG hP 1 rfl rfl 0 (nle rfl) 23 rfl rfl rfl dX5_readRiver_98 ?_
        refine lv_aload_n (pc := 101) hexec hb dX5_readRiver_101 rfl (lv_at hl 0 rfl) ?_
        refine kg_get (pc := 102) hexec hb (own := RX5) hWX5 hown hG hP 0 rfl rfl 1 (nle rfl) (hts _ (List.mem_cons_of_mem _ (List.mem_append_left _ (List.mem_append_left _ (List.mem_append_left _ (List.mem_append_left _ (List.mem_append_left _ (List.mem_append_left _ (List.mem_of_getElem? (i := 2) rfl))))))))) rfl rfl dX5_readRiver_102 ?_
        refine kg_getN (pc := 105) hexec hb (own := RX5) hWX7 hown hG hP 2 rfl rfl 2 (nle rfl) 31 rfl rfl rfl dX5_readRiver_105 ?_
        refine lv_aload_n (pc := 108) hexec hb dX5_readRiver_108 rfl (lv_at hl 0 rfl) ?_
        refine kg_get (pc := 109) hexec hb (own := RX5) hWX5 hown hG hP 0 rfl rfl 1 (nle rfl) (hts _ (List.mem_cons_of_mem _ (List.mem_append_left _ (List.mem_append_left _ (List.mem_append_left _ (List.mem_append_left _ (List.mem_append_left _ (List.mem_append_left _ (List.mem_of_getElem? (i := 2) rfl))))))))) rfl rfl dX5_readRiver_109 ?_
        refine kg_getN (pc := 112) hexec hb (own := RX5) hWX7 hown hG hP 2 rfl rfl 3 (nle rfl) 33 rfl rfl rfl dX5_readRiver_112 ?_
        obtain ⟨x4_rivers_1, y11_riverOf_1, y12_riverPlace_1, hc, hf⟩ := bd3_e hf
        refine kVp (pc := 115) (S := ⟨hexec, hb, hml, hown, hts⟩) hP hD hG hA hS [4, 11, 12, 9] [0, 1, 2, 3, 5, 6, 7, 8, 10, 13, 14, 15] [0, 1, 2, 3, 12, 4, 5, 6, 7, 15, 8, 13, 14, 9, 10, 11] (w2 := (w_X5_readRiver g a0 a1 a2 a3 a4 a5 a6 a7 a8 a9 a10 a11 a12 a13 a14 a15 u0_5 u0_7 u0_11 u1_2 u1_4 u5_1 u5_5 x0_length x0_at_1 x0_wordStart x0_numberStart_1 x0_number_1 x0_cell_1 x0_error_1 x0_errorAt_1 x2_length_1 y3_text x4_rows x4_columns x4_rivers_1 x5_count y6_namesOn_1 y7_costs_1 y8_sums_1 y9_way_1 y10_land y11_riverOf_1 y12_riverPlace_1 y13_direction_1 y14_home y15_length)) rfl rfl rfl rfl rfl rfl (by decide) (c_X1_layRiver l g a4 a11 a12 a9 _ (.int x4_rows) (.int x4_columns) (.ref a10) x4_rivers y11_riverOf y12_riverPlace y9_way_1 x2_length_1 x4_rivers_1 y11_riverOf_1 y12_riverPlace_1 hc) gX5_readRiver_X1_layRiver rfl hv_X1_layRiver ⟨nle rfl, nle rfl⟩ 1 0 rfl rfl rfl (rest := []) rfl rfl hl.1 (nle rfl) dX5_readRiver_115 (fun H locs hP hD hS => ?_)
        refine lv_iconst (pc := 118) hexec hb dX5_readRiver_118 ki_1 ?_
        cases hf
        exact ke_z hQ hexec hb hr (.inr rfl) hP hD hS dX5_readRiver_119 hlocks
      · refine lv_aload_n (pc := 66) hexec hb dX5_readRiver_66 rfl (lv_at hl 0 rfl) ?_
        refine lv_iconst (pc := 67) hexec hb dX5_readRiver_67 ki_3 ?_
        refine lv_aload_n (pc := 68) hexec hb dX5_readRiver_68 rfl (lv_at hl 0 rfl) ?_
        refine kg_get (pc := 69) hexec hb (own := RX5) hWX5 hown hG hP 0 rfl rfl 8 (nle rfl) (hts _ (List.mem_cons_of_mem _ (List.mem_append_left _ (List.mem_append_left _ (List.mem_append_left _ (List.mem_append_left _ (List.mem_append_left _ (List.mem_append_left _ (List.mem_of_getElem? (i := 4) rfl))))))))) rfl rfl dX5_readRiver_69 ?_
        obtain ⟨r72, x0_error_2, x0_errorAt_2, hc, hf⟩ := bd3_e hf
        refine kVp (pc := 72) (S := ⟨hexec, hb, hml, hown, hts⟩) hP hD hG hA hS [0] [1, 2, 3, 4, 5, 6, 7, 8, 9, 10, 11, 12, 13, 14, 15] [15, 0, 1, 2, 3, 4, 5, 6, 7, 8, 9, 10, 11, 12, 13, 14] (w2 := (w_X5_readRiver g a0 a1 a2 a3 a4 a5 a6 a7 a8 a9 a10 a11 a12 a13 a14 a15 u0_5 u0_7 u0_11 u1_2 u1_4 u5_1 u5_5 x0_length x0_at_1 x0_wordStart x0_numberStart_1 x0_number_1 x0_cell_1 x0_error_2 x0_errorAt_2 x2_length_1 y3_text x4_rows x4_columns x4_rivers x5_count y6_namesOn y7_costs_1 y8_sums_1 y9_way_1 y10_land y11_riverOf y12_riverPlace y13_direction y14_home y15_length)) rfl rfl rfl rfl rfl rfl (by decide) (c_X5_fail l g a0 _ (.ref a1) (.ref a2) (.ref a3) (.int x0_length) (.int x0_at_1) u0_5 (.int x0_wordStart) u0_7 (.int x0_numberStart_1) (.int x0_number_1) (.int x0_cell_1) u0_11 x0_error_1 x0_errorAt_1 3 x0_numberStart_1 r72 x0_error_2 x0_errorAt_2 hc) gX5_readRiver_X5_fail rfl hv_X5_fail ⟨nle rfl, nle rfl⟩ 5 0 rfl rfl rfl (rest := []) rfl rfl hl.1 (nle rfl) dX5_readRiver_72 (fun H locs hP hD hS => ?_)
        obtain ⟨hx, hf⟩ := zb_e hf
        cases hf
        exact ke_z hQ hexec hb hr hx hP hD hS dX5_readRiver_75 hlocks
    · refine lv_iconst (pc := 32) hexec hb dX5_readRiver_32 ki_0 ?_
      cases hf
      exact ke_z hQ hexec hb hr (.inl rfl) hP hD hS dX5_readRiver_33 hlocks
  · refine lv_aload_n (pc := 15) hexec hb dX5_readRiver_15 rfl (lv_at hl 0 rfl) ?_
    refine lv_iconst (pc := 16) hexec hb dX5_readRiver_16 ki_3 ?_
    refine lv_aload_n (pc := 17) hexec hb dX5_readRiver_17 rfl (lv_at hl 0 rfl) ?_
    refine kg_get (pc := 18) hexec hb (own := RX5) hWX5 hown hG hP 0 rfl rfl 6 (nle rfl) (hts _ (List.mem_cons_of_mem _ (List.mem_append_left _ (List.mem_append_left _ (List.mem_append_left _ (List.mem_append_left _ (List.mem_append_left _ (List.mem_append_left _ (List.mem_of_getElem? (i := 1) rfl))))))))) rfl rfl dX5_readRiver_18 ?_
    obtain ⟨r21, x0_error_3, x0_errorAt_3, hc, hf⟩ := bd3_e hf
    refine kVp (pc := 21) (S := ⟨hexec, hb, hml, hown, hts⟩) hP hD hG hA hS [0] [1, 2, 3, 4, 5, 6, 7, 8, 9, 10, 11, 12, 13, 14, 15] [15, 0, 1, 2, 3, 4, 5, 6, 7, 8, 9, 10, 11, 12, 13, 14] (w2 := (w_X5_readRiver g a0 a1 a2 a3 a4 a5 a6 a7 a8 a9 a10 a11 a12 a13 a14 a15 u0_5 u0_7 u0_11 u1_2 u1_4 u5_1 u5_5 x0_length x0_at x0_wordStart x0_numberStart x0_number x0_cell x0_error_3 x0_errorAt_3 x2_length y3_text x4_rows x4_columns x4_rivers x5_count y6_namesOn y7_costs y8_sums y9_way y10_land y11_riverOf y12_riverPlace y13_direction y14_home y15_length)) rfl rfl rfl rfl rfl rfl (by decide) (c_X5_fail l g a0 _ (.ref a1) (.ref a2) (.ref a3) (.int x0_length) (.int x0_at) u0_5 (.int x0_wordStart) u0_7 (.int x0_numberStart) (.int x0_number) (.int x0_cell) u0_11 x0_error x0_errorAt 3 x0_wordStart r21 x0_error_3 x0_errorAt_3 hc) gX5_readRiver_X5_fail rfl hv_X5_fail ⟨nle rfl, nle rfl⟩ 5 0 rfl rfl rfl (rest := []) rfl rfl hl.1 (nle rfl) dX5_readRiver_21 (fun H locs hP hD hS => ?_)
    obtain ⟨hx, hf⟩ := zb_e hf
    cases hf
    exact ke_z hQ hexec hb hr hx hP hD hS dX5_readRiver_24 hlocks
abbrev w_X5_readVoyage (g : GE) (a0 a1 a2 a3 a4 a5 a6 a7 : Nat) (u0_1 u0_8 u0_9 u0_10 u0_11 u1_0 u1_3 u1_4 u3_1 u3_2 u3_3 u4_1 u4_2 u4_3 : Value) (x0_length : Int32) (x0_at : Int32) (x0_voyageTold : Int32) (x0_wordStart : Int32) (x0_wordLength : Int32) (x0_error : Int32) (x0_errorAt : Int32) (y2_text : Nat → Int32) (x3_count : Int32) (x4_count : Int32) (y5_length : Nat → Int32) (y6_letters : Nat → Int32) (y7_stops : Nat → Int32) : va_W := [(a0, .inr (5, [.ref a1, u0_1, .ref a2, .int x0_length, .int x0_at, .int x0_voyageTold, .int x0_wordStart, .int x0_wordLength, u0_8, u0_9, u0_10, u0_11, .int x0_error, .int x0_errorAt])), (a1, .inr (6, [u1_0, .ref a3, .ref a4, u1_3, u1_4])), (a2, .inl (g.2.1 0, 500, .inl y2_text)), (a3, .inr (2, [.int x3_count, u3_1, u3_2, u3_3, .ref a5, .ref a6])), (a4, .inr (4, [.int x4_count, u4_1, u4_2, u4_3, .ref a7])), (a5, .inl (g.2.1 0, 8, .inl y5_length)), (a6, .inl (g.2.1 0, 64, .inl y6_letters)), (a7, .inl (g.2.1 0, 16, .inl y7_stops))]
noncomputable def f_X5_readVoyage (x0_length : Int32) (x0_at : Int32) (x0_voyageTold : Int32) (x0_wordStart : Int32) (x0_wordLength : Int32) (x0_error : Int32) (x0_errorAt : Int32) (y2_text : Nat → Int32) (x3_count : Int32) (x4_count : Int32) (y5_length : Nat → Int32) (y6_letters : Nat → Int32) (y7_stops : Nat → Int32)  : Option (Int32 × Int32 × Int32 × Int32 × Int32 × Int32 × Int32 × Int32 × (Nat → Int32)) :=
  (if x0_voyageTold = 0 then (
    bv (fun (v1 : Int32) (x0_at_1 : Int32) (x0_wordStart_1 : Int32) (x0_wordLength_1 : Int32) (x0_error_1 : Int32) (x0_errorAt_1 : Int32) (x4_count_1 : Int32) (y7_stops_1 : Nat → Int32) => ((
      bv (fun (x0_at_2 : Int32) => ((
        bd6 (f_X5_takeName x0_length x0_at_2 x0_wordStart_1 x0_wordLength_1 x0_error_1 x0_errorAt_1 y2_text) fun (r45 : Int32) (x0_at_3 : Int32) (x0_wordStart_2 : Int32) (x0_wordLength_2 : Int32) (x0_error_2 : Int32) (x0_errorAt_2 : Int32) =>
        (if r45 = 0 then (
          mr (some (0, x0_at_3, 1, x0_wordStart_2, x0_wordLength_2, x0_error_2, x0_errorAt_2, x4_count_1, y7_stops_1))
        ) else (
          (if v1 = 16 then (
            mr (bd3 (f_X5_fail x0_error_2 x0_errorAt_2 3 x0_wordStart_2) fun (r65 : Int32) (x0_error_4 : Int32) (x0_errorAt_4 : Int32) =>
            zb r65 (some (r65, x0_at_3, 1, x0_wordStart_2, x0_wordLength_2, x0_error_4, x0_errorAt_4, x4_count_1, y7_stops_1)))
          ) else (
            bd1 (f_X5_namedHarbour x0_length x0_wordStart_2 x0_wordLength_2 y2_text x3_count y5_length y6_letters) fun (r70 : Int32) =>
            (if r70 = (-1) then (
              mr (bd3 (f_X5_fail x0_error_2 x0_errorAt_2 4 x0_wordStart_2) fun (r85 : Int32) (x0_error_3 : Int32) (x0_errorAt_3 : Int32) =>
              zb r85 (some (r85, x0_at_3, 1, x0_wordStart_2, x0_wordLength_2, x0_error_3, x0_errorAt_3, x4_count_1, y7_stops_1)))
            ) else (
              bd2 (f_X4_addStop x4_count_1 y7_stops_1 r70) fun (x4_count_2 : Int32) (y7_stops_2 : Nat → Int32) =>
              bv (v1 + 1) fun v1_1 =>
              some (.inl (v1_1, x0_at_3, x0_wordStart_2, x0_wordLength_2, x0_error_2, x0_errorAt_2, x4_count_2, y7_stops_2))
            ))
          ))
        ))
        ) : Option ((Int32 × Int32 × Int32 × Int32 × Int32 × Int32 × Int32 × (Nat → Int32)) ⊕ (Int32 × Int32 × Int32 × Int32 × Int32 × Int32 × Int32 × Int32 × (Nat → Int32))))) fun j44 =>
      (if v1 = 0 then (
        j44 x0_at_1
      ) else (
        bd2 (f_X5_nextSign x0_length x0_at_1 y2_text) fun (r29 : Int32) (x0_at_4 : Int32) =>
        bd1 (f_X5_isLetter r29) fun (r32 : Int32) =>
        (if r32 = 0 then (
          mr (some (1, x0_at_4, 1, x0_wordStart_1, x0_wordLength_1, x0_error_1, x0_errorAt_1, x4_count_1, y7_stops_1))
        ) else (
          (if 16 < v1 then (
            mr (some (1, x0_at_4, 1, x0_wordStart_1, x0_wordLength_1, x0_error_1, x0_errorAt_1, x4_count_1, y7_stops_1))
          ) else (
            j44 x0_at_4
          ))
        ))
      ))
      ) : Option ((Int32 × Int32 × Int32 × Int32 × Int32 × Int32 × Int32 × (Nat → Int32)) ⊕ (Int32 × Int32 × Int32 × Int32 × Int32 × Int32 × Int32 × Int32 × (Nat → Int32))))) fun l24 =>
    lq8 l24 0 x0_at x0_wordStart x0_wordLength x0_error x0_errorAt x4_count y7_stops
  ) else (
    bd3 (f_X5_fail x0_error x0_errorAt 3 x0_wordStart) fun (r13 : Int32) (x0_error_5 : Int32) (x0_errorAt_5 : Int32) =>
    zb r13 (some (r13, x0_at, x0_voyageTold, x0_wordStart, x0_wordLength, x0_error_5, x0_errorAt_5, x4_count, y7_stops))
  ))
set_option maxRecDepth 4000 in
theorem c_X5_readVoyage (l : Launch) (g : GE) (a0 a1 a2 a3 a4 a5 a6 a7 : Nat) (sz : Nat) (u0_1 u0_8 u0_9 u0_10 u0_11 u1_0 u1_3 u1_4 u3_1 u3_2 u3_3 u4_1 u4_2 u4_3 : Value) (x0_length : Int32) (x0_at : Int32) (x0_voyageTold : Int32) (x0_wordStart : Int32) (x0_wordLength : Int32) (x0_error : Int32) (x0_errorAt : Int32) (y2_text : Nat → Int32) (x3_count : Int32) (x4_count : Int32) (y5_length : Nat → Int32) (y6_letters : Nat → Int32) (y7_stops : Nat → Int32)  (r : Int32) (o_x0_at : Int32) (o_x0_voyageTold : Int32) (o_x0_wordStart : Int32) (o_x0_wordLength : Int32) (o_x0_error : Int32) (o_x0_errorAt : Int32) (o_x4_count : Int32) (o_y7_stops : Nat → Int32) (hf : f_X5_readVoyage x0_length x0_at x0_voyageTold x0_wordStart x0_wordLength x0_error x0_errorAt y2_text x3_count x4_count y5_length y6_letters y7_stops = some (r, o_x0_at, o_x0_voyageTold, o_x0_wordStart, o_x0_wordLength, o_x0_error, o_x0_errorAt, o_x4_count, o_y7_stops)) : MI l g yX5_readVoyage wsX5_readVoyage 5 107 [.ref a0] (w_X5_readVoyage g a0 a1 a2 a3 a4 a5 a6 a7 u0_1 u0_8 u0_9 u0_10 u0_11 u1_0 u1_3 u1_4 u3_1 u3_2 u3_3 u4_1 u4_2 u4_3 x0_length x0_at x0_voyageTold x0_wordStart x0_wordLength x0_error x0_errorAt y2_text x3_count x4_count y5_length y6_letters y7_stops) sz (some (.int r)) (w_X5_readVoyage g a0 a1 a2 a3 a4 a5 a6 a7 u0_1 u0_8 u0_9 u0_10 u0_11 u1_0 u1_3 u1_4 u3_1 u3_2 u3_3 u4_1 u4_2 u4_3 x0_length o_x0_at o_x0_voyageTold o_x0_wordStart o_x0_wordLength o_x0_error o_x0_errorAt y2_text x3_count o_x4_count y5_length y6_letters o_y7_stops) := by
  refine MI.start (cc := cX5_readVoyage) (maxL := 3) (ret := (some .boolean)) rfl rfl (nle rfl) ?_
  intro p e s m args below meth c A ls Q hQ hexec hb hr hts hown hlocks hml hA hP hD hG hS hl
  unfold f_X5_readVoyage at hf
  have hWX2 : ∀ w ∈ wsX20, w.before args s = true := fun w h => hts w (List.mem_cons_of_mem _ (List.mem_append_left _ (List.mem_append_right _ h)))
  have hWX4 : ∀ w ∈ wsX40, w.before args s = true := fun w h => hts w (List.mem_cons_of_mem _ (List.mem_append_right _ h))
  have hWX5 : ∀ w ∈ wsX50, w.before args s = true := fun w h => hts w (List.mem_cons_of_mem _ (List.mem_append_left _ (List.mem_append_left _ (List.mem_append_left _ (List.mem_append_right _ h)))))
  have hWX6 : ∀ w ∈ wsX60, w.before args s = true := fun w h => hts w (List.mem_cons_of_mem _ (List.mem_append_left _ (List.mem_append_left _ (List.mem_append_right _ h))))
  have hS : va_S A s.heap s.heap [] := hS
  refine lv_aload_n (pc := 0) hexec hb dX5_readVoyage_0 rfl (lv_at hl 0 rfl) ?_
  refine kg_get (pc := 1) hexec hb (own := RX5) hWX5 hown hG hP 0 rfl rfl 5 (nle rfl) (hts _ (List.mem_cons_of_mem _ (List.mem_append_left _ (List.mem_append_left _ (List.mem_append_left _ (List.mem_append_left _ (List.mem_append_left _ (List.mem_of_getElem? (i := 0) rfl)))))))) rfl rfl dX5_readVoyage_1 ?_
  refine kb_eq (pc := 4) hexec hb dX5_readVoyage_4 (tgt := 17) rfl hf (fun hc hf => ?_) (fun hc hf => ?_)
  · refine lv_aload_n (pc := 17) hexec hb dX5_readVoyage_17 rfl (lv_at hl 0 rfl) ?_
    refine lv_iconst (pc := 18) hexec hb dX5_readVoyage_18 ki_1 ?_
    refine kp_put (pc := 19) hexec hb (own := RX5) hWX5 tyX5 tyX5_ok nmX5 hown hG hP hD hS 0 rfl rfl 5 (nle rfl) (hts _ (List.mem_cons_of_mem _ (List.mem_append_left _ (List.mem_append_left _ (List.mem_append_left _ (List.mem_append_left _ (List.mem_append_left _ (List.mem_of_getElem? (i := 0) rfl)))))))) rfl rfl rfl rfl (nle rfl) dX5_readVoyage_19 (fun H locs (hP : va_P g.1 vwCl (w_X5_readVoyage g a0 a1 a2 a3 a4 a5 a6 a7 u0_1 u0_8 u0_9 u0_10 u0_11 u1_0 u1_3 u1_4 u3_1 u3_2 u3_3 u4_1 u4_2 u4_3 x0_length x0_at 1 x0_wordStart x0_wordLength x0_error x0_errorAt y2_text x3_count x4_count y5_length y6_letters y7_stops) H) (hD : va_D A (w_X5_readVoyage g a0 a1 a2 a3 a4 a5 a6 a7 u0_1 u0_8 u0_9 u0_10 u0_11 u1_0 u1_3 u1_4 u3_1 u3_2 u3_3 u4_1 u4_2 u4_3 x0_length x0_at 1 x0_wordStart x0_wordLength x0_error x0_errorAt y2_text x3_count x4_count y5_length y6_letters y7_stops)) hS => ?_)
    refine lv_iconst (pc := 22) hexec hb dX5_readVoyage_22 ki_0 ?_
    refine lv_istore_n (pc := 23) hexec hb dX5_readVoyage_23 rfl hl (nle rfl) rfl (fun ls (hl : lv_has ls 3 [(1, .int 0), (0, .ref a0)]) => ?_)
    obtain ⟨l24, el24, hf⟩ := bvf8 hf
    obtain ⟨n, hz⟩ := lq8_e hf
    have hL24 : ∀ (n : Nat) (v1 : Int32) (x0_at_1 : Int32) (x0_wordStart_1 : Int32) (x0_wordLength_1 : Int32) (x0_error_1 : Int32) (x0_errorAt_1 : Int32) (x4_count_1 : Int32) (y7_stops_1 : Nat → Int32) (H : Heap) (locs : List Loc) (ls : Array Slot), it8 l24 n v1 x0_at_1 x0_wordStart_1 x0_wordLength_1 x0_error_1 x0_errorAt_1 x4_count_1 y7_stops_1 = some (r, o_x0_at, o_x0_voyageTold, o_x0_wordStart, o_x0_wordLength, o_x0_error, o_x0_errorAt, o_x4_count, o_y7_stops) → va_P g.1 vwCl (w_X5_readVoyage g a0 a1 a2 a3 a4 a5 a6 a7 u0_1 u0_8 u0_9 u0_10 u0_11 u1_0 u1_3 u1_4 u3_1 u3_2 u3_3 u4_1 u4_2 u4_3 x0_length x0_at_1 1 x0_wordStart_1 x0_wordLength_1 x0_error_1 x0_errorAt_1 y2_text x3_count x4_count_1 y5_length y6_letters y7_stops_1) H → va_D A (w_X5_readVoyage g a0 a1 a2 a3 a4 a5 a6 a7 u0_1 u0_8 u0_9 u0_10 u0_11 u1_0 u1_3 u1_4 u3_1 u3_2 u3_3 u4_1 u4_2 u4_3 x0_length x0_at_1 1 x0_wordStart_1 x0_wordLength_1 x0_error_1 x0_errorAt_1 y2_text x3_count x4_count_1 y5_length y6_letters y7_stops_1) → va_S A s.heap H locs → lv_has ls 3 [(0, .ref a0), (1, .int v1)] → W p l e (RM 5 107) s m args below meth c H locs 0 0 Q (F0 m 24 ls []) := by
      intro n
      induction n with
      | zero =>
        intro v1 x0_at_1 x0_wordStart_1 x0_wordLength_1 x0_error_1 x0_errorAt_1 x4_count_1 y7_stops_1 H locs ls hf hP hD hS hl
        exact it8_0 hf
      | succ n24 ih24 =>
        intro v1 x0_at_1 x0_wordStart_1 x0_wordLength_1 x0_error_1 x0_errorAt_1 x4_count_1 y7_stops_1 H locs ls hf hP hD hS hl
        obtain ⟨q24, hf, hk24⟩ := it8_e hf
        have hf := (el24 v1 x0_at_1 x0_wordStart_1 x0_wordLength_1 x0_error_1 x0_errorAt_1 x4_count_1 y7_stops_1).symm.trans hf
        refine lv_iload_n (pc := 24) hexec hb dX5_readVoyage_24 rfl (lv_at hl 1 rfl) ?_
        obtain ⟨j44, ej44, hf⟩ := bvf1 hf
        have hj44 : ∀ (x0_at_2 : Int32) (H : Heap) (locs : List Loc) (ls : Array Slot), j44 x0_at_2 = some q24 → va_P g.1 vwCl (w_X5_readVoyage g a0 a1 a2 a3 a4 a5 a6 a7 u0_1 u0_8 u0_9 u0_10 u0_11 u1_0 u1_3 u1_4 u3_1 u3_2 u3_3 u4_1 u4_2 u4_3 x0_length x0_at_2 1 x0_wordStart_1 x0_wordLength_1 x0_error_1 x0_errorAt_1 y2_text x3_count x4_count_1 y5_length y6_letters y7_stops_1) H → va_D A (w_X5_readVoyage g a0 a1 a2 a3 a4 a5 a6 a7 u0_1 u0_8 u0_9 u0_10 u0_11 u1_0 u1_3 u1_4 u3_1 u3_2 u3_3 u4_1 u4_2 u4_3 x0_length x0_at_2 1 x0_wordStart_1 x0_wordLength_1 x0_error_1 x0_errorAt_1 y2_text x3_count x4_count_1 y5_length y6_letters y7_stops_1) → va_S A s.heap H locs → lv_has ls 3 [(0, .ref a0), (1, .int v1)] → W p l e (RM 5 107) s m args below meth c H locs 0 0 Q (F0 m 44 ls []) := by
          intro x0_at_2 H locs ls hf hP hD hS hl
          have hf := (ej44 x0_at_2).symm.trans hf
          refine lv_aload_n (pc := 44) hexec hb dX5_readVoyage_44 rfl (lv_at hl 0 rfl) ?_
          obtain ⟨r45, x0_at_3, x0_wordStart_2, x0_wordLength_2, x0_error_2, x0_errorAt_2, hc, hf⟩ := bd6_e hf
          refine kVp (pc := 45) (S := ⟨hexec, hb, hml, hown, hts⟩) hP hD hG hA hS [0, 2] [1, 3, 4, 5, 6, 7] [6, 0, 7, 1, 2, 3, 4, 5] (w2 := (w_X5_readVoyage g a0 a1 a2 a3 a4 a5 a6 a7 u0_1 u0_8 u0_9 u0_10 u0_11 u1_0 u1_3 u1_4 u3_1 u3_2 u3_3 u4_1 u4_2 u4_3 x0_length x0_at_3 1 x0_wordStart_2 x0_wordLength_2 x0_error_2 x0_errorAt_2 y2_text x3_count x4_count_1 y5_length y6_letters y7_stops_1)) rfl rfl rfl rfl rfl rfl (by decide) (c_X5_takeName l g a0 a2 _ (.ref a1) u0_1 (.int 1) u0_8 u0_9 u0_10 u0_11 x0_length x0_at_2 x0_wordStart_1 x0_wordLength_1 x0_error_1 x0_errorAt_1 y2_text r45 x0_at_3 x0_wordStart_2 x0_wordLength_2 x0_error_2 x0_errorAt_2 hc) gX5_readVoyage_X5_takeName rfl hv_X5_takeName ⟨nle rfl, nle rfl⟩ 5 0 rfl rfl rfl (rest := []) rfl rfl hl.1 (nle rfl) dX5_readVoyage_45 (fun H locs hP hD hS => ?_)
          refine kb_ne (pc := 48) hexec hb dX5_readVoyage_48 (tgt := 53) rfl hf (fun hc hf => ?_) (fun hc hf => ?_)
          · refine lv_iload_n (pc := 53) hexec hb dX5_readVoyage_53 rfl (lv_at hl 1 rfl) ?_
            refine lv_bipush (pc := 54) hexec hb dX5_readVoyage_54 kb_16 ?_
            refine ki_ne (pc := 56) hexec hb dX5_readVoyage_56 (tgt := 69) rfl hf (fun hc hf => ?_) (fun hc hf => ?_)
            · refine lv_aload_n (pc := 69) hexec hb dX5_readVoyage_69 rfl (lv_at hl 0 rfl) ?_
              obtain ⟨r70, hc, hf⟩ := bd1_e hf
              refine kVp (pc := 70) (S := ⟨hexec, hb, hml, hown, hts⟩) hP hD hG hA hS [0, 1, 2, 3, 5, 6] [4, 7] [2, 3, 4, 5, 0, 6, 7, 1] (w2 := (w_X5_readVoyage g a0 a1 a2 a3 a4 a5 a6 a7 u0_1 u0_8 u0_9 u0_10 u0_11 u1_0 u1_3 u1_4 u3_1 u3_2 u3_3 u4_1 u4_2 u4_3 x0_length x0_at_3 1 x0_wordStart_2 x0_wordLength_2 x0_error_2 x0_errorAt_2 y2_text x3_count x4_count_1 y5_length y6_letters y7_stops_1)) rfl rfl rfl rfl rfl rfl (by decide) (c_X5_namedHarbour l g a0 a1 a2 a3 a5 a6 _ u0_1 (.int x0_at_3) (.int 1) u0_8 u0_9 u0_10 u0_11 (.int x0_error_2) (.int x0_errorAt_2) u1_0 (.ref a4) u1_3 u1_4 u3_1 u3_2 u3_3 x0_length x0_wordStart_2 x0_wordLength_2 y2_text x3_count y5_length y6_letters r70 hc) gX5_readVoyage_X5_namedHarbour rfl hv_X5_namedHarbour ⟨nle rfl, nle rfl⟩ 5 0 rfl rfl rfl (rest := []) rfl rfl hl.1 (nle rfl) dX5_readVoyage_70 (fun H locs hP hD hS => ?_)
              refine lv_istore_n (pc := 73) hexec hb dX5_readVoyage_73 rfl hl (nle rfl) rfl (fun ls (hl : lv_has ls 3 [(2, .int r70), (0, .ref a0), (1, .int v1)]) => ?_)
              refine lv_iload_n (pc := 74) hexec hb dX5_readVoyage_74 rfl (lv_at hl 0 rfl) ?_
              refine lv_iconst (pc := 75) hexec hb dX5_readVoyage_75 ki_m1 ?_
              refine ki_ne (pc := 76) hexec hb dX5_readVoyage_76 (tgt := 89) rfl hf (fun hc hf => ?_) (fun hc hf => ?_)
              · refine lv_aload_n (pc := 89) hexec hb dX5_readVoyage_89 rfl (lv_at hl 1 rfl) ?_
                refine kg_get (pc := 90) hexec hb (own := RX5) hWX5 hown hG hP 0 rfl rfl 0 (nle rfl) (hts _ (List.mem_cons_of_mem _ (List.mem_append_left _ (List.mem_append_left _ (List.mem_append_left _ (List.mem_append_left _ (List.mem_append_left _ (List.mem_of_getElem? (i := 2) rfl)))))))) rfl rfl dX5_readVoyage_90 ?_
                refine kg_getN (pc := 93) hexec hb (own := RX5) hWX6 hown hG hP 1 rfl rfl 2 (nle rfl) 29 rfl rfl rfl dX5_readVoyage_93 ?_
                refine lv_iload_n (pc := 96) hexec hb dX5_readVoyage_96 rfl (lv_at hl 0 rfl) ?_
                obtain ⟨x4_count_2, y7_stops_2, hc, hf⟩ := bd2_e hf
                refine kVp (pc := 97) (S := ⟨hexec, hb, hml, hown, hts⟩) hP hD hG hA hS [4, 7] [0, 1, 2, 3, 5, 6] [0, 1, 2, 3, 6, 4, 5, 7] (w2 := (w_X5_readVoyage g a0 a1 a2 a3 a4 a5 a6 a7 u0_1 u0_8 u0_9 u0_10 u0_11 u1_0 u1_3 u1_4 u3_1 u3_2 u3_3 u4_1 u4_2 u4_3 x0_length x0_at_3 1 x0_wordStart_2 x0_wordLength_2 x0_error_2 x0_errorAt_2 y2_text x3_count x4_count_2 y5_length y6_letters y7_stops_2)) rfl rfl rfl rfl rfl rfl (by decide) (c_X4_addStop l g a4 a7 _ u4_1 u4_2 u4_3 x4_count_1 y7_stops_1 r70 x4_count_2 y7_stops_2 hc) gX5_readVoyage_X4_addStop rfl hv_X4_addStop ⟨nle rfl, nle rfl⟩ 4 0 rfl rfl rfl (rest := []) rfl rfl hl.1 (nle rfl) dX5_readVoyage_97 (fun H locs hP hD hS => ?_)
                obtain ⟨v1_1, ev1_1, hf⟩ := bv_e hf
                refine k_iinc (pc := 100) hexec hb dX5_readVoyage_100 kq_1 hl (k := 2) rfl ev1_1 (nle rfl) rfl (fun ls (hl : lv_has ls 3 [(1, .int v1_1), (2, .int r70), (0, .ref a0)]) => ?_)
                refine lv_goto (pc := 103) hexec hb dX5_readVoyage_103 (tgt := 24) rfl ?_
                exact ih24 _ _ _ _ _ _ _ _ _ _ _ (sl8 hf hk24) hP hD hS (lv_sub hl [2, 0] rfl)
              · have hf := mk8 hf hk24
                refine lv_aload_n (pc := 79) hexec hb dX5_readVoyage_79 rfl (lv_at hl 1 rfl) ?_
                refine lv_iconst (pc := 80) hexec hb dX5_readVoyage_80 ki_4 ?_
                refine lv_aload_n (pc := 81) hexec hb dX5_readVoyage_81 rfl (lv_at hl 1 rfl) ?_
                refine kg_get (pc := 82) hexec hb (own := RX5) hWX5 hown hG hP 0 rfl rfl 6 (nle rfl) (hts _ (List.mem_cons_of_mem _ (List.mem_append_left _ (List.mem_append_left _ (List.mem_append_left _ (List.mem_append_left _ (List.mem_append_left _ (List.mem_of_getElem? (i := 1) rfl)))))))) rfl rfl dX5_readVoyage_82 ?_
                obtain ⟨r85, x0_error_3, x0_errorAt_3, hc, hf⟩ := bd3_e hf
                refine kVp (pc := 85) (S := ⟨hexec, hb, hml, hown, hts⟩) hP hD hG hA hS [0] [1, 2, 3, 4, 5, 6, 7] [7, 0, 1, 2, 3, 4, 5, 6] (w2 := (w_X5_readVoyage g a0 a1 a2 a3 a4 a5 a6 a7 u0_1 u0_8 u0_9 u0_10 u0_11 u1_0 u1_3 u1_4 u3_1 u3_2 u3_3 u4_1 u4_2 u4_3 x0_length x0_at_3 1 x0_wordStart_2 x0_wordLength_2 x0_error_3 x0_errorAt_3 y2_text x3_count x4_count_1 y5_length y6_letters y7_stops_1)) rfl rfl rfl rfl rfl rfl (by decide) (c_X5_fail l g a0 _ (.ref a1) u0_1 (.ref a2) (.int x0_length) (.int x0_at_3) (.int 1) (.int x0_wordStart_2) (.int x0_wordLength_2) u0_8 u0_9 u0_10 u0_11 x0_error_2 x0_errorAt_2 4 x0_wordStart_2 r85 x0_error_3 x0_errorAt_3 hc) gX5_readVoyage_X5_fail rfl hv_X5_fail ⟨nle rfl, nle rfl⟩ 5 0 rfl rfl rfl (rest := []) rfl rfl hl.1 (nle rfl) dX5_readVoyage_85 (fun H locs hP hD hS => ?_)
                obtain ⟨hx, hf⟩ := zb_e hf
                cases hf
                exact ke_z hQ hexec hb hr hx hP hD hS dX5_readVoyage_88 hlocks
            · have hf := mk8 hf hk24
              refine lv_aload_n (pc := 59) hexec hb dX5_readVoyage_59 rfl (lv_at hl 0 rfl) ?_
              refine lv_iconst (pc := 60) hexec hb dX5_readVoyage_60 ki_3 ?_
              refine lv_aload_n (pc := 61) hexec hb dX5_readVoyage_61 rfl (lv_at hl 0 rfl) ?_
              refine kg_get (pc := 62) hexec hb (own := RX5) hWX5 hown hG hP 0 rfl rfl 6 (nle rfl) (hts _ (List.mem_cons_of_mem _ (List.mem_append_left _ (List.mem_append_left _ (List.mem_append_left _ (List.mem_append_left _ (List.mem_append_left _ (List.mem_of_getElem? (i := 1) rfl)))))))) rfl rfl dX5_readVoyage_62 ?_
              obtain ⟨r65, x0_error_4, x0_errorAt_4, hc, hf⟩ := bd3_e hf
              refine kVp (pc := 65) (S := ⟨hexec, hb, hml, hown, hts⟩) hP hD hG hA hS [0] [1, 2, 3, 4, 5, 6, 7] [7, 0, 1, 2, 3, 4, 5, 6] (w2 := (w_X5_readVoyage g a0 a1 a2 a3 a4 a5 a6 a7 u0_1 u0_8 u0_9 u0_10 u0_11 u1_0 u1_3 u1_4 u3_1 u3_2 u3_3 u4_1 u4_2 u4_3 x0_length x0_at_3 1 x0_wordStart_2 x0_wordLength_2 x0_error_4 x0_errorAt_4 y2_text x3_count x4_count_1 y5_length y6_letters y7_stops_1)) rfl rfl rfl rfl rfl rfl (by decide) (c_X5_fail l g a0 _ (.ref a1) u0_1 (.ref a2) (.int x0_length) (.int x0_at_3) (.int 1) (.int x0_wordStart_2) (.int x0_wordLength_2) u0_8 u0_9 u0_10 u0_11 x0_error_2 x0_errorAt_2 3 x0_wordStart_2 r65 x0_error_4 x0_errorAt_4 hc) gX5_readVoyage_X5_fail rfl hv_X5_fail ⟨nle rfl, nle rfl⟩ 5 0 rfl rfl rfl (rest := []) rfl rfl hl.1 (nle rfl) dX5_readVoyage_65 (fun H locs hP hD hS => ?_)
              obtain ⟨hx, hf⟩ := zb_e hf
              cases hf
              exact ke_z hQ hexec hb hr hx hP hD hS dX5_readVoyage_68 hlocks
          · have hf := mk8 hf hk24
            refine lv_iconst (pc := 51) hexec hb dX5_readVoyage_51 ki_0 ?_
            cases hf
            exact ke_z hQ hexec hb hr (.inl rfl) hP hD hS dX5_readVoyage_52 hlocks
        refine kb_eq (pc := 25) hexec hb dX5_readVoyage_25 (tgt := 44) rfl hf (fun hc hf => ?_) (fun hc hf => ?_)
        · exact hj44 _ _ _ _ hf hP hD hS (lv_sub hl [0, 1] rfl)
        · refine lv_aload_n (pc := 28) hexec hb dX5_readVoyage_28 rfl (lv_at hl 0 rfl) ?_
          obtain ⟨r29, x0_at_4, hc, hf⟩ := bd2_e hf
          refine kVp (pc := 29) (S := ⟨hexec, hb, hml, hown, hts⟩) hP hD hG hA hS [0, 2] [1, 3, 4, 5, 6, 7] [6, 0, 7, 1, 2, 3, 4, 5] (w2 := (w_X5_readVoyage g a0 a1 a2 a3 a4 a5 a6 a7 u0_1 u0_8 u0_9 u0_10 u0_11 u1_0 u1_3 u1_4 u3_1 u3_2 u3_3 u4_1 u4_2 u4_3 x0_length x0_at_4 1 x0_wordStart_1 x0_wordLength_1 x0_error_1 x0_errorAt_1 y2_text x3_count x4_count_1 y5_length y6_letters y7_stops_1)) rfl rfl rfl rfl rfl rfl (by decide) (c_X5_nextSign l g a0 a2 _ (.ref a1) u0_1 (.int 1) (.int x0_wordStart_1) (.int x0_wordLength_1) u0_8 u0_9 u0_10 u0_11 (.int x0_error_1) (.int x0_errorAt_1) x0_length x0_at_1 y2_text r29 x0_at_4 hc) gX5_readVoyage_X5_nextSign rfl hv_X5_nextSign ⟨nle rfl, nle rfl⟩ 5 0 rfl rfl rfl (rest := []) rfl rfl hl.1 (nle rfl) dX5_readVoyage_29 (fun H locs hP hD hS => ?_)
          obtain ⟨r32, hc, hf⟩ := bd1_e hf
          refine kSp (pc := 32) (S := ⟨hexec, hb, hml, hown, hts⟩) hP hD hG hA hS [] [0, 1, 2, 3, 4, 5, 6, 7] [0, 1, 2, 3, 4, 5, 6, 7] (w2 := (w_X5_readVoyage g a0 a1 a2 a3 a4 a5 a6 a7 u0_1 u0_8 u0_9 u0_10 u0_11 u1_0 u1_3 u1_4 u3_1 u3_2 u3_3 u4_1 u4_2 u4_3 x0_length x0_at_4 1 x0_wordStart_1 x0_wordLength_1 x0_error_1 x0_errorAt_1 y2_text x3_count x4_count_1 y5_length y6_letters y7_stops_1)) rfl rfl rfl rfl rfl rfl (by decide) (c_X5_isLetter l g _ r29 r32 hc) gX5_readVoyage_X5_isLetter rfl hs_X5_isLetter ⟨nle rfl, nle rfl⟩ (rest := []) rfl rfl hl.1 (nle rfl) dX5_readVoyage_32 (fun H locs hP hD hS => ?_)
          refine kb_eq (pc := 35) hexec hb dX5_readVoyage_35 (tgt := 106) rfl hf (fun hc hf => ?_) (fun hc hf => ?_)
          · have hf := mk8 hf hk24
            refine lv_iconst (pc := 106) hexec hb dX5_readVoyage_106 ki_1 ?_
            cases hf
            exact ke_z hQ hexec hb hr (.inr rfl) hP hD hS dX5_readVoyage_107 hlocks
          · refine lv_iload_n (pc := 38) hexec hb dX5_readVoyage_38 rfl (lv_at hl 1 rfl) ?_
            refine lv_bipush (pc := 39) hexec hb dX5_readVoyage_39 kb_16 ?_
            refine ki_gt (pc := 41) hexec hb dX5_readVoyage_41 (tgt := 106) rfl hf (fun hc hf => ?_) (fun hc hf => ?_)
            · have hf := mk8 hf hk24
              refine lv_iconst (pc := 106) hexec hb dX5_readVoyage_106 ki_1 ?_
              cases hf
              exact ke_z hQ hexec hb hr (.inr rfl) hP hD hS dX5_readVoyage_107 hlocks
            · exact hj44 _ _ _ _ hf hP hD hS (lv_sub hl [0, 1] rfl)
    exact hL24 n _ _ _ _ _ _ _ _ _ _ _ hz hP hD hS (lv_sub hl [1, 0] rfl)
  · refine lv_aload_n (pc := 7) hexec hb dX5_readVoyage_7 rfl (lv_at hl 0 rfl) ?_
    refine lv_iconst (pc := 8) hexec hb dX5_readVoyage_8 ki_3 ?_
    refine lv_aload_n (pc := 9) hexec hb dX5_readVoyage_9 rfl (lv_at hl 0 rfl) ?_
    refine kg_get (pc := 10) hexec hb (own := RX5) hWX5 hown hG hP 0 rfl rfl 6 (nle rfl) (hts _ (List.mem_cons_of_mem _ (List.mem_append_left _ (List.mem_append_left _ (List.mem_append_left _ (List.mem_append_left _ (List.mem_append_left _ (List.mem_of_getElem? (i := 1) rfl)))))))) rfl rfl dX5_readVoyage_10 ?_
    obtain ⟨r13, x0_error_5, x0_errorAt_5, hc, hf⟩ := bd3_e hf
    refine kVp (pc := 13) (S := ⟨hexec, hb, hml, hown, hts⟩) hP hD hG hA hS [0] [1, 2, 3, 4, 5, 6, 7] [7, 0, 1, 2, 3, 4, 5, 6] (w2 := (w_X5_readVoyage g a0 a1 a2 a3 a4 a5 a6 a7 u0_1 u0_8 u0_9 u0_10 u0_11 u1_0 u1_3 u1_4 u3_1 u3_2 u3_3 u4_1 u4_2 u4_3 x0_length x0_at x0_voyageTold x0_wordStart x0_wordLength x0_error_5 x0_errorAt_5 y2_text x3_count x4_count y5_length y6_letters y7_stops)) rfl rfl rfl rfl rfl rfl (by decide) (c_X5_fail l g a0 _ (.ref a1) u0_1 (.ref a2) (.int x0_length) (.int x0_at) (.int x0_voyageTold) (.int x0_wordStart) (.int x0_wordLength) u0_8 u0_9 u0_10 u0_11 x0_error x0_errorAt 3 x0_wordStart r13 x0_error_5 x0_errorAt_5 hc) gX5_readVoyage_X5_fail rfl hv_X5_fail ⟨nle rfl, nle rfl⟩ 5 0 rfl rfl rfl (rest := []) rfl rfl hl.1 (nle rfl) dX5_readVoyage_13 (fun H locs hP hD hS => ?_)
    obtain ⟨hx, hf⟩ := zb_e hf
    cases hf
    exact ke_z hQ hexec hb hr hx hP hD hS dX5_readVoyage_16 hlocks
abbrev w_X5_readTurn (g : GE) (a0 a1 a2 a3 : Nat) (u0_1 u0_5 u0_6 u0_7 u0_10 u0_11 u1_0 u1_1 u1_3 u1_4 u3_0 u3_1 u3_3 u3_4 : Value) (x0_length : Int32) (x0_at : Int32) (x0_numberStart : Int32) (x0_number : Int32) (x0_error : Int32) (x0_errorAt : Int32) (y2_text : Nat → Int32) (x3_turn : Int32) : va_W := [(a0, .inr (5, [.ref a1, u0_1, .ref a2, .int x0_length, .int x0_at, u0_5, u0_6, u0_7, .int x0_numberStart, .int x0_number, u0_10, u0_11, .int x0_error, .int x0_errorAt])), (a1, .inr (6, [u1_0, u1_1, .ref a3, u1_3, u1_4])), (a2, .inl (g.2.1 0, 500, .inl y2_text)), (a3, .inr (4, [u3_0, u3_1, .int x3_turn, u3_3, u3_4]))]
noncomputable def f_X5_readTurn (x0_length : Int32) (x0_at : Int32) (x0_numberStart : Int32) (x0_number : Int32) (x0_error : Int32) (x0_errorAt : Int32) (y2_text : Nat → Int32) (x3_turn : Int32)  : Option (Int32 × Int32 × Int32 × Int32 × Int32 × Int32 × Int32) :=
  bd6 (f_X5_takeNumber x0_length x0_at x0_numberStart x0_number x0_error x0_errorAt y2_text 0 3) fun (r3 : Int32) (x0_at_1 : Int32) (x0_numberStart_1 : Int32) (x0_number_1 : Int32) (x0_error_1 : Int32) (x0_errorAt_1 : Int32) =>
  (if r3 = 0 then (
    some (0, x0_at_1, x0_numberStart_1, x0_number_1, x0_error_1, x0_errorAt_1, x3_turn)
  ) else (
    some (1, x0_at_1, x0_numberStart_1, x0_number_1, x0_error_1, x0_errorAt_1, x0_number_1)
  ))
set_option maxRecDepth 4000 in
theorem c_X5_readTurn (l : Launch) (g : GE) (a0 a1 a2 a3 : Nat) (sz : Nat) (u0_1 u0_5 u0_6 u0_7 u0_10 u0_11 u1_0 u1_1 u1_3 u1_4 u3_0 u3_1 u3_3 u3_4 : Value) (x0_length : Int32) (x0_at : Int32) (x0_numberStart : Int32) (x0_number : Int32) (x0_error : Int32) (x0_errorAt : Int32) (y2_text : Nat → Int32) (x3_turn : Int32)  (r : Int32) (o_x0_at : Int32) (o_x0_numberStart : Int32) (o_x0_number : Int32) (o_x0_error : Int32) (o_x0_errorAt : Int32) (o_x3_turn : Int32) (hf : f_X5_readTurn x0_length x0_at x0_numberStart x0_number x0_error x0_errorAt y2_text x3_turn = some (r, o_x0_at, o_x0_numberStart, o_x0_number, o_x0_error, o_x0_errorAt, o_x3_turn)) : MI l g yX5_readTurn wsX5_readTurn 4 89 [.ref a0] (w_X5_readTurn g a0 a1 a2 a3 u0_1 u0_5 u0_6 u0_7 u0_10 u0_11 u1_0 u1_1 u1_3 u1_4 u3_0 u3_1 u3_3 u3_4 x0_length x0_at x0_numberStart x0_number x0_error x0_errorAt y2_text x3_turn) sz (some (.int r)) (w_X5_readTurn g a0 a1 a2 a3 u0_1 u0_5 u0_6 u0_7 u0_10 u0_11 u1_0 u1_1 u1_3 u1_4 u3_0 u3_1 u3_3 u3_4 x0_length o_x0_at o_x0_numberStart o_x0_number o_x0_error o_x0_errorAt y2_text o_x3_turn) := by
  refine MI.start (cc := cX5_readTurn) (maxL := 1) (ret := (some .boolean)) rfl rfl (nle rfl) ?_
  intro p e s m args below meth c A ls Q hQ hexec hb hr hts hown hlocks hml hA hP hD hG hS hl
  unfold f_X5_readTurn at hf
  have hWX4 : ∀ w ∈ wsX40, w.before args s = true := fun w h => hts w (List.mem_cons_of_mem _ (List.mem_append_right _ h))
  have hWX5 : ∀ w ∈ wsX50, w.before args s = true := fun w h => hts w (List.mem_cons_of_mem _ (List.mem_append_left _ (List.mem_append_left _ (List.mem_append_right _ h))))
  have hWX6 : ∀ w ∈ wsX60, w.before args s = true := fun w h => hts w (List.mem_cons_of_mem _ (List.mem_append_left _ (List.mem_append_right _ h)))
  have hS : va_S A s.heap s.heap [] := hS
  refine lv_aload_n (pc := 0) hexec hb dX5_readTurn_0 rfl (lv_at hl 0 rfl) ?_
  refine lv_iconst (pc := 1) hexec hb dX5_readTurn_1 ki_0 ?_
  refine lv_iconst (pc := 2) hexec hb dX5_readTurn_2 ki_3 ?_
  obtain ⟨r3, x0_at_1, x0_numberStart_1, x0_number_1, x0_error_1, x0_errorAt_1, hc, hf⟩ := bd6_e hf
  refine kVp (pc := 3) (S := ⟨hexec, hb, hml, hown, hts⟩) hP hD hG hA hS [0, 2] [1, 3] [2, 0, 3, 1] (w2 := (w_X5_readTurn g a0 a1 a2 a3 u0_1 u0_5 u0_6 u0_7 u0_10 u0_11 u1_0 u1_1 u1_3 u1_4 u3_0 u3_1 u3_3 u3_4 x0_length x0_at_1 x0_numberStart_1 x0_number_1 x0_error_1 x0_errorAt_1 y2_text x3_turn)) rfl rfl rfl rfl rfl rfl (by decide) (c_X5_takeNumber l g a0 a2 _ (.ref a1) u0_1 u0_5 u0_6 u0_7 u0_10 u0_11 x0_length x0_at x0_numberStart x0_number x0_error x0_errorAt y2_text 0 3 r3 x0_at_1 x0_numberStart_1 x0_number_1 x0_error_1 x0_errorAt_1 hc) gX5_readTurn_X5_takeNumber rfl hv_X5_takeNumber ⟨nle rfl, nle rfl⟩ 5 0 rfl rfl rfl (rest := []) rfl rfl hl.1 (nle rfl) dX5_readTurn_3 (fun H locs hP hD hS => ?_)
  refine kb_ne (pc := 6) hexec hb dX5_readTurn_6 (tgt := 11) rfl hf (fun hc hf => ?_) (fun hc hf => ?_)
  · refine lv_aload_n (pc := 11) hexec hb dX5_readTurn_11 rfl (lv_at hl 0 rfl) ?_
    refine kg_get (pc := 12) hexec hb (own := RX5) hWX5 hown hG hP 0 rfl rfl 0 (nle rfl) (hts _ (List.mem_cons_of_mem _ (List.mem_append_left _ (List.mem_append_left _ (List.mem_append_left _ (List.mem_append_left _ (List.mem_of_getElem? (i := 0) rfl))))))) rfl rfl dX5_readTurn_12 ?_
    refine kg_getN (pc := 15) hexec hb (own := RX5) hWX6 hown hG hP 1 rfl rfl 2 (nle rfl) 29 rfl rfl rfl dX5_readTurn_15 ?_
    refine lv_aload_n (pc := 18) hexec hb dX5_readTurn_18 rfl (lv_at hl 0 rfl) ?_
    refine kg_get (pc := 19) hexec hb (own := RX5) hWX5 hown hG hP 0 rfl rfl 9 (nle rfl) (hts _ (List.mem_cons_of_mem _ (List.mem_append_left _ (List.mem_append_left _ (List.mem_append_left _ (List.mem_append_left _ (List.mem_of_getElem? (i := 1) rfl))))))) rfl rfl dX5_readTurn_19 ?_
    refine kp_putN (pc := 22) hexec hb (own := RX5) hWX4 tyX4 tyX4_ok nmX4 hown hG hP hD hS 3 rfl rfl 2 (nle rfl) 18 rfl rfl rfl rfl rfl (nle rfl) dX5_readTurn_22 (fun H locs (hP : va_P g.1 vwCl (w_X5_readTurn g a0 a1 a2 a3 u0_1 u0_5 u0_6 u0_7 u0_10 u0_11 u1_0 u1_1 u1_3 u1_4 u3_0 u3_1 u3_3 u3_4 x0_length x0_at_1 x0_numberStart_1 x0_number_1 x0_error_1 x0_errorAt_1 y2_text x0_number_1) H) (hD : va_D A (w_X5_readTurn g a0 a1 a2 a3 u0_1 u0_5 u0_6 u0_7 u0_10 u0_11 u1_0 u1_1 u1_3 u1_4 u3_0 u3_1 u3_3 u3_4 x0_length x0_at_1 x0_numberStart_1 x0_number_1 x0_error_1 x0_errorAt_1 y2_text x0_number_1)) hS => ?_)
    refine lv_iconst (pc := 25) hexec hb dX5_readTurn_25 ki_1 ?_
    cases hf
    exact ke_z hQ hexec hb hr (.inr rfl) hP hD hS dX5_readTurn_26 hlocks
  · refine lv_iconst (pc := 9) hexec hb dX5_readTurn_9 ki_0 ?_
    cases hf
    exact ke_z hQ hexec hb hr (.inl rfl) hP hD hS dX5_readTurn_10 hlocks
