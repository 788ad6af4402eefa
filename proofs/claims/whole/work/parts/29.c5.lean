abbrev w_X5_addByte (g : GE) (a0 a1 : Nat) (u0_0 u0_1 u0_4 u0_5 u0_6 u0_7 u0_8 u0_9 u0_10 u0_11 u0_12 u0_13 : Value) (x0_length : Int32) (y1_text : Nat → Int32) : va_W := [(a0, .inr (5, [u0_0, u0_1, .ref a1, .int x0_length, u0_4, u0_5, u0_6, u0_7, u0_8, u0_9, u0_10, u0_11, u0_12, u0_13])), (a1, .inl (g.2.1 0, 500, .inl y1_text))]
noncomputable def f_X5_addByte (x0_length : Int32) (y1_text : Nat → Int32) (p1 : Int32) : Option (Int32 × (Nat → Int32)) :=
  (if 500 ≤ x0_length then (
    some (x0_length, y1_text)
  ) else (
    ar x0_length 500 <| bv (upd y1_text x0_length.toNatClampNeg p1) fun y1_text_1 =>
    bv (x0_length + 1) fun x0_length_1 =>
    some (x0_length_1, y1_text_1)
  ))
set_option maxRecDepth 4000 in
theorem c_X5_addByte (l : Launch) (g : GE) (a0 a1 : Nat) (sz : Nat) (u0_0 u0_1 u0_4 u0_5 u0_6 u0_7 u0_8 u0_9 u0_10 u0_11 u0_12 u0_13 : Value) (x0_length : Int32) (y1_text : Nat → Int32) (p1 : Int32)  (o_x0_length : Int32) (o_y1_text : Nat → Int32) (hf : f_X5_addByte x0_length y1_text p1 = some (o_x0_length, o_y1_text)) : MI l g yX5_addByte wsX5_addByte 1 24 [.ref a0, .int p1] (w_X5_addByte g a0 a1 u0_0 u0_1 u0_4 u0_5 u0_6 u0_7 u0_8 u0_9 u0_10 u0_11 u0_12 u0_13 x0_length y1_text) sz none (w_X5_addByte g a0 a1 u0_0 u0_1 u0_4 u0_5 u0_6 u0_7 u0_8 u0_9 u0_10 u0_11 u0_12 u0_13 o_x0_length o_y1_text) := by
  refine MI.start (cc := cX5_addByte) (maxL := 2) (ret := none) rfl rfl (nle rfl) ?_
  intro p e s m args below meth c A ls Q hQ hexec hb hr hts hown hlocks hml hA hP hD hG hS hl
  unfold f_X5_addByte at hf
  have hWX5 : ∀ w ∈ wsX50, w.before args s = true := fun w h => hts w (List.mem_cons_of_mem _ (List.mem_append_right _ h))
  have hS : va_S A s.heap s.heap [] := hS
  refine lv_aload_n (pc := 0) hexec hb dX5_addByte_0 rfl (lv_at hl 0 rfl) ?_
  refine kg_get (pc := 1) hexec hb (own := RX5) hWX5 hown hG hP 0 rfl rfl 3 (nle rfl) (hts _ (List.mem_cons_of_mem _ (List.mem_append_left _ (List.mem_of_getElem? (i := 0) rfl)))) rfl rfl dX5_addByte_1 ?_
  refine lv_sipush (pc := 4) hexec hb dX5_addByte_4 ks_500 ?_
  refine ki_ge (pc := 7) hexec hb dX5_addByte_7 (tgt := 30) rfl hf (fun hc hf => ?_) (fun hc hf => ?_)
  · cases hf
    exact ke_v hQ hexec hb hr hP hD hS dX5_addByte_30 hlocks
  · refine lv_aload_n (pc := 10) hexec hb dX5_addByte_10 rfl (lv_at hl 0 rfl) ?_
    refine kg_get (pc := 11) hexec hb (own := RX5) hWX5 hown hG hP 0 rfl rfl 2 (nle rfl) (hts _ (List.mem_cons_of_mem _ (List.mem_append_left _ (List.mem_of_getElem? (i := 1) rfl)))) rfl rfl dX5_addByte_11 ?_
    refine lv_aload_n (pc := 14) hexec hb dX5_addByte_14 rfl (lv_at hl 0 rfl) ?_
    refine kg_get (pc := 15) hexec hb (own := RX5) hWX5 hown hG hP 0 rfl rfl 3 (nle rfl) (hts _ (List.mem_cons_of_mem _ (List.mem_append_left _ (List.mem_of_getElem? (i := 0) rfl)))) rfl rfl dX5_addByte_15 ?_
    refine lv_iload_n (pc := 18) hexec hb dX5_addByte_18 rfl (lv_at hl 1 rfl) ?_
    refine kw_iast (pc := 19) hexec hb hG hP hD hS 1 rfl hf dX5_addByte_19 (fun y1_text_1 H locs hf (hP : va_P g.1 vwCl (w_X5_addByte g a0 a1 u0_0 u0_1 u0_4 u0_5 u0_6 u0_7 u0_8 u0_9 u0_10 u0_11 u0_12 u0_13 x0_length y1_text_1) H) (hD : va_D A (w_X5_addByte g a0 a1 u0_0 u0_1 u0_4 u0_5 u0_6 u0_7 u0_8 u0_9 u0_10 u0_11 u0_12 u0_13 x0_length y1_text_1)) hS => ?_)
    refine lv_aload_n (pc := 20) hexec hb dX5_addByte_20 rfl (lv_at hl 0 rfl) ?_
    refine lv_dup (pc := 21) hexec hb dX5_addByte_21 rfl ?_
    refine kg_get (pc := 22) hexec hb (own := RX5) hWX5 hown hG hP 0 rfl rfl 3 (nle rfl) (hts _ (List.mem_cons_of_mem _ (List.mem_append_left _ (List.mem_of_getElem? (i := 0) rfl)))) rfl rfl dX5_addByte_22 ?_
    refine lv_iconst (pc := 25) hexec hb dX5_addByte_25 ki_1 ?_
    refine lv_iadd (pc := 26) hexec hb dX5_addByte_26 ?_
    obtain ⟨x0_length_1, ex0_length_1, hf⟩ := bv_e hf
    refine kn_i ex0_length_1 ?_
    refine kp_put (pc := 27) hexec hb (own := RX5) hWX5 tyX5 tyX5_ok nmX5 hown hG hP hD hS 0 rfl rfl 3 (nle rfl) (hts _ (List.mem_cons_of_mem _ (List.mem_append_left _ (List.mem_of_getElem? (i := 0) rfl)))) rfl rfl rfl rfl (nle rfl) dX5_addByte_27 (fun H locs (hP : va_P g.1 vwCl (w_X5_addByte g a0 a1 u0_0 u0_1 u0_4 u0_5 u0_6 u0_7 u0_8 u0_9 u0_10 u0_11 u0_12 u0_13 x0_length_1 y1_text_1) H) (hD : va_D A (w_X5_addByte g a0 a1 u0_0 u0_1 u0_4 u0_5 u0_6 u0_7 u0_8 u0_9 u0_10 u0_11 u0_12 u0_13 x0_length_1 y1_text_1)) hS => ?_)
    cases hf
    exact ke_v hQ hexec hb hr hP hD hS dX5_addByte_30 hlocks
abbrev w_X5_signAt (g : GE) (a0 a1 : Nat) (u0_0 u0_1 u0_4 u0_5 u0_6 u0_7 u0_8 u0_9 u0_10 u0_11 u0_12 u0_13 : Value) (x0_length : Int32) (y1_text : Nat → Int32) : va_W := [(a0, .inr (5, [u0_0, u0_1, .ref a1, .int x0_length, u0_4, u0_5, u0_6, u0_7, u0_8, u0_9, u0_10, u0_11, u0_12, u0_13])), (a1, .inl (g.2.1 0, 500, .inl y1_text))]
noncomputable def f_X5_signAt (x0_length : Int32) (y1_text : Nat → Int32) (p1 : Int32) : Option (Int32) :=
  bv (fun (_ : Unit) => ((
    some (-1)
    ) : Option (Int32))) fun j28 =>
  (if p1 < 0 then (
    j28 ()
  ) else (
    (if x0_length ≤ p1 then (
      j28 ()
    ) else (
      (if 500 ≤ p1 then (
        j28 ()
      ) else (
        ar p1 500 <|
        some (y1_text p1.toNatClampNeg)
      ))
    ))
  ))
set_option maxRecDepth 4000 in
theorem c_X5_signAt (l : Launch) (g : GE) (a0 a1 : Nat) (sz : Nat) (u0_0 u0_1 u0_4 u0_5 u0_6 u0_7 u0_8 u0_9 u0_10 u0_11 u0_12 u0_13 : Value) (x0_length : Int32) (y1_text : Nat → Int32) (p1 : Int32)  (r : Int32) (hf : f_X5_signAt x0_length y1_text p1 = some r) : MI l g yX5_signAt wsX5_signAt 1 24 [.ref a0, .int p1] (w_X5_signAt g a0 a1 u0_0 u0_1 u0_4 u0_5 u0_6 u0_7 u0_8 u0_9 u0_10 u0_11 u0_12 u0_13 x0_length y1_text) sz (some (.int r)) (w_X5_signAt g a0 a1 u0_0 u0_1 u0_4 u0_5 u0_6 u0_7 u0_8 u0_9 u0_10 u0_11 u0_12 u0_13 x0_length y1_text) := by
  refine MI.start (cc := cX5_signAt) (maxL := 2) (ret := (some .int)) rfl rfl (nle rfl) ?_
  intro p e s m args below meth c A ls Q hQ hexec hb hr hts hown hlocks hml hA hP hD hG hS hl
  unfold f_X5_signAt at hf
  have hWX5 : ∀ w ∈ wsX50, w.before args s = true := fun w h => hts w (List.mem_cons_of_mem _ (List.mem_append_right _ h))
  have hS : va_S A s.heap s.heap [] := hS
  refine lv_iload_n (pc := 0) hexec hb dX5_signAt_0 rfl (lv_at hl 1 rfl) ?_
  obtain ⟨j28, ej28, hf⟩ := bvf1 hf
  have hj28 : ∀ (u : Unit) (H : Heap) (locs : List Loc) (ls : Array Slot), j28 u = some r → va_P g.1 vwCl (w_X5_signAt g a0 a1 u0_0 u0_1 u0_4 u0_5 u0_6 u0_7 u0_8 u0_9 u0_10 u0_11 u0_12 u0_13 x0_length y1_text) H → va_D A (w_X5_signAt g a0 a1 u0_0 u0_1 u0_4 u0_5 u0_6 u0_7 u0_8 u0_9 u0_10 u0_11 u0_12 u0_13 x0_length y1_text) → va_S A s.heap H locs → lv_has ls 2 [] → W p l e (RM 1 24) s m args below meth c H locs 0 0 Q (F0 m 28 ls []) := by
    intro u H locs ls hf hP hD hS hl
    have hf := (ej28 u).symm.trans hf
    refine lv_iconst (pc := 28) hexec hb dX5_signAt_28 ki_m1 ?_
    cases hf
    exact ke_i hQ hexec hb hr hP hD hS dX5_signAt_29 hlocks
  refine kb_lt (pc := 1) hexec hb dX5_signAt_1 (tgt := 28) rfl hf (fun hc hf => ?_) (fun hc hf => ?_)
  · exact hj28 _ _ _ _ hf hP hD hS (lv_sub hl [] rfl)
  · refine lv_iload_n (pc := 4) hexec hb dX5_signAt_4 rfl (lv_at hl 1 rfl) ?_
    refine lv_aload_n (pc := 5) hexec hb dX5_signAt_5 rfl (lv_at hl 0 rfl) ?_
    refine kg_get (pc := 6) hexec hb (own := RX5) hWX5 hown hG hP 0 rfl rfl 3 (nle rfl) (hts _ (List.mem_cons_of_mem _ (List.mem_append_left _ (List.mem_of_getElem? (i := 0) rfl)))) rfl rfl dX5_signAt_6 ?_
    refine ki_ge (pc := 9) hexec hb dX5_signAt_9 (tgt := 28) rfl hf (fun hc hf => ?_) (fun hc hf => ?_)
    · exact hj28 _ _ _ _ hf hP hD hS (lv_sub hl [] rfl)
    · refine lv_iload_n (pc := 12) hexec hb dX5_signAt_12 rfl (lv_at hl 1 rfl) ?_
      refine lv_sipush (pc := 13) hexec hb dX5_signAt_13 ks_500 ?_
      refine ki_ge (pc := 16) hexec hb dX5_signAt_16 (tgt := 28) rfl hf (fun hc hf => ?_) (fun hc hf => ?_)
      · exact hj28 _ _ _ _ hf hP hD hS (lv_sub hl [] rfl)
      · refine lv_aload_n (pc := 19) hexec hb dX5_signAt_19 rfl (lv_at hl 0 rfl) ?_
        refine kg_get (pc := 20) hexec hb (own := RX5) hWX5 hown hG hP 0 rfl rfl 2 (nle rfl) (hts _ (List.mem_cons_of_mem _ (List.mem_append_left _ (List.mem_of_getElem? (i := 1) rfl)))) rfl rfl dX5_signAt_20 ?_
        refine lv_iload_n (pc := 23) hexec hb dX5_signAt_23 rfl (lv_at hl 1 rfl) ?_
        refine kr_iald (pc := 24) hexec hb hG hP 1 rfl hf dX5_signAt_24 (fun hf => ?_)
        refine lv_goto (pc := 25) hexec hb dX5_signAt_25 (tgt := 29) rfl ?_
        cases hf
        exact ke_i hQ hexec hb hr hP hD hS dX5_signAt_29 hlocks
abbrev w_X5_nextSign (g : GE) (a0 a1 : Nat) (u0_0 u0_1 u0_5 u0_6 u0_7 u0_8 u0_9 u0_10 u0_11 u0_12 u0_13 : Value) (x0_length : Int32) (x0_at : Int32) (y1_text : Nat → Int32) : va_W := [(a0, .inr (5, [u0_0, u0_1, .ref a1, .int x0_length, .int x0_at, u0_5, u0_6, u0_7, u0_8, u0_9, u0_10, u0_11, u0_12, u0_13])), (a1, .inl (g.2.1 0, 500, .inl y1_text))]
noncomputable def f_X5_nextSign (x0_length : Int32) (x0_at : Int32) (y1_text : Nat → Int32)  : Option (Int32 × Int32) :=
  bv (fun (v1 : Int32) (x0_at_1 : Int32) => ((
    (if x0_length ≤ v1 then (
      some (.inr x0_at_1)
    ) else (
      bd1 (f_X5_signAt x0_length y1_text x0_at_1) fun (r15 : Int32) =>
      (if r15 = 32 then (
        bv (x0_at_1 + 1) fun x0_at_3 =>
        bv (v1 + 1) fun v1_1 =>
        some (.inl (v1_1, x0_at_3))
      ) else (
        some (.inr x0_at_1)
      ))
    ))
    ) : Option ((Int32 × Int32) ⊕ (Int32)))) fun l2 =>
  bd1 (lq2 l2 0 x0_at) fun (x0_at_2 : Int32) =>
  bd1 (f_X5_signAt x0_length y1_text x0_at_2) fun (r44 : Int32) =>
  some (r44, x0_at_2)
set_option maxRecDepth 4000 in
theorem c_X5_nextSign (l : Launch) (g : GE) (a0 a1 : Nat) (sz : Nat) (u0_0 u0_1 u0_5 u0_6 u0_7 u0_8 u0_9 u0_10 u0_11 u0_12 u0_13 : Value) (x0_length : Int32) (x0_at : Int32) (y1_text : Nat → Int32)   (r : Int32) (o_x0_at : Int32) (hf : f_X5_nextSign x0_length x0_at y1_text = some (r, o_x0_at)) : MI l g yX5_nextSign wsX5_nextSign 2 45 [.ref a0] (w_X5_nextSign g a0 a1 u0_0 u0_1 u0_5 u0_6 u0_7 u0_8 u0_9 u0_10 u0_11 u0_12 u0_13 x0_length x0_at y1_text) sz (some (.int r)) (w_X5_nextSign g a0 a1 u0_0 u0_1 u0_5 u0_6 u0_7 u0_8 u0_9 u0_10 u0_11 u0_12 u0_13 x0_length o_x0_at y1_text) := by
  refine MI.start (cc := cX5_nextSign) (maxL := 2) (ret := (some .int)) rfl rfl (nle rfl) ?_
  intro p e s m args below meth c A ls Q hQ hexec hb hr hts hown hlocks hml hA hP hD hG hS hl
  unfold f_X5_nextSign at hf
  have hWX5 : ∀ w ∈ wsX50, w.before args s = true := fun w h => hts w (List.mem_cons_of_mem _ (List.mem_append_right _ h))
  have hS : va_S A s.heap s.heap [] := hS
  refine lv_iconst (pc := 0) hexec hb dX5_nextSign_0 ki_0 ?_
  refine lv_istore_n (pc := 1) hexec hb dX5_nextSign_1 rfl hl (nle rfl) rfl (fun ls (hl : lv_has ls 2 [(1, .int 0), (0, .ref a0)]) => ?_)
  obtain ⟨l2, el2, hf⟩ := bvf2 hf
  obtain ⟨x0_at_2, hz, hf⟩ := bd1_e hf
  have hE2 : ∀ (H : Heap) (locs : List Loc) (ls : Array Slot), va_P g.1 vwCl (w_X5_nextSign g a0 a1 u0_0 u0_1 u0_5 u0_6 u0_7 u0_8 u0_9 u0_10 u0_11 u0_12 u0_13 x0_length x0_at_2 y1_text) H → va_D A (w_X5_nextSign g a0 a1 u0_0 u0_1 u0_5 u0_6 u0_7 u0_8 u0_9 u0_10 u0_11 u0_12 u0_13 x0_length x0_at_2 y1_text) → va_S A s.heap H locs → lv_has ls 2 [(0, .ref a0)] → W p l e (RM 2 45) s m args below meth c H locs 0 0 Q (F0 m 39 ls []) := by
    intro H locs ls hP hD hS hl
    refine lv_aload_n (pc := 39) hexec hb dX5_nextSign_39 rfl (lv_at hl 0 rfl) ?_
    refine lv_aload_n (pc := 40) hexec hb dX5_nextSign_40 rfl (lv_at hl 0 rfl) ?_
    refine kg_get (pc := 41) hexec hb (own := RX5) hWX5 hown hG hP 0 rfl rfl 4 (nle rfl) (hts _ (List.mem_cons_of_mem _ (List.mem_append_left _ (List.mem_of_getElem? (i := 1) rfl)))) rfl rfl dX5_nextSign_41 ?_
    obtain ⟨r44, hc, hf⟩ := bd1_e hf
    refine kVp (pc := 44) (S := ⟨hexec, hb, hml, hown, hts⟩) hP hD hG hA hS [0, 1] [] [0, 1] (w2 := (w_X5_nextSign g a0 a1 u0_0 u0_1 u0_5 u0_6 u0_7 u0_8 u0_9 u0_10 u0_11 u0_12 u0_13 x0_length x0_at_2 y1_text)) rfl rfl rfl rfl rfl rfl (by decide) (c_X5_signAt l g a0 a1 _ u0_0 u0_1 (.int x0_at_2) u0_5 u0_6 u0_7 u0_8 u0_9 u0_10 u0_11 u0_12 u0_13 x0_length y1_text x0_at_2 r44 hc) gX5_nextSign_X5_signAt rfl hv_X5_signAt ⟨nle rfl, nle rfl⟩ 5 0 rfl rfl rfl (rest := []) rfl rfl hl.1 (nle rfl) dX5_nextSign_44 (fun H locs hP hD hS => ?_)
    cases hf
    exact ke_i hQ hexec hb hr hP hD hS dX5_nextSign_47 hlocks
  obtain ⟨n, hz⟩ := lq2_e hz
  have hL2 : ∀ (n : Nat) (v1 : Int32) (x0_at_1 : Int32) (H : Heap) (locs : List Loc) (ls : Array Slot), it2 l2 n v1 x0_at_1 = some x0_at_2 → va_P g.1 vwCl (w_X5_nextSign g a0 a1 u0_0 u0_1 u0_5 u0_6 u0_7 u0_8 u0_9 u0_10 u0_11 u0_12 u0_13 x0_length x0_at_1 y1_text) H → va_D A (w_X5_nextSign g a0 a1 u0_0 u0_1 u0_5 u0_6 u0_7 u0_8 u0_9 u0_10 u0_11 u0_12 u0_13 x0_length x0_at_1 y1_text) → va_S A s.heap H locs → lv_has ls 2 [(0, .ref a0), (1, .int v1)] → W p l e (RM 2 45) s m args below meth c H locs 0 0 Q (F0 m 2 ls []) := by
    intro n
    induction n with
    | zero =>
      intro v1 x0_at_1 H locs ls hf hP hD hS hl
      exact it2_0 hf
    | succ n2 ih2 =>
      intro v1 x0_at_1 H locs ls hf hP hD hS hl
      obtain ⟨q2, hf, hk2⟩ := it2_e hf
      have hf := (el2 v1 x0_at_1).symm.trans hf
      refine lv_iload_n (pc := 2) hexec hb dX5_nextSign_2 rfl (lv_at hl 1 rfl) ?_
      refine lv_aload_n (pc := 3) hexec hb dX5_nextSign_3 rfl (lv_at hl 0 rfl) ?_
      refine kg_get (pc := 4) hexec hb (own := RX5) hWX5 hown hG hP 0 rfl rfl 3 (nle rfl) (hts _ (List.mem_cons_of_mem _ (List.mem_append_left _ (List.mem_of_getElem? (i := 0) rfl)))) rfl rfl dX5_nextSign_4 ?_
      refine ki_ge (pc := 7) hexec hb dX5_nextSign_7 (tgt := 39) rfl hf (fun hc hf => ?_) (fun hc hf => ?_)
      · cases sr2 hf hk2
        exact hE2 _ _ _ hP hD hS (lv_sub hl [0] rfl)
      · refine lv_aload_n (pc := 10) hexec hb dX5_nextSign_10 rfl (lv_at hl 0 rfl) ?_
        refine lv_aload_n (pc := 11) hexec hb dX5_nextSign_11 rfl (lv_at hl 0 rfl) ?_
        refine kg_get (pc := 12) hexec hb (own := RX5) hWX5 hown hG hP 0 rfl rfl 4 (nle rfl) (hts _ (List.mem_cons_of_mem _ (List.mem_append_left _ (List.mem_of_getElem? (i := 1) rfl)))) rfl rfl dX5_nextSign_12 ?_
        obtain ⟨r15, hc, hf⟩ := bd1_e hf
        refine kVp (pc := 15) (S := ⟨hexec, hb, hml, hown, hts⟩) hP hD hG hA hS [0, 1] [] [0, 1] (w2 := (w_X5_nextSign g a0 a1 u0_0 u0_1 u0_5 u0_6 u0_7 u0_8 u0_9 u0_10 u0_11 u0_12 u0_13 x0_length x0_at_1 y1_text)) rfl rfl rfl rfl rfl rfl (by decide) (c_X5_signAt l g a0 a1 _ u0_0 u0_1 (.int x0_at_1) u0_5 u0_6 u0_7 u0_8 u0_9 u0_10 u0_11 u0_12 u0_13 x0_length y1_text x0_at_1 r15 hc) gX5_nextSign_X5_signAt rfl hv_X5_signAt ⟨nle rfl, nle rfl⟩ 5 0 rfl rfl rfl (rest := []) rfl rfl hl.1 (nle rfl) dX5_nextSign_15 (fun H locs hP hD hS => ?_)
        refine lv_bipush (pc := 18) hexec hb dX5_nextSign_18 kb_32 ?_
        refine ki_ne (pc := 20) hexec hb dX5_nextSign_20 (tgt := 39) rfl hf (fun hc hf => ?_) (fun hc hf => ?_)
        · cases sr2 hf hk2
          exact hE2 _ _ _ hP hD hS (lv_sub hl [0] rfl)
        · refine lv_aload_n (pc := 23) hexec hb dX5_nextSign_23 rfl (lv_at hl 0 rfl) ?_
          refine lv_dup (pc := 24) hexec hb dX5_nextSign_24 rfl ?_
          refine kg_get (pc := 25) hexec hb (own := RX5) hWX5 hown hG hP 0 rfl rfl 4 (nle rfl) (hts _ (List.mem_cons_of_mem _ (List.mem_append_left _ (List.mem_of_getElem? (i := 1) rfl)))) rfl rfl dX5_nextSign_25 ?_
          refine lv_iconst (pc := 28) hexec hb dX5_nextSign_28 ki_1 ?_
          refine lv_iadd (pc := 29) hexec hb dX5_nextSign_29 ?_
          obtain ⟨x0_at_3, ex0_at_3, hf⟩ := bv_e hf
          refine kn_i ex0_at_3 ?_
          refine kp_put (pc := 30) hexec hb (own := RX5) hWX5 tyX5 tyX5_ok nmX5 hown hG hP hD hS 0 rfl rfl 4 (nle rfl) (hts _ (List.mem_cons_of_mem _ (List.mem_append_left _ (List.mem_of_getElem? (i := 1) rfl)))) rfl rfl rfl rfl (nle rfl) dX5_nextSign_30 (fun H locs (hP : va_P g.1 vwCl (w_X5_nextSign g a0 a1 u0_0 u0_1 u0_5 u0_6 u0_7 u0_8 u0_9 u0_10 u0_11 u0_12 u0_13 x0_length x0_at_3 y1_text) H) (hD : va_D A (w_X5_nextSign g a0 a1 u0_0 u0_1 u0_5 u0_6 u0_7 u0_8 u0_9 u0_10 u0_11 u0_12 u0_13 x0_length x0_at_3 y1_text)) hS => ?_)
          obtain ⟨v1_1, ev1_1, hf⟩ := bv_e hf
          refine k_iinc (pc := 33) hexec hb dX5_nextSign_33 kq_1 hl (k := 1) rfl ev1_1 (nle rfl) rfl (fun ls (hl : lv_has ls 2 [(1, .int v1_1), (0, .ref a0)]) => ?_)
          refine lv_goto (pc := 36) hexec hb dX5_nextSign_36 (tgt := 2) rfl ?_
          exact ih2 _ _ _ _ _ (sl2 hf hk2) hP hD hS (lv_sub hl [1, 0] rfl)
  exact hL2 n _ _ _ _ _ hz hP hD hS (lv_sub hl [1, 0] rfl)
abbrev w_X5_isLetter (g : GE) : va_W := []
noncomputable def f_X5_isLetter  (p0 : Int32) : Option (Int32) :=
  bv (fun (_ : Unit) => ((
    some 0
    ) : Option (Int32))) fun j16 =>
  (if p0 < 97 then (
    j16 ()
  ) else (
    (if 122 < p0 then (
      j16 ()
    ) else (
      some 1
    ))
  ))
set_option maxRecDepth 4000 in
theorem c_X5_isLetter (l : Launch) (g : GE) (sz : Nat)  (p0 : Int32)  (r : Int32) (hf : f_X5_isLetter p0 = some r) : MI l g yX5_isLetter wsX5_isLetter 1 24 [.int p0] (w_X5_isLetter g ) sz (some (.int r)) (w_X5_isLetter g ) := by
  refine MI.start (cc := cX5_isLetter) (maxL := 1) (ret := (some .boolean)) rfl rfl (nle rfl) ?_
  intro p e s m args below meth c A ls Q hQ hexec hb hr hts hown hlocks hml hA hP hD hG hS hl
  unfold f_X5_isLetter at hf
  have hS : va_S A s.heap s.heap [] := hS
  refine lv_iload_n (pc := 0) hexec hb dX5_isLetter_0 rfl (lv_at hl 0 rfl) ?_
  refine lv_bipush (pc := 1) hexec hb dX5_isLetter_1 kb_97 ?_
  obtain ⟨j16, ej16, hf⟩ := bvf1 hf
  have hj16 : ∀ (u : Unit) (H : Heap) (locs : List Loc) (ls : Array Slot), j16 u = some r → va_P g.1 vwCl (w_X5_isLetter g ) H → va_D A (w_X5_isLetter g ) → va_S A s.heap H locs → lv_has ls 1 [] → W p l e (RM 1 24) s m args below meth c H locs 0 0 Q (F0 m 16 ls []) := by
    intro u H locs ls hf hP hD hS hl
    have hf := (ej16 u).symm.trans hf
    refine lv_iconst (pc := 16) hexec hb dX5_isLetter_16 ki_0 ?_
    cases hf
    exact ke_z hQ hexec hb hr (.inl rfl) hP hD hS dX5_isLetter_17 hlocks
  refine ki_lt (pc := 3) hexec hb dX5_isLetter_3 (tgt := 16) rfl hf (fun hc hf => ?_) (fun hc hf => ?_)
  · exact hj16 _ _ _ _ hf hP hD hS (lv_sub hl [] rfl)
  · refine lv_iload_n (pc := 6) hexec hb dX5_isLetter_6 rfl (lv_at hl 0 rfl) ?_
    refine lv_bipush (pc := 7) hexec hb dX5_isLetter_7 kb_122 ?_
    refine ki_gt (pc := 9) hexec hb dX5_isLetter_9 (tgt := 16) rfl hf (fun hc hf => ?_) (fun hc hf => ?_)
    · exact hj16 _ _ _ _ hf hP hD hS (lv_sub hl [] rfl)
    · refine lv_iconst (pc := 12) hexec hb dX5_isLetter_12 ki_1 ?_
      refine lv_goto (pc := 13) hexec hb dX5_isLetter_13 (tgt := 17) rfl ?_
      cases hf
      exact ke_z hQ hexec hb hr (.inr rfl) hP hD hS dX5_isLetter_17 hlocks
abbrev w_X5_fail (g : GE) (a0 : Nat) (u0_0 u0_1 u0_2 u0_3 u0_4 u0_5 u0_6 u0_7 u0_8 u0_9 u0_10 u0_11 : Value) (x0_error : Int32) (x0_errorAt : Int32) : va_W := [(a0, .inr (5, [u0_0, u0_1, u0_2, u0_3, u0_4, u0_5, u0_6, u0_7, u0_8, u0_9, u0_10, u0_11, .int x0_error, .int x0_errorAt]))]
noncomputable def f_X5_fail (x0_error : Int32) (x0_errorAt : Int32) (p1 : Int32) (p2 : Int32) : Option (Int32 × Int32 × Int32) :=
  some (0, p1, p2)
set_option maxRecDepth 4000 in
theorem c_X5_fail (l : Launch) (g : GE) (a0 : Nat) (sz : Nat) (u0_0 u0_1 u0_2 u0_3 u0_4 u0_5 u0_6 u0_7 u0_8 u0_9 u0_10 u0_11 : Value) (x0_error : Int32) (x0_errorAt : Int32) (p1 : Int32) (p2 : Int32)  (r : Int32) (o_x0_error : Int32) (o_x0_errorAt : Int32) (hf : f_X5_fail x0_error x0_errorAt p1 p2 = some (r, o_x0_error, o_x0_errorAt)) : MI l g yX5_fail wsX5_fail 1 24 [.ref a0, .int p1, .int p2] (w_X5_fail g a0 u0_0 u0_1 u0_2 u0_3 u0_4 u0_5 u0_6 u0_7 u0_8 u0_9 u0_10 u0_11 x0_error x0_errorAt) sz (some (.int r)) (w_X5_fail g a0 u0_0 u0_1 u0_2 u0_3 u0_4 u0_5 u0_6 u0_7 u0_8 u0_9 u0_10 u0_11 o_x0_error o_x0_errorAt) := by
  refine MI.start (cc := cX5_fail) (maxL := 3) (ret := (some .boolean)) rfl rfl (nle rfl) ?_
  intro p e s m args below meth c A ls Q hQ hexec hb hr hts hown hlocks hml hA hP hD hG hS hl
  unfold f_X5_fail at hf
  have hWX5 : ∀ w ∈ wsX50, w.before args s = true := fun w h => hts w (List.mem_cons_of_mem _ (List.mem_append_right _ h))
  have hS : va_S A s.heap s.heap [] := hS
  refine lv_aload_n (pc := 0) hexec hb dX5_fail_0 rfl (lv_at hl 0 rfl) ?_
  refine lv_iload_n (pc := 1) hexec hb dX5_fail_1 rfl (lv_at hl 1 rfl) ?_
  refine kp_put (pc := 2) hexec hb (own := RX5) hWX5 tyX5 tyX5_ok nmX5 hown hG hP hD hS 0 rfl rfl 12 (nle rfl) (hts _ (List.mem_cons_of_mem _ (List.mem_append_left _ (List.mem_of_getElem? (i := 0) rfl)))) rfl rfl rfl rfl (nle rfl) dX5_fail_2 (fun H locs (hP : va_P g.1 vwCl (w_X5_fail g a0 u0_0 u0_1 u0_2 u0_3 u0_4 u0_5 u0_6 u0_7 u0_8 u0_9 u0_10 u0_11 p1 x0_errorAt) H) (hD : va_D A (w_X5_fail g a0 u0_0 u0_1 u0_2 u0_3 u0_4 u0_5 u0_6 u0_7 u0_8 u0_9 u0_10 u0_11 p1 x0_errorAt)) hS => ?_)
  refine lv_aload_n (pc := 5) hexec hb dX5_fail_5 rfl (lv_at hl 0 rfl) ?_
  refine lv_iload_n (pc := 6) hexec hb dX5_fail_6 rfl (lv_at hl 2 rfl) ?_
  refine kp_put (pc := 7) hexec hb (own := RX5) hWX5 tyX5 tyX5_ok nmX5 hown hG hP hD hS 0 rfl rfl 13 (nle rfl) (hts _ (List.mem_cons_of_mem _ (List.mem_append_left _ (List.mem_of_getElem? (i := 1) rfl)))) rfl rfl rfl rfl (nle rfl) dX5_fail_7 (fun H locs (hP : va_P g.1 vwCl (w_X5_fail g a0 u0_0 u0_1 u0_2 u0_3 u0_4 u0_5 u0_6 u0_7 u0_8 u0_9 u0_10 u0_11 p1 p2) H) (hD : va_D A (w_X5_fail g a0 u0_0 u0_1 u0_2 u0_3 u0_4 u0_5 u0_6 u0_7 u0_8 u0_9 u0_10 u0_11 p1 p2)) hS => ?_)
  refine lv_iconst (pc := 10) hexec hb dX5_fail_10 ki_0 ?_
  cases hf
  exact ke_z hQ hexec hb hr (.inl rfl) hP hD hS dX5_fail_11 hlocks
abbrev w_X5_takeWord (g : GE) (a0 a1 : Nat) (u0_0 u0_1 u0_5 u0_8 u0_9 u0_10 u0_11 : Value) (x0_length : Int32) (x0_at : Int32) (x0_wordStart : Int32) (x0_wordLength : Int32) (x0_error : Int32) (x0_errorAt : Int32) (y1_text : Nat → Int32) : va_W := [(a0, .inr (5, [u0_0, u0_1, .ref a1, .int x0_length, .int x0_at, u0_5, .int x0_wordStart, .int x0_wordLength, u0_8, u0_9, u0_10, u0_11, .int x0_error, .int x0_errorAt])), (a1, .inl (g.2.1 0, 500, .inl y1_text))]
noncomputable def f_X5_takeWord (x0_length : Int32) (x0_at : Int32) (x0_wordStart : Int32) (x0_wordLength : Int32) (x0_error : Int32) (x0_errorAt : Int32) (y1_text : Nat → Int32)  : Option (Int32 × Int32 × Int32 × Int32 × Int32 × Int32) :=
  bd2 (f_X5_nextSign x0_length x0_at y1_text) fun (r1 : Int32) (x0_at_1 : Int32) =>
  bv (fun (v1 : Int32) (x0_at_2 : Int32) => ((
    (if x0_length ≤ v1 then (
      some (.inr x0_at_2)
    ) else (
      bd1 (f_X5_signAt x0_length y1_text x0_at_2) fun (r28 : Int32) =>
      bd1 (f_X5_isLetter r28) fun (r31 : Int32) =>
      (if r31 = 0 then (
        some (.inr x0_at_2)
      ) else (
        bv (x0_at_2 + 1) fun x0_at_4 =>
        bv (v1 + 1) fun v1_1 =>
        some (.inl (v1_1, x0_at_4))
      ))
    ))
    ) : Option ((Int32 × Int32) ⊕ (Int32)))) fun l15 =>
  bd1 (lq2 l15 0 x0_at_1) fun (x0_at_3 : Int32) =>
  bv (x0_at_3 - x0_at_1) fun x0_wordLength_1 =>
  bv (fun (x0_error_1 : Int32) (x0_errorAt_1 : Int32) => ((
    some (1, x0_at_3, x0_at_1, x0_wordLength_1, x0_error_1, x0_errorAt_1)
    ) : Option (Int32 × Int32 × Int32 × Int32 × Int32 × Int32))) fun j85 =>
  (if 0 < x0_wordLength_1 then (
    j85 x0_error x0_errorAt
  ) else (
    bd3 (f_X5_fail x0_error x0_errorAt 1 x0_at_1) fun (r79 : Int32) (x0_error_2 : Int32) (x0_errorAt_2 : Int32) =>
    (if r79 = 0 then (
      some (0, x0_at_3, x0_at_1, x0_wordLength_1, x0_error_2, x0_errorAt_2)
    ) else (
      j85 x0_error_2 x0_errorAt_2
    ))
  ))
set_option maxRecDepth 4000 in
theorem c_X5_takeWord (l : Launch) (g : GE) (a0 a1 : Nat) (sz : Nat) (u0_0 u0_1 u0_5 u0_8 u0_9 u0_10 u0_11 : Value) (x0_length : Int32) (x0_at : Int32) (x0_wordStart : Int32) (x0_wordLength : Int32) (x0_error : Int32) (x0_errorAt : Int32) (y1_text : Nat → Int32)   (r : Int32) (o_x0_at : Int32) (o_x0_wordStart : Int32) (o_x0_wordLength : Int32) (o_x0_error : Int32) (o_x0_errorAt : Int32) (hf : f_X5_takeWord x0_length x0_at x0_wordStart x0_wordLength x0_error x0_errorAt y1_text = some (r, o_x0_at, o_x0_wordStart, o_x0_wordLength, o_x0_error, o_x0_errorAt)) : MI l g yX5_takeWord wsX5_takeWord 3 66 [.ref a0] (w_X5_takeWord g a0 a1 u0_0 u0_1 u0_5 u0_8 u0_9 u0_10 u0_11 x0_length x0_at x0_wordStart x0_wordLength x0_error x0_errorAt y1_text) sz (some (.int r)) (w_X5_takeWord g a0 a1 u0_0 u0_1 u0_5 u0_8 u0_9 u0_10 u0_11 x0_length o_x0_at o_x0_wordStart o_x0_wordLength o_x0_error o_x0_errorAt y1_text) := by
  refine MI.start (cc := cX5_takeWord) (maxL := 2) (ret := (some .boolean)) rfl rfl (nle rfl) ?_
  intro p e s m args below meth c A ls Q hQ hexec hb hr hts hown hlocks hml hA hP hD hG hS hl
  unfold f_X5_takeWord at hf
  have hWX5 : ∀ w ∈ wsX50, w.before args s = true := fun w h => hts w (List.mem_cons_of_mem _ (List.mem_append_right _ h))
  have hS : va_S A s.heap s.heap [] := hS
  refine lv_aload_n (pc := 0) hexec hb dX5_takeWord_0 rfl (lv_at hl 0 rfl) ?_
  obtain ⟨r1, x0_at_1, hc, hf⟩ := bd2_e hf
  refine kVp (pc := 1) (S := ⟨hexec, hb, hml, hown, hts⟩) hP hD hG hA hS [0, 1] [] [0, 1] (w2 := (w_X5_takeWord g a0 a1 u0_0 u0_1 u0_5 u0_8 u0_9 u0_10 u0_11 x0_length x0_at_1 x0_wordStart x0_wordLength x0_error x0_errorAt y1_text)) rfl rfl rfl rfl rfl rfl (by decide) (c_X5_nextSign l g a0 a1 _ u0_0 u0_1 u0_5 (.int x0_wordStart) (.int x0_wordLength) u0_8 u0_9 u0_10 u0_11 (.int x0_error) (.int x0_errorAt) x0_length x0_at y1_text r1 x0_at_1 hc) gX5_takeWord_X5_nextSign rfl hv_X5_nextSign ⟨nle rfl, nle rfl⟩ 5 0 rfl rfl rfl (rest := []) rfl rfl hl.1 (nle rfl) dX5_takeWord_1 (fun H locs hP hD hS => ?_)
  refine lv_pop (pc := 4) hexec hb dX5_takeWord_4 rfl ?_
  refine lv_aload_n (pc := 5) hexec hb dX5_takeWord_5 rfl (lv_at hl 0 rfl) ?_
  refine lv_aload_n (pc := 6) hexec hb dX5_takeWord_6 rfl (lv_at hl 0 rfl) ?_
  refine kg_get (pc := 7) hexec hb (own := RX5) hWX5 hown hG hP 0 rfl rfl 4 (nle rfl) (hts _ (List.mem_cons_of_mem _ (List.mem_append_left _ (List.mem_of_getElem? (i := 0) rfl)))) rfl rfl dX5_takeWord_7 ?_
  refine kp_put (pc := 10) hexec hb (own := RX5) hWX5 tyX5 tyX5_ok nmX5 hown hG hP hD hS 0 rfl rfl 6 (nle rfl) (hts _ (List.mem_cons_of_mem _ (List.mem_append_left _ (List.mem_of_getElem? (i := 1) rfl)))) rfl rfl rfl rfl (nle rfl) dX5_takeWord_10 (fun H locs (hP : va_P g.1 vwCl (w_X5_takeWord g a0 a1 u0_0 u0_1 u0_5 u0_8 u0_9 u0_10 u0_11 x0_length x0_at_1 x0_at_1 x0_wordLength x0_error x0_errorAt y1_text) H) (hD : va_D A (w_X5_takeWord g a0 a1 u0_0 u0_1 u0_5 u0_8 u0_9 u0_10 u0_11 x0_length x0_at_1 x0_at_1 x0_wordLength x0_error x0_errorAt y1_text)) hS => ?_)
  refine lv_iconst (pc := 13) hexec hb dX5_takeWord_13 ki_0 ?_
  refine lv_istore_n (pc := 14) hexec hb dX5_takeWord_14 rfl hl (nle rfl) rfl (fun ls (hl : lv_has ls 2 [(1, .int 0), (0, .ref a0)]) => ?_)
  obtain ⟨l15, el15, hf⟩ := bvf2 hf
  obtain ⟨x0_at_3, hz, hf⟩ := bd1_e hf
  have hE15 : ∀ (H : Heap) (locs : List Loc) (ls : Array Slot), va_P g.1 vwCl (w_X5_takeWord g a0 a1 u0_0 u0_1 u0_5 u0_8 u0_9 u0_10 u0_11 x0_length x0_at_3 x0_at_1 x0_wordLength x0_error x0_errorAt y1_text) H → va_D A (w_X5_takeWord g a0 a1 u0_0 u0_1 u0_5 u0_8 u0_9 u0_10 u0_11 x0_length x0_at_3 x0_at_1 x0_wordLength x0_error x0_errorAt y1_text) → va_S A s.heap H locs → lv_has ls 2 [(0, .ref a0)] → W p l e (RM 3 66) s m args below meth c H locs 0 0 Q (F0 m 53 ls []) := by
    intro H locs ls hP hD hS hl
    refine lv_aload_n (pc := 53) hexec hb dX5_takeWord_53 rfl (lv_at hl 0 rfl) ?_
    refine lv_aload_n (pc := 54) hexec hb dX5_takeWord_54 rfl (lv_at hl 0 rfl) ?_
    refine kg_get (pc := 55) hexec hb (own := RX5) hWX5 hown hG hP 0 rfl rfl 4 (nle rfl) (hts _ (List.mem_cons_of_mem _ (List.mem_append_left _ (List.mem_of_getElem? (i := 0) rfl)))) rfl rfl dX5_takeWord_55 ?_
    refine lv_aload_n (pc := 58) hexec hb dX5_takeWord_58 rfl (lv_at hl 0 rfl) ?_
    refine kg_get (pc := 59) hexec hb (own := RX5) hWX5 hown hG hP 0 rfl rfl 6 (nle rfl) (hts _ (List.mem_cons_of_mem _ (List.mem_append_left _ (List.mem_of_getElem? (i := 1) rfl)))) rfl rfl dX5_takeWord_59 ?_
    refine lv_isub (pc := 62) hexec hb dX5_takeWord_62 ?_
    obtain ⟨x0_wordLength_1, ex0_wordLength_1, hf⟩ := bv_e hf
    refine kn_i ex0_wordLength_1 ?_
    refine kp_put (pc := 63) hexec hb (own := RX5) hWX5 tyX5 tyX5_ok nmX5 hown hG hP hD hS 0 rfl rfl 7 (nle rfl) (hts _ (List.mem_cons_of_mem _ (List.mem_append_left _ (List.mem_of_getElem? (i := 3) rfl)))) rfl rfl rfl rfl (nle rfl) dX5_takeWord_63 (fun H locs (hP : va_P g.1 vwCl (w_X5_takeWord g a0 a1 u0_0 u0_1 u0_5 u0_8 u0_9 u0_10 u0_11 x0_length x0_at_3 x0_at_1 x0_wordLength_1 x0_error x0_errorAt y1_text) H) (hD : va_D A (w_X5_takeWord g a0 a1 u0_0 u0_1 u0_5 u0_8 u0_9 u0_10 u0_11 x0_length x0_at_3 x0_at_1 x0_wordLength_1 x0_error x0_errorAt y1_text)) hS => ?_)
    refine lv_aload_n (pc := 66) hexec hb dX5_takeWord_66 rfl (lv_at hl 0 rfl) ?_
    refine kg_get (pc := 67) hexec hb (own := RX5) hWX5 hown hG hP 0 rfl rfl 7 (nle rfl) (hts _ (List.mem_cons_of_mem _ (List.mem_append_left _ (List.mem_of_getElem? (i := 3) rfl)))) rfl rfl dX5_takeWord_67 ?_
    obtain ⟨j85, ej85, hf⟩ := bvf2 hf
    have hj85 : ∀ (x0_error_1 : Int32) (x0_errorAt_1 : Int32) (H : Heap) (locs : List Loc) (ls : Array Slot), j85 x0_error_1 x0_errorAt_1 = some (r, o_x0_at, o_x0_wordStart, o_x0_wordLength, o_x0_error, o_x0_errorAt) → va_P g.1 vwCl (w_X5_takeWord g a0 a1 u0_0 u0_1 u0_5 u0_8 u0_9 u0_10 u0_11 x0_length x0_at_3 x0_at_1 x0_wordLength_1 x0_error_1 x0_errorAt_1 y1_text) H → va_D A (w_X5_takeWord g a0 a1 u0_0 u0_1 u0_5 u0_8 u0_9 u0_10 u0_11 x0_length x0_at_3 x0_at_1 x0_wordLength_1 x0_error_1 x0_errorAt_1 y1_text) → va_S A s.heap H locs → lv_has ls 2 [] → W p l e (RM 3 66) s m args below meth c H locs 0 0 Q (F0 m 85 ls []) := by
      intro x0_error_1 x0_errorAt_1 H locs ls hf hP hD hS hl
      have hf := (ej85 x0_error_1 x0_errorAt_1).symm.trans hf
      refine lv_iconst (pc := 85) hexec hb dX5_takeWord_85 ki_1 ?_
      refine lv_goto (pc := 86) hexec hb dX5_takeWord_86 (tgt := 90) rfl ?_
      cases hf
      exact ke_z hQ hexec hb hr (.inr rfl) hP hD hS dX5_takeWord_90 hlocks
    refine kb_gt (pc := 70) hexec hb dX5_takeWord_70 (tgt := 85) rfl hf (fun hc hf => ?_) (fun hc hf => ?_)
    · exact hj85 _ _ _ _ _ hf hP hD hS (lv_sub hl [] rfl)
    · refine lv_aload_n (pc := 73) hexec hb dX5_takeWord_73 rfl (lv_at hl 0 rfl) ?_
      refine lv_iconst (pc := 74) hexec hb dX5_takeWord_74 ki_1 ?_
      refine lv_aload_n (pc := 75) hexec hb dX5_takeWord_75 rfl (lv_at hl 0 rfl) ?_
      refine kg_get (pc := 76) hexec hb (own := RX5) hWX5 hown hG hP 0 rfl rfl 6 (nle rfl) (hts _ (List.mem_cons_of_mem _ (List.mem_append_left _ (List.mem_of_getElem? (i := 1) rfl)))) rfl rfl dX5_takeWord_76 ?_
      obtain ⟨r79, x0_error_2, x0_errorAt_2, hc, hf⟩ := bd3_e hf
      refine kVp (pc := 79) (S := ⟨hexec, hb, hml, hown, hts⟩) hP hD hG hA hS [0] [1] [1, 0] (w2 := (w_X5_takeWord g a0 a1 u0_0 u0_1 u0_5 u0_8 u0_9 u0_10 u0_11 x0_length x0_at_3 x0_at_1 x0_wordLength_1 x0_error_2 x0_errorAt_2 y1_text)) rfl rfl rfl rfl rfl rfl (by decide) (c_X5_fail l g a0 _ u0_0 u0_1 (.ref a1) (.int x0_length) (.int x0_at_3) u0_5 (.int x0_at_1) (.int x0_wordLength_1) u0_8 u0_9 u0_10 u0_11 x0_error x0_errorAt 1 x0_at_1 r79 x0_error_2 x0_errorAt_2 hc) gX5_takeWord_X5_fail rfl hv_X5_fail ⟨nle rfl, nle rfl⟩ 5 0 rfl rfl rfl (rest := []) rfl rfl hl.1 (nle rfl) dX5_takeWord_79 (fun H locs hP hD hS => ?_)
      refine kb_eq (pc := 82) hexec hb dX5_takeWord_82 (tgt := 89) rfl hf (fun hc hf => ?_) (fun hc hf => ?_)
      · refine lv_iconst (pc := 89) hexec hb dX5_takeWord_89 ki_0 ?_
        cases hf
        exact ke_z hQ hexec hb hr (.inl rfl) hP hD hS dX5_takeWord_90 hlocks
      · exact hj85 _ _ _ _ _ hf hP hD hS (lv_sub hl [] rfl)
  obtain ⟨n, hz⟩ := lq2_e hz
  have hL15 : ∀ (n : Nat) (v1 : Int32) (x0_at_2 : Int32) (H : Heap) (locs : List Loc) (ls : Array Slot), it2 l15 n v1 x0_at_2 = some x0_at_3 → va_P g.1 vwCl (w_X5_takeWord g a0 a1 u0_0 u0_1 u0_5 u0_8 u0_9 u0_10 u0_11 x0_length x0_at_2 x0_at_1 x0_wordLength x0_error x0_errorAt y1_text) H → va_D A (w_X5_takeWord g a0 a1 u0_0 u0_1 u0_5 u0_8 u0_9 u0_10 u0_11 x0_length x0_at_2 x0_at_1 x0_wordLength x0_error x0_errorAt y1_text) → va_S A s.heap H locs → lv_has ls 2 [(0, .ref a0), (1, .int v1)] → W p l e (RM 3 66) s m args below meth c H locs 0 0 Q (F0 m 15 ls []) := by
    intro n
    induction n with
    | zero =>
      intro v1 x0_at_2 H locs ls hf hP hD hS hl
      exact it2_0 hf
    | succ n15 ih15 =>
      intro v1 x0_at_2 H locs ls hf hP hD hS hl
      obtain ⟨q15, hf, hk15⟩ := it2_e hf
      have hf := (el15 v1 x0_at_2).symm.trans hf
      refine lv_iload_n (pc := 15) hexec hb dX5_takeWord_15 rfl (lv_at hl 1 rfl) ?_
      refine lv_aload_n (pc := 16) hexec hb dX5_takeWord_16 rfl (lv_at hl 0 rfl) ?_
      refine kg_get (pc := 17) hexec hb (own := RX5) hWX5 hown hG hP 0 rfl rfl 3 (nle rfl) (hts _ (List.mem_cons_of_mem _ (List.mem_append_left _ (List.mem_of_getElem? (i := 2) rfl)))) rfl rfl dX5_takeWord_17 ?_
      refine ki_ge (pc := 20) hexec hb dX5_takeWord_20 (tgt := 53) rfl hf (fun hc hf => ?_) (fun hc hf => ?_)
      · cases sr2 hf hk15
        exact hE15 _ _ _ hP hD hS (lv_sub hl [0] rfl)
      · refine lv_aload_n (pc := 23) hexec hb dX5_takeWord_23 rfl (lv_at hl 0 rfl) ?_
        refine lv_aload_n (pc := 24) hexec hb dX5_takeWord_24 rfl (lv_at hl 0 rfl) ?_
        refine kg_get (pc := 25) hexec hb (own := RX5) hWX5 hown hG hP 0 rfl rfl 4 (nle rfl) (hts _ (List.mem_cons_of_mem _ (List.mem_append_left _ (List.mem_of_getElem? (i := 0) rfl)))) rfl rfl dX5_takeWord_25 ?_
        obtain ⟨r28, hc, hf⟩ := bd1_e hf
        refine kVp (pc := 28) (S := ⟨hexec, hb, hml, hown, hts⟩) hP hD hG hA hS [0, 1] [] [0, 1] (w2 := (w_X5_takeWord g a0 a1 u0_0 u0_1 u0_5 u0_8 u0_9 u0_10 u0_11 x0_length x0_at_2 x0_at_1 x0_wordLength x0_error x0_errorAt y1_text)) rfl rfl rfl rfl rfl rfl (by decide) (c_X5_signAt l g a0 a1 _ u0_0 u0_1 (.int x0_at_2) u0_5 (.int x0_at_1) (.int x0_wordLength) u0_8 u0_9 u0_10 u0_11 (.int x0_error) (.int x0_errorAt) x0_length y1_text x0_at_2 r28 hc) gX5_takeWord_X5_signAt rfl hv_X5_signAt ⟨nle rfl, nle rfl⟩ 5 0 rfl rfl rfl (rest := []) rfl rfl hl.1 (nle rfl) dX5_takeWord_28 (fun H locs hP hD hS => ?_)
        obtain ⟨r31, hc, hf⟩ := bd1_e hf
        refine kSp (pc := 31) (S := ⟨hexec, hb, hml, hown, hts⟩) hP hD hG hA hS [] [0, 1] [0, 1] (w2 := (w_X5_takeWord g a0 a1 u0_0 u0_1 u0_5 u0_8 u0_9 u0_10 u0_11 x0_length x0_at_2 x0_at_1 x0_wordLength x0_error x0_errorAt y1_text)) rfl rfl rfl rfl rfl rfl (by decide) (c_X5_isLetter l g _ r28 r31 hc) gX5_takeWord_X5_isLetter rfl hs_X5_isLetter ⟨nle rfl, nle rfl⟩ (rest := []) rfl rfl hl.1 (nle rfl) dX5_takeWord_31 (fun H locs hP hD hS => ?_)
        refine kb_eq (pc := 34) hexec hb dX5_takeWord_34 (tgt := 53) rfl hf (fun hc hf => ?_) (fun hc hf => ?_)
        · cases sr2 hf hk15
          exact hE15 _ _ _ hP hD hS (lv_sub hl [0] rfl)
        · refine lv_aload_n (pc := 37) hexec hb dX5_takeWord_37 rfl (lv_at hl 0 rfl) ?_
          refine lv_dup (pc := 38) hexec hb dX5_takeWord_38 rfl ?_
          refine kg_get (pc := 39) hexec hb (own := RX5) hWX5 hown hG hP 0 rfl rfl 4 (nle rfl) (hts _ (List.mem_cons_of_mem _ (List.mem_append_left _ (List.mem_of_getElem? (i := 0) rfl)))) rfl rfl dX5_takeWord_39 ?_
          refine lv_iconst (pc := 42) hexec hb dX5_takeWord_42 ki_1 ?_
          refine lv_iadd (pc := 43) hexec hb dX5_takeWord_43 ?_
          obtain ⟨x0_at_4, ex0_at_4, hf⟩ := bv_e hf
          refine kn_i ex0_at_4 ?_
          refine kp_put (pc := 44) hexec hb (own := RX5) hWX5 tyX5 tyX5_ok nmX5 hown hG hP hD hS 0 rfl rfl 4 (nle rfl) (hts _ (List.mem_cons_of_mem _ (List.mem_append_left _ (List.mem_of_getElem? (i := 0) rfl)))) rfl rfl rfl rfl (nle rfl) dX5_takeWord_44 (fun H locs (hP : va_P g.1 vwCl (w_X5_takeWord g a0 a1 u0_0 u0_1 u0_5 u0_8 u0_9 u0_10 u0_11 x0_length x0_at_4 x0_at_1 x0_wordLength x0_error x0_errorAt y1_text) H) (hD : va_D A (w_X5_takeWord g a0 a1 u0_0 u0_1 u0_5 u0_8 u0_9 u0_10 u0_11 x0_length x0_at_4 x0_at_1 x0_wordLength x0_error x0_errorAt y1_text)) hS => ?_)
          obtain ⟨v1_1, ev1_1, hf⟩ := bv_e hf
          refine k_iinc (pc := 47) hexec hb dX5_takeWord_47 kq_1 hl (k := 1) rfl ev1_1 (nle rfl) rfl (fun ls (hl : lv_has ls 2 [(1, .int v1_1), (0, .ref a0)]) => ?_)
          refine lv_goto (pc := 50) hexec hb dX5_takeWord_50 (tgt := 15) rfl ?_
          exact ih15 _ _ _ _ _ (sl2 hf hk15) hP hD hS (lv_sub hl [1, 0] rfl)
  exact hL15 n _ _ _ _ _ hz hP hD hS (lv_sub hl [1, 0] rfl)
abbrev w_X5_wordIs (g : GE) (a0 a1 : Nat) (u0_0 u0_1 u0_4 u0_5 u0_8 u0_9 u0_10 u0_11 u0_12 u0_13 : Value) (x0_length : Int32) (x0_wordStart : Int32) (x0_wordLength : Int32) (y1_text : Nat → Int32) : va_W := [(a0, .inr (5, [u0_0, u0_1, .ref a1, .int x0_length, u0_4, u0_5, .int x0_wordStart, .int x0_wordLength, u0_8, u0_9, u0_10, u0_11, u0_12, u0_13])), (a1, .inl (g.2.1 0, 500, .inl y1_text))]
noncomputable def f_X5_wordIs (x0_length : Int32) (x0_wordStart : Int32) (x0_wordLength : Int32) (y1_text : Nat → Int32) (k1 : Nat) : Option (Int32) :=
  (if x0_wordLength = (Int32.ofNat (kwLen.getD k1 0)) then (
    bv (fun (v2 : Int32) => ((
      (if (Int32.ofNat (kwLen.getD k1 0)) ≤ v2 then (
        mr (some 1)
      ) else (
        bd1 (f_X5_signAt x0_length y1_text (x0_wordStart + v2)) fun (r30 : Int32) =>
        ar v2 (kwLen.getD k1 0) <|
        (if r30 = (kch k1 v2.toNatClampNeg) then (
          bv (v2 + 1) fun v2_1 =>
          some (.inl v2_1)
        ) else (
          mr (some 0)
        ))
      ))
      ) : Option ((Int32) ⊕ (Int32)))) fun l15 =>
    lq1 l15 0
  ) else (
    some 0
  ))
set_option maxRecDepth 4000 in
theorem c_X5_wordIs (l : Launch) (g : GE) (a0 a1 : Nat) (sz : Nat) (u0_0 u0_1 u0_4 u0_5 u0_8 u0_9 u0_10 u0_11 u0_12 u0_13 : Value) (x0_length : Int32) (x0_wordStart : Int32) (x0_wordLength : Int32) (y1_text : Nat → Int32) (k1 : Nat) (hk1 : k1 < 12) (r : Int32) (hf : f_X5_wordIs x0_length x0_wordStart x0_wordLength y1_text k1 = some r) : MI l g yX5_wordIs wsX5_wordIs 5 111 [.ref a0, .ref (adK g k1)] (w_X5_wordIs g a0 a1 u0_0 u0_1 u0_4 u0_5 u0_8 u0_9 u0_10 u0_11 u0_12 u0_13 x0_length x0_wordStart x0_wordLength y1_text) sz (some (.int r)) (w_X5_wordIs g a0 a1 u0_0 u0_1 u0_4 u0_5 u0_8 u0_9 u0_10 u0_11 u0_12 u0_13 x0_length x0_wordStart x0_wordLength y1_text) := by
  refine MI.start (cc := cX5_wordIs) (maxL := 3) (ret := (some .boolean)) rfl rfl (nle rfl) ?_
  intro p e s m args below meth c A ls Q hQ hexec hb hr hts hown hlocks hml hA hP hD hG hS hl
  unfold f_X5_wordIs at hf
  have hWX5 : ∀ w ∈ wsX50, w.before args s = true := fun w h => hts w (List.mem_cons_of_mem _ (List.mem_append_right _ h))
  have hS : va_S A s.heap s.heap [] := hS
  refine lv_aload_n (pc := 0) hexec hb dX5_wordIs_0 rfl (lv_at hl 0 rfl) ?_
  refine kg_get (pc := 1) hexec hb (own := RX5) hWX5 hown hG hP 0 rfl rfl 7 (nle rfl) (hts _ (List.mem_cons_of_mem _ (List.mem_append_left _ (List.mem_append_left _ (List.mem_of_getElem? (i := 0) rfl))))) rfl rfl dX5_wordIs_1 ?_
  refine lv_aload_n (pc := 4) hexec hb dX5_wordIs_4 rfl (lv_at hl 1 rfl) ?_
  refine kVq (pc := 5) (S := ⟨hexec, hb, hml, hown, hts⟩) hP hD hG hA hS [] [0, 1] [0, 1] (w2 := (w_X5_wordIs g a0 a1 u0_0 u0_1 u0_4 u0_5 u0_8 u0_9 u0_10 u0_11 u0_12 u0_13 x0_length x0_wordStart x0_wordLength y1_text)) rfl rfl rfl rfl rfl rfl (by decide) (c_slen l g _ k1 hk1) gX5_wordIs_J0_length_8abf5 rfl hv_J0_length ⟨nle rfl, nle rfl⟩ (vk_recv (gs_s hG) hk1 hS) (rest := [.int x0_wordLength]) rfl rfl hl.1 (nle rfl) dX5_wordIs_5 (fun H locs hP hD hS => ?_)
  refine ki_eq (pc := 8) hexec hb dX5_wordIs_8 (tgt := 13) rfl hf (fun hc hf => ?_) (fun hc hf => ?_)
  · refine lv_iconst (pc := 13) hexec hb dX5_wordIs_13 ki_0 ?_
    refine lv_istore_n (pc := 14) hexec hb dX5_wordIs_14 rfl hl (nle rfl) rfl (fun ls (hl : lv_has ls 3 [(2, .int 0), (0, .ref a0), (1, .ref (adK g k1))]) => ?_)
    obtain ⟨l15, el15, hf⟩ := bvf1 hf
    obtain ⟨n, hz⟩ := lq1_e hf
    have hL15 : ∀ (n : Nat) (v2 : Int32) (H : Heap) (locs : List Loc) (ls : Array Slot), it1 l15 n v2 = some r → va_P g.1 vwCl (w_X5_wordIs g a0 a1 u0_0 u0_1 u0_4 u0_5 u0_8 u0_9 u0_10 u0_11 u0_12 u0_13 x0_length x0_wordStart x0_wordLength y1_text) H → va_D A (w_X5_wordIs g a0 a1 u0_0 u0_1 u0_4 u0_5 u0_8 u0_9 u0_10 u0_11 u0_12 u0_13 x0_length x0_wordStart x0_wordLength y1_text) → va_S A s.heap H locs → lv_has ls 3 [(0, .ref a0), (1, .ref (adK g k1)), (2, .int v2)] → W p l e (RM 5 111) s m args below meth c H locs 0 0 Q (F0 m 15 ls []) := by
      intro n
      induction n with
      | zero =>
        intro v2 H locs ls hf hP hD hS hl
        exact it1_0 hf
      | succ n15 ih15 =>
        intro v2 H locs ls hf hP hD hS hl
        obtain ⟨q15, hf, hk15⟩ := it1_e hf
        have hf := (el15 v2).symm.trans hf
        refine lv_iload_n (pc := 15) hexec hb dX5_wordIs_15 rfl (lv_at hl 2 rfl) ?_
        refine lv_aload_n (pc := 16) hexec hb dX5_wordIs_16 rfl (lv_at hl 1 rfl) ?_
        refine kVq (pc := 17) (S := ⟨hexec, hb, hml, hown, hts⟩) hP hD hG hA hS [] [0, 1] [0, 1] (w2 := (w_X5_wordIs g a0 a1 u0_0 u0_1 u0_4 u0_5 u0_8 u0_9 u0_10 u0_11 u0_12 u0_13 x0_length x0_wordStart x0_wordLength y1_text)) rfl rfl rfl rfl rfl rfl (by decide) (c_slen l g _ k1 hk1) gX5_wordIs_J0_length_8abf5 rfl hv_J0_length ⟨nle rfl, nle rfl⟩ (vk_recv (gs_s hG) hk1 hS) (rest := [.int v2]) rfl rfl hl.1 (nle rfl) dX5_wordIs_17 (fun H locs hP hD hS => ?_)
        refine ki_ge (pc := 20) hexec hb dX5_wordIs_20 (tgt := 49) rfl hf (fun hc hf => ?_) (fun hc hf => ?_)
        · have hf := mk1 hf hk15
          refine lv_iconst (pc := 49) hexec hb dX5_wordIs_49 ki_1 ?_
          cases hf
          exact ke_z hQ hexec hb hr (.inr rfl) hP hD hS dX5_wordIs_50 hlocks
        · refine lv_aload_n (pc := 23) hexec hb dX5_wordIs_23 rfl (lv_at hl 0 rfl) ?_
          refine lv_aload_n (pc := 24) hexec hb dX5_wordIs_24 rfl (lv_at hl 0 rfl) ?_
          refine kg_get (pc := 25) hexec hb (own := RX5) hWX5 hown hG hP 0 rfl rfl 6 (nle rfl) (hts _ (List.mem_cons_of_mem _ (List.mem_append_left _ (List.mem_append_left _ (List.mem_of_getElem? (i := 1) rfl))))) rfl rfl dX5_wordIs_25 ?_
          refine lv_iload_n (pc := 28) hexec hb dX5_wordIs_28 rfl (lv_at hl 2 rfl) ?_
          refine lv_iadd (pc := 29) hexec hb dX5_wordIs_29 ?_
          obtain ⟨r30, hc, hf⟩ := bd1_e hf
          refine kVp (pc := 30) (S := ⟨hexec, hb, hml, hown, hts⟩) hP hD hG hA hS [0, 1] [] [0, 1] (w2 := (w_X5_wordIs g a0 a1 u0_0 u0_1 u0_4 u0_5 u0_8 u0_9 u0_10 u0_11 u0_12 u0_13 x0_length x0_wordStart x0_wordLength y1_text)) rfl rfl rfl rfl rfl rfl (by decide) (c_X5_signAt l g a0 a1 _ u0_0 u0_1 u0_4 u0_5 (.int x0_wordStart) (.int x0_wordLength) u0_8 u0_9 u0_10 u0_11 u0_12 u0_13 x0_length y1_text (x0_wordStart + v2) r30 hc) gX5_wordIs_X5_signAt rfl hv_X5_signAt ⟨nle rfl, nle rfl⟩ 5 0 rfl rfl rfl (rest := []) rfl rfl hl.1 (nle rfl) dX5_wordIs_30 (fun H locs hP hD hS => ?_)
          refine lv_aload_n (pc := 33) hexec hb dX5_wordIs_33 rfl (lv_at hl 1 rfl) ?_
          refine lv_iload_n (pc := 34) hexec hb dX5_wordIs_34 rfl (lv_at hl 2 rfl) ?_
          obtain ⟨hi, hf⟩ := ar_e hf
          refine kVq (pc := 35) (S := ⟨hexec, hb, hml, hown, hts⟩) hP hD hG hA hS [] [0, 1] [0, 1] (w2 := (w_X5_wordIs g a0 a1 u0_0 u0_1 u0_4 u0_5 u0_8 u0_9 u0_10 u0_11 u0_12 u0_13 x0_length x0_wordStart x0_wordLength y1_text)) rfl rfl rfl rfl rfl rfl (by decide) (c_schr l g _ k1 v2 hk1 hi) gX5_wordIs_J0_charAt_5068e rfl hv_J0_charAt ⟨nle rfl, nle rfl⟩ (vk_recv (gs_s hG) hk1 hS) (rest := [.int r30]) rfl rfl hl.1 (nle rfl) dX5_wordIs_35 (fun H locs hP hD hS => ?_)
          refine ki_eq (pc := 38) hexec hb dX5_wordIs_38 (tgt := 43) rfl hf (fun hc hf => ?_) (fun hc hf => ?_)
          · obtain ⟨v2_1, ev2_1, hf⟩ := bv_e hf
            refine k_iinc (pc := 43) hexec hb dX5_wordIs_43 kq_1 hl (k := 2) rfl ev2_1 (nle rfl) rfl (fun ls (hl : lv_has ls 3 [(2, .int v2_1), (0, .ref a0), (1, .ref (adK g k1))]) => ?_)
            refine lv_goto (pc := 46) hexec hb dX5_wordIs_46 (tgt := 15) rfl ?_
            exact ih15 _ _ _ _ (sl1 hf hk15) hP hD hS (lv_sub hl [1, 2, 0] rfl)
          · have hf := mk1 hf hk15
            refine lv_iconst (pc := 41) hexec hb dX5_wordIs_41 ki_0 ?_
            cases hf
            exact ke_z hQ hexec hb hr (.inl rfl) hP hD hS dX5_wordIs_42 hlocks
    exact hL15 n _ _ _ _ hz hP hD hS (lv_sub hl [1, 2, 0] rfl)
  · refine lv_iconst (pc := 11) hexec hb dX5_wordIs_11 ki_0 ?_
    cases hf
    exact ke_z hQ hexec hb hr (.inl rfl) hP hD hS dX5_wordIs_12 hlocks
abbrev w_X5_isDigit (g : GE) : va_W := []
noncomputable def f_X5_isDigit  (p0 : Int32) : Option (Int32) :=
  bv (fun (_ : Unit) => ((
    some 0
    ) : Option (Int32))) fun j16 =>
  (if p0 < 48 then (
    j16 ()
  ) else (
    (if 57 < p0 then (
      j16 ()
    ) else (
      some 1
    ))
  ))
set_option maxRecDepth 4000 in
theorem c_X5_isDigit (l : Launch) (g : GE) (sz : Nat)  (p0 : Int32)  (r : Int32) (hf : f_X5_isDigit p0 = some r) : MI l g yX5_isDigit wsX5_isDigit 1 24 [.int p0] (w_X5_isDigit g ) sz (some (.int r)) (w_X5_isDigit g ) := by
  refine MI.start (cc := cX5_isDigit) (maxL := 1) (ret := (some .boolean)) rfl rfl (nle rfl) ?_
  intro p e s m args below meth c A ls Q hQ hexec hb hr hts hown hlocks hml hA hP hD hG hS hl
  unfold f_X5_isDigit at hf
  have hS : va_S A s.heap s.heap [] := hS
  refine lv_iload_n (pc := 0) hexec hb dX5_isDigit_0 rfl (lv_at hl 0 rfl) ?_
  refine lv_bipush (pc := 1) hexec hb dX5_isDigit_1 kb_48 ?_
  obtain ⟨j16, ej16, hf⟩ := bvf1 hf
  have hj16 : ∀ (u : Unit) (H : Heap) (locs : List Loc) (ls : Array Slot), j16 u = some r → va_P g.1 vwCl (w_X5_isDigit g ) H → va_D A (w_X5_isDigit g ) → va_S A s.heap H locs → lv_has ls 1 [] → W p l e (RM 1 24) s m args below meth c H locs 0 0 Q (F0 m 16 ls []) := by
    intro u H locs ls hf hP hD hS hl
    have hf := (ej16 u).symm.trans hf
    refine lv_iconst (pc := 16) hexec hb dX5_isDigit_16 ki_0 ?_
    cases hf
    exact ke_z hQ hexec hb hr (.inl rfl) hP hD hS dX5_isDigit_17 hlocks
  refine ki_lt (pc := 3) hexec hb dX5_isDigit_3 (tgt := 16) rfl hf (fun hc hf => ?_) (fun hc hf => ?_)
  · exact hj16 _ _ _ _ hf hP hD hS (lv_sub hl [] rfl)
  · refine lv_iload_n (pc := 6) hexec hb dX5_isDigit_6 rfl (lv_at hl 0 rfl) ?_
    refine lv_bipush (pc := 7) hexec hb dX5_isDigit_7 kb_57 ?_
    refine ki_gt (pc := 9) hexec hb dX5_isDigit_9 (tgt := 16) rfl hf (fun hc hf => ?_) (fun hc hf => ?_)
    · exact hj16 _ _ _ _ hf hP hD hS (lv_sub hl [] rfl)
    · refine lv_iconst (pc := 12) hexec hb dX5_isDigit_12 ki_1 ?_
      refine lv_goto (pc := 13) hexec hb dX5_isDigit_13 (tgt := 17) rfl ?_
      cases hf
      exact ke_z hQ hexec hb hr (.inr rfl) hP hD hS dX5_isDigit_17 hlocks
abbrev w_X5_takeNumber (g : GE) (a0 a1 : Nat) (u0_0 u0_1 u0_5 u0_6 u0_7 u0_10 u0_11 : Value) (x0_length : Int32) (x0_at : Int32) (x0_numberStart : Int32) (x0_number : Int32) (x0_error : Int32) (x0_errorAt : Int32) (y1_text : Nat → Int32) : va_W := [(a0, .inr (5, [u0_0, u0_1, .ref a1, .int x0_length, .int x0_at, u0_5, u0_6, u0_7, .int x0_numberStart, .int x0_number, u0_10, u0_11, .int x0_error, .int x0_errorAt])), (a1, .inl (g.2.1 0, 500, .inl y1_text))]
noncomputable def f_X5_takeNumber (x0_length : Int32) (x0_at : Int32) (x0_numberStart : Int32) (x0_number : Int32) (x0_error : Int32) (x0_errorAt : Int32) (y1_text : Nat → Int32) (p1 : Int32) (p2 : Int32) : Option (Int32 × Int32 × Int32 × Int32 × Int32 × Int32) :=
  bd2 (f_X5_nextSign x0_length x0_at y1_text) fun (r1 : Int32) (x0_at_1 : Int32) =>
  bv (fun (v3 : Int32) (x0_at_2 : Int32) (x0_number_1 : Int32) => ((
    (if x0_length ≤ v3 then (
      some (.inr (x0_at_2, x0_number_1))
    ) else (
      bd1 (f_X5_signAt x0_length y1_text x0_at_2) fun (r33 : Int32) =>
      bd1 (f_X5_isDigit r33) fun (r36 : Int32) =>
      (if r36 = 0 then (
        some (.inr (x0_at_2, x0_number_1))
      ) else (
        bd1 (f_X5_signAt x0_length y1_text x0_at_2) fun (r55 : Int32) =>
        bv (if 1000 < (((x0_number_1 * 10) + r55) - 48) then 1000 else (((x0_number_1 * 10) + r55) - 48)) fun x0_number_3 =>
        bv (x0_at_2 + 1) fun x0_at_4 =>
        bv (v3 + 1) fun v3_1 =>
        some (.inl (v3_1, x0_at_4, x0_number_3))
      ))
    ))
    ) : Option ((Int32 × Int32 × Int32) ⊕ (Int32 × Int32)))) fun l20 =>
  bd2 (lq3 l20 0 x0_at_1 0) fun (x0_at_3 : Int32) (x0_number_2 : Int32) =>
  (if x0_at_3 = x0_at_1 then (
    bd3 (f_X5_fail x0_error x0_errorAt 1 x0_at_3) fun (r104 : Int32) (x0_error_3 : Int32) (x0_errorAt_3 : Int32) =>
    zb r104 (some (r104, x0_at_3, x0_at_1, x0_number_2, x0_error_3, x0_errorAt_3))
  ) else (
    bv (fun (x0_error_1 : Int32) (x0_errorAt_1 : Int32) => ((
      some (1, x0_at_3, x0_at_1, x0_number_2, x0_error_1, x0_errorAt_1)
      ) : Option (Int32 × Int32 × Int32 × Int32 × Int32 × Int32))) fun j136 =>
    bv (fun (_ : Unit) => ((
      bd3 (f_X5_fail x0_error x0_errorAt 2 x0_at_1) fun (r130 : Int32) (x0_error_2 : Int32) (x0_errorAt_2 : Int32) =>
      (if r130 = 0 then (
        some (0, x0_at_3, x0_at_1, x0_number_2, x0_error_2, x0_errorAt_2)
      ) else (
        j136 x0_error_2 x0_errorAt_2
      ))
      ) : Option (Int32 × Int32 × Int32 × Int32 × Int32 × Int32))) fun j124 =>
    (if x0_number_2 < p1 then (
      j124 ()
    ) else (
      (if x0_number_2 ≤ p2 then (
        j136 x0_error x0_errorAt
      ) else (
        j124 ()
      ))
    ))
  ))
set_option maxRecDepth 4000 in
theorem c_X5_takeNumber (l : Launch) (g : GE) (a0 a1 : Nat) (sz : Nat) (u0_0 u0_1 u0_5 u0_6 u0_7 u0_10 u0_11 : Value) (x0_length : Int32) (x0_at : Int32) (x0_numberStart : Int32) (x0_number : Int32) (x0_error : Int32) (x0_errorAt : Int32) (y1_text : Nat → Int32) (p1 : Int32) (p2 : Int32)  (r : Int32) (o_x0_at : Int32) (o_x0_numberStart : Int32) (o_x0_number : Int32) (o_x0_error : Int32) (o_x0_errorAt : Int32) (hf : f_X5_takeNumber x0_length x0_at x0_numberStart x0_number x0_error x0_errorAt y1_text p1 p2 = some (r, o_x0_at, o_x0_numberStart, o_x0_number, o_x0_error, o_x0_errorAt)) : MI l g yX5_takeNumber wsX5_takeNumber 3 66 [.ref a0, .int p1, .int p2] (w_X5_takeNumber g a0 a1 u0_0 u0_1 u0_5 u0_6 u0_7 u0_10 u0_11 x0_length x0_at x0_numberStart x0_number x0_error x0_errorAt y1_text) sz (some (.int r)) (w_X5_takeNumber g a0 a1 u0_0 u0_1 u0_5 u0_6 u0_7 u0_10 u0_11 x0_length o_x0_at o_x0_numberStart o_x0_number o_x0_error o_x0_errorAt y1_text) := by
  refine MI.start (cc := cX5_takeNumber) (maxL := 4) (ret := (some .boolean)) rfl rfl (nle rfl) ?_
  intro p e s m args below meth c A ls Q hQ hexec hb hr hts hown hlocks hml hA hP hD hG hS hl
  unfold f_X5_takeNumber at hf
  have hWX5 : ∀ w ∈ wsX50, w.before args s = true := fun w h => hts w (List.mem_cons_of_mem _ (List.mem_append_right _ h))
  have hS : va_S A s.heap s.heap [] := hS
  refine lv_aload_n (pc := 0) hexec hb dX5_takeNumber_0 rfl (lv_at hl 0 rfl) ?_
  obtain ⟨r1, x0_at_1, hc, hf⟩ := bd2_e hf
  refine kVp (pc := 1) (S := ⟨hexec, hb, hml, hown, hts⟩) hP hD hG hA hS [0, 1] [] [0, 1] (w2 := (w_X5_takeNumber g a0 a1 u0_0 u0_1 u0_5 u0_6 u0_7 u0_10 u0_11 x0_length x0_at_1 x0_numberStart x0_number x0_error x0_errorAt y1_text)) rfl rfl rfl rfl rfl rfl (by decide) (c_X5_nextSign l g a0 a1 _ u0_0 u0_1 u0_5 u0_6 u0_7 (.int x0_numberStart) (.int x0_number) u0_10 u0_11 (.int x0_error) (.int x0_errorAt) x0_length x0_at y1_text r1 x0_at_1 hc) gX5_takeNumber_X5_nextSign rfl hv_X5_nextSign ⟨nle rfl, nle rfl⟩ 5 0 rfl rfl rfl (rest := []) rfl rfl hl.1 (nle rfl) dX5_takeNumber_1 (fun H locs hP hD hS => ?_)
  refine lv_pop (pc := 4) hexec hb dX5_takeNumber_4 rfl ?_
  refine lv_aload_n (pc := 5) hexec hb dX5_takeNumber_5 rfl (lv_at hl 0 rfl) ?_
  refine lv_aload_n (pc := 6) hexec hb dX5_takeNumber_6 rfl (lv_at hl 0 rfl) ?_
  refine kg_get (pc := 7) hexec hb (own := RX5) hWX5 hown hG hP 0 rfl rfl 4 (nle rfl) (hts _ (List.mem_cons_of_mem _ (List.mem_append_left _ (List.mem_append_left _ (List.mem_of_getElem? (i := 0) rfl))))) rfl rfl dX5_takeNumber_7 ?_
  refine kp_put (pc := 10) hexec hb (own := RX5) hWX5 tyX5 tyX5_ok nmX5 hown hG hP hD hS 0 rfl rfl 8 (nle rfl) (hts _ (List.mem_cons_of_mem _ (List.mem_append_left _ (List.mem_append_left _ (List.mem_of_getElem? (i := 1) rfl))))) rfl rfl rfl rfl (nle rfl) dX5_takeNumber_10 (fun H locs (hP : va_P g.1 vwCl (w_X5_takeNumber g a0 a1 u0_0 u0_1 u0_5 u0_6 u0_7 u0_10 u0_11 x0_length x0_at_1 x0_at_1 x0_number x0_error x0_errorAt y1_text) H) (hD : va_D A (w_X5_takeNumber g a0 a1 u0_0 u0_1 u0_5 u0_6 u0_7 u0_10 u0_11 x0_length x0_at_1 x0_at_1 x0_number x0_error x0_errorAt y1_text)) hS => ?_)
  refine lv_aload_n (pc := 13) hexec hb dX5_takeNumber_13 rfl (lv_at hl 0 rfl) ?_
  refine lv_iconst (pc := 14) hexec hb dX5_takeNumber_14 ki_0 ?_
  refine kp_put (pc := 15) hexec hb (own := RX5) hWX5 tyX5 tyX5_ok nmX5 hown hG hP hD hS 0 rfl rfl 9 (nle rfl) (hts _ (List.mem_cons_of_mem _ (List.mem_append_left _ (List.mem_append_left _ (List.mem_of_getElem? (i := 2) rfl))))) rfl rfl rfl rfl (nle rfl) dX5_takeNumber_15 (fun H locs (hP : va_P g.1 vwCl (w_X5_takeNumber g a0 a1 u0_0 u0_1 u0_5 u0_6 u0_7 u0_10 u0_11 x0_length x0_at_1 x0_at_1 0 x0_error x0_errorAt y1_text) H) (hD : va_D A (w_X5_takeNumber g a0 a1 u0_0 u0_1 u0_5 u0_6 u0_7 u0_10 u0_11 x0_length x0_at_1 x0_at_1 0 x0_error x0_errorAt y1_text)) hS => ?_)
  refine lv_iconst (pc := 18) hexec hb dX5_takeNumber_18 ki_0 ?_
  refine lv_istore_n (pc := 19) hexec hb dX5_takeNumber_19 rfl hl (nle rfl) rfl (fun ls (hl : lv_has ls 4 [(3, .int 0), (0, .ref a0), (1, .int p1), (2, .int p2)]) => ?_)
  obtain ⟨l20, el20, hf⟩ := bvf3 hf
  obtain ⟨x0_at_3, x0_number_2, hz, hf⟩ := bd2_e hf
  have hE20 : ∀ (H : Heap) (locs : List Loc) (ls : Array Slot), va_P g.1 vwCl (w_X5_takeNumber g a0 a1 u0_0 u0_1 u0_5 u0_6 u0_7 u0_10 u0_11 x0_length x0_at_3 x0_at_1 x0_number_2 x0_error x0_errorAt y1_text) H → va_D A (w_X5_takeNumber g a0 a1 u0_0 u0_1 u0_5 u0_6 u0_7 u0_10 u0_11 x0_length x0_at_3 x0_at_1 x0_number_2 x0_error x0_errorAt y1_text) → va_S A s.heap H locs → lv_has ls 4 [(0, .ref a0), (1, .int p1), (2, .int p2)] → W p l e (RM 3 66) s m args below meth c H locs 0 0 Q (F0 m 87 ls []) := by
    intro H locs ls hP hD hS hl
    refine lv_aload_n (pc := 87) hexec hb dX5_takeNumber_87 rfl (lv_at hl 0 rfl) ?_
    refine kg_get (pc := 88) hexec hb (own := RX5) hWX5 hown hG hP 0 rfl rfl 4 (nle rfl) (hts _ (List.mem_cons_of_mem _ (List.mem_append_left _ (List.mem_append_left _ (List.mem_of_getElem? (i := 0) rfl))))) rfl rfl dX5_takeNumber_88 ?_
    refine lv_aload_n (pc := 91) hexec hb dX5_takeNumber_91 rfl (lv_at hl 0 rfl) ?_
    refine kg_get (pc := 92) hexec hb (own := RX5) hWX5 hown hG hP 0 rfl rfl 8 (nle rfl) (hts _ (List.mem_cons_of_mem _ (List.mem_append_left _ (List.mem_append_left _ (List.mem_of_getElem? (i := 1) rfl))))) rfl rfl dX5_takeNumber_92 ?_
    refine ki_ne (pc := 95) hexec hb dX5_takeNumber_95 (tgt := 108) rfl hf (fun hc hf => ?_) (fun hc hf => ?_)
    · refine lv_aload_n (pc := 108) hexec hb dX5_takeNumber_108 rfl (lv_at hl 0 rfl) ?_
      refine kg_get (pc := 109) hexec hb (own := RX5) hWX5 hown hG hP 0 rfl rfl 9 (nle rfl) (hts _ (List.mem_cons_of_mem _ (List.mem_append_left _ (List.mem_append_left _ (List.mem_of_getElem? (i := 2) rfl))))) rfl rfl dX5_takeNumber_109 ?_
      refine lv_iload_n (pc := 112) hexec hb dX5_takeNumber_112 rfl (lv_at hl 1 rfl) ?_
      obtain ⟨j136, ej136, hf⟩ := bvf2 hf
      have hj136 : ∀ (x0_error_1 : Int32) (x0_errorAt_1 : Int32) (H : Heap) (locs : List Loc) (ls : Array Slot), j136 x0_error_1 x0_errorAt_1 = some (r, o_x0_at, o_x0_numberStart, o_x0_number, o_x0_error, o_x0_errorAt) → va_P g.1 vwCl (w_X5_takeNumber g a0 a1 u0_0 u0_1 u0_5 u0_6 u0_7 u0_10 u0_11 x0_length x0_at_3 x0_at_1 x0_number_2 x0_error_1 x0_errorAt_1 y1_text) H → va_D A (w_X5_takeNumber g a0 a1 u0_0 u0_1 u0_5 u0_6 u0_7 u0_10 u0_11 x0_length x0_at_3 x0_at_1 x0_number_2 x0_error_1 x0_errorAt_1 y1_text) → va_S A s.heap H locs → lv_has ls 4 [] → W p l e (RM 3 66) s m args below meth c H locs 0 0 Q (F0 m 136 ls []) := by
        intro x0_error_1 x0_errorAt_1 H locs ls hf hP hD hS hl
        have hf := (ej136 x0_error_1 x0_errorAt_1).symm.trans hf
        refine lv_iconst (pc := 136) hexec hb dX5_takeNumber_136 ki_1 ?_
        refine lv_goto (pc := 137) hexec hb dX5_takeNumber_137 (tgt := 141) rfl ?_
        cases hf
        exact ke_z hQ hexec hb hr (.inr rfl) hP hD hS dX5_takeNumber_141 hlocks
      obtain ⟨j124, ej124, hf⟩ := bvf1 hf
      have hj124 : ∀ (u : Unit) (H : Heap) (locs : List Loc) (ls : Array Slot), j124 u = some (r, o_x0_at, o_x0_numberStart, o_x0_number, o_x0_error, o_x0_errorAt) → va_P g.1 vwCl (w_X5_takeNumber g a0 a1 u0_0 u0_1 u0_5 u0_6 u0_7 u0_10 u0_11 x0_length x0_at_3 x0_at_1 x0_number_2 x0_error x0_errorAt y1_text) H → va_D A (w_X5_takeNumber g a0 a1 u0_0 u0_1 u0_5 u0_6 u0_7 u0_10 u0_11 x0_length x0_at_3 x0_at_1 x0_number_2 x0_error x0_errorAt y1_text) → va_S A s.heap H locs → lv_has ls 4 [(0, .ref a0)] → W p l e (RM 3 66) s m args below meth c H locs 0 0 Q (F0 m 124 ls []) := by
        intro u H locs ls hf hP hD hS hl
        have hf := (ej124 u).symm.trans hf
        refine lv_aload_n (pc := 124) hexec hb dX5_takeNumber_124 rfl (lv_at hl 0 rfl) ?_
        refine lv_iconst (pc := 125) hexec hb dX5_takeNumber_125 ki_2 ?_
        refine lv_aload_n (pc := 126) hexec hb dX5_takeNumber_126 rfl (lv_at hl 0 rfl) ?_
        refine kg_get (pc := 127) hexec hb (own := RX5) hWX5 hown hG hP 0 rfl rfl 8 (nle rfl) (hts _ (List.mem_cons_of_mem _ (List.mem_append_left _ (List.mem_append_left _ (List.mem_of_getElem? (i := 1) rfl))))) rfl rfl dX5_takeNumber_127 ?_
        obtain ⟨r130, x0_error_2, x0_errorAt_2, hc, hf⟩ := bd3_e hf
        refine kVp (pc := 130) (S := ⟨hexec, hb, hml, hown, hts⟩) hP hD hG hA hS [0] [1] [1, 0] (w2 := (w_X5_takeNumber g a0 a1 u0_0 u0_1 u0_5 u0_6 u0_7 u0_10 u0_11 x0_length x0_at_3 x0_at_1 x0_number_2 x0_error_2 x0_errorAt_2 y1_text)) rfl rfl rfl rfl rfl rfl (by decide) (c_X5_fail l g a0 _ u0_0 u0_1 (.ref a1) (.int x0_length) (.int x0_at_3) u0_5 u0_6 u0_7 (.int x0_at_1) (.int x0_number_2) u0_10 u0_11 x0_error x0_errorAt 2 x0_at_1 r130 x0_error_2 x0_errorAt_2 hc) gX5_takeNumber_X5_fail rfl hv_X5_fail ⟨nle rfl, nle rfl⟩ 5 0 rfl rfl rfl (rest := []) rfl rfl hl.1 (nle rfl) dX5_takeNumber_130 (fun H locs hP hD hS => ?_)
        refine kb_eq (pc := 133) hexec hb dX5_takeNumber_133 (tgt := 140) rfl hf (fun hc hf => ?_) (fun hc hf => ?_)
        · refine lv_iconst (pc := 140) hexec hb dX5_takeNumber_140 ki_0 ?_
          cases hf
          exact ke_z hQ hexec hb hr (.inl rfl) hP hD hS dX5_takeNumber_141 hlocks
        · exact hj136 _ _ _ _ _ hf hP hD hS (lv_sub hl [] rfl)
      refine ki_lt (pc := 113) hexec hb dX5_takeNumber_113 (tgt := 124) rfl hf (fun hc hf => ?_) (fun hc hf => ?_)
      · exact hj124 _ _ _ _ hf hP hD hS (lv_sub hl [0] rfl)
      · refine lv_aload_n (pc := 116) hexec hb dX5_takeNumber_116 rfl (lv_at hl 0 rfl) ?_
        refine kg_get (pc := 117) hexec hb (own := RX5) hWX5 hown hG hP 0 rfl rfl 9 (nle rfl) (hts _ (List.mem_cons_of_mem _ (List.mem_append_left _ (List.mem_append_left _ (List.mem_of_getElem? (i := 2) rfl))))) rfl rfl dX5_takeNumber_117 ?_
        refine lv_iload_n (pc := 120) hexec hb dX5_takeNumber_120 rfl (lv_at hl 2 rfl) ?_
        refine ki_le (pc := 121) hexec hb dX5_takeNumber_121 (tgt := 136) rfl hf (fun hc hf => ?_) (fun hc hf => ?_)
        · exact hj136 _ _ _ _ _ hf hP hD hS (lv_sub hl [] rfl)
        · exact hj124 _ _ _ _ hf hP hD hS (lv_sub hl [0] rfl)
    · refine lv_aload_n (pc := 98) hexec hb dX5_takeNumber_98 rfl (lv_at hl 0 rfl) ?_
      refine lv_iconst (pc := 99) hexec hb dX5_takeNumber_99 ki_1 ?_
      refine lv_aload_n (pc := 100) hexec hb dX5_takeNumber_100 rfl (lv_at hl 0 rfl) ?_
      refine kg_get (pc := 101) hexec hb (own := RX5) hWX5 hown hG hP 0 rfl rfl 4 (nle rfl) (hts _ (List.mem_cons_of_mem _ (List.mem_append_left _ (List.mem_append_left _ (List.mem_of_getElem? (i := 0) rfl))))) rfl rfl dX5_takeNumber_101 ?_
      obtain ⟨r104, x0_error_3, x0_errorAt_3, hc, hf⟩ := bd3_e hf
      refine kVp (pc := 104) (S := ⟨hexec, hb, hml, hown, hts⟩) hP hD hG hA hS [0] [1] [1, 0] (w2 := (w_X5_takeNumber g a0 a1 u0_0 u0_1 u0_5 u0_6 u0_7 u0_10 u0_11 x0_length x0_at_3 x0_at_1 x0_number_2 x0_error_3 x0_errorAt_3 y1_text)) rfl rfl rfl rfl rfl rfl (by decide) (c_X5_fail l g a0 _ u0_0 u0_1 (.ref a1) (.int x0_length) (.int x0_at_3) u0_5 u0_6 u0_7 (.int x0_at_1) (.int x0_number_2) u0_10 u0_11 x0_error x0_errorAt 1 x0_at_3 r104 x0_error_3 x0_errorAt_3 hc) gX5_takeNumber_X5_fail rfl hv_X5_fail ⟨nle rfl, nle rfl⟩ 5 0 rfl rfl rfl (rest := []) rfl rfl hl.1 (nle rfl) dX5_takeNumber_104 (fun H locs hP hD hS => ?_)
      obtain ⟨hx, hf⟩ := zb_e hf
      cases hf
      exact ke_z hQ hexec hb hr hx hP hD hS dX5_takeNumber_107 hlocks
  obtain ⟨n, hz⟩ := lq3_e hz
  have hL20 : ∀ (n : Nat) (v3 : Int32) (x0_at_2 : Int32) (x0_number_1 : Int32) (H : Heap) (locs : List Loc) (ls : Array Slot), it3 l20 n v3 x0_at_2 x0_number_1 = some (x0_at_3, x0_number_2) → va_P g.1 vwCl (w_X5_takeNumber g a0 a1 u0_0 u0_1 u0_5 u0_6 u0_7 u0_10 u0_11 x0_length x0_at_2 x0_at_1 x0_number_1 x0_error x0_errorAt y1_text) H → va_D A (w_X5_takeNumber g a0 a1 u0_0 u0_1 u0_5 u0_6 u0_7 u0_10 u0_11 x0_length x0_at_2 x0_at_1 x0_number_1 x0_error x0_errorAt y1_text) → va_S A s.heap H locs → lv_has ls 4 [(0, .ref a0), (1, .int p1), (2, .int p2), (3, .int v3)] → W p l e (RM 3 66) s m args below meth c H locs 0 0 Q (F0 m 20 ls []) := by
    intro n
    induction n with
    | zero =>
      intro v3 x0_at_2 x0_number_1 H locs ls hf hP hD hS hl
      exact it3_0 hf
    | succ n20 ih20 =>
      intro v3 x0_at_2 x0_number_1 H locs ls hf hP hD hS hl
      obtain ⟨q20, hf, hk20⟩ := it3_e hf
      have hf := (el20 v3 x0_at_2 x0_number_1).symm.trans hf
      refine lv_iload_n (pc := 20) hexec hb dX5_takeNumber_20 rfl (lv_at hl 3 rfl) ?_
      refine lv_aload_n (pc := 21) hexec hb dX5_takeNumber_21 rfl (lv_at hl 0 rfl) ?_
      refine kg_get (pc := 22) hexec hb (own := RX5) hWX5 hown hG hP 0 rfl rfl 3 (nle rfl) (hts _ (List.mem_cons_of_mem _ (List.mem_append_left _ (List.mem_append_left _ (List.mem_of_getElem? (i := 3) rfl))))) rfl rfl dX5_takeNumber_22 ?_
      refine ki_ge (pc := 25) hexec hb dX5_takeNumber_25 (tgt := 87) rfl hf (fun hc hf => ?_) (fun hc hf => ?_)
      · cases sr3 hf hk20
        exact hE20 _ _ _ hP hD hS (lv_sub hl [0, 1, 2] rfl)
      · refine lv_aload_n (pc := 28) hexec hb dX5_takeNumber_28 rfl (lv_at hl 0 rfl) ?_
        refine lv_aload_n (pc := 29) hexec hb dX5_takeNumber_29 rfl (lv_at hl 0 rfl) ?_
        refine kg_get (pc := 30) hexec hb (own := RX5) hWX5 hown hG hP 0 rfl rfl 4 (nle rfl) (hts _ (List.mem_cons_of_mem _ (List.mem_append_left _ (List.mem_append_left _ (List.mem_of_getElem? (i := 0) rfl))))) rfl rfl dX5_takeNumber_30 ?_
        obtain ⟨r33, hc, hf⟩ := bd1_e hf
        refine kVp (pc := 33) (S := ⟨hexec, hb, hml, hown, hts⟩) hP hD hG hA hS [0, 1] [] [0, 1] (w2 := (w_X5_takeNumber g a0 a1 u0_0 u0_1 u0_5 u0_6 u0_7 u0_10 u0_11 x0_length x0_at_2 x0_at_1 x0_number_1 x0_error x0_errorAt y1_text)) rfl rfl rfl rfl rfl rfl (by decide) (c_X5_signAt l g a0 a1 _ u0_0 u0_1 (.int x0_at_2) u0_5 u0_6 u0_7 (.int x0_at_1) (.int x0_number_1) u0_10 u0_11 (.int x0_error) (.int x0_errorAt) x0_length y1_text x0_at_2 r33 hc) gX5_takeNumber_X5_signAt rfl hv_X5_signAt ⟨nle rfl, nle rfl⟩ 5 0 rfl rfl rfl (rest := []) rfl rfl hl.1 (nle rfl) dX5_takeNumber_33 (fun H locs hP hD hS => ?_)
        obtain ⟨r36, hc, hf⟩ := bd1_e hf
        refine kSp (pc := 36) (S := ⟨hexec, hb, hml, hown, hts⟩) hP hD hG hA hS [] [0, 1] [0, 1] (w2 := (w_X5_takeNumber g a0 a1 u0_0 u0_1 u0_5 u0_6 u0_7 u0_10 u0_11 x0_length x0_at_2 x0_at_1 x0_number_1 x0_error x0_errorAt y1_text)) rfl rfl rfl rfl rfl rfl (by decide) (c_X5_isDigit l g _ r33 r36 hc) gX5_takeNumber_X5_isDigit rfl hs_X5_isDigit ⟨nle rfl, nle rfl⟩ (rest := []) rfl rfl hl.1 (nle rfl) dX5_takeNumber_36 (fun H locs hP hD hS => ?_)
        refine kb_eq (pc := 39) hexec hb dX5_takeNumber_39 (tgt := 87) rfl hf (fun hc hf => ?_) (fun hc hf => ?_)
        · cases sr3 hf hk20
          exact hE20 _ _ _ hP hD hS (lv_sub hl [0, 1, 2] rfl)
        · refine lv_aload_n (pc := 42) hexec hb dX5_takeNumber_42 rfl (lv_at hl 0 rfl) ?_
          refine lv_aload_n (pc := 43) hexec hb dX5_takeNumber_43 rfl (lv_at hl 0 rfl) ?_
          refine kg_get (pc := 44) hexec hb (own := RX5) hWX5 hown hG hP 0 rfl rfl 9 (nle rfl) (hts _ (List.mem_cons_of_mem _ (List.mem_append_left _ (List.mem_append_left _ (List.mem_of_getElem? (i := 2) rfl))))) rfl rfl dX5_takeNumber_44 ?_
          refine lv_bipush (pc := 47) hexec hb dX5_takeNumber_47 kb_10 ?_
          refine lv_imul (pc := 49) hexec hb dX5_takeNumber_49 ?_
          refine lv_aload_n (pc := 50) hexec hb dX5_takeNumber_50 rfl (lv_at hl 0 rfl) ?_
          refine lv_aload_n (pc := 51) hexec hb dX5_takeNumber_51 rfl (lv_at hl 0 rfl) ?_
          refine kg_get (pc := 52) hexec hb (own := RX5) hWX5 hown hG hP 0 rfl rfl 4 (nle rfl) (hts _ (List.mem_cons_of_mem _ (List.mem_append_left _ (List.mem_append_left _ (List.mem_of_getElem? (i := 0) rfl))))) rfl rfl dX5_takeNumber_52 ?_
          obtain ⟨r55, hc, hf⟩ := bd1_e hf
          refine kVp (pc := 55) (S := ⟨hexec, hb, hml, hown, hts⟩) hP hD hG hA hS [0, 1] [] [0, 1] (w2 := (w_X5_takeNumber g a0 a1 u0_0 u0_1 u0_5 u0_6 u0_7 u0_10 u0_11 x0_length x0_at_2 x0_at_1 x0_number_1 x0_error x0_errorAt y1_text)) rfl rfl rfl rfl rfl rfl (by decide) (c_X5_signAt l g a0 a1 _ u0_0 u0_1 (.int x0_at_2) u0_5 u0_6 u0_7 (.int x0_at_1) (.int x0_number_1) u0_10 u0_11 (.int x0_error) (.int x0_errorAt) x0_length y1_text x0_at_2 r55 hc) gX5_takeNumber_X5_signAt rfl hv_X5_signAt ⟨nle rfl, nle rfl⟩ 5 0 rfl rfl rfl (rest := [.int (x0_number_1 * 10), .ref a0]) rfl rfl hl.1 (nle rfl) dX5_takeNumber_55 (fun H locs hP hD hS => ?_)
          refine lv_iadd (pc := 58) hexec hb dX5_takeNumber_58 ?_
          refine lv_bipush (pc := 59) hexec hb dX5_takeNumber_59 kb_48 ?_
          refine lv_isub (pc := 61) hexec hb dX5_takeNumber_61 ?_
          refine lv_sipush (pc := 62) hexec hb dX5_takeNumber_62 ks_1000 ?_
          refine va_mmin (pc := 65) hexec hb (hml.trans hl.1.symm) (own := RX5) hown (hts _ (List.mem_cons_of_mem _ (List.mem_append_left _ (List.mem_append_left _ (List.mem_of_getElem? (i := 4) rfl))))) (hts _ (List.mem_cons_of_mem _ (List.mem_append_left _ (List.mem_append_left _ (List.mem_of_getElem? (i := 5) rfl))))) (hts _ (List.mem_cons_of_mem _ (List.mem_append_left _ (List.mem_append_left _ (List.mem_of_getElem? (i := 6) rfl))))) (hts _ (List.mem_cons_of_mem _ (List.mem_append_left _ (List.mem_append_left _ (List.mem_of_getElem? (i := 7) rfl))))) (nle rfl) (nle rfl) (nle rfl) (nle rfl) dX5_takeNumber_65 ?_
          obtain ⟨x0_number_3, ex0_number_3, hf⟩ := bv_e hf
          refine kn_i ex0_number_3 ?_
          refine kp_put (pc := 68) hexec hb (own := RX5) hWX5 tyX5 tyX5_ok nmX5 hown hG hP hD hS 0 rfl rfl 9 (nle rfl) (hts _ (List.mem_cons_of_mem _ (List.mem_append_left _ (List.mem_append_left _ (List.mem_of_getElem? (i := 2) rfl))))) rfl rfl rfl rfl (nle rfl) dX5_takeNumber_68 (fun H locs (hP : va_P g.1 vwCl (w_X5_takeNumber g a0 a1 u0_0 u0_1 u0_5 u0_6 u0_7 u0_10 u0_11 x0_length x0_at_2 x0_at_1 x0_number_3 x0_error x0_errorAt y1_text) H) (hD : va_D A (w_X5_takeNumber g a0 a1 u0_0 u0_1 u0_5 u0_6 u0_7 u0_10 u0_11 x0_length x0_at_2 x0_at_1 x0_number_3 x0_error x0_errorAt y1_text)) hS => ?_)
          refine lv_aload_n (pc := 71) hexec hb dX5_takeNumber_71 rfl (lv_at hl 0 rfl) ?_
          refine lv_dup (pc := 72) hexec hb dX5_takeNumber_72 rfl ?_
          refine kg_get (pc := 73) hexec hb (own := RX5) hWX5 hown hG hP 0 rfl rfl 4 (nle rfl) (hts _ (List.mem_cons_of_mem _ (List.mem_append_left _ (List.mem_append_left _ (List.mem_of_getElem? (i := 0) rfl))))) rfl rfl dX5_takeNumber_73 ?_
          refine lv_iconst (pc := 76) hexec hb dX5_takeNumber_76 ki_1 ?_
          refine lv_iadd (pc := 77) hexec hb dX5_takeNumber_77 ?_
          obtain ⟨x0_at_4, ex0_at_4, hf⟩ := bv_e hf
          refine kn_i ex0_at_4 ?_
          refine kp_put (pc := 78) hexec hb (own := RX5) hWX5 tyX5 tyX5_ok nmX5 hown hG hP hD hS 0 rfl rfl 4 (nle rfl) (hts _ (List.mem_cons_of_mem _ (List.mem_append_left _ (List.mem_append_left _ (List.mem_of_getElem? (i := 0) rfl))))) rfl rfl rfl rfl (nle rfl) dX5_takeNumber_78 (fun H locs (hP : va_P g.1 vwCl (w_X5_takeNumber g a0 a1 u0_0 u0_1 u0_5 u0_6 u0_7 u0_10 u0_11 x0_length x0_at_4 x0_at_1 x0_number_3 x0_error x0_errorAt y1_text) H) (hD : va_D A (w_X5_takeNumber g a0 a1 u0_0 u0_1 u0_5 u0_6 u0_7 u0_10 u0_11 x0_length x0_at_4 x0_at_1 x0_number_3 x0_error x0_errorAt y1_text)) hS => ?_)
          obtain ⟨v3_1, ev3_1, hf⟩ := bv_e hf
          refine k_iinc (pc := 81) hexec hb dX5_takeNumber_81 kq_1 hl (k := 3) rfl ev3_1 (nle rfl) rfl (fun ls (hl : lv_has ls 4 [(3, .int v3_1), (0, .ref a0), (1, .int p1), (2, .int p2)]) => ?_)
          refine lv_goto (pc := 84) hexec hb dX5_takeNumber_84 (tgt := 20) rfl ?_
          exact ih20 _ _ _ _ _ _ (sl3 hf hk20) hP hD hS (lv_sub hl [1, 2, 3, 0] rfl)
  exact hL20 n _ _ _ _ _ _ hz hP hD hS (lv_sub hl [1, 2, 3, 0] rfl)
abbrev w_X5_readChart (g : GE) (a0 a1 a2 a3 a4 a5 a6 a7 a8 a9 a10 : Nat) (u0_1 u0_5 u0_10 u0_11 u4_2 u4_3 u4_4 u4_5 u5_4 : Value) (x0_length : Int32) (x0_at : Int32) (x0_wordStart : Int32) (x0_wordLength : Int32) (x0_numberStart : Int32) (x0_number : Int32) (x0_error : Int32) (x0_errorAt : Int32) (y2_text : Nat → Int32) (x3_rows : Int32) (x3_columns : Int32) (x3_rivers : Int32) (x4_count : Int32) (x4_reds : Int32) (x5_count : Int32) (x5_next : Int32) (x5_turn : Int32) (x5_quarters : Int32) (y6_letterOn : Nat → Int32) (y7_namesOn : Nat → Int32) (y8_land : Nat → Int32) (y9_riverOf : Nat → Int32) (y10_riverPlace : Nat → Int32) : va_W := [(a0, .inr (5, [.ref a1, u0_1, .ref a2, .int x0_length, .int x0_at, u0_5, .int x0_wordStart, .int x0_wordLength, .int x0_numberStart, .int x0_number, u0_10, u0_11, .int x0_error, .int x0_errorAt])), (a1, .inr (6, [.ref a3, .ref a4, .ref a5, .ref a7, .ref a6])), (a2, .inl (g.2.1 0, 500, .inl y2_text)), (a3, .inr (1, [.int x3_rows, .int x3_columns, .int x3_rivers, .ref a8, .ref a9, .ref a10])), (a4, .inr (2, [.int x4_count, .int x4_reds, u4_2, u4_3, u4_4, u4_5])), (a5, .inr (4, [.int x5_count, .int x5_next, .int x5_turn, .int x5_quarters, u5_4])), (a6, .inl (g.2.1 0, 144, .inl y6_letterOn)), (a7, .inl (g.2.1 0, 144, .inl y7_namesOn)), (a8, .inl (g.2.1 1, 144, .inl y8_land)), (a9, .inl (g.2.1 0, 144, .inl y9_riverOf)), (a10, .inl (g.2.1 0, 144, .inl y10_riverPlace))]
noncomputable def f_X5_readChart (x0_length : Int32) (x0_at : Int32) (x0_wordStart : Int32) (x0_wordLength : Int32) (x0_numberStart : Int32) (x0_number : Int32) (x0_error : Int32) (x0_errorAt : Int32) (y2_text : Nat → Int32) (x3_rows : Int32) (x3_columns : Int32) (x3_rivers : Int32) (x4_count : Int32) (x4_reds : Int32) (x5_count : Int32) (x5_next : Int32) (x5_turn : Int32) (x5_quarters : Int32) (y6_letterOn : Nat → Int32) (y7_namesOn : Nat → Int32) (y8_land : Nat → Int32) (y9_riverOf : Nat → Int32) (y10_riverPlace : Nat → Int32)  : Option (Int32 × Int32 × Int32 × Int32 × Int32 × Int32 × Int32 × Int32 × Int32 × Int32 × Int32 × Int32 × Int32 × Int32 × Int32 × Int32 × Int32 × (Nat → Int32) × (Nat → Int32) × (Nat → Int32) × (Nat → Int32) × (Nat → Int32)) :=
  bd6 (f_X5_takeWord x0_length x0_at x0_wordStart x0_wordLength x0_error x0_errorAt y2_text) fun (r1 : Int32) (x0_at_1 : Int32) (x0_wordStart_1 : Int32) (x0_wordLength_1 : Int32) (x0_error_1 : Int32) (x0_errorAt_1 : Int32) =>
  (if r1 = 0 then (
    some (0, x0_at_1, x0_wordStart_1, x0_wordLength_1, x0_numberStart, x0_number, x0_error_1, x0_errorAt_1, x3_rows, x3_columns, x3_rivers, x4_count, x4_reds, x5_count, x5_next, x5_turn, x5_quarters, y6_letterOn, y7_namesOn, y8_land, y9_riverOf, y10_riverPlace)
  ) else (
    bd1 (f_X5_wordIs x0_length x0_wordStart_1 x0_wordLength_1 y2_text 0) fun (r12 : Int32) =>
    (if r12 = 0 then (
      bd3 (f_X5_fail x0_error_1 x0_errorAt_1 1 x0_wordStart_1) fun (r24 : Int32) (x0_error_4 : Int32) (x0_errorAt_4 : Int32) =>
      zb r24 (some (r24, x0_at_1, x0_wordStart_1, x0_wordLength_1, x0_numberStart, x0_number, x0_error_4, x0_errorAt_4, x3_rows, x3_columns, x3_rivers, x4_count, x4_reds, x5_count, x5_next, x5_turn, x5_quarters, y6_letterOn, y7_namesOn, y8_land, y9_riverOf, y10_riverPlace))
    ) else (
      bd6 (f_X5_takeNumber x0_length x0_at_1 x0_numberStart x0_number x0_error_1 x0_errorAt_1 y2_text 3 12) fun (r32 : Int32) (x0_at_2 : Int32) (x0_numberStart_1 : Int32) (x0_number_1 : Int32) (x0_error_2 : Int32) (x0_errorAt_2 : Int32) =>
      (if r32 = 0 then (
        some (0, x0_at_2, x0_wordStart_1, x0_wordLength_1, x0_numberStart_1, x0_number_1, x0_error_2, x0_errorAt_2, x3_rows, x3_columns, x3_rivers, x4_count, x4_reds, x5_count, x5_next, x5_turn, x5_quarters, y6_letterOn, y7_namesOn, y8_land, y9_riverOf, y10_riverPlace)
      ) else (
        bd6 (f_X5_takeNumber x0_length x0_at_2 x0_numberStart_1 x0_number_1 x0_error_2 x0_errorAt_2 y2_text 3 12) fun (r49 : Int32) (x0_at_3 : Int32) (x0_numberStart_2 : Int32) (x0_number_2 : Int32) (x0_error_3 : Int32) (x0_errorAt_3 : Int32) =>
        (if r49 = 0 then (
          some (0, x0_at_3, x0_wordStart_1, x0_wordLength_1, x0_numberStart_2, x0_number_2, x0_error_3, x0_errorAt_3, x3_rows, x3_columns, x3_rivers, x4_count, x4_reds, x5_count, x5_next, x5_turn, x5_quarters, y6_letterOn, y7_namesOn, y8_land, y9_riverOf, y10_riverPlace)
        ) else (
          bd14 (f_X6_beginSea x3_rows x3_columns x3_rivers x4_count x4_reds x5_count x5_next x5_turn x5_quarters y6_letterOn y7_namesOn y8_land y9_riverOf y10_riverPlace x0_number_1 x0_number_2) fun (x3_rows_1 : Int32) (x3_columns_1 : Int32) (x3_rivers_1 : Int32) (x4_count_1 : Int32) (x4_reds_1 : Int32) (x5_count_1 : Int32) (x5_next_1 : Int32) (x5_turn_1 : Int32) (x5_quarters_1 : Int32) (y6_letterOn_1 : Nat → Int32) (y7_namesOn_1 : Nat → Int32) (y8_land_1 : Nat → Int32) (y9_riverOf_1 : Nat → Int32) (y10_riverPlace_1 : Nat → Int32) =>
          some (1, x0_at_3, x0_wordStart_1, x0_wordLength_1, x0_numberStart_2, x0_number_2, x0_error_3, x0_errorAt_3, x3_rows_1, x3_columns_1, x3_rivers_1, x4_count_1, x4_reds_1, x5_count_1, x5_next_1, x5_turn_1, x5_quarters_1, y6_letterOn_1, y7_namesOn_1, y8_land_1, y9_riverOf_1, y10_riverPlace_1)
        ))
      ))
    ))
  ))
set_option maxRecDepth 4000 in
theorem c_X5_readChart (l : Launch) (g : GE) (a0 a1 a2 a3 a4 a5 a6 a7 a8 a9 a10 : Nat) (sz : Nat) (u0_1 u0_5 u0_10 u0_11 u4_2 u4_3 u4_4 u4_5 u5_4 : Value) (x0_length : Int32) (x0_at : Int32) (x0_wordStart : Int32) (x0_wordLength : Int32) (x0_numberStart : Int32) (x0_number : Int32) (x0_error : Int32) (x0_errorAt : Int32) (y2_text : Nat → Int32) (x3_rows : Int32) (x3_columns : Int32) (x3_rivers : Int32) (x4_count : Int32) (x4_reds : Int32) (x5_count : Int32) (x5_next : Int32) (x5_turn : Int32) (x5_quarters : Int32) (y6_letterOn : Nat → Int32) (y7_namesOn : Nat → Int32) (y8_land : Nat → Int32) (y9_riverOf : Nat → Int32) (y10_riverPlace : Nat → Int32)   (r : Int32) (o_x0_at : Int32) (o_x0_wordStart : Int32) (o_x0_wordLength : Int32) (o_x0_numberStart : Int32) (o_x0_number : Int32) (o_x0_error : Int32) (o_x0_errorAt : Int32) (o_x3_rows : Int32) (o_x3_columns : Int32) (o_x3_rivers : Int32) (o_x4_count : Int32) (o_x4_reds : Int32) (o_x5_count : Int32) (o_x5_next : Int32) (o_x5_turn : Int32) (o_x5_quarters : Int32) (o_y6_letterOn : Nat → Int32) (o_y7_namesOn : Nat → Int32) (o_y8_land : Nat → Int32) (o_y9_riverOf : Nat → Int32) (o_y10_riverPlace : Nat → Int32) (hf : f_X5_readChart x0_length x0_at x0_wordStart x0_wordLength x0_numberStart x0_number x0_error x0_errorAt y2_text x3_rows x3_columns x3_rivers x4_count x4_reds x5_count x5_next x5_turn x5_quarters y6_letterOn y7_namesOn y8_land y9_riverOf y10_riverPlace = some (r, o_x0_at, o_x0_wordStart, o_x0_wordLength, o_x0_numberStart, o_x0_number, o_x0_error, o_x0_errorAt, o_x3_rows, o_x3_columns, o_x3_rivers, o_x4_count, o_x4_reds, o_x5_count, o_x5_next, o_x5_turn, o_x5_quarters, o_y6_letterOn, o_y7_namesOn, o_y8_land, o_y9_riverOf, o_y10_riverPlace)) : MI l g yX5_readChart wsX5_readChart 6 133 [.ref a0] (w_X5_readChart g a0 a1 a2 a3 a4 a5 a6 a7 a8 a9 a10 u0_1 u0_5 u0_10 u0_11 u4_2 u4_3 u4_4 u4_5 u5_4 x0_length x0_at x0_wordStart x0_wordLength x0_numberStart x0_number x0_error x0_errorAt y2_text x3_rows x3_columns x3_rivers x4_count x4_reds x5_count x5_next x5_turn x5_quarters y6_letterOn y7_namesOn y8_land y9_riverOf y10_riverPlace) sz (some (.int r)) (w_X5_readChart g a0 a1 a2 a3 a4 a5 a6 a7 a8 a9 a10 u0_1 u0_5 u0_10 u0_11 u4_2 u4_3 u4_4 u4_5 u5_4 x0_length o_x0_at o_x0_wordStart o_x0_wordLength o_x0_numberStart o_x0_number o_x0_error o_x0_errorAt y2_text o_x3_rows o_x3_columns o_x3_rivers o_x4_count o_x4_reds o_x5_count o_x5_next o_x5_turn o_x5_quarters o_y6_letterOn o_y7_namesOn o_y8_land o_y9_riverOf o_y10_riverPlace) := by
  refine MI.start (cc := cX5_readChart) (maxL := 2) (ret := (some .boolean)) rfl rfl (nle rfl) ?_
  intro p e s m args below meth c A ls Q hQ hexec hb hr hts hown hlocks hml hA hP hD hG hS hl
  unfold f_X5_readChart at hf
  have hWX1 : ∀ w ∈ wsX10, w.before args s = true := fun w h => hts w (List.mem_cons_of_mem _ (List.mem_append_left _ (List.mem_append_left _ (List.mem_append_right _ h))))
  have hWX2 : ∀ w ∈ wsX20, w.before args s = true := fun w h => hts w (List.mem_cons_of_mem _ (List.mem_append_left _ (List.mem_append_right _ h)))
  have hWX4 : ∀ w ∈ wsX40, w.before args s = true := fun w h => hts w (List.mem_cons_of_mem _ (List.mem_append_right _ h))
  have hWX5 : ∀ w ∈ wsX50, w.before args s = true := fun w h => hts w (List.mem_cons_of_mem _ (List.mem_append_left _ (List.mem_append_left _ (List.mem_append_left _ (List.mem_append_left _ (List.mem_append_right _ h))))))
  have hWX6 : ∀ w ∈ wsX60, w.before args s = true := fun w h => hts w (List.mem_cons_of_mem _ (List.mem_append_left _ (List.mem_append_left _ (List.mem_append_left _ (List.mem_append_right _ h)))))
  have hS : va_S A s.heap s.heap [] := hS
  refine lv_aload_n (pc := 0) hexec hb dX5_readChart_0 rfl (lv_at hl 0 rfl) ?_
  obtain ⟨r1, x0_at_1, x0_wordStart_1, x0_wordLength_1, x0_error_1, x0_errorAt_1, hc, hf⟩ := bd6_e hf
  refine kVp (pc := 1) (S := ⟨hexec, hb, hml, hown, hts⟩) hP hD hG hA hS [0, 2] [1, 3, 4, 5, 6, 7, 8, 9, 10] [9, 0, 10, 1, 2, 3, 4, 5, 6, 7, 8] (w2 := (w_X5_readChart g a0 a1 a2 a3 a4 a5 a6 a7 a8 a9 a10 u0_1 u0_5 u0_10 u0_11 u4_2 u4_3 u4_4 u4_5 u5_4 x0_length x0_at_1 x0_wordStart_1 x0_wordLength_1 x0_numberStart x0_number x0_error_1 x0_errorAt_1 y2_text x3_rows x3_columns x3_rivers x4_count x4_reds x5_count x5_next x5_turn x5_quarters y6_letterOn y7_namesOn y8_land y9_riverOf y10_riverPlace)) rfl rfl rfl rfl rfl rfl (by decide) (c_X5_takeWord l g a0 a2 _ (.ref a1) u0_1 u0_5 (.int x0_numberStart) (.int x0_number) u0_10 u0_11 x0_length x0_at x0_wordStart x0_wordLength x0_error x0_errorAt y2_text r1 x0_at_1 x0_wordStart_1 x0_wordLength_1 x0_error_1 x0_errorAt_1 hc) gX5_readChart_X5_takeWord rfl hv_X5_takeWord ⟨nle rfl, nle rfl⟩ 5 0 rfl rfl rfl (rest := []) rfl rfl hl.1 (nle rfl) dX5_readChart_1 (fun H locs hP hD hS => ?_)
  refine kb_ne (pc := 4) hexec hb dX5_readChart_4 (tgt := 9) rfl hf (fun hc hf => ?_) (fun hc hf => ?_)
  · refine lv_aload_n (pc := 9) hexec hb dX5_readChart_9 rfl (lv_at hl 0 rfl) ?_
    refine k_lds (pc := 10) hexec hb (own := RX5) hown hG 0 rfl dX5_readChart_10 ?_
    obtain ⟨r12, hc, hf⟩ := bd1_e hf
    refine kVp (pc := 12) (S := ⟨hexec, hb, hml, hown, hts⟩) hP hD hG hA hS [0, 2] [1, 3, 4, 5, 6, 7, 8, 9, 10] [9, 0, 10, 1, 2, 3, 4, 5, 6, 7, 8] (w2 := (w_X5_readChart g a0 a1 a2 a3 a4 a5 a6 a7 a8 a9 a10 u0_1 u0_5 u0_10 u0_11 u4_2 u4_3 u4_4 u4_5 u5_4 x0_length x0_at_1 x0_wordStart_1 x0_wordLength_1 x0_numberStart x0_number x0_error_1 x0_errorAt_1 y2_text x3_rows x3_columns x3_rivers x4_count x4_reds x5_count x5_next x5_turn x5_quarters y6_letterOn y7_namesOn y8_land y9_riverOf y10_riverPlace)) rfl rfl rfl rfl rfl rfl (by decide) (c_X5_wordIs l g a0 a2 _ (.ref a1) u0_1 (.int x0_at_1) u0_5 (.int x0_numberStart) (.int x0_number) u0_10 u0_11 (.int x0_error_1) (.int x0_errorAt_1) x0_length x0_wordStart_1 x0_wordLength_1 y2_text 0 (nle rfl) r12 hc) gX5_readChart_X5_wordIs rfl hv_X5_wordIs ⟨nle rfl, nle rfl⟩ 5 0 rfl rfl rfl (rest := []) rfl rfl hl.1 (nle rfl) dX5_readChart_12 (fun H locs hP hD hS => ?_)
    refine kb_ne (pc := 15) hexec hb dX5_readChart_15 (tgt := 28) rfl hf (fun hc hf => ?_) (fun hc hf => ?_)
    · refine lv_aload_n (pc := 28) hexec hb dX5_readChart_28 rfl (lv_at hl 0 rfl) ?_
      refine lv_iconst (pc := 29) hexec hb dX5_readChart_29 ki_3 ?_
      refine lv_bipush (pc := 30) hexec hb dX5_readChart_30 kb_12 ?_
      obtain ⟨r32, x0_at_2, x0_numberStart_1, x0_number_1, x0_error_2, x0_errorAt_2, hc, hf⟩ := bd6_e hf
      refine kVp (pc := 32) (S := ⟨hexec, hb, hml, hown, hts⟩) hP hD hG hA hS [0, 2] [1, 3, 4, 5, 6, 7, 8, 9, 10] [9, 0, 10, 1, 2, 3, 4, 5, 6, 7, 8] (w2 := (w_X5_readChart g a0 a1 a2 a3 a4 a5 a6 a7 a8 a9 a10 u0_1 u0_5 u0_10 u0_11 u4_2 u4_3 u4_4 u4_5 u5_4 x0_length x0_at_2 x0_wordStart_1 x0_wordLength_1 x0_numberStart_1 x0_number_1 x0_error_2 x0_errorAt_2 y2_text x3_rows x3_columns x3_rivers x4_count x4_reds x5_count x5_next x5_turn x5_quarters y6_letterOn y7_namesOn y8_land y9_riverOf y10_riverPlace)) rfl rfl rfl rfl rfl rfl (by decide) (c_X5_takeNumber l g a0 a2 _ (.ref a1) u0_1 u0_5 (.int x0_wordStart_1) (.int x0_wordLength_1) u0_10 u0_11 x0_length x0_at_1 x0_numberStart x0_number x0_error_1 x0_errorAt_1 y2_text 3 12 r32 x0_at_2 x0_numberStart_1 x0_number_1 x0_error_2 x0_errorAt_2 hc) gX5_readChart_X5_takeNumber rfl hv_X5_takeNumber ⟨nle rfl, nle rfl⟩ 5 0 rfl rfl rfl (rest := []) rfl rfl hl.1 (nle rfl) dX5_readChart_32 (fun H locs hP hD hS => ?_)
      refine kb_ne (pc := 35) hexec hb dX5_readChart_35 (tgt := 40) rfl hf (fun hc hf => ?_) (fun hc hf => ?_)
      · refine lv_aload_n (pc := 40) hexec hb dX5_readChart_40 rfl (lv_at hl 0 rfl) ?_
        refine kg_get (pc := 41) hexec hb (own := RX5) hWX5 hown hG hP 0 rfl rfl 9 (nle rfl) (hts _ (List.mem_cons_of_mem _ (List.mem_append_left _ (List.mem_append_left _ (List.mem_append_left _ (List.mem_append_left _ (List.mem_append_left _ (List.mem_append_left _ (List.mem_of_getElem? (i := 1) rfl))))))))) rfl rfl dX5_readChart_41 ?_
        refine lv_istore_n (pc := 44) hexec hb dX5_readChart_44 rfl hl (nle rfl) rfl (fun ls (hl : lv_has ls 2 [(1, .int x0_number_1), (0, .ref a0)]) => ?_)
        refine lv_aload_n (pc := 45) hexec hb dX5_readChart_45 rfl (lv_at hl 1 rfl) ?_
        refine lv_iconst (pc := 46) hexec hb dX5_readChart_46 ki_3 ?_
        refine lv_bipush (pc := 47) hexec hb dX5_readChart_47 kb_12 ?_
        obtain ⟨r49, x0_at_3, x0_numberStart_2, x0_number_2, x0_error_3, x0_errorAt_3, hc, hf⟩ := bd6_e hf
        refine kVp (pc := 49) (S := ⟨hexec, hb, hml, hown, hts⟩) hP hD hG hA hS [0, 2] [1, 3, 4, 5, 6, 7, 8, 9, 10] [9, 0, 10, 1, 2, 3, 4, 5, 6, 7, 8] (w2 := (w_X5_readChart g a0 a1 a2 a3 a4 a5 a6 a7 a8 a9 a10 u0_1 u0_5 u0_10 u0_11 u4_2 u4_3 u4_4 u4_5 u5_4 x0_length x0_at_3 x0_wordStart_1 x0_wordLength_1 x0_numberStart_2 x0_number_2 x0_error_3 x0_errorAt_3 y2_text x3_rows x3_columns x3_rivers x4_count x4_reds x5_count x5_next x5_turn x5_quarters y6_letterOn y7_namesOn y8_land y9_riverOf y10_riverPlace)) rfl rfl rfl rfl rfl rfl (by decide) (c_X5_takeNumber l g a0 a2 _ (.ref a1) u0_1 u0_5 (.int x0_wordStart_1) (.int x0_wordLength_1) u0_10 u0_11 x0_length x0_at_2 x0_numberStart_1 x0_number_1 x0_error_2 x0_errorAt_2 y2_text 3 12 r49 x0_at_3 x0_numberStart_2 x0_number_2 x0_error_3 x0_errorAt_3 hc) gX5_readChart_X5_takeNumber rfl hv_X5_takeNumber ⟨nle rfl, nle rfl⟩ 5 0 rfl rfl rfl (rest := []) rfl rfl hl.1 (nle rfl) dX5_readChart_49 (fun H locs hP hD hS => ?_)
        refine kb_ne (pc := 52) hexec hb dX5_readChart_52 (tgt := 57) rfl hf (fun hc hf => ?_) (fun hc hf => ?_)
        · refine lv_aload_n (pc := 57) hexec hb dX5_readChart_57 rfl (lv_at hl 1 rfl) ?_
          refine kg_get (pc := 58) hexec hb (own := RX5) hWX5 hown hG hP 0 rfl rfl 0 (nle rfl) (hts _ (List.mem_cons_of_mem _ (List.mem_append_left _ (List.mem_append_left _ (List.mem_append_left _ (List.mem_append_left _ (List.mem_append_left _ (List.mem_append_left _ (List.mem_of_getElem? (i := 2) rfl))))))))) rfl rfl dX5_readChart_58 ?_
          refine lv_iload_n (pc := 61) hexec hb dX5_readChart_61 rfl (lv_at hl 0 rfl) ?_
          refine lv_aload_n (pc := 62) hexec hb dX5_readChart_62 rfl (lv_at hl 1 rfl) ?_
          refine kg_get (pc := 63) hexec hb (own := RX5) hWX5 hown hG hP 0 rfl rfl 9 (nle rfl) (hts _ (List.mem_cons_of_mem _ (List.mem_append_left _ (List.mem_append_left _ (List.mem_append_left _ (List.mem_append_left _ (List.mem_append_left _ (List.mem_append_left _ (List.mem_of_getElem? (i := 1) rfl))))))))) rfl rfl dX5_readChart_63 ?_
          obtain ⟨x3_rows_1, x3_columns_1, x3_rivers_1, x4_count_1, x4_reds_1, x5_count_1, x5_next_1, x5_turn_1, x5_quarters_1, y6_letterOn_1, y7_namesOn_1, y8_land_1, y9_riverOf_1, y10_riverPlace_1, hc, hf⟩ := bd14_e hf
          refine kVp (pc := 66) (S := ⟨hexec, hb, hml, hown, hts⟩) hP hD hG hA hS [1, 3, 4, 5, 6, 7, 8, 9, 10] [0, 2] [0, 2, 1, 3, 4, 5, 6, 7, 8, 9, 10] (w2 := (w_X5_readChart g a0 a1 a2 a3 a4 a5 a6 a7 a8 a9 a10 u0_1 u0_5 u0_10 u0_11 u4_2 u4_3 u4_4 u4_5 u5_4 x0_length x0_at_3 x0_wordStart_1 x0_wordLength_1 x0_numberStart_2 x0_number_2 x0_error_3 x0_errorAt_3 y2_text x3_rows_1 x3_columns_1 x3_rivers_1 x4_count_1 x4_reds_1 x5_count_1 x5_next_1 x5_turn_1 x5_quarters_1 y6_letterOn_1 y7_namesOn_1 y8_land_1 y9_riverOf_1 y10_riverPlace_1)) rfl rfl rfl rfl rfl rfl (by decide) (c_X6_beginSea l g a1 a3 a4 a5 a6 a7 a8 a9 a10 _ u4_2 u4_3 u4_4 u4_5 u5_4 x3_rows x3_columns x3_rivers x4_count x4_reds x5_count x5_next x5_turn x5_quarters y6_letterOn y7_namesOn y8_land y9_riverOf y10_riverPlace x0_number_1 x0_number_2 x3_rows_1 x3_columns_1 x3_rivers_1 x4_count_1 x4_reds_1 x5_count_1 x5_next_1 x5_turn_1 x5_quarters_1 y6_letterOn_1 y7_namesOn_1 y8_land_1 y9_riverOf_1 y10_riverPlace_1 hc) gX5_readChart_X6_beginSea rfl hv_X6_beginSea ⟨nle rfl, nle rfl⟩ 6 0 rfl rfl rfl (rest := []) rfl rfl hl.1 (nle rfl) dX5_readChart_66 (fun H locs hP hD hS => ?_)
          refine lv_iconst (pc := 69) hexec hb dX5_readChart_69 ki_1 ?_
          cases hf
          exact ke_z hQ hexec hb hr (.inr rfl) hP hD hS dX5_readChart_70 hlocks
        · refine lv_iconst (pc := 55) hexec hb dX5_readChart_55 ki_0 ?_
          cases hf
          exact ke_z hQ hexec hb hr (.inl rfl) hP hD hS dX5_readChart_56 hlocks
      · refine lv_iconst (pc := 38) hexec hb dX5_readChart_38 ki_0 ?_
        cases hf
        exact ke_z hQ hexec hb hr (.inl rfl) hP hD hS dX5_readChart_39 hlocks
    · refine lv_aload_n (pc := 18) hexec hb dX5_readChart_18 rfl (lv_at hl 0 rfl) ?_
      refine lv_iconst (pc := 19) hexec hb dX5_readChart_19 ki_1 ?_
      refine lv_aload_n (pc := 20) hexec hb dX5_readChart_20 rfl (lv_at hl 0 rfl) ?_
      refine kg_get (pc := 21) hexec hb (own := RX5) hWX5 hown hG hP 0 rfl rfl 6 (nle rfl) (hts _ (List.mem_cons_of_mem _ (List.mem_append_left _ (List.mem_append_left _ (List.mem_append_left _ (List.mem_append_left _ (List.mem_append_left _ (List.mem_append_left _ (List.mem_of_getElem? (i := 0) rfl))))))))) rfl rfl dX5_readChart_21 ?_
      obtain ⟨r24, x0_error_4, x0_errorAt_4, hc, hf⟩ := bd3_e hf
      refine kVp (pc := 24) (S := ⟨hexec, hb, hml, hown, hts⟩) hP hD hG hA hS [0] [1, 2, 3, 4, 5, 6, 7, 8, 9, 10] [10, 0, 1, 2, 3, 4, 5, 6, 7, 8, 9] (w2 := (w_X5_readChart g a0 a1 a2 a3 a4 a5 a6 a7 a8 a9 a10 u0_1 u0_5 u0_10 u0_11 u4_2 u4_3 u4_4 u4_5 u5_4 x0_length x0_at_1 x0_wordStart_1 x0_wordLength_1 x0_numberStart x0_number x0_error_4 x0_errorAt_4 y2_text x3_rows x3_columns x3_rivers x4_count x4_reds x5_count x5_next x5_turn x5_quarters y6_letterOn y7_namesOn y8_land y9_riverOf y10_riverPlace)) rfl rfl rfl rfl rfl rfl (by decide) (c_X5_fail l g a0 _ (.ref a1) u0_1 (.ref a2) (.int x0_length) (.int x0_at_1) u0_5 (.int x0_wordStart_1) (.int x0_wordLength_1) (.int x0_numberStart) (.int x0_number) u0_10 u0_11 x0_error_1 x0_errorAt_1 1 x0_wordStart_1 r24 x0_error_4 x0_errorAt_4 hc) gX5_readChart_X5_fail rfl hv_X5_fail ⟨nle rfl, nle rfl⟩ 5 0 rfl rfl rfl (rest := []) rfl rfl hl.1 (nle rfl) dX5_readChart_24 (fun H locs hP hD hS => ?_)
      obtain ⟨hx, hf⟩ := zb_e hf
      cases hf
      exact ke_z hQ hexec hb hr hx hP hD hS dX5_readChart_27 hlocks
  · refine lv_iconst (pc := 7) hexec hb dX5_readChart_7 ki_0 ?_
    cases hf
    exact ke_z hQ hexec hb hr (.inl rfl) hP hD hS dX5_readChart_8 hlocks
abbrev w_X5_takeSemicolon (g : GE) (a0 a1 : Nat) (u0_0 u0_1 u0_5 u0_6 u0_7 u0_8 u0_9 u0_10 : Value) (x0_length : Int32) (x0_at : Int32) (x0_statement : Int32) (x0_error : Int32) (x0_errorAt : Int32) (y1_text : Nat → Int32) : va_W := [(a0, .inr (5, [u0_0, u0_1, .ref a1, .int x0_length, .int x0_at, u0_5, u0_6, u0_7, u0_8, u0_9, u0_10, .int x0_statement, .int x0_error, .int x0_errorAt])), (a1, .inl (g.2.1 0, 500, .inl y1_text))]
noncomputable def f_X5_takeSemicolon (x0_length : Int32) (x0_at : Int32) (x0_statement : Int32) (x0_error : Int32) (x0_errorAt : Int32) (y1_text : Nat → Int32)  : Option (Int32 × Int32 × Int32 × Int32 × Int32) :=
  bd2 (f_X5_nextSign x0_length x0_at y1_text) fun (r1 : Int32) (x0_at_1 : Int32) =>
  (if r1 = 59 then (
    bv (x0_at_1 + 1) fun x0_at_2 =>
    bv (x0_statement + 1) fun x0_statement_1 =>
    some (1, x0_at_2, x0_statement_1, x0_error, x0_errorAt)
  ) else (
    bd3 (f_X5_fail x0_error x0_errorAt 1 x0_at_1) fun (r15 : Int32) (x0_error_1 : Int32) (x0_errorAt_1 : Int32) =>
    zb r15 (some (r15, x0_at_1, x0_statement, x0_error_1, x0_errorAt_1))
  ))
set_option maxRecDepth 4000 in
theorem c_X5_takeSemicolon (l : Launch) (g : GE) (a0 a1 : Nat) (sz : Nat) (u0_0 u0_1 u0_5 u0_6 u0_7 u0_8 u0_9 u0_10 : Value) (x0_length : Int32) (x0_at : Int32) (x0_statement : Int32) (x0_error : Int32) (x0_errorAt : Int32) (y1_text : Nat → Int32)   (r : Int32) (o_x0_at : Int32) (o_x0_statement : Int32) (o_x0_error : Int32) (o_x0_errorAt : Int32) (hf : f_X5_takeSemicolon x0_length x0_at x0_statement x0_error x0_errorAt y1_text = some (r, o_x0_at, o_x0_statement, o_x0_error, o_x0_errorAt)) : MI l g yX5_takeSemicolon wsX5_takeSemicolon 3 66 [.ref a0] (w_X5_takeSemicolon g a0 a1 u0_0 u0_1 u0_5 u0_6 u0_7 u0_8 u0_9 u0_10 x0_length x0_at x0_statement x0_error x0_errorAt y1_text) sz (some (.int r)) (w_X5_takeSemicolon g a0 a1 u0_0 u0_1 u0_5 u0_6 u0_7 u0_8 u0_9 u0_10 x0_length o_x0_at o_x0_statement o_x0_error o_x0_errorAt y1_text) := by
  refine MI.start (cc := cX5_takeSemicolon) (maxL := 1) (ret := (some .boolean)) rfl rfl (nle rfl) ?_
  intro p e s m args below meth c A ls Q hQ hexec hb hr hts hown hlocks hml hA hP hD hG hS hl
  unfold f_X5_takeSemicolon at hf
  have hWX5 : ∀ w ∈ wsX50, w.before args s = true := fun w h => hts w (List.mem_cons_of_mem _ (List.mem_append_right _ h))
  have hS : va_S A s.heap s.heap [] := hS
  refine lv_aload_n (pc := 0) hexec hb dX5_takeSemicolon_0 rfl (lv_at hl 0 rfl) ?_
  obtain ⟨r1, x0_at_1, hc, hf⟩ := bd2_e hf
  refine kVp (pc := 1) (S := ⟨hexec, hb, hml, hown, hts⟩) hP hD hG hA hS [0, 1] [] [0, 1] (w2 := (w_X5_takeSemicolon g a0 a1 u0_0 u0_1 u0_5 u0_6 u0_7 u0_8 u0_9 u0_10 x0_length x0_at_1 x0_statement x0_error x0_errorAt y1_text)) rfl rfl rfl rfl rfl rfl (by decide) (c_X5_nextSign l g a0 a1 _ u0_0 u0_1 u0_5 u0_6 u0_7 u0_8 u0_9 u0_10 (.int x0_statement) (.int x0_error) (.int x0_errorAt) x0_length x0_at y1_text r1 x0_at_1 hc) gX5_takeSemicolon_X5_nextSign rfl hv_X5_nextSign ⟨nle rfl, nle rfl⟩ 5 0 rfl rfl rfl (rest := []) rfl rfl hl.1 (nle rfl) dX5_takeSemicolon_1 (fun H locs hP hD hS => ?_)
  refine lv_bipush (pc := 4) hexec hb dX5_takeSemicolon_4 kb_59 ?_
  refine ki_eq (pc := 6) hexec hb dX5_takeSemicolon_6 (tgt := 19) rfl hf (fun hc hf => ?_) (fun hc hf => ?_)
  · refine lv_aload_n (pc := 19) hexec hb dX5_takeSemicolon_19 rfl (lv_at hl 0 rfl) ?_
    refine lv_dup (pc := 20) hexec hb dX5_takeSemicolon_20 rfl ?_
    refine kg_get (pc := 21) hexec hb (own := RX5) hWX5 hown hG hP 0 rfl rfl 4 (nle rfl) (hts _ (List.mem_cons_of_mem _ (List.mem_append_left _ (List.mem_of_getElem? (i := 0) rfl)))) rfl rfl dX5_takeSemicolon_21 ?_
    refine lv_iconst (pc := 24) hexec hb dX5_takeSemicolon_24 ki_1 ?_
    refine lv_iadd (pc := 25) hexec hb dX5_takeSemicolon_25 ?_
    obtain ⟨x0_at_2, ex0_at_2, hf⟩ := bv_e hf
    refine kn_i ex0_at_2 ?_
    refine kp_put (pc := 26) hexec hb (own := RX5) hWX5 tyX5 tyX5_ok nmX5 hown hG hP hD hS 0 rfl rfl 4 (nle rfl) (hts _ (List.mem_cons_of_mem _ (List.mem_append_left _ (List.mem_of_getElem? (i := 0) rfl)))) rfl rfl rfl rfl (nle rfl) dX5_takeSemicolon_26 (fun H locs (hP : va_P g.1 vwCl (w_X5_takeSemicolon g a0 a1 u0_0 u0_1 u0_5 u0_6 u0_7 u0_8 u0_9 u0_10 x0_length x0_at_2 x0_statement x0_error x0_errorAt y1_text) H) (hD : va_D A (w_X5_takeSemicolon g a0 a1 u0_0 u0_1 u0_5 u0_6 u0_7 u0_8 u0_9 u0_10 x0_length x0_at_2 x0_statement x0_error x0_errorAt y1_text)) hS => ?_)
    refine lv_aload_n (pc := 29) hexec hb dX5_takeSemicolon_29 rfl (lv_at hl 0 rfl) ?_
    refine lv_dup (pc := 30) hexec hb dX5_takeSemicolon_30 rfl ?_
    refine kg_get (pc := 31) hexec hb (own := RX5) hWX5 hown hG hP 0 rfl rfl 11 (nle rfl) (hts _ (List.mem_cons_of_mem _ (List.mem_append_left _ (List.mem_of_getElem? (i := 1) rfl)))) rfl rfl dX5_takeSemicolon_31 ?_
    refine lv_iconst (pc := 34) hexec hb dX5_takeSemicolon_34 ki_1 ?_
    refine lv_iadd (pc := 35) hexec hb dX5_takeSemicolon_35 ?_
    obtain ⟨x0_statement_1, ex0_statement_1, hf⟩ := bv_e hf
    refine kn_i ex0_statement_1 ?_
    refine kp_put (pc := 36) hexec hb (own := RX5) hWX5 tyX5 tyX5_ok nmX5 hown hG hP hD hS 0 rfl rfl 11 (nle rfl) (hts _ (List.mem_cons_of_mem _ (List.mem_append_left _ (List.mem_of_getElem? (i := 1) rfl)))) rfl rfl rfl rfl (nle rfl) dX5_takeSemicolon_36 (fun H locs (hP : va_P g.1 vwCl (w_X5_takeSemicolon g a0 a1 u0_0 u0_1 u0_5 u0_6 u0_7 u0_8 u0_9 u0_10 x0_length x0_at_2 x0_statement_1 x0_error x0_errorAt y1_text) H) (hD : va_D A (w_X5_takeSemicolon g a0 a1 u0_0 u0_1 u0_5 u0_6 u0_7 u0_8 u0_9 u0_10 x0_length x0_at_2 x0_statement_1 x0_error x0_errorAt y1_text)) hS => ?_)
    refine lv_iconst (pc := 39) hexec hb dX5_takeSemicolon_39 ki_1 ?_
    cases hf
    exact ke_z hQ hexec hb hr (.inr rfl) hP hD hS dX5_takeSemicolon_40 hlocks
  · refine lv_aload_n (pc := 9) hexec hb dX5_takeSemicolon_9 rfl (lv_at hl 0 rfl) ?_
    refine lv_iconst (pc := 10) hexec hb dX5_takeSemicolon_10 ki_1 ?_
    refine lv_aload_n (pc := 11) hexec hb dX5_takeSemicolon_11 rfl (lv_at hl 0 rfl) ?_
    refine kg_get (pc := 12) hexec hb (own := RX5) hWX5 hown hG hP 0 rfl rfl 4 (nle rfl) (hts _ (List.mem_cons_of_mem _ (List.mem_append_left _ (List.mem_of_getElem? (i := 0) rfl)))) rfl rfl dX5_takeSemicolon_12 ?_
    obtain ⟨r15, x0_error_1, x0_errorAt_1, hc, hf⟩ := bd3_e hf
    refine kVp (pc := 15) (S := ⟨hexec, hb, hml, hown, hts⟩) hP hD hG hA hS [0] [1] [1, 0] (w2 := (w_X5_takeSemicolon g a0 a1 u0_0 u0_1 u0_5 u0_6 u0_7 u0_8 u0_9 u0_10 x0_length x0_at_1 x0_statement x0_error_1 x0_errorAt_1 y1_text)) rfl rfl rfl rfl rfl rfl (by decide) (c_X5_fail l g a0 _ u0_0 u0_1 (.ref a1) (.int x0_length) (.int x0_at_1) u0_5 u0_6 u0_7 u0_8 u0_9 u0_10 (.int x0_statement) x0_error x0_errorAt 1 x0_at_1 r15 x0_error_1 x0_errorAt_1 hc) gX5_takeSemicolon_X5_fail rfl hv_X5_fail ⟨nle rfl, nle rfl⟩ 5 0 rfl rfl rfl (rest := []) rfl rfl hl.1 (nle rfl) dX5_takeSemicolon_15 (fun H locs hP hD hS => ?_)
    obtain ⟨hx, hf⟩ := zb_e hf
    cases hf
    exact ke_z hQ hexec hb hr hx hP hD hS dX5_takeSemicolon_18 hlocks
abbrev w_X5_takeKeyword (g : GE) (a0 a1 : Nat) (u0_0 u0_1 u0_5 u0_8 u0_9 u0_10 u0_11 : Value) (x0_length : Int32) (x0_at : Int32) (x0_wordStart : Int32) (x0_wordLength : Int32) (x0_error : Int32) (x0_errorAt : Int32) (y1_text : Nat → Int32) : va_W := [(a0, .inr (5, [u0_0, u0_1, .ref a1, .int x0_length, .int x0_at, u0_5, .int x0_wordStart, .int x0_wordLength, u0_8, u0_9, u0_10, u0_11, .int x0_error, .int x0_errorAt])), (a1, .inl (g.2.1 0, 500, .inl y1_text))]
noncomputable def f_X5_takeKeyword (x0_length : Int32) (x0_at : Int32) (x0_wordStart : Int32) (x0_wordLength : Int32) (x0_error : Int32) (x0_errorAt : Int32) (y1_text : Nat → Int32)  : Option (Int32 × Int32 × Int32 × Int32 × Int32 × Int32) :=
  bd6 (f_X5_takeWord x0_length x0_at x0_wordStart x0_wordLength x0_error x0_errorAt y1_text) fun (r1 : Int32) (x0_at_1 : Int32) (x0_wordStart_1 : Int32) (x0_wordLength_1 : Int32) (x0_error_1 : Int32) (x0_errorAt_1 : Int32) =>
  (if r1 = 0 then (
    some ((-1), x0_at_1, x0_wordStart_1, x0_wordLength_1, x0_error_1, x0_errorAt_1)
  ) else (
    bd1 (f_X5_wordIs x0_length x0_wordStart_1 x0_wordLength_1 y1_text 1) fun (r12 : Int32) =>
    bv (fun (t89 : Int32) => ((
      (if t89 = (-1) then (
        bd3 (f_X5_fail x0_error_1 x0_errorAt_1 1 x0_wordStart_1) fun (r101 : Int32) (x0_error_2 : Int32) (x0_errorAt_2 : Int32) =>
        some (t89, x0_at_1, x0_wordStart_1, x0_wordLength_1, x0_error_2, x0_errorAt_2)
      ) else (
        some (t89, x0_at_1, x0_wordStart_1, x0_wordLength_1, x0_error_1, x0_errorAt_1)
      ))
      ) : Option (Int32 × Int32 × Int32 × Int32 × Int32 × Int32))) fun j89 =>
    (if r12 = 0 then (
      bd1 (f_X5_wordIs x0_length x0_wordStart_1 x0_wordLength_1 y1_text 2) fun (r25 : Int32) =>
      (if r25 = 0 then (
        bd1 (f_X5_wordIs x0_length x0_wordStart_1 x0_wordLength_1 y1_text 3) fun (r38 : Int32) =>
        (if r38 = 0 then (
          bd1 (f_X5_wordIs x0_length x0_wordStart_1 x0_wordLength_1 y1_text 4) fun (r51 : Int32) =>
          (if r51 = 0 then (
            bd1 (f_X5_wordIs x0_length x0_wordStart_1 x0_wordLength_1 y1_text 5) fun (r64 : Int32) =>
            (if r64 = 0 then (
              bd1 (f_X5_wordIs x0_length x0_wordStart_1 x0_wordLength_1 y1_text 6) fun (r77 : Int32) =>
              (if r77 = 0 then (
                j89 (-1)
              ) else (
                j89 6
              ))
            ) else (
              j89 5
            ))
          ) else (
            j89 4
          ))
        ) else (
          j89 3
        ))
      ) else (
        j89 2
      ))
    ) else (
      j89 1
    ))
  ))
set_option maxRecDepth 4000 in
theorem c_X5_takeKeyword (l : Launch) (g : GE) (a0 a1 : Nat) (sz : Nat) (u0_0 u0_1 u0_5 u0_8 u0_9 u0_10 u0_11 : Value) (x0_length : Int32) (x0_at : Int32) (x0_wordStart : Int32) (x0_wordLength : Int32) (x0_error : Int32) (x0_errorAt : Int32) (y1_text : Nat → Int32)   (r : Int32) (o_x0_at : Int32) (o_x0_wordStart : Int32) (o_x0_wordLength : Int32) (o_x0_error : Int32) (o_x0_errorAt : Int32) (hf : f_X5_takeKeyword x0_length x0_at x0_wordStart x0_wordLength x0_error x0_errorAt y1_text = some (r, o_x0_at, o_x0_wordStart, o_x0_wordLength, o_x0_error, o_x0_errorAt)) : MI l g yX5_takeKeyword wsX5_takeKeyword 6 133 [.ref a0] (w_X5_takeKeyword g a0 a1 u0_0 u0_1 u0_5 u0_8 u0_9 u0_10 u0_11 x0_length x0_at x0_wordStart x0_wordLength x0_error x0_errorAt y1_text) sz (some (.int r)) (w_X5_takeKeyword g a0 a1 u0_0 u0_1 u0_5 u0_8 u0_9 u0_10 u0_11 x0_length o_x0_at o_x0_wordStart o_x0_wordLength o_x0_error o_x0_errorAt y1_text) := by
  refine MI.start (cc := cX5_takeKeyword) (maxL := 2) (ret := (some .int)) rfl rfl (nle rfl) ?_
  intro p e s m args below meth c A ls Q hQ hexec hb hr hts hown hlocks hml hA hP hD hG hS hl
  unfold f_X5_takeKeyword at hf
  have hWX5 : ∀ w ∈ wsX50, w.before args s = true := fun w h => hts w (List.mem_cons_of_mem _ (List.mem_append_right _ h))
  have hS : va_S A s.heap s.heap [] := hS
  refine lv_aload_n (pc := 0) hexec hb dX5_takeKeyword_0 rfl (lv_at hl 0 rfl) ?_
  obtain ⟨r1, x0_at_1, x0_wordStart_1, x0_wordLength_1, x0_error_1, x0_errorAt_1, hc, hf⟩ := bd6_e hf
  refine kVp (pc := 1) (S := ⟨hexec, hb, hml, hown, hts⟩) hP hD hG hA hS [0, 1] [] [0, 1] (w2 := (w_X5_takeKeyword g a0 a1 u0_0 u0_1 u0_5 u0_8 u0_9 u0_10 u0_11 x0_length x0_at_1 x0_wordStart_1 x0_wordLength_1 x0_error_1 x0_errorAt_1 y1_text)) rfl rfl rfl rfl rfl rfl (by decide) (c_X5_takeWord l g a0 a1 _ u0_0 u0_1 u0_5 u0_8 u0_9 u0_10 u0_11 x0_length x0_at x0_wordStart x0_wordLength x0_error x0_errorAt y1_text r1 x0_at_1 x0_wordStart_1 x0_wordLength_1 x0_error_1 x0_errorAt_1 hc) gX5_takeKeyword_X5_takeWord rfl hv_X5_takeWord ⟨nle rfl, nle rfl⟩ 5 0 rfl rfl rfl (rest := []) rfl rfl hl.1 (nle rfl) dX5_takeKeyword_1 (fun H locs hP hD hS => ?_)
  refine kb_ne (pc := 4) hexec hb dX5_takeKeyword_4 (tgt := 9) rfl hf (fun hc hf => ?_) (fun hc hf => ?_)
  · refine lv_aload_n (pc := 9) hexec hb dX5_takeKeyword_9 rfl (lv_at hl 0 rfl) ?_
    refine k_lds (pc := 10) hexec hb (own := RX5) hown hG 1 rfl dX5_takeKeyword_10 ?_
    obtain ⟨r12, hc, hf⟩ := bd1_e hf
    refine kVp (pc := 12) (S := ⟨hexec, hb, hml, hown, hts⟩) hP hD hG hA hS [0, 1] [] [0, 1] (w2 := (w_X5_takeKeyword g a0 a1 u0_0 u0_1 u0_5 u0_8 u0_9 u0_10 u0_11 x0_length x0_at_1 x0_wordStart_1 x0_wordLength_1 x0_error_1 x0_errorAt_1 y1_text)) rfl rfl rfl rfl rfl rfl (by decide) (c_X5_wordIs l g a0 a1 _ u0_0 u0_1 (.int x0_at_1) u0_5 u0_8 u0_9 u0_10 u0_11 (.int x0_error_1) (.int x0_errorAt_1) x0_length x0_wordStart_1 x0_wordLength_1 y1_text 1 (nle rfl) r12 hc) gX5_takeKeyword_X5_wordIs rfl hv_X5_wordIs ⟨nle rfl, nle rfl⟩ 5 0 rfl rfl rfl (rest := []) rfl rfl hl.1 (nle rfl) dX5_takeKeyword_12 (fun H locs hP hD hS => ?_)
    obtain ⟨j89, ej89, hf⟩ := bvf1 hf
    have hj89 : ∀ (t89 : Int32) (H : Heap) (locs : List Loc) (ls : Array Slot), j89 t89 = some (r, o_x0_at, o_x0_wordStart, o_x0_wordLength, o_x0_error, o_x0_errorAt) → va_P g.1 vwCl (w_X5_takeKeyword g a0 a1 u0_0 u0_1 u0_5 u0_8 u0_9 u0_10 u0_11 x0_length x0_at_1 x0_wordStart_1 x0_wordLength_1 x0_error_1 x0_errorAt_1 y1_text) H → va_D A (w_X5_takeKeyword g a0 a1 u0_0 u0_1 u0_5 u0_8 u0_9 u0_10 u0_11 x0_length x0_at_1 x0_wordStart_1 x0_wordLength_1 x0_error_1 x0_errorAt_1 y1_text) → va_S A s.heap H locs → lv_has ls 2 [(0, .ref a0)] → W p l e (RM 6 133) s m args below meth c H locs 0 0 Q (F0 m 89 ls [.int t89]) := by
      intro t89 H locs ls hf hP hD hS hl
      have hf := (ej89 t89).symm.trans hf
      refine lv_istore_n (pc := 89) hexec hb dX5_takeKeyword_89 rfl hl (nle rfl) rfl (fun ls (hl : lv_has ls 2 [(1, .int t89), (0, .ref a0)]) => ?_)
      refine lv_iload_n (pc := 90) hexec hb dX5_takeKeyword_90 rfl (lv_at hl 0 rfl) ?_
      refine lv_iconst (pc := 91) hexec hb dX5_takeKeyword_91 ki_m1 ?_
      refine ki_ne (pc := 92) hexec hb dX5_takeKeyword_92 (tgt := 105) rfl hf (fun hc hf => ?_) (fun hc hf => ?_)
      · refine lv_iload_n (pc := 105) hexec hb dX5_takeKeyword_105 rfl (lv_at hl 0 rfl) ?_
        cases hf
        exact ke_i hQ hexec hb hr hP hD hS dX5_takeKeyword_106 hlocks
      · refine lv_aload_n (pc := 95) hexec hb dX5_takeKeyword_95 rfl (lv_at hl 1 rfl) ?_
        refine lv_iconst (pc := 96) hexec hb dX5_takeKeyword_96 ki_1 ?_
        refine lv_aload_n (pc := 97) hexec hb dX5_takeKeyword_97 rfl (lv_at hl 1 rfl) ?_
        refine kg_get (pc := 98) hexec hb (own := RX5) hWX5 hown hG hP 0 rfl rfl 6 (nle rfl) (hts _ (List.mem_cons_of_mem _ (List.mem_append_left _ (List.mem_append_left _ (List.mem_of_getElem? (i := 0) rfl))))) rfl rfl dX5_takeKeyword_98 ?_
        obtain ⟨r101, x0_error_2, x0_errorAt_2, hc, hf⟩ := bd3_e hf
        refine kVp (pc := 101) (S := ⟨hexec, hb, hml, hown, hts⟩) hP hD hG hA hS [0] [1] [1, 0] (w2 := (w_X5_takeKeyword g a0 a1 u0_0 u0_1 u0_5 u0_8 u0_9 u0_10 u0_11 x0_length x0_at_1 x0_wordStart_1 x0_wordLength_1 x0_error_2 x0_errorAt_2 y1_text)) rfl rfl rfl rfl rfl rfl (by decide) (c_X5_fail l g a0 _ u0_0 u0_1 (.ref a1) (.int x0_length) (.int x0_at_1) u0_5 (.int x0_wordStart_1) (.int x0_wordLength_1) u0_8 u0_9 u0_10 u0_11 x0_error_1 x0_errorAt_1 1 x0_wordStart_1 r101 x0_error_2 x0_errorAt_2 hc) gX5_takeKeyword_X5_fail rfl hv_X5_fail ⟨nle rfl, nle rfl⟩ 5 0 rfl rfl rfl (rest := []) rfl rfl hl.1 (nle rfl) dX5_takeKeyword_101 (fun H locs hP hD hS => ?_)
        refine lv_pop (pc := 104) hexec hb dX5_takeKeyword_104 rfl ?_
        refine lv_iload_n (pc := 105) hexec hb dX5_takeKeyword_105 rfl (lv_at hl 0 rfl) ?_
        cases hf
        exact ke_i hQ hexec hb hr hP hD hS dX5_takeKeyword_106 hlocks
    refine kb_eq (pc := 15) hexec hb dX5_takeKeyword_15 (tgt := 22) rfl hf (fun hc hf => ?_) (fun hc hf => ?_)
    · refine lv_aload_n (pc := 22) hexec hb dX5_takeKeyword_22 rfl (lv_at hl 0 rfl) ?_
      refine k_lds (pc := 23) hexec hb (own := RX5) hown hG 2 rfl dX5_takeKeyword_23 ?_
      obtain ⟨r25, hc, hf⟩ := bd1_e hf
      refine kVp (pc := 25) (S := ⟨hexec, hb, hml, hown, hts⟩) hP hD hG hA hS [0, 1] [] [0, 1] (w2 := (w_X5_takeKeyword g a0 a1 u0_0 u0_1 u0_5 u0_8 u0_9 u0_10 u0_11 x0_length x0_at_1 x0_wordStart_1 x0_wordLength_1 x0_error_1 x0_errorAt_1 y1_text)) rfl rfl rfl rfl rfl rfl (by decide) (c_X5_wordIs l g a0 a1 _ u0_0 u0_1 (.int x0_at_1) u0_5 u0_8 u0_9 u0_10 u0_11 (.int x0_error_1) (.int x0_errorAt_1) x0_length x0_wordStart_1 x0_wordLength_1 y1_text 2 (nle rfl) r25 hc) gX5_takeKeyword_X5_wordIs rfl hv_X5_wordIs ⟨nle rfl, nle rfl⟩ 5 0 rfl rfl rfl (rest := []) rfl rfl hl.1 (nle rfl) dX5_takeKeyword_25 (fun H locs hP hD hS => ?_)
      refine kb_eq (pc := 28) hexec hb dX5_takeKeyword_28 (tgt := 35) rfl hf (fun hc hf => ?_) (fun hc hf => ?_)
      · refine lv_aload_n (pc := 35) hexec hb dX5_takeKeyword_35 rfl (lv_at hl 0 rfl) ?_
        refine k_lds (pc := 36) hexec hb (own := RX5) hown hG 3 rfl dX5_takeKeyword_36 ?_
        obtain ⟨r38, hc, hf⟩ := bd1_e hf
        refine kVp (pc := 38) (S := ⟨hexec, hb, hml, hown, hts⟩) hP hD hG hA hS [0, 1] [] [0, 1] (w2 := (w_X5_takeKeyword g a0 a1 u0_0 u0_1 u0_5 u0_8 u0_9 u0_10 u0_11 x0_length x0_at_1 x0_wordStart_1 x0_wordLength_1 x0_error_1 x0_errorAt_1 y1_text)) rfl rfl rfl rfl rfl rfl (by decide) (c_X5_wordIs l g a0 a1 _ u0_0 u0_1 (.int x0_at_1) u0_5 u0_8 u0_9 u0_10 u0_11 (.int x0_error_1) (.int x0_errorAt_1) x0_length x0_wordStart_1 x0_wordLength_1 y1_text 3 (nle rfl) r38 hc) gX5_takeKeyword_X5_wordIs rfl hv_X5_wordIs ⟨nle rfl, nle rfl⟩ 5 0 rfl rfl rfl (rest := []) rfl rfl hl.1 (nle rfl) dX5_takeKeyword_38 (fun H locs hP hD hS => ?_)
        refine kb_eq (pc := 41) hexec hb dX5_takeKeyword_41 (tgt := 48) rfl hf (fun hc hf => ?_) (fun hc hf => ?_)
        · refine lv_aload_n (pc := 48) hexec hb dX5_takeKeyword_48 rfl (lv_at hl 0 rfl) ?_
          refine k_lds (pc := 49) hexec hb (own := RX5) hown hG 4 rfl dX5_takeKeyword_49 ?_
          obtain ⟨r51, hc, hf⟩ := bd1_e hf
          refine kVp (pc := 51) (S := ⟨hexec, hb, hml, hown, hts⟩) hP hD hG hA hS [0, 1] [] [0, 1] (w2 := (w_X5_takeKeyword g a0 a1 u0_0 u0_1 u0_5 u0_8 u0_9 u0_10 u0_11 x0_length x0_at_1 x0_wordStart_1 x0_wordLength_1 x0_error_1 x0_errorAt_1 y1_text)) rfl rfl rfl rfl rfl rfl (by decide) (c_X5_wordIs l g a0 a1 _ u0_0 u0_1 (.int x0_at_1) u0_5 u0_8 u0_9 u0_10 u0_11 (.int x0_error_1) (.int x0_errorAt_1) x0_length x0_wordStart_1 x0_wordLength_1 y1_text 4 (nle rfl) r51 hc) gX5_takeKeyword_X5_wordIs rfl hv_X5_wordIs ⟨nle rfl, nle rfl⟩ 5 0 rfl rfl rfl (rest := []) rfl rfl hl.1 (nle rfl) dX5_takeKeyword_51 (fun H locs hP hD hS => ?_)
          refine kb_eq (pc := 54) hexec hb dX5_takeKeyword_54 (tgt := 61) rfl hf (fun hc hf => ?_) (fun hc hf => ?_)
          · refine lv_aload_n (pc := 61) hexec hb dX5_takeKeyword_61 rfl (lv_at hl 0 rfl) ?_
            refine k_lds (pc := 62) hexec hb (own := RX5) hown hG 5 rfl dX5_takeKeyword_62 ?_
            obtain ⟨r64, hc, hf⟩ := bd1_e hf
            refine kVp (pc := 64) (S := ⟨hexec, hb, hml, hown, hts⟩) hP hD hG hA hS [0, 1] [] [0, 1] (w2 := (w_X5_takeKeyword g a0 a1 u0_0 u0_1 u0_5 u0_8 u0_9 u0_10 u0_11 x0_length x0_at_1 x0_wordStart_1 x0_wordLength_1 x0_error_1 x0_errorAt_1 y1_text)) rfl rfl rfl rfl rfl rfl (by decide) (c_X5_wordIs l g a0 a1 _ u0_0 u0_1 (.int x0_at_1) u0_5 u0_8 u0_9 u0_10 u0_11 (.int x0_error_1) (.int x0_errorAt_1) x0_length x0_wordStart_1 x0_wordLength_1 y1_text 5 (nle rfl) r64 hc) gX5_takeKeyword_X5_wordIs rfl hv_X5_wordIs ⟨nle rfl, nle rfl⟩ 5 0 rfl rfl rfl (rest := []) rfl rfl hl.1 (nle rfl) dX5_takeKeyword_64 (fun H locs hP hD hS => ?_)
            refine kb_eq (pc := 67) hexec hb dX5_takeKeyword_67 (tgt := 74) rfl hf (fun hc hf => ?_) (fun hc hf => ?_)
            · refine lv_aload_n (pc := 74) hexec hb dX5_takeKeyword_74 rfl (lv_at hl 0 rfl) ?_
              refine k_lds (pc := 75) hexec hb (own := RX5) hown hG 6 rfl dX5_takeKeyword_75 ?_
              obtain ⟨r77, hc, hf⟩ := bd1_e hf
              refine kVp (pc := 77) (S := ⟨hexec, hb, hml, hown, hts⟩) hP hD hG hA hS [0, 1] [] [0, 1] (w2 := (w_X5_takeKeyword g a0 a1 u0_0 u0_1 u0_5 u0_8 u0_9 u0_10 u0_11 x0_length x0_at_1 x0_wordStart_1 x0_wordLength_1 x0_error_1 x0_errorAt_1 y1_text)) rfl rfl rfl rfl rfl rfl (by decide) (c_X5_wordIs l g a0 a1 _ u0_0 u0_1 (.int x0_at_1) u0_5 u0_8 u0_9 u0_10 u0_11 (.int x0_error_1) (.int x0_errorAt_1) x0_length x0_wordStart_1 x0_wordLength_1 y1_text 6 (nle rfl) r77 hc) gX5_takeKeyword_X5_wordIs rfl hv_X5_wordIs ⟨nle rfl, nle rfl⟩ 5 0 rfl rfl rfl (rest := []) rfl rfl hl.1 (nle rfl) dX5_takeKeyword_77 (fun H locs hP hD hS => ?_)
              refine kb_eq (pc := 80) hexec hb dX5_takeKeyword_80 (tgt := 88) rfl hf (fun hc hf => ?_) (fun hc hf => ?_)
              · refine lv_iconst (pc := 88) hexec hb dX5_takeKeyword_88 ki_m1 ?_
                exact hj89 _ _ _ _ hf hP hD hS (lv_sub hl [0] rfl)
              · refine lv_bipush (pc := 83) hexec hb dX5_takeKeyword_83 kb_6 ?_
                refine lv_goto (pc := 85) hexec hb dX5_takeKeyword_85 (tgt := 89) rfl ?_
                exact hj89 _ _ _ _ hf hP hD hS (lv_sub hl [0] rfl)
            · refine lv_iconst (pc := 70) hexec hb dX5_takeKeyword_70 ki_5 ?_
              refine lv_goto (pc := 71) hexec hb dX5_takeKeyword_71 (tgt := 89) rfl ?_
              exact hj89 _ _ _ _ hf hP hD hS (lv_sub hl [0] rfl)
          · refine lv_iconst (pc := 57) hexec hb dX5_takeKeyword_57 ki_4 ?_
            refine lv_goto (pc := 58) hexec hb dX5_takeKeyword_58 (tgt := 89) rfl ?_
            exact hj89 _ _ _ _ hf hP hD hS (lv_sub hl [0] rfl)
        · refine lv_iconst (pc := 44) hexec hb dX5_takeKeyword_44 ki_3 ?_
          refine lv_goto (pc := 45) hexec hb dX5_takeKeyword_45 (tgt := 89) rfl ?_
          exact hj89 _ _ _ _ hf hP hD hS (lv_sub hl [0] rfl)
      · refine lv_iconst (pc := 31) hexec hb dX5_takeKeyword_31 ki_2 ?_
        refine lv_goto (pc := 32) hexec hb dX5_takeKeyword_32 (tgt := 89) rfl ?_
        exact hj89 _ _ _ _ hf hP hD hS (lv_sub hl [0] rfl)
    · refine lv_iconst (pc := 18) hexec hb dX5_takeKeyword_18 ki_1 ?_
      refine lv_goto (pc := 19) hexec hb dX5_takeKeyword_19 (tgt := 89) rfl ?_
      exact hj89 _ _ _ _ hf hP hD hS (lv_sub hl [0] rfl)
  · refine lv_iconst (pc := 7) hexec hb dX5_takeKeyword_7 ki_m1 ?_
    cases hf
    exact ke_i hQ hexec hb hr hP hD hS dX5_takeKeyword_8 hlocks
abbrev w_X5_takeCell (g : GE) (a0 a1 a2 a3 : Nat) (u0_1 u0_5 u0_6 u0_7 u0_11 u1_1 u1_2 u1_3 u1_4 u3_2 u3_3 u3_4 u3_5 : Value) (x0_length : Int32) (x0_at : Int32) (x0_numberStart : Int32) (x0_number : Int32) (x0_cell : Int32) (x0_error : Int32) (x0_errorAt : Int32) (y2_text : Nat → Int32) (x3_rows : Int32) (x3_columns : Int32) : va_W := [(a0, .inr (5, [.ref a1, u0_1, .ref a2, .int x0_length, .int x0_at, u0_5, u0_6, u0_7, .int x0_numberStart, .int x0_number, .int x0_cell, u0_11, .int x0_error, .int x0_errorAt])), (a1, .inr (6, [.ref a3, u1_1, u1_2, u1_3, u1_4])), (a2, .inl (g.2.1 0, 500, .inl y2_text)), (a3, .inr (1, [.int x3_rows, .int x3_columns, u3_2, u3_3, u3_4, u3_5]))]
noncomputable def f_X5_takeCell (x0_length : Int32) (x0_at : Int32) (x0_numberStart : Int32) (x0_number : Int32) (x0_cell : Int32) (x0_error : Int32) (x0_errorAt : Int32) (y2_text : Nat → Int32) (x3_rows : Int32) (x3_columns : Int32)  : Option (Int32 × Int32 × Int32 × Int32 × Int32 × Int32 × Int32) :=
  bd6 (f_X5_takeNumber x0_length x0_at x0_numberStart x0_number x0_error x0_errorAt y2_text 0 (x3_rows - 1)) fun (r14 : Int32) (x0_at_1 : Int32) (x0_numberStart_1 : Int32) (x0_number_1 : Int32) (x0_error_1 : Int32) (x0_errorAt_1 : Int32) =>
  (if r14 = 0 then (
    some (0, x0_at_1, x0_numberStart_1, x0_number_1, x0_cell, x0_error_1, x0_errorAt_1)
  ) else (
    bd6 (f_X5_takeNumber x0_length x0_at_1 x0_numberStart_1 x0_number_1 x0_error_1 x0_errorAt_1 y2_text 0 (x3_columns - 1)) fun (r41 : Int32) (x0_at_2 : Int32) (x0_numberStart_2 : Int32) (x0_number_2 : Int32) (x0_error_2 : Int32) (x0_errorAt_2 : Int32) =>
    (if r41 = 0 then (
      some (0, x0_at_2, x0_numberStart_2, x0_number_2, x0_cell, x0_error_2, x0_errorAt_2)
    ) else (
      bv ((x0_number_1 * x3_columns) + x0_number_2) fun x0_cell_1 =>
      some (1, x0_at_2, x0_numberStart_2, x0_number_2, x0_cell_1, x0_error_2, x0_errorAt_2)
    ))
  ))
set_option maxRecDepth 4000 in
theorem c_X5_takeCell (l : Launch) (g : GE) (a0 a1 a2 a3 : Nat) (sz : Nat) (u0_1 u0_5 u0_6 u0_7 u0_11 u1_1 u1_2 u1_3 u1_4 u3_2 u3_3 u3_4 u3_5 : Value) (x0_length : Int32) (x0_at : Int32) (x0_numberStart : Int32) (x0_number : Int32) (x0_cell : Int32) (x0_error : Int32) (x0_errorAt : Int32) (y2_text : Nat → Int32) (x3_rows : Int32) (x3_columns : Int32)   (r : Int32) (o_x0_at : Int32) (o_x0_numberStart : Int32) (o_x0_number : Int32) (o_x0_cell : Int32) (o_x0_error : Int32) (o_x0_errorAt : Int32) (hf : f_X5_takeCell x0_length x0_at x0_numberStart x0_number x0_cell x0_error x0_errorAt y2_text x3_rows x3_columns = some (r, o_x0_at, o_x0_numberStart, o_x0_number, o_x0_cell, o_x0_error, o_x0_errorAt)) : MI l g yX5_takeCell wsX5_takeCell 4 89 [.ref a0] (w_X5_takeCell g a0 a1 a2 a3 u0_1 u0_5 u0_6 u0_7 u0_11 u1_1 u1_2 u1_3 u1_4 u3_2 u3_3 u3_4 u3_5 x0_length x0_at x0_numberStart x0_number x0_cell x0_error x0_errorAt y2_text x3_rows x3_columns) sz (some (.int r)) (w_X5_takeCell g a0 a1 a2 a3 u0_1 u0_5 u0_6 u0_7 u0_11 u1_1 u1_2 u1_3 u1_4 u3_2 u3_3 u3_4 u3_5 x0_length o_x0_at o_x0_numberStart o_x0_number o_x0_cell o_x0_error o_x0_errorAt y2_text x3_rows x3_columns) := by
  refine MI.start (cc := cX5_takeCell) (maxL := 2) (ret := (some .boolean)) rfl rfl (nle rfl) ?_
  intro p e s m args below meth c A ls Q hQ hexec hb hr hts hown hlocks hml hA hP hD hG hS hl
  unfold f_X5_takeCell at hf
  have hWX1 : ∀ w ∈ wsX10, w.before args s = true := fun w h => hts w (List.mem_cons_of_mem _ (List.mem_append_right _ h))
  have hWX5 : ∀ w ∈ wsX50, w.before args s = true := fun w h => hts w (List.mem_cons_of_mem _ (List.mem_append_left _ (List.mem_append_left _ (List.mem_append_right _ h))))
  have hWX6 : ∀ w ∈ wsX60, w.before args s = true := fun w h => hts w (List.mem_cons_of_mem _ (List.mem_append_left _ (List.mem_append_right _ h)))
  have hS : va_S A s.heap s.heap [] := hS
  refine lv_aload_n (pc := 0) hexec hb dX5_takeCell_0 rfl (lv_at hl 0 rfl) ?_
  refine lv_iconst (pc := 1) hexec hb dX5_takeCell_1 ki_0 ?_
  refine lv_aload_n (pc := 2) hexec hb dX5_takeCell_2 rfl (lv_at hl 0 rfl) ?_
  refine kg_get (pc := 3) hexec hb (own := RX5) hWX5 hown hG hP 0 rfl rfl 0 (nle rfl) (hts _ (List.mem_cons_of_mem _ (List.mem_append_left _ (List.mem_append_left _ (List.mem_append_left _ (List.mem_append_left _ (List.mem_of_getElem? (i := 0) rfl))))))) rfl rfl dX5_takeCell_3 ?_
  refine kg_getN (pc := 6) hexec hb (own := RX5) hWX6 hown hG hP 1 rfl rfl 0 (nle rfl) 23 rfl rfl rfl dX5_takeCell_6 ?_
  refine kg_getN (pc := 9) hexec hb (own := RX5) hWX1 hown hG hP 3 rfl rfl 0 (nle rfl) 1 rfl rfl rfl dX5_takeCell_9 ?_
  refine lv_iconst (pc := 12) hexec hb dX5_takeCell_12 ki_1 ?_
  refine lv_isub (pc := 13) hexec hb dX5_takeCell_13 ?_
  obtain ⟨r14, x0_at_1, x0_numberStart_1, x0_number_1, x0_error_1, x0_errorAt_1, hc, hf⟩ := bd6_e hf
  refine kVp (pc := 14) (S := ⟨hexec, hb, hml, hown, hts⟩) hP hD hG hA hS [0, 2] [1, 3] [2, 0, 3, 1] (w2 := (w_X5_takeCell g a0 a1 a2 a3 u0_1 u0_5 u0_6 u0_7 u0_11 u1_1 u1_2 u1_3 u1_4 u3_2 u3_3 u3_4 u3_5 x0_length x0_at_1 x0_numberStart_1 x0_number_1 x0_cell x0_error_1 x0_errorAt_1 y2_text x3_rows x3_columns)) rfl rfl rfl rfl rfl rfl (by decide) (c_X5_takeNumber l g a0 a2 _ (.ref a1) u0_1 u0_5 u0_6 u0_7 (.int x0_cell) u0_11 x0_length x0_at x0_numberStart x0_number x0_error x0_errorAt y2_text 0 (x3_rows - 1) r14 x0_at_1 x0_numberStart_1 x0_number_1 x0_error_1 x0_errorAt_1 hc) gX5_takeCell_X5_takeNumber rfl hv_X5_takeNumber ⟨nle rfl, nle rfl⟩ 5 0 rfl rfl rfl (rest := []) rfl rfl hl.1 (nle rfl) dX5_takeCell_14 (fun H locs hP hD hS => ?_)
  refine kb_ne (pc := 17) hexec hb dX5_takeCell_17 (tgt := 22) rfl hf (fun hc hf => ?_) (fun hc hf => ?_)
  · refine lv_aload_n (pc := 22) hexec hb dX5_takeCell_22 rfl (lv_at hl 0 rfl) ?_
    refine kg_get (pc := 23) hexec hb (own := RX5) hWX5 hown hG hP 0 rfl rfl 9 (nle rfl) (hts _ (List.mem_cons_of_mem _ (List.mem_append_left _ (List.mem_append_left _ (List.mem_append_left _ (List.mem_append_left _ (List.mem_of_getElem? (i := 1) rfl))))))) rfl rfl dX5_takeCell_23 ?_
    refine lv_istore_n (pc := 26) hexec hb dX5_takeCell_26 rfl hl (nle rfl) rfl (fun ls (hl : lv_has ls 2 [(1, .int x0_number_1), (0, .ref a0)]) => ?_)
    refine lv_aload_n (pc := 27) hexec hb dX5_takeCell_27 rfl (lv_at hl 1 rfl) ?_
    refine lv_iconst (pc := 28) hexec hb dX5_takeCell_28 ki_0 ?_
    refine lv_aload_n (pc := 29) hexec hb dX5_takeCell_29 rfl (lv_at hl 1 rfl) ?_
    refine kg_get (pc := 30) hexec hb (own := RX5) hWX5 hown hG hP 0 rfl rfl 0 (nle rfl) (hts _ (List.mem_cons_of_mem _ (List.mem_append_left _ (List.mem_append_left _ (List.mem_append_left _ (List.mem_append_left _ (List.mem_of_getElem? (i := 0) rfl))))))) rfl rfl dX5_takeCell_30 ?_
    refine kg_getN (pc := 33) hexec hb (own := RX5) hWX6 hown hG hP 1 rfl rfl 0 (nle rfl) 23 rfl rfl rfl dX5_takeCell_33 ?_
    refine kg_getN (pc := 36) hexec hb (own := RX5) hWX1 hown hG hP 3 rfl rfl 1 (nle rfl) 3 rfl rfl rfl dX5_takeCell_36 ?_
    refine lv_iconst (pc := 39) hexec hb dX5_takeCell_39 ki_1 ?_
    refine lv_isub (pc := 40) hexec hb dX5_takeCell_40 ?_
    obtain ⟨r41, x0_at_2, x0_numberStart_2, x0_number_2, x0_error_2, x0_errorAt_2, hc, hf⟩ := bd6_e hf
    refine kVp (pc := 41) (S := ⟨hexec, hb, hml, hown, hts⟩) hP hD hG hA hS [0, 2] [1, 3] [2, 0, 3, 1] (w2 := (w_X5_takeCell g a0 a1 a2 a3 u0_1 u0_5 u0_6 u0_7 u0_11 u1_1 u1_2 u1_3 u1_4 u3_2 u3_3 u3_4 u3_5 x0_length x0_at_2 x0_numberStart_2 x0_number_2 x0_cell x0_error_2 x0_errorAt_2 y2_text x3_rows x3_columns)) rfl rfl rfl rfl rfl rfl (by decide) (c_X5_takeNumber l g a0 a2 _ (.ref a1) u0_1 u0_5 u0_6 u0_7 (.int x0_cell) u0_11 x0_length x0_at_1 x0_numberStart_1 x0_number_1 x0_error_1 x0_errorAt_1 y2_text 0 (x3_columns - 1) r41 x0_at_2 x0_numberStart_2 x0_number_2 x0_error_2 x0_errorAt_2 hc) gX5_takeCell_X5_takeNumber rfl hv_X5_takeNumber ⟨nle rfl, nle rfl⟩ 5 0 rfl rfl rfl (rest := []) rfl rfl hl.1 (nle rfl) dX5_takeCell_41 (fun H locs hP hD hS => ?_)
    refine kb_ne (pc := 44) hexec hb dX5_takeCell_44 (tgt := 49) rfl hf (fun hc hf => ?_) (fun hc hf => ?_)
    · refine lv_aload_n (pc := 49) hexec hb dX5_takeCell_49 rfl (lv_at hl 1 rfl) ?_
      refine lv_iload_n (pc := 50) hexec hb dX5_takeCell_50 rfl (lv_at hl 0 rfl) ?_
      refine lv_aload_n (pc := 51) hexec hb dX5_takeCell_51 rfl (lv_at hl 1 rfl) ?_
      refine kg_get (pc := 52) hexec hb (own := RX5) hWX5 hown hG hP 0 rfl rfl 0 (nle rfl) (hts _ (List.mem_cons_of_mem _ (List.mem_append_left _ (List.mem_append_left _ (List.mem_append_left _ (List.mem_append_left _ (List.mem_of_getElem? (i := 0) rfl))))))) rfl rfl dX5_takeCell_52 ?_
      refine kg_getN (pc := 55) hexec hb (own := RX5) hWX6 hown hG hP 1 rfl rfl 0 (nle rfl) 23 rfl rfl rfl dX5_takeCell_55 ?_
      refine kg_getN (pc := 58) hexec hb (own := RX5) hWX1 hown hG hP 3 rfl rfl 1 (nle rfl) 3 rfl rfl rfl dX5_takeCell_58 ?_
      refine lv_imul (pc := 61) hexec hb dX5_takeCell_61 ?_
      refine lv_aload_n (pc := 62) hexec hb dX5_takeCell_62 rfl (lv_at hl 1 rfl) ?_
      refine kg_get (pc := 63) hexec hb (own := RX5) hWX5 hown hG hP 0 rfl rfl 9 (nle rfl) (hts _ (List.mem_cons_of_mem _ (List.mem_append_left _ (List.mem_append_left _ (List.mem_append_left _ (List.mem_append_left _ (List.mem_of_getElem? (i := 1) rfl))))))) rfl rfl dX5_takeCell_63 ?_
      refine lv_iadd (pc := 66) hexec hb dX5_takeCell_66 ?_
      obtain ⟨x0_cell_1, ex0_cell_1, hf⟩ := bv_e hf
      refine kn_i ex0_cell_1 ?_
      refine kp_put (pc := 67) hexec hb (own := RX5) hWX5 tyX5 tyX5_ok nmX5 hown hG hP hD hS 0 rfl rfl 10 (nle rfl) (hts _ (List.mem_cons_of_mem _ (List.mem_append_left _ (List.mem_append_left _ (List.mem_append_left _ (List.mem_append_left _ (List.mem_of_getElem? (i := 2) rfl))))))) rfl rfl rfl rfl (nle rfl) dX5_takeCell_67 (fun H locs (hP : va_P g.1 vwCl (w_X5_takeCell g a0 a1 a2 a3 u0_1 u0_5 u0_6 u0_7 u0_11 u1_1 u1_2 u1_3 u1_4 u3_2 u3_3 u3_4 u3_5 x0_length x0_at_2 x0_numberStart_2 x0_number_2 x0_cell_1 x0_error_2 x0_errorAt_2 y2_text x3_rows x3_columns) H) (hD : va_D A (w_X5_takeCell g a0 a1 a2 a3 u0_1 u0_5 u0_6 u0_7 u0_11 u1_1 u1_2 u1_3 u1_4 u3_2 u3_3 u3_4 u3_5 x0_length x0_at_2 x0_numberStart_2 x0_number_2 x0_cell_1 x0_error_2 x0_errorAt_2 y2_text x3_rows x3_columns)) hS => ?_)
      refine lv_iconst (pc := 70) hexec hb dX5_takeCell_70 ki_1 ?_
      cases hf
      exact ke_z hQ hexec hb hr (.inr rfl) hP hD hS dX5_takeCell_71 hlocks
    · refine lv_iconst (pc := 47) hexec hb dX5_takeCell_47 ki_0 ?_
      cases hf
      exact ke_z hQ hexec hb hr (.inl rfl) hP hD hS dX5_takeCell_48 hlocks
  · refine lv_iconst (pc := 20) hexec hb dX5_takeCell_20 ki_0 ?_
    cases hf
    exact ke_z hQ hexec hb hr (.inl rfl) hP hD hS dX5_takeCell_21 hlocks
abbrev w_X5_readLand (g : GE) (a0 a1 a2 a3 a4 a5 : Nat) (u0_1 u0_5 u0_7 u0_11 u1_2 u1_3 u1_4 u3_4 u3_5 u4_1 u4_2 u4_3 u4_4 u4_5 : Value) (x0_length : Int32) (x0_at : Int32) (x0_wordStart : Int32) (x0_numberStart : Int32) (x0_number : Int32) (x0_cell : Int32) (x0_error : Int32) (x0_errorAt : Int32) (y2_text : Nat → Int32) (x3_rows : Int32) (x3_columns : Int32) (x3_rivers : Int32) (x4_count : Int32) (y5_land : Nat → Int32) : va_W := [(a0, .inr (5, [.ref a1, u0_1, .ref a2, .int x0_length, .int x0_at, u0_5, .int x0_wordStart, u0_7, .int x0_numberStart, .int x0_number, .int x0_cell, u0_11, .int x0_error, .int x0_errorAt])), (a1, .inr (6, [.ref a3, .ref a4, u1_2, u1_3, u1_4])), (a2, .inl (g.2.1 0, 500, .inl y2_text)), (a3, .inr (1, [.int x3_rows, .int x3_columns, .int x3_rivers, .ref a5, u3_4, u3_5])), (a4, .inr (2, [.int x4_count, u4_1, u4_2, u4_3, u4_4, u4_5])), (a5, .inl (g.2.1 1, 144, .inl y5_land))]
noncomputable def f_X5_readLand (x0_length : Int32) (x0_at : Int32) (x0_wordStart : Int32) (x0_numberStart : Int32) (x0_number : Int32) (x0_cell : Int32) (x0_error : Int32) (x0_errorAt : Int32) (y2_text : Nat → Int32) (x3_rows : Int32) (x3_columns : Int32) (x3_rivers : Int32) (x4_count : Int32) (y5_land : Nat → Int32)  : Option (Int32 × Int32 × Int32 × Int32 × Int32 × Int32 × Int32 × (Nat → Int32)) :=
  bv (fun (_ : Unit) => ((
    bd3 (f_X5_fail x0_error x0_errorAt 3 x0_wordStart) fun (r32 : Int32) (x0_error_1 : Int32) (x0_errorAt_1 : Int32) =>
    zb r32 (some (r32, x0_at, x0_numberStart, x0_number, x0_cell, x0_error_1, x0_errorAt_1, y5_land))
    ) : Option (Int32 × Int32 × Int32 × Int32 × Int32 × Int32 × Int32 × (Nat → Int32)))) fun j26 =>
  (if 0 < x4_count then (
    j26 ()
  ) else (
    (if x3_rivers ≤ 0 then (
      bd7 (f_X5_takeCell x0_length x0_at x0_numberStart x0_number x0_cell x0_error x0_errorAt y2_text x3_rows x3_columns) fun (r37 : Int32) (x0_at_1 : Int32) (x0_numberStart_1 : Int32) (x0_number_1 : Int32) (x0_cell_1 : Int32) (x0_error_2 : Int32) (x0_errorAt_2 : Int32) =>
      (if r37 = 0 then (
        some (0, x0_at_1, x0_numberStart_1, x0_number_1, x0_cell_1, x0_error_2, x0_errorAt_2, y5_land)
      ) else (
        bd6 (f_X5_takeNumber x0_length x0_at_1 x0_numberStart_1 x0_number_1 x0_error_2 x0_errorAt_2 y2_text x0_number_1 (x3_columns - 1)) fun (r67 : Int32) (x0_at_2 : Int32) (x0_numberStart_2 : Int32) (x0_number_2 : Int32) (x0_error_3 : Int32) (x0_errorAt_3 : Int32) =>
        (if r67 = 0 then (
          some (0, x0_at_2, x0_numberStart_2, x0_number_2, x0_cell_1, x0_error_3, x0_errorAt_3, y5_land)
        ) else (
          dv (if 1 < x3_columns then x3_columns else 1) <|
          bv ((x0_cell_1 - (x0_cell_1 - x0_cell_1 / (if 1 < x3_columns then x3_columns else 1) * (if 1 < x3_columns then x3_columns else 1))) + x0_number_2) fun v2 =>
          bv (fun (v3 : Int32) (y5_land_1 : Nat → Int32) => ((
            (if v2 < v3 then (
              some (.inr y5_land_1)
            ) else (
              bd1 (f_X1_setLand y5_land_1 v3 1) fun (y5_land_3 : Nat → Int32) =>
              bv (v3 + 1) fun v3_1 =>
              some (.inl (v3_1, y5_land_3))
            ))
            ) : Option ((Int32 × (Nat → Int32)) ⊕ ((Nat → Int32))))) fun l101 =>
          bd1 (lq2 l101 x0_cell_1 y5_land) fun (y5_land_2 : Nat → Int32) =>
          some (1, x0_at_2, x0_numberStart_2, x0_number_2, x0_cell_1, x0_error_3, x0_errorAt_3, y5_land_2)
        ))
      ))
    ) else (
      j26 ()
    ))
  ))
set_option maxRecDepth 4000 in
theorem c_X5_readLand (l : Launch) (g : GE) (a0 a1 a2 a3 a4 a5 : Nat) (sz : Nat) (u0_1 u0_5 u0_7 u0_11 u1_2 u1_3 u1_4 u3_4 u3_5 u4_1 u4_2 u4_3 u4_4 u4_5 : Value) (x0_length : Int32) (x0_at : Int32) (x0_wordStart : Int32) (x0_numberStart : Int32) (x0_number : Int32) (x0_cell : Int32) (x0_error : Int32) (x0_errorAt : Int32) (y2_text : Nat → Int32) (x3_rows : Int32) (x3_columns : Int32) (x3_rivers : Int32) (x4_count : Int32) (y5_land : Nat → Int32)   (r : Int32) (o_x0_at : Int32) (o_x0_numberStart : Int32) (o_x0_number : Int32) (o_x0_cell : Int32) (o_x0_error : Int32) (o_x0_errorAt : Int32) (o_y5_land : Nat → Int32) (hf : f_X5_readLand x0_length x0_at x0_wordStart x0_numberStart x0_number x0_cell x0_error x0_errorAt y2_text x3_rows x3_columns x3_rivers x4_count y5_land = some (r, o_x0_at, o_x0_numberStart, o_x0_number, o_x0_cell, o_x0_error, o_x0_errorAt, o_y5_land)) : MI l g yX5_readLand wsX5_readLand 5 110 [.ref a0] (w_X5_readLand g a0 a1 a2 a3 a4 a5 u0_1 u0_5 u0_7 u0_11 u1_2 u1_3 u1_4 u3_4 u3_5 u4_1 u4_2 u4_3 u4_4 u4_5 x0_length x0_at x0_wordStart x0_numberStart x0_number x0_cell x0_error x0_errorAt y2_text x3_rows x3_columns x3_rivers x4_count y5_land) sz (some (.int r)) (w_X5_readLand g a0 a1 a2 a3 a4 a5 u0_1 u0_5 u0_7 u0_11 u1_2 u1_3 u1_4 u3_4 u3_5 u4_1 u4_2 u4_3 u4_4 u4_5 x0_length o_x0_at x0_wordStart o_x0_numberStart o_x0_number o_x0_cell o_x0_error o_x0_errorAt y2_text x3_rows x3_columns x3_rivers x4_count o_y5_land) := by
  refine MI.start (cc := cX5_readLand) (maxL := 4) (ret := (some .boolean)) rfl rfl (nle rfl) ?_
  intro p e s m args below meth c A ls Q hQ hexec hb hr hts hown hlocks hml hA hP hD hG hS hl
  unfold f_X5_readLand at hf
  have hWX1 : ∀ w ∈ wsX10, w.before args s = true := fun w h => hts w (List.mem_cons_of_mem _ (List.mem_append_right _ h))
  have hWX2 : ∀ w ∈ wsX20, w.before args s = true := fun w h => hts w (List.mem_cons_of_mem _ (List.mem_append_left _ (List.mem_append_right _ h)))
  have hWX5 : ∀ w ∈ wsX50, w.before args s = true := fun w h => hts w (List.mem_cons_of_mem _ (List.mem_append_left _ (List.mem_append_left _ (List.mem_append_left _ (List.mem_append_right _ h)))))
  have hWX6 : ∀ w ∈ wsX60, w.before args s = true := fun w h => hts w (List.mem_cons_of_mem _ (List.mem_append_left _ (List.mem_append_left _ (List.mem_append_right _ h))))
  have hS : va_S A s.heap s.heap [] := hS
  refine lv_aload_n (pc := 0) hexec hb dX5_readLand_0 rfl (lv_at hl 0 rfl) ?_
  refine kg_get (pc := 1) hexec hb (own := RX5) hWX5 hown hG hP 0 rfl rfl 0 (nle rfl) (hts _ (List.mem_cons_of_mem _ (List.mem_append_left _ (List.mem_append_left _ (List.mem_append_left _ (List.mem_append_left _ (List.mem_append_left _ (List.mem_of_getElem? (i := 0) rfl)))))))) rfl rfl dX5_readLand_1 ?_
  refine kg_getN (pc := 4) hexec hb (own := RX5) hWX6 hown hG hP 1 rfl rfl 1 (nle rfl) 26 rfl rfl rfl dX5_readLand_4 ?_
  refine kg_getN (pc := 7) hexec hb (own := RX5) hWX2 hown hG hP 4 rfl rfl 0 (nle rfl) 9 rfl rfl rfl dX5_readLand_7 ?_
  obtain ⟨j26, ej26, hf⟩ := bvf1 hf
  have hj26 : ∀ (u : Unit) (H : Heap) (locs : List Loc) (ls : Array Slot), j26 u = some (r, o_x0_at, o_x0_numberStart, o_x0_number, o_x0_cell, o_x0_error, o_x0_errorAt, o_y5_land) → va_P g.1 vwCl (w_X5_readLand g a0 a1 a2 a3 a4 a5 u0_1 u0_5 u0_7 u0_11 u1_2 u1_3 u1_4 u3_4 u3_5 u4_1 u4_2 u4_3 u4_4 u4_5 x0_length x0_at x0_wordStart x0_numberStart x0_number x0_cell x0_error x0_errorAt y2_text x3_rows x3_columns x3_rivers x4_count y5_land) H → va_D A (w_X5_readLand g a0 a1 a2 a3 a4 a5 u0_1 u0_5 u0_7 u0_11 u1_2 u1_3 u1_4 u3_4 u3_5 u4_1 u4_2 u4_3 u4_4 u4_5 x0_length x0_at x0_wordStart x0_numberStart x0_number x0_cell x0_error x0_errorAt y2_text x3_rows x3_columns x3_rivers x4_count y5_land) → va_S A s.heap H locs → lv_has ls 4 [(0, .ref a0)] → W p l e (RM 5 110) s m args below meth c H locs 0 0 Q (F0 m 26 ls []) := by
    intro u H locs ls hf hP hD hS hl
    have hf := (ej26 u).symm.trans hf
    refine lv_aload_n (pc := 26) hexec hb dX5_readLand_26 rfl (lv_at hl 0 rfl) ?_
    refine lv_iconst (pc := 27) hexec hb dX5_readLand_27 ki_3 ?_
    refine lv_aload_n (pc := 28) hexec hb dX5_readLand_28 rfl (lv_at hl 0 rfl) ?_
    refine kg_get (pc := 29) hexec hb (own := RX5) hWX5 hown hG hP 0 rfl rfl 6 (nle rfl) (hts _ (List.mem_cons_of_mem _ (List.mem_append_left _ (List.mem_append_left _ (List.mem_append_left _ (List.mem_append_left _ (List.mem_append_left _ (List.mem_of_getElem? (i := 1) rfl)))))))) rfl rfl dX5_readLand_29 ?_
    obtain ⟨r32, x0_error_1, x0_errorAt_1, hc, hf⟩ := bd3_e hf
    refine kVp (pc := 32) (S := ⟨hexec, hb, hml, hown, hts⟩) hP hD hG hA hS [0] [1, 2, 3, 4, 5] [5, 0, 1, 2, 3, 4] (w2 := (w_X5_readLand g a0 a1 a2 a3 a4 a5 u0_1 u0_5 u0_7 u0_11 u1_2 u1_3 u1_4 u3_4 u3_5 u4_1 u4_2 u4_3 u4_4 u4_5 x0_length x0_at x0_wordStart x0_numberStart x0_number x0_cell x0_error_1 x0_errorAt_1 y2_text x3_rows x3_columns x3_rivers x4_count y5_land)) rfl rfl rfl rfl rfl rfl (by decide) (c_X5_fail l g a0 _ (.ref a1) u0_1 (.ref a2) (.int x0_length) (.int x0_at) u0_5 (.int x0_wordStart) u0_7 (.int x0_numberStart) (.int x0_number) (.int x0_cell) u0_11 x0_error x0_errorAt 3 x0_wordStart r32 x0_error_1 x0_errorAt_1 hc) gX5_readLand_X5_fail rfl hv_X5_fail ⟨nle rfl, nle rfl⟩ 5 0 rfl rfl rfl (rest := []) rfl rfl hl.1 (nle rfl) dX5_readLand_32 (fun H locs hP hD hS => ?_)
    obtain ⟨hx, hf⟩ := zb_e hf
    cases hf
    exact ke_z hQ hexec hb hr hx hP hD hS dX5_readLand_35 hlocks
  refine kb_gt (pc := 10) hexec hb dX5_readLand_10 (tgt := 26) rfl hf (fun hc hf => ?_) (fun hc hf => ?_)
  · exact hj26 _ _ _ _ hf hP hD hS (lv_sub hl [0] rfl)
  · refine lv_aload_n (pc := 13) hexec hb dX5_readLand_13 rfl (lv_at hl 0 rfl) ?_
    refine kg_get (pc := 14) hexec hb (own := RX5) hWX5 hown hG hP 0 rfl rfl 0 (nle rfl) (hts _ (List.mem_cons_of_mem _ (List.mem_append_left _ (List.mem_append_left _ (List.mem_append_left _ (List.mem_append_left _ (List.mem_append_left _ (List.mem_of_getElem? (i := 0) rfl)))))))) rfl rfl dX5_readLand_14 ?_
    refine kg_getN (pc := 17) hexec hb (own := RX5) hWX6 hown hG hP 1 rfl rfl 0 (nle rfl) 23 rfl rfl rfl dX5_readLand_17 ?_
    refine kg_getN (pc := 20) hexec hb (own := RX5) hWX1 hown hG hP 3 rfl rfl 2 (nle rfl) 5 rfl rfl rfl dX5_readLand_20 ?_
    refine kb_le (pc := 23) hexec hb dX5_readLand_23 (tgt := 36) rfl hf (fun hc hf => ?_) (fun hc hf => ?_)
    · refine lv_aload_n (pc := 36) hexec hb dX5_readLand_36 rfl (lv_at hl 0 rfl) ?_
      obtain ⟨r37, x0_at_1, x0_numberStart_1, x0_number_1, x0_cell_1, x0_error_2, x0_errorAt_2, hc, hf⟩ := bd7_e hf
      refine kVp (pc := 37) (S := ⟨hexec, hb, hml, hown, hts⟩) hP hD hG hA hS [0, 1, 2, 3] [4, 5] [2, 3, 4, 5, 0, 1] (w2 := (w_X5_readLand g a0 a1 a2 a3 a4 a5 u0_1 u0_5 u0_7 u0_11 u1_2 u1_3 u1_4 u3_4 u3_5 u4_1 u4_2 u4_3 u4_4 u4_5 x0_length x0_at_1 x0_wordStart x0_numberStart_1 x0_number_1 x0_cell_1 x0_error_2 x0_errorAt_2 y2_text x3_rows x3_columns x3_rivers x4_count y5_land)) rfl rfl rfl rfl rfl rfl (by decide) (c_X5_takeCell l g a0 a1 a2 a3 _ u0_1 u0_5 (.int x0_wordStart) u0_7 u0_11 (.ref a4) u1_2 u1_3 u1_4 (.int x3_rivers) (.ref a5) u3_4 u3_5 x0_length x0_at x0_numberStart x0_number x0_cell x0_error x0_errorAt y2_text x3_rows x3_columns r37 x0_at_1 x0_numberStart_1 x0_number_1 x0_cell_1 x0_error_2 x0_errorAt_2 hc) gX5_readLand_X5_takeCell rfl hv_X5_takeCell ⟨nle rfl, nle rfl⟩ 5 0 rfl rfl rfl (rest := []) rfl rfl hl.1 (nle rfl) dX5_readLand_37 (fun H locs hP hD hS => ?_)
      refine kb_ne (pc := 40) hexec hb dX5_readLand_40 (tgt := 45) rfl hf (fun hc hf => ?_) (fun hc hf => ?_)
      · refine lv_aload_n (pc := 45) hexec hb dX5_readLand_45 rfl (lv_at hl 0 rfl) ?_
        refine kg_get (pc := 46) hexec hb (own := RX5) hWX5 hown hG hP 0 rfl rfl 10 (nle rfl) (hts _ (List.mem_cons_of_mem _ (List.mem_append_left _ (List.mem_append_left _ (List.mem_append_left _ (List.mem_append_left _ (List.mem_append_left _ (List.mem_of_getElem? (i := 2) rfl)))))))) rfl rfl dX5_readLand_46 ?_
        refine lv_istore_n (pc := 49) hexec hb dX5_readLand_49 rfl hl (nle rfl) rfl (fun ls (hl : lv_has ls 4 [(1, .int x0_cell_1), (0, .ref a0)]) => ?_)
        refine lv_aload_n (pc := 50) hexec hb dX5_readLand_50 rfl (lv_at hl 1 rfl) ?_
        refine lv_aload_n (pc := 51) hexec hb dX5_readLand_51 rfl (lv_at hl 1 rfl) ?_
        refine kg_get (pc := 52) hexec hb (own := RX5) hWX5 hown hG hP 0 rfl rfl 9 (nle rfl) (hts _ (List.mem_cons_of_mem _ (List.mem_append_left _ (List.mem_append_left _ (List.mem_append_left _ (List.mem_append_left _ (List.mem_append_left _ (List.mem_of_getElem? (i := 3) rfl)))))))) rfl rfl dX5_readLand_52 ?_
        refine lv_aload_n (pc := 55) hexec hb dX5_readLand_55 rfl (lv_at hl 1 rfl) ?_
        refine kg_get (pc := 56) hexec hb (own := RX5) hWX5 hown hG hP 0 rfl rfl 0 (nle rfl) (hts _ (List.mem_cons_of_mem _ (List.mem_append_left _ (List.mem_append_left _ (List.mem_append_left _ (List.mem_append_left _ (List.mem_append_left _ (List.mem_of_getElem? (i := 0) rfl)))))))) rfl rfl dX5_readLand_56 ?_
        refine kg_getN (pc := 59) hexec hb (own := RX5) hWX6 hown hG hP 1 rfl rfl 0 (nle rfl) 23 rfl rfl rfl dX5_readLand_59 ?_
        refine kg_getN (pc := 62) hexec hb (own := RX5) hWX1 hown hG hP 3 rfl rfl 1 (nle rfl) 3 rfl rfl rfl dX5_readLand_62 ?_
        refine lv_iconst (pc := 65) hexec hb dX5_readLand_65 ki_1 ?_
        refine lv_isub (pc := 66) hexec hb dX5_readLand_66 ?_
        obtain ⟨r67, x0_at_2, x0_numberStart_2, x0_number_2, x0_error_3, x0_errorAt_3, hc, hf⟩ := bd6_e hf
        refine kVp (pc := 67) (S := ⟨hexec, hb, hml, hown, hts⟩) hP hD hG hA hS [0, 2] [1, 3, 4, 5] [4, 0, 5, 1, 2, 3] (w2 := (w_X5_readLand g a0 a1 a2 a3 a4 a5 u0_1 u0_5 u0_7 u0_11 u1_2 u1_3 u1_4 u3_4 u3_5 u4_1 u4_2 u4_3 u4_4 u4_5 x0_length x0_at_2 x0_wordStart x0_numberStart_2 x0_number_2 x0_cell_1 x0_error_3 x0_errorAt_3 y2_text x3_rows x3_columns x3_rivers x4_count y5_land)) rfl rfl rfl rfl rfl rfl (by decide) (c_X5_takeNumber l g a0 a2 _ (.ref a1) u0_1 u0_5 (.int x0_wordStart) u0_7 (.int x0_cell_1) u0_11 x0_length x0_at_1 x0_numberStart_1 x0_number_1 x0_error_2 x0_errorAt_2 y2_text x0_number_1 (x3_columns - 1) r67 x0_at_2 x0_numberStart_2 x0_number_2 x0_error_3 x0_errorAt_3 hc) gX5_readLand_X5_takeNumber rfl hv_X5_takeNumber ⟨nle rfl, nle rfl⟩ 5 0 rfl rfl rfl (rest := []) rfl rfl hl.1 (nle rfl) dX5_readLand_67 (fun H locs hP hD hS => ?_)
        refine kb_ne (pc := 70) hexec hb dX5_readLand_70 (tgt := 75) rfl hf (fun hc hf => ?_) (fun hc hf => ?_)
        · refine lv_iload_n (pc := 75) hexec hb dX5_readLand_75 rfl (lv_at hl 0 rfl) ?_
          refine lv_iload_n (pc := 76) hexec hb dX5_readLand_76 rfl (lv_at hl 0 rfl) ?_
          refine lv_iconst (pc := 77) hexec hb dX5_readLand_77 ki_1 ?_
          refine lv_aload_n (pc := 78) hexec hb dX5_readLand_78 rfl (lv_at hl 1 rfl) ?_
          refine kg_get (pc := 79) hexec hb (own := RX5) hWX5 hown hG hP 0 rfl rfl 0 (nle rfl) (hts _ (List.mem_cons_of_mem _ (List.mem_append_left _ (List.mem_append_left _ (List.mem_append_left _ (List.mem_append_left _ (List.mem_append_left _ (List.mem_of_getElem? (i := 0) rfl)))))))) rfl rfl dX5_readLand_79 ?_
          refine kg_getN (pc := 82) hexec hb (own := RX5) hWX6 hown hG hP 1 rfl rfl 0 (nle rfl) 23 rfl rfl rfl dX5_readLand_82 ?_
          refine kg_getN (pc := 85) hexec hb (own := RX5) hWX1 hown hG hP 3 rfl rfl 1 (nle rfl) 3 rfl rfl rfl dX5_readLand_85 ?_
          refine va_mmax (pc := 88) hexec hb (hml.trans hl.1.symm) (own := RX5) hown (hts _ (List.mem_cons_of_mem _ (List.mem_append_left _ (List.mem_append_left _ (List.mem_append_left _ (List.mem_append_left _ (List.mem_append_left _ (List.mem_of_getElem? (i := 4) rfl)))))))) (hts _ (List.mem_cons_of_mem _ (List.mem_append_left _ (List.mem_append_left _ (List.mem_append_left _ (List.mem_append_left _ (List.mem_append_left _ (List.mem_of_getElem? (i := 5) rfl)))))))) (hts _ (List.mem_cons_of_mem _ (List.mem_append_left _ (List.mem_append_left _ (List.mem_append_left _ (List.mem_append_left _ (List.mem_append_left _ (List.mem_of_getElem? (i := 6) rfl)))))))) (hts _ (List.mem_cons_of_mem _ (List.mem_append_left _ (List.mem_append_left _ (List.mem_append_left _ (List.mem_append_left _ (List.mem_append_left _ (List.mem_of_getElem? (i := 7) rfl)))))))) (nle rfl) (nle rfl) (nle rfl) (nle rfl) dX5_readLand_88 ?_
          refine kd_irem (pc := 91) hexec hb dX5_readLand_91 hf (fun hf => ?_)
          refine lv_isub (pc := 92) hexec hb dX5_readLand_92 ?_
          refine lv_aload_n (pc := 93) hexec hb dX5_readLand_93 rfl (lv_at hl 1 rfl) ?_
          refine kg_get (pc := 94) hexec hb (own := RX5) hWX5 hown hG hP 0 rfl rfl 9 (nle rfl) (hts _ (List.mem_cons_of_mem _ (List.mem_append_left _ (List.mem_append_left _ (List.mem_append_left _ (List.mem_append_left _ (List.mem_append_left _ (List.mem_of_getElem? (i := 3) rfl)))))))) rfl rfl dX5_readLand_94 ?_
          refine lv_iadd (pc := 97) hexec hb dX5_readLand_97 ?_
          obtain ⟨v2, ev2, hf⟩ := bv_e hf
          refine kn_i ev2 ?_
          refine lv_istore_n (pc := 98) hexec hb dX5_readLand_98 rfl hl (nle rfl) rfl (fun ls (hl : lv_has ls 4 [(2, .int v2), (1, .int x0_cell_1), (0, .ref a0)]) => ?_)
          refine lv_iload_n (pc := 99) hexec hb dX5_readLand_99 rfl (lv_at hl 1 rfl) ?_
          refine lv_istore_n (pc := 100) hexec hb dX5_readLand_100 rfl hl (nle rfl) rfl (fun ls (hl : lv_has ls 4 [(3, .int x0_cell_1), (2, .int v2), (1, .int x0_cell_1), (0, .ref a0)]) => ?_)
          obtain ⟨l101, el101, hf⟩ := bvf2 hf
          obtain ⟨y5_land_2, hz, hf⟩ := bd1_e hf
          have hE101 : ∀ (H : Heap) (locs : List Loc) (ls : Array Slot), va_P g.1 vwCl (w_X5_readLand g a0 a1 a2 a3 a4 a5 u0_1 u0_5 u0_7 u0_11 u1_2 u1_3 u1_4 u3_4 u3_5 u4_1 u4_2 u4_3 u4_4 u4_5 x0_length x0_at_2 x0_wordStart x0_numberStart_2 x0_number_2 x0_cell_1 x0_error_3 x0_errorAt_3 y2_text x3_rows x3_columns x3_rivers x4_count y5_land_2) H → va_D A (w_X5_readLand g a0 a1 a2 a3 a4 a5 u0_1 u0_5 u0_7 u0_11 u1_2 u1_3 u1_4 u3_4 u3_5 u4_1 u4_2 u4_3 u4_4 u4_5 x0_length x0_at_2 x0_wordStart x0_numberStart_2 x0_number_2 x0_cell_1 x0_error_3 x0_errorAt_3 y2_text x3_rows x3_columns x3_rivers x4_count y5_land_2) → va_S A s.heap H locs → lv_has ls 4 [] → W p l e (RM 5 110) s m args below meth c H locs 0 0 Q (F0 m 124 ls []) := by
            intro H locs ls hP hD hS hl
            refine lv_iconst (pc := 124) hexec hb dX5_readLand_124 ki_1 ?_
            cases hf
            exact ke_z hQ hexec hb hr (.inr rfl) hP hD hS dX5_readLand_125 hlocks
          obtain ⟨n, hz⟩ := lq2_e hz
          have hL101 : ∀ (n : Nat) (v3 : Int32) (y5_land_1 : Nat → Int32) (H : Heap) (locs : List Loc) (ls : Array Slot), it2 l101 n v3 y5_land_1 = some y5_land_2 → va_P g.1 vwCl (w_X5_readLand g a0 a1 a2 a3 a4 a5 u0_1 u0_5 u0_7 u0_11 u1_2 u1_3 u1_4 u3_4 u3_5 u4_1 u4_2 u4_3 u4_4 u4_5 x0_length x0_at_2 x0_wordStart x0_numberStart_2 x0_number_2 x0_cell_1 x0_error_3 x0_errorAt_3 y2_text x3_rows x3_columns x3_rivers x4_count y5_land_1) H → va_D A (w_X5_readLand g a0 a1 a2 a3 a4 a5 u0_1 u0_5 u0_7 u0_11 u1_2 u1_3 u1_4 u3_4 u3_5 u4_1 u4_2 u4_3 u4_4 u4_5 x0_length x0_at_2 x0_wordStart x0_numberStart_2 x0_number_2 x0_cell_1 x0_error_3 x0_errorAt_3 y2_text x3_rows x3_columns x3_rivers x4_count y5_land_1) → va_S A s.heap H locs → lv_has ls 4 [(0, .ref a0), (2, .int v2), (3, .int v3)] → W p l e (RM 5 110) s m args below meth c H locs 0 0 Q (F0 m 101 ls []) := by
            intro n
            induction n with
            | zero =>
              intro v3 y5_land_1 H locs ls hf hP hD hS hl
              exact it2_0 hf
            | succ n101 ih101 =>
              intro v3 y5_land_1 H locs ls hf hP hD hS hl
              obtain ⟨q101, hf, hk101⟩ := it2_e hf
              have hf := (el101 v3 y5_land_1).symm.trans hf
              refine lv_iload_n (pc := 101) hexec hb dX5_readLand_101 rfl (lv_at hl 2 rfl) ?_
              refine lv_iload_n (pc := 102) hexec hb dX5_readLand_102 rfl (lv_at hl 1 rfl) ?_
              refine ki_gt (pc := 103) hexec hb dX5_readLand_103 (tgt := 124) rfl hf (fun hc hf => ?_) (fun hc hf => ?_)
              · cases sr2 hf hk101
                exact hE101 _ _ _ hP hD hS (lv_sub hl [] rfl)
              · refine lv_aload_n (pc := 106) hexec hb dX5_readLand_106 rfl (lv_at hl 0 rfl) ?_
                refine kg_get (pc := 107) hexec hb (own := RX5) hWX5 hown hG hP 0 rfl rfl 0 (nle rfl) (hts _ (List.mem_cons_of_mem _ (List.mem_append_left _ (List.mem_append_left _ (List.mem_append_left _ (List.mem_append_left _ (List.mem_append_left _ (List.mem_of_getElem? (i := 0) rfl)))))))) rfl rfl dX5_readLand_107 ?_
                refine kg_getN (pc := 110) hexec hb (own := RX5) hWX6 hown hG hP 1 rfl rfl 0 (nle rfl) 23 rfl rfl rfl dX5_readLand_110 ?_
                refine lv_iload_n (pc := 113) hexec hb dX5_readLand_113 rfl (lv_at hl 2 rfl) ?_
                refine lv_iconst (pc := 114) hexec hb dX5_readLand_114 ki_1 ?_
                obtain ⟨y5_land_3, hc, hf⟩ := bd1_e hf
                refine kVp (pc := 115) (S := ⟨hexec, hb, hml, hown, hts⟩) hP hD hG hA hS [3, 5] [0, 1, 2, 4] [0, 1, 2, 4, 3, 5] (w2 := (w_X5_readLand g a0 a1 a2 a3 a4 a5 u0_1 u0_5 u0_7 u0_11 u1_2 u1_3 u1_4 u3_4 u3_5 u4_1 u4_2 u4_3 u4_4 u4_5 x0_length x0_at_2 x0_wordStart x0_numberStart_2 x0_number_2 x0_cell_1 x0_error_3 x0_errorAt_3 y2_text x3_rows x3_columns x3_rivers x4_count y5_land_3)) rfl rfl rfl rfl rfl rfl (by decide) (c_X1_setLand l g a3 a5 _ (.int x3_rows) (.int x3_columns) (.int x3_rivers) u3_4 u3_5 y5_land_1 v3 1 y5_land_3 hc) gX5_readLand_X1_setLand rfl hv_X1_setLand ⟨nle rfl, nle rfl⟩ 1 0 rfl rfl rfl (rest := []) rfl rfl hl.1 (nle rfl) dX5_readLand_115 (fun H locs hP hD hS => ?_)
                obtain ⟨v3_1, ev3_1, hf⟩ := bv_e hf
                refine k_iinc (pc := 118) hexec hb dX5_readLand_118 kq_1 hl (k := 2) rfl ev3_1 (nle rfl) rfl (fun ls (hl : lv_has ls 4 [(3, .int v3_1), (0, .ref a0), (2, .int v2)]) => ?_)
                refine lv_goto (pc := 121) hexec hb dX5_readLand_121 (tgt := 101) rfl ?_
                exact ih101 _ _ _ _ _ (sl2 hf hk101) hP hD hS (lv_sub hl [1, 2, 0] rfl)
          exact hL101 n _ _ _ _ _ hz hP hD hS (lv_sub hl [3, 1, 0] rfl)
        · refine lv_iconst (pc := 73) hexec hb dX5_readLand_73 ki_0 ?_
          cases hf
          exact ke_z hQ hexec hb hr (.inl rfl) hP hD hS dX5_readLand_74 hlocks
      · refine lv_iconst (pc := 43) hexec hb dX5_readLand_43 ki_0 ?_
        cases hf
        exact ke_z hQ hexec hb hr (.inl rfl) hP hD hS dX5_readLand_44 hlocks
    · exact hj26 _ _ _ _ hf hP hD hS (lv_sub hl [0] rfl)
abbrev w_X5_takeName (g : GE) (a0 a1 : Nat) (u0_0 u0_1 u0_5 u0_8 u0_9 u0_10 u0_11 : Value) (x0_length : Int32) (x0_at : Int32) (x0_wordStart : Int32) (x0_wordLength : Int32) (x0_error : Int32) (x0_errorAt : Int32) (y1_text : Nat → Int32) : va_W := [(a0, .inr (5, [u0_0, u0_1, .ref a1, .int x0_length, .int x0_at, u0_5, .int x0_wordStart, .int x0_wordLength, u0_8, u0_9, u0_10, u0_11, .int x0_error, .int x0_errorAt])), (a1, .inl (g.2.1 0, 500, .inl y1_text))]
noncomputable def f_X5_takeName (x0_length : Int32) (x0_at : Int32) (x0_wordStart : Int32) (x0_wordLength : Int32) (x0_error : Int32) (x0_errorAt : Int32) (y1_text : Nat → Int32)  : Option (Int32 × Int32 × Int32 × Int32 × Int32 × Int32) :=
  bd6 (f_X5_takeWord x0_length x0_at x0_wordStart x0_wordLength x0_error x0_errorAt y1_text) fun (r1 : Int32) (x0_at_1 : Int32) (x0_wordStart_1 : Int32) (x0_wordLength_1 : Int32) (x0_error_1 : Int32) (x0_errorAt_1 : Int32) =>
  bv (fun (x0_error_2 : Int32) (x0_errorAt_2 : Int32) => ((
    some (0, x0_at_1, x0_wordStart_1, x0_wordLength_1, x0_error_2, x0_errorAt_2)
    ) : Option (Int32 × Int32 × Int32 × Int32 × Int32 × Int32))) fun j32 =>
  (if r1 = 0 then (
    j32 x0_error_1 x0_errorAt_1
  ) else (
    bv (fun (x0_error_3 : Int32) (x0_errorAt_3 : Int32) => ((
      some (1, x0_at_1, x0_wordStart_1, x0_wordLength_1, x0_error_3, x0_errorAt_3)
      ) : Option (Int32 × Int32 × Int32 × Int32 × Int32 × Int32))) fun j28 =>
    (if x0_wordLength_1 ≤ 8 then (
      j28 x0_error_1 x0_errorAt_1
    ) else (
      bd3 (f_X5_fail x0_error_1 x0_errorAt_1 1 x0_wordStart_1) fun (r22 : Int32) (x0_error_4 : Int32) (x0_errorAt_4 : Int32) =>
      (if r22 = 0 then (
        j32 x0_error_4 x0_errorAt_4
      ) else (
        j28 x0_error_4 x0_errorAt_4
      ))
    ))
  ))
set_option maxRecDepth 4000 in
theorem c_X5_takeName (l : Launch) (g : GE) (a0 a1 : Nat) (sz : Nat) (u0_0 u0_1 u0_5 u0_8 u0_9 u0_10 u0_11 : Value) (x0_length : Int32) (x0_at : Int32) (x0_wordStart : Int32) (x0_wordLength : Int32) (x0_error : Int32) (x0_errorAt : Int32) (y1_text : Nat → Int32)   (r : Int32) (o_x0_at : Int32) (o_x0_wordStart : Int32) (o_x0_wordLength : Int32) (o_x0_error : Int32) (o_x0_errorAt : Int32) (hf : f_X5_takeName x0_length x0_at x0_wordStart x0_wordLength x0_error x0_errorAt y1_text = some (r, o_x0_at, o_x0_wordStart, o_x0_wordLength, o_x0_error, o_x0_errorAt)) : MI l g yX5_takeName wsX5_takeName 4 87 [.ref a0] (w_X5_takeName g a0 a1 u0_0 u0_1 u0_5 u0_8 u0_9 u0_10 u0_11 x0_length x0_at x0_wordStart x0_wordLength x0_error x0_errorAt y1_text) sz (some (.int r)) (w_X5_takeName g a0 a1 u0_0 u0_1 u0_5 u0_8 u0_9 u0_10 u0_11 x0_length o_x0_at o_x0_wordStart o_x0_wordLength o_x0_error o_x0_errorAt y1_text) := by
  refine MI.start (cc := cX5_takeName) (maxL := 1) (ret := (some .boolean)) rfl rfl (nle rfl) ?_
  intro p e s m args below meth c A ls Q hQ hexec hb hr hts hown hlocks hml hA hP hD hG hS hl
  unfold f_X5_takeName at hf
  have hWX5 : ∀ w ∈ wsX50, w.before args s = true := fun w h => hts w (List.mem_cons_of_mem _ (List.mem_append_right _ h))
  have hS : va_S A s.heap s.heap [] := hS
  refine lv_aload_n (pc := 0) hexec hb dX5_takeName_0 rfl (lv_at hl 0 rfl) ?_
  obtain ⟨r1, x0_at_1, x0_wordStart_1, x0_wordLength_1, x0_error_1, x0_errorAt_1, hc, hf⟩ := bd6_e hf
  refine kVp (pc := 1) (S := ⟨hexec, hb, hml, hown, hts⟩) hP hD hG hA hS [0, 1] [] [0, 1] (w2 := (w_X5_takeName g a0 a1 u0_0 u0_1 u0_5 u0_8 u0_9 u0_10 u0_11 x0_length x0_at_1 x0_wordStart_1 x0_wordLength_1 x0_error_1 x0_errorAt_1 y1_text)) rfl rfl rfl rfl rfl rfl (by decide) (c_X5_takeWord l g a0 a1 _ u0_0 u0_1 u0_5 u0_8 u0_9 u0_10 u0_11 x0_length x0_at x0_wordStart x0_wordLength x0_error x0_errorAt y1_text r1 x0_at_1 x0_wordStart_1 x0_wordLength_1 x0_error_1 x0_errorAt_1 hc) gX5_takeName_X5_takeWord rfl hv_X5_takeWord ⟨nle rfl, nle rfl⟩ 5 0 rfl rfl rfl (rest := []) rfl rfl hl.1 (nle rfl) dX5_takeName_1 (fun H locs hP hD hS => ?_)
  obtain ⟨j32, ej32, hf⟩ := bvf2 hf
  have hj32 : ∀ (x0_error_2 : Int32) (x0_errorAt_2 : Int32) (H : Heap) (locs : List Loc) (ls : Array Slot), j32 x0_error_2 x0_errorAt_2 = some (r, o_x0_at, o_x0_wordStart, o_x0_wordLength, o_x0_error, o_x0_errorAt) → va_P g.1 vwCl (w_X5_takeName g a0 a1 u0_0 u0_1 u0_5 u0_8 u0_9 u0_10 u0_11 x0_length x0_at_1 x0_wordStart_1 x0_wordLength_1 x0_error_2 x0_errorAt_2 y1_text) H → va_D A (w_X5_takeName g a0 a1 u0_0 u0_1 u0_5 u0_8 u0_9 u0_10 u0_11 x0_length x0_at_1 x0_wordStart_1 x0_wordLength_1 x0_error_2 x0_errorAt_2 y1_text) → va_S A s.heap H locs → lv_has ls 1 [] → W p l e (RM 4 87) s m args below meth c H locs 0 0 Q (F0 m 32 ls []) := by
    intro x0_error_2 x0_errorAt_2 H locs ls hf hP hD hS hl
    have hf := (ej32 x0_error_2 x0_errorAt_2).symm.trans hf
    refine lv_iconst (pc := 32) hexec hb dX5_takeName_32 ki_0 ?_
    cases hf
    exact ke_z hQ hexec hb hr (.inl rfl) hP hD hS dX5_takeName_33 hlocks
  refine kb_eq (pc := 4) hexec hb dX5_takeName_4 (tgt := 32) rfl hf (fun hc hf => ?_) (fun hc hf => ?_)
  · exact hj32 _ _ _ _ _ hf hP hD hS (lv_sub hl [] rfl)
  · refine lv_aload_n (pc := 7) hexec hb dX5_takeName_7 rfl (lv_at hl 0 rfl) ?_
    refine kg_get (pc := 8) hexec hb (own := RX5) hWX5 hown hG hP 0 rfl rfl 7 (nle rfl) (hts _ (List.mem_cons_of_mem _ (List.mem_append_left _ (List.mem_append_left _ (List.mem_of_getElem? (i := 0) rfl))))) rfl rfl dX5_takeName_8 ?_
    refine lv_bipush (pc := 11) hexec hb dX5_takeName_11 kb_8 ?_
    obtain ⟨j28, ej28, hf⟩ := bvf2 hf
    have hj28 : ∀ (x0_error_3 : Int32) (x0_errorAt_3 : Int32) (H : Heap) (locs : List Loc) (ls : Array Slot), j28 x0_error_3 x0_errorAt_3 = some (r, o_x0_at, o_x0_wordStart, o_x0_wordLength, o_x0_error, o_x0_errorAt) → va_P g.1 vwCl (w_X5_takeName g a0 a1 u0_0 u0_1 u0_5 u0_8 u0_9 u0_10 u0_11 x0_length x0_at_1 x0_wordStart_1 x0_wordLength_1 x0_error_3 x0_errorAt_3 y1_text) H → va_D A (w_X5_takeName g a0 a1 u0_0 u0_1 u0_5 u0_8 u0_9 u0_10 u0_11 x0_length x0_at_1 x0_wordStart_1 x0_wordLength_1 x0_error_3 x0_errorAt_3 y1_text) → va_S A s.heap H locs → lv_has ls 1 [] → W p l e (RM 4 87) s m args below meth c H locs 0 0 Q (F0 m 28 ls []) := by
      intro x0_error_3 x0_errorAt_3 H locs ls hf hP hD hS hl
      have hf := (ej28 x0_error_3 x0_errorAt_3).symm.trans hf
      refine lv_iconst (pc := 28) hexec hb dX5_takeName_28 ki_1 ?_
      refine lv_goto (pc := 29) hexec hb dX5_takeName_29 (tgt := 33) rfl ?_
      cases hf
      exact ke_z hQ hexec hb hr (.inr rfl) hP hD hS dX5_takeName_33 hlocks
    refine ki_le (pc := 13) hexec hb dX5_takeName_13 (tgt := 28) rfl hf (fun hc hf => ?_) (fun hc hf => ?_)
    · exact hj28 _ _ _ _ _ hf hP hD hS (lv_sub hl [] rfl)
    · refine lv_aload_n (pc := 16) hexec hb dX5_takeName_16 rfl (lv_at hl 0 rfl) ?_
      refine lv_iconst (pc := 17) hexec hb dX5_takeName_17 ki_1 ?_
      refine lv_aload_n (pc := 18) hexec hb dX5_takeName_18 rfl (lv_at hl 0 rfl) ?_
      refine kg_get (pc := 19) hexec hb (own := RX5) hWX5 hown hG hP 0 rfl rfl 6 (nle rfl) (hts _ (List.mem_cons_of_mem _ (List.mem_append_left _ (List.mem_append_left _ (List.mem_of_getElem? (i := 1) rfl))))) rfl rfl dX5_takeName_19 ?_
      obtain ⟨r22, x0_error_4, x0_errorAt_4, hc, hf⟩ := bd3_e hf
      refine kVp (pc := 22) (S := ⟨hexec, hb, hml, hown, hts⟩) hP hD hG hA hS [0] [1] [1, 0] (w2 := (w_X5_takeName g a0 a1 u0_0 u0_1 u0_5 u0_8 u0_9 u0_10 u0_11 x0_length x0_at_1 x0_wordStart_1 x0_wordLength_1 x0_error_4 x0_errorAt_4 y1_text)) rfl rfl rfl rfl rfl rfl (by decide) (c_X5_fail l g a0 _ u0_0 u0_1 (.ref a1) (.int x0_length) (.int x0_at_1) u0_5 (.int x0_wordStart_1) (.int x0_wordLength_1) u0_8 u0_9 u0_10 u0_11 x0_error_1 x0_errorAt_1 1 x0_wordStart_1 r22 x0_error_4 x0_errorAt_4 hc) gX5_takeName_X5_fail rfl hv_X5_fail ⟨nle rfl, nle rfl⟩ 5 0 rfl rfl rfl (rest := []) rfl rfl hl.1 (nle rfl) dX5_takeName_22 (fun H locs hP hD hS => ?_)
      refine kb_eq (pc := 25) hexec hb dX5_takeName_25 (tgt := 32) rfl hf (fun hc hf => ?_) (fun hc hf => ?_)
      · exact hj32 _ _ _ _ _ hf hP hD hS (lv_sub hl [] rfl)
      · exact hj28 _ _ _ _ _ hf hP hD hS (lv_sub hl [] rfl)
abbrev w_X5_namedHarbour (g : GE) (a0 a1 a2 a3 a4 a5 : Nat) (u0_1 u0_4 u0_5 u0_8 u0_9 u0_10 u0_11 u0_12 u0_13 u1_0 u1_2 u1_3 u1_4 u3_1 u3_2 u3_3 : Value) (x0_length : Int32) (x0_wordStart : Int32) (x0_wordLength : Int32) (y2_text : Nat → Int32) (x3_count : Int32) (y4_length : Nat → Int32) (y5_letters : Nat → Int32) : va_W := [(a0, .inr (5, [.ref a1, u0_1, .ref a2, .int x0_length, u0_4, u0_5, .int x0_wordStart, .int x0_wordLength, u0_8, u0_9, u0_10, u0_11, u0_12, u0_13])), (a1, .inr (6, [u1_0, .ref a3, u1_2, u1_3, u1_4])), (a2, .inl (g.2.1 0, 500, .inl y2_text)), (a3, .inr (2, [.int x3_count, u3_1, u3_2, u3_3, .ref a4, .ref a5])), (a4, .inl (g.2.1 0, 8, .inl y4_length)), (a5, .inl (g.2.1 0, 64, .inl y5_letters))]
noncomputable def f_X5_namedHarbour (x0_length : Int32) (x0_wordStart : Int32) (x0_wordLength : Int32) (y2_text : Nat → Int32) (x3_count : Int32) (y4_length : Nat → Int32) (y5_letters : Nat → Int32)  : Option (Int32) :=
  bv (fun (v1 : Int32) => ((
    (if x3_count ≤ v1 then (
      mr (some (-1))
    ) else (
      bd1 (f_X2_lengthOf x3_count y4_length v1) fun (r24 : Int32) =>
      bv (fun (t39 : Int32) => ((
        bv (fun (v2 : Int32) (v3 : Int32) => ((
          (if x0_wordLength ≤ v3 then (
            some (.inr v2)
          ) else (
            (if v2 = 0 then (
              some (.inr v2)
            ) else (
              bd1 (f_X2_letterOf x3_count y4_length y5_letters v1 v3) fun (r63 : Int32) =>
              bd1 (f_X5_signAt x0_length y2_text (x0_wordStart + v3)) fun (r73 : Int32) =>
              bv (fun (t84 : Int32) => ((
                bv (v3 + 1) fun v3_1 =>
                some (.inl (t84, v3_1))
                ) : Option ((Int32 × Int32) ⊕ (Int32)))) fun j84 =>
              (if r63 = r73 then (
                j84 1
              ) else (
                j84 0
              ))
            ))
          ))
          ) : Option ((Int32 × Int32) ⊕ (Int32)))) fun l42 =>
        bd1 (lq2 l42 t39 0) fun (v2_1 : Int32) =>
        (if v2_1 = 0 then (
          bv (v1 + 1) fun v1_1 =>
          some (.inl v1_1)
        ) else (
          mr (some v1)
        ))
        ) : Option ((Int32) ⊕ (Int32)))) fun j39 =>
      (if r24 = x0_wordLength then (
        j39 1
      ) else (
        j39 0
      ))
    ))
    ) : Option ((Int32) ⊕ (Int32)))) fun l2 =>
  lq1 l2 0
set_option maxRecDepth 4000 in
theorem c_X5_namedHarbour (l : Launch) (g : GE) (a0 a1 a2 a3 a4 a5 : Nat) (sz : Nat) (u0_1 u0_4 u0_5 u0_8 u0_9 u0_10 u0_11 u0_12 u0_13 u1_0 u1_2 u1_3 u1_4 u3_1 u3_2 u3_3 : Value) (x0_length : Int32) (x0_wordStart : Int32) (x0_wordLength : Int32) (y2_text : Nat → Int32) (x3_count : Int32) (y4_length : Nat → Int32) (y5_letters : Nat → Int32)   (r : Int32) (hf : f_X5_namedHarbour x0_length x0_wordStart x0_wordLength y2_text x3_count y4_length y5_letters = some r) : MI l g yX5_namedHarbour wsX5_namedHarbour 3 68 [.ref a0] (w_X5_namedHarbour g a0 a1 a2 a3 a4 a5 u0_1 u0_4 u0_5 u0_8 u0_9 u0_10 u0_11 u0_12 u0_13 u1_0 u1_2 u1_3 u1_4 u3_1 u3_2 u3_3 x0_length x0_wordStart x0_wordLength y2_text x3_count y4_length y5_letters) sz (some (.int r)) (w_X5_namedHarbour g a0 a1 a2 a3 a4 a5 u0_1 u0_4 u0_5 u0_8 u0_9 u0_10 u0_11 u0_12 u0_13 u1_0 u1_2 u1_3 u1_4 u3_1 u3_2 u3_3 x0_length x0_wordStart x0_wordLength y2_text x3_count y4_length y5_letters) := by
  refine MI.start (cc := cX5_namedHarbour) (maxL := 4) (ret := (some .int)) rfl rfl (nle rfl) ?_
  intro p e s m args below meth c A ls Q hQ hexec hb hr hts hown hlocks hml hA hP hD hG hS hl
  unfold f_X5_namedHarbour at hf
  have hWX2 : ∀ w ∈ wsX20, w.before args s = true := fun w h => hts w (List.mem_cons_of_mem _ (List.mem_append_right _ h))
  have hWX5 : ∀ w ∈ wsX50, w.before args s = true := fun w h => hts w (List.mem_cons_of_mem _ (List.mem_append_left _ (List.mem_append_left _ (List.mem_append_right _ h))))
  have hWX6 : ∀ w ∈ wsX60, w.before args s = true := fun w h => hts w (List.mem_cons_of_mem _ (List.mem_append_left _ (List.mem_append_right _ h)))
  have hS : va_S A s.heap s.heap [] := hS
  refine lv_iconst (pc := 0) hexec hb dX5_namedHarbour_0 ki_0 ?_
  refine lv_istore_n (pc := 1) hexec hb dX5_namedHarbour_1 rfl hl (nle rfl) rfl (fun ls (hl : lv_has ls 4 [(1, .int 0), (0, .ref a0)]) => ?_)
  obtain ⟨l2, el2, hf⟩ := bvf1 hf
  obtain ⟨n, hz⟩ := lq1_e hf
  have hL2 : ∀ (n : Nat) (v1 : Int32) (H : Heap) (locs : List Loc) (ls : Array Slot), it1 l2 n v1 = some r → va_P g.1 vwCl (w_X5_namedHarbour g a0 a1 a2 a3 a4 a5 u0_1 u0_4 u0_5 u0_8 u0_9 u0_10 u0_11 u0_12 u0_13 u1_0 u1_2 u1_3 u1_4 u3_1 u3_2 u3_3 x0_length x0_wordStart x0_wordLength y2_text x3_count y4_length y5_letters) H → va_D A (w_X5_namedHarbour g a0 a1 a2 a3 a4 a5 u0_1 u0_4 u0_5 u0_8 u0_9 u0_10 u0_11 u0_12 u0_13 u1_0 u1_2 u1_3 u1_4 u3_1 u3_2 u3_3 x0_length x0_wordStart x0_wordLength y2_text x3_count y4_length y5_letters) → va_S A s.heap H locs → lv_has ls 4 [(0, .ref a0), (1, .int v1)] → W p l e (RM 3 68) s m args below meth c H locs 0 0 Q (F0 m 2 ls []) := by
    intro n
    induction n with
    | zero =>
      intro v1 H locs ls hf hP hD hS hl
      exact it1_0 hf
    | succ n2 ih2 =>
      intro v1 H locs ls hf hP hD hS hl
      obtain ⟨q2, hf, hk2⟩ := it1_e hf
      have hf := (el2 v1).symm.trans hf
      refine lv_iload_n (pc := 2) hexec hb dX5_namedHarbour_2 rfl (lv_at hl 1 rfl) ?_
      refine lv_aload_n (pc := 3) hexec hb dX5_namedHarbour_3 rfl (lv_at hl 0 rfl) ?_
      refine kg_get (pc := 4) hexec hb (own := RX5) hWX5 hown hG hP 0 rfl rfl 0 (nle rfl) (hts _ (List.mem_cons_of_mem _ (List.mem_append_left _ (List.mem_append_left _ (List.mem_append_left _ (List.mem_of_getElem? (i := 0) rfl)))))) rfl rfl dX5_namedHarbour_4 ?_
      refine kg_getN (pc := 7) hexec hb (own := RX5) hWX6 hown hG hP 1 rfl rfl 1 (nle rfl) 26 rfl rfl rfl dX5_namedHarbour_7 ?_
      refine kg_getN (pc := 10) hexec hb (own := RX5) hWX2 hown hG hP 3 rfl rfl 0 (nle rfl) 9 rfl rfl rfl dX5_namedHarbour_10 ?_
      refine ki_ge (pc := 13) hexec hb dX5_namedHarbour_13 (tgt := 103) rfl hf (fun hc hf => ?_) (fun hc hf => ?_)
      · have hf := mk1 hf hk2
        refine lv_iconst (pc := 103) hexec hb dX5_namedHarbour_103 ki_m1 ?_
        cases hf
        exact ke_i hQ hexec hb hr hP hD hS dX5_namedHarbour_104 hlocks
      · refine lv_aload_n (pc := 16) hexec hb dX5_namedHarbour_16 rfl (lv_at hl 0 rfl) ?_
        refine kg_get (pc := 17) hexec hb (own := RX5) hWX5 hown hG hP 0 rfl rfl 0 (nle rfl) (hts _ (List.mem_cons_of_mem _ (List.mem_append_left _ (List.mem_append_left _ (List.mem_append_left _ (List.mem_of_getElem? (i := 0) rfl)))))) rfl rfl dX5_namedHarbour_17 ?_
        refine kg_getN (pc := 20) hexec hb (own := RX5) hWX6 hown hG hP 1 rfl rfl 1 (nle rfl) 26 rfl rfl rfl dX5_namedHarbour_20 ?_
        refine lv_iload_n (pc := 23) hexec hb dX5_namedHarbour_23 rfl (lv_at hl 1 rfl) ?_
        obtain ⟨r24, hc, hf⟩ := bd1_e hf
        refine kVp (pc := 24) (S := ⟨hexec, hb, hml, hown, hts⟩) hP hD hG hA hS [3, 4] [0, 1, 2, 5] [0, 1, 2, 4, 5, 3] (w2 := (w_X5_namedHarbour g a0 a1 a2 a3 a4 a5 u0_1 u0_4 u0_5 u0_8 u0_9 u0_10 u0_11 u0_12 u0_13 u1_0 u1_2 u1_3 u1_4 u3_1 u3_2 u3_3 x0_length x0_wordStart x0_wordLength y2_text x3_count y4_length y5_letters)) rfl rfl rfl rfl rfl rfl (by decide) (c_X2_lengthOf l g a3 a4 _ u3_1 u3_2 u3_3 (.ref a5) x3_count y4_length v1 r24 hc) gX5_namedHarbour_X2_lengthOf rfl hv_X2_lengthOf ⟨nle rfl, nle rfl⟩ 2 0 rfl rfl rfl (rest := []) rfl rfl hl.1 (nle rfl) dX5_namedHarbour_24 (fun H locs hP hD hS => ?_)
        refine lv_aload_n (pc := 27) hexec hb dX5_namedHarbour_27 rfl (lv_at hl 0 rfl) ?_
        refine kg_get (pc := 28) hexec hb (own := RX5) hWX5 hown hG hP 0 rfl rfl 7 (nle rfl) (hts _ (List.mem_cons_of_mem _ (List.mem_append_left _ (List.mem_append_left _ (List.mem_append_left _ (List.mem_of_getElem? (i := 1) rfl)))))) rfl rfl dX5_namedHarbour_28 ?_
        obtain ⟨j39, ej39, hf⟩ := bvf1 hf
        have hj39 : ∀ (t39 : Int32) (H : Heap) (locs : List Loc) (ls : Array Slot), j39 t39 = some q2 → va_P g.1 vwCl (w_X5_namedHarbour g a0 a1 a2 a3 a4 a5 u0_1 u0_4 u0_5 u0_8 u0_9 u0_10 u0_11 u0_12 u0_13 u1_0 u1_2 u1_3 u1_4 u3_1 u3_2 u3_3 x0_length x0_wordStart x0_wordLength y2_text x3_count y4_length y5_letters) H → va_D A (w_X5_namedHarbour g a0 a1 a2 a3 a4 a5 u0_1 u0_4 u0_5 u0_8 u0_9 u0_10 u0_11 u0_12 u0_13 u1_0 u1_2 u1_3 u1_4 u3_1 u3_2 u3_3 x0_length x0_wordStart x0_wordLength y2_text x3_count y4_length y5_letters) → va_S A s.heap H locs → lv_has ls 4 [(0, .ref a0), (1, .int v1)] → W p l e (RM 3 68) s m args below meth c H locs 0 0 Q (F0 m 39 ls [.int t39]) := by
          intro t39 H locs ls hf hP hD hS hl
          have hf := (ej39 t39).symm.trans hf
          refine lv_istore_n (pc := 39) hexec hb dX5_namedHarbour_39 rfl hl (nle rfl) rfl (fun ls (hl : lv_has ls 4 [(2, .int t39), (0, .ref a0), (1, .int v1)]) => ?_)
          refine lv_iconst (pc := 40) hexec hb dX5_namedHarbour_40 ki_0 ?_
          refine lv_istore_n (pc := 41) hexec hb dX5_namedHarbour_41 rfl hl (nle rfl) rfl (fun ls (hl : lv_has ls 4 [(3, .int 0), (2, .int t39), (0, .ref a0), (1, .int v1)]) => ?_)
          obtain ⟨l42, el42, hf⟩ := bvf2 hf
          obtain ⟨v2_1, hz, hf⟩ := bd1_e hf
          have hE42 : ∀ (H : Heap) (locs : List Loc) (ls : Array Slot), va_P g.1 vwCl (w_X5_namedHarbour g a0 a1 a2 a3 a4 a5 u0_1 u0_4 u0_5 u0_8 u0_9 u0_10 u0_11 u0_12 u0_13 u1_0 u1_2 u1_3 u1_4 u3_1 u3_2 u3_3 x0_length x0_wordStart x0_wordLength y2_text x3_count y4_length y5_letters) H → va_D A (w_X5_namedHarbour g a0 a1 a2 a3 a4 a5 u0_1 u0_4 u0_5 u0_8 u0_9 u0_10 u0_11 u0_12 u0_13 u1_0 u1_2 u1_3 u1_4 u3_1 u3_2 u3_3 x0_length x0_wordStart x0_wordLength y2_text x3_count y4_length y5_letters) → va_S A s.heap H locs → lv_has ls 4 [(0, .ref a0), (1, .int v1), (2, .int v2_1)] → W p l e (RM 3 68) s m args below meth c H locs 0 0 Q (F0 m 91 ls []) := by
            intro H locs ls hP hD hS hl
            refine lv_iload_n (pc := 91) hexec hb dX5_namedHarbour_91 rfl (lv_at hl 2 rfl) ?_
            refine kb_eq (pc := 92) hexec hb dX5_namedHarbour_92 (tgt := 97) rfl hf (fun hc hf => ?_) (fun hc hf => ?_)
            · obtain ⟨v1_1, ev1_1, hf⟩ := bv_e hf
              refine k_iinc (pc := 97) hexec hb dX5_namedHarbour_97 kq_1 hl (k := 1) rfl ev1_1 (nle rfl) rfl (fun ls (hl : lv_has ls 4 [(1, .int v1_1), (0, .ref a0), (2, .int v2_1)]) => ?_)
              refine lv_goto (pc := 100) hexec hb dX5_namedHarbour_100 (tgt := 2) rfl ?_
              exact ih2 _ _ _ _ (sl1 hf hk2) hP hD hS (lv_sub hl [1, 0] rfl)
            · have hf := mk1 hf hk2
              refine lv_iload_n (pc := 95) hexec hb dX5_namedHarbour_95 rfl (lv_at hl 1 rfl) ?_
              cases hf
              exact ke_i hQ hexec hb hr hP hD hS dX5_namedHarbour_96 hlocks
          obtain ⟨n, hz⟩ := lq2_e hz
          have hL42 : ∀ (n : Nat) (v2 : Int32) (v3 : Int32) (H : Heap) (locs : List Loc) (ls : Array Slot), it2 l42 n v2 v3 = some v2_1 → va_P g.1 vwCl (w_X5_namedHarbour g a0 a1 a2 a3 a4 a5 u0_1 u0_4 u0_5 u0_8 u0_9 u0_10 u0_11 u0_12 u0_13 u1_0 u1_2 u1_3 u1_4 u3_1 u3_2 u3_3 x0_length x0_wordStart x0_wordLength y2_text x3_count y4_length y5_letters) H → va_D A (w_X5_namedHarbour g a0 a1 a2 a3 a4 a5 u0_1 u0_4 u0_5 u0_8 u0_9 u0_10 u0_11 u0_12 u0_13 u1_0 u1_2 u1_3 u1_4 u3_1 u3_2 u3_3 x0_length x0_wordStart x0_wordLength y2_text x3_count y4_length y5_letters) → va_S A s.heap H locs → lv_has ls 4 [(0, .ref a0), (1, .int v1), (2, .int v2), (3, .int v3)] → W p l e (RM 3 68) s m args below meth c H locs 0 0 Q (F0 m 42 ls []) := by
            intro n
            induction n with
            | zero =>
              intro v2 v3 H locs ls hf hP hD hS hl
              exact it2_0 hf
            | succ n42 ih42 =>
              intro v2 v3 H locs ls hf hP hD hS hl
              obtain ⟨q42, hf, hk42⟩ := it2_e hf
              have hf := (el42 v2 v3).symm.trans hf
              refine lv_iload_n (pc := 42) hexec hb dX5_namedHarbour_42 rfl (lv_at hl 3 rfl) ?_
              refine lv_aload_n (pc := 43) hexec hb dX5_namedHarbour_43 rfl (lv_at hl 0 rfl) ?_
              refine kg_get (pc := 44) hexec hb (own := RX5) hWX5 hown hG hP 0 rfl rfl 7 (nle rfl) (hts _ (List.mem_cons_of_mem _ (List.mem_append_left _ (List.mem_append_left _ (List.mem_append_left _ (List.mem_of_getElem? (i := 1) rfl)))))) rfl rfl dX5_namedHarbour_44 ?_
              refine ki_ge (pc := 47) hexec hb dX5_namedHarbour_47 (tgt := 91) rfl hf (fun hc hf => ?_) (fun hc hf => ?_)
              · cases sr2 hf hk42
                exact hE42 _ _ _ hP hD hS (lv_sub hl [0, 1, 2] rfl)
              · refine lv_iload_n (pc := 50) hexec hb dX5_namedHarbour_50 rfl (lv_at hl 2 rfl) ?_
                refine kb_eq (pc := 51) hexec hb dX5_namedHarbour_51 (tgt := 91) rfl hf (fun hc hf => ?_) (fun hc hf => ?_)
                · cases sr2 hf hk42
                  exact hE42 _ _ _ hP hD hS (lv_sub hl [0, 1, 2] rfl)
                · refine lv_aload_n (pc := 54) hexec hb dX5_namedHarbour_54 rfl (lv_at hl 0 rfl) ?_
                  refine kg_get (pc := 55) hexec hb (own := RX5) hWX5 hown hG hP 0 rfl rfl 0 (nle rfl) (hts _ (List.mem_cons_of_mem _ (List.mem_append_left _ (List.mem_append_left _ (List.mem_append_left _ (List.mem_of_getElem? (i := 0) rfl)))))) rfl rfl dX5_namedHarbour_55 ?_
                  refine kg_getN (pc := 58) hexec hb (own := RX5) hWX6 hown hG hP 1 rfl rfl 1 (nle rfl) 26 rfl rfl rfl dX5_namedHarbour_58 ?_
                  refine lv_iload_n (pc := 61) hexec hb dX5_namedHarbour_61 rfl (lv_at hl 1 rfl) ?_
                  refine lv_iload_n (pc := 62) hexec hb dX5_namedHarbour_62 rfl (lv_at hl 3 rfl) ?_
                  obtain ⟨r63, hc, hf⟩ := bd1_e hf
                  refine kVp (pc := 63) (S := ⟨hexec, hb, hml, hown, hts⟩) hP hD hG hA hS [3, 4, 5] [0, 1, 2] [0, 1, 2, 3, 4, 5] (w2 := (w_X5_namedHarbour g a0 a1 a2 a3 a4 a5 u0_1 u0_4 u0_5 u0_8 u0_9 u0_10 u0_11 u0_12 u0_13 u1_0 u1_2 u1_3 u1_4 u3_1 u3_2 u3_3 x0_length x0_wordStart x0_wordLength y2_text x3_count y4_length y5_letters)) rfl rfl rfl rfl rfl rfl (by decide) (c_X2_letterOf l g a3 a4 a5 _ u3_1 u3_2 u3_3 x3_count y4_length y5_letters v1 v3 r63 hc) gX5_namedHarbour_X2_letterOf rfl hv_X2_letterOf ⟨nle rfl, nle rfl⟩ 2 0 rfl rfl rfl (rest := []) rfl rfl hl.1 (nle rfl) dX5_namedHarbour_63 (fun H locs hP hD hS => ?_)
                  refine lv_aload_n (pc := 66) hexec hb dX5_namedHarbour_66 rfl (lv_at hl 0 rfl) ?_
                  refine lv_aload_n (pc := 67) hexec hb dX5_namedHarbour_67 rfl (lv_at hl 0 rfl) ?_
                  refine kg_get (pc := 68) hexec hb (own := RX5) hWX5 hown hG hP 0 rfl rfl 6 (nle rfl) (hts _ (List.mem_cons_of_mem _ (List.mem_append_left _ (List.mem_append_left _ (List.mem_append_left _ (List.mem_of_getElem? (i := 2) rfl)))))) rfl rfl dX5_namedHarbour_68 ?_
                  refine lv_iload_n (pc := 71) hexec hb dX5_namedHarbour_71 rfl (lv_at hl 3 rfl) ?_
                  refine lv_iadd (pc := 72) hexec hb dX5_namedHarbour_72 ?_
                  obtain ⟨r73, hc, hf⟩ := bd1_e hf
                  refine kVp (pc := 73) (S := ⟨hexec, hb, hml, hown, hts⟩) hP hD hG hA hS [0, 2] [1, 3, 4, 5] [4, 0, 5, 1, 2, 3] (w2 := (w_X5_namedHarbour g a0 a1 a2 a3 a4 a5 u0_1 u0_4 u0_5 u0_8 u0_9 u0_10 u0_11 u0_12 u0_13 u1_0 u1_2 u1_3 u1_4 u3_1 u3_2 u3_3 x0_length x0_wordStart x0_wordLength y2_text x3_count y4_length y5_letters)) rfl rfl rfl rfl rfl rfl (by decide) (c_X5_signAt l g a0 a2 _ (.ref a1) u0_1 u0_4 u0_5 (.int x0_wordStart) (.int x0_wordLength) u0_8 u0_9 u0_10 u0_11 u0_12 u0_13 x0_length y2_text (x0_wordStart + v3) r73 hc) gX5_namedHarbour_X5_signAt rfl hv_X5_signAt ⟨nle rfl, nle rfl⟩ 5 0 rfl rfl rfl (rest := [.int r63]) rfl rfl hl.1 (nle rfl) dX5_namedHarbour_73 (fun H locs hP hD hS => ?_)
                  obtain ⟨j84, ej84, hf⟩ := bvf1 hf
                  have hj84 : ∀ (t84 : Int32) (H : Heap) (locs : List Loc) (ls : Array Slot), j84 t84 = some q42 → va_P g.1 vwCl (w_X5_namedHarbour g a0 a1 a2 a3 a4 a5 u0_1 u0_4 u0_5 u0_8 u0_9 u0_10 u0_11 u0_12 u0_13 u1_0 u1_2 u1_3 u1_4 u3_1 u3_2 u3_3 x0_length x0_wordStart x0_wordLength y2_text x3_count y4_length y5_letters) H → va_D A (w_X5_namedHarbour g a0 a1 a2 a3 a4 a5 u0_1 u0_4 u0_5 u0_8 u0_9 u0_10 u0_11 u0_12 u0_13 u1_0 u1_2 u1_3 u1_4 u3_1 u3_2 u3_3 x0_length x0_wordStart x0_wordLength y2_text x3_count y4_length y5_letters) → va_S A s.heap H locs → lv_has ls 4 [(0, .ref a0), (1, .int v1), (3, .int v3)] → W p l e (RM 3 68) s m args below meth c H locs 0 0 Q (F0 m 84 ls [.int t84]) := by
                    intro t84 H locs ls hf hP hD hS hl
                    have hf := (ej84 t84).symm.trans hf
                    refine lv_istore_n (pc := 84) hexec hb dX5_namedHarbour_84 rfl hl (nle rfl) rfl (fun ls (hl : lv_has ls 4 [(2, .int t84), (0, .ref a0), (1, .int v1), (3, .int v3)]) => ?_)
                    obtain ⟨v3_1, ev3_1, hf⟩ := bv_e hf
                    refine k_iinc (pc := 85) hexec hb dX5_namedHarbour_85 kq_1 hl (k := 3) rfl ev3_1 (nle rfl) rfl (fun ls (hl : lv_has ls 4 [(3, .int v3_1), (2, .int t84), (0, .ref a0), (1, .int v1)]) => ?_)
                    refine lv_goto (pc := 88) hexec hb dX5_namedHarbour_88 (tgt := 42) rfl ?_
                    exact ih42 _ _ _ _ _ (sl2 hf hk42) hP hD hS (lv_sub hl [2, 3, 1, 0] rfl)
                  refine ki_ne (pc := 76) hexec hb dX5_namedHarbour_76 (tgt := 83) rfl hf (fun hc hf => ?_) (fun hc hf => ?_)
                  · refine lv_iconst (pc := 83) hexec hb dX5_namedHarbour_83 ki_0 ?_
                    exact hj84 _ _ _ _ hf hP hD hS (lv_sub hl [0, 1, 3] rfl)
                  · refine lv_iconst (pc := 79) hexec hb dX5_namedHarbour_79 ki_1 ?_
                    refine lv_goto (pc := 80) hexec hb dX5_namedHarbour_80 (tgt := 84) rfl ?_
                    exact hj84 _ _ _ _ hf hP hD hS (lv_sub hl [0, 1, 3] rfl)
          exact hL42 n _ _ _ _ _ hz hP hD hS (lv_sub hl [2, 3, 1, 0] rfl)
        refine ki_ne (pc := 31) hexec hb dX5_namedHarbour_31 (tgt := 38) rfl hf (fun hc hf => ?_) (fun hc hf => ?_)
        · refine lv_iconst (pc := 38) hexec hb dX5_namedHarbour_38 ki_0 ?_
          exact hj39 _ _ _ _ hf hP hD hS (lv_sub hl [0, 1] rfl)
        · refine lv_iconst (pc := 34) hexec hb dX5_namedHarbour_34 ki_1 ?_
          refine lv_goto (pc := 35) hexec hb dX5_namedHarbour_35 (tgt := 39) rfl ?_
          exact hj39 _ _ _ _ hf hP hD hS (lv_sub hl [0, 1] rfl)
  exact hL2 n _ _ _ _ hz hP hD hS (lv_sub hl [1, 0] rfl)
abbrev w_X5_readRed (g : GE) (a0 a1 a2 a3 : Nat) (u0_1 u0_5 u0_8 u0_9 u0_10 u0_11 u1_0 u1_2 u1_3 u1_4 u3_0 u3_2 u3_3 u3_4 u3_5 : Value) (x0_length : Int32) (x0_at : Int32) (x0_wordStart : Int32) (x0_wordLength : Int32) (x0_error : Int32) (x0_errorAt : Int32) (y2_text : Nat → Int32) (x3_reds : Int32) : va_W := [(a0, .inr (5, [.ref a1, u0_1, .ref a2, .int x0_length, .int x0_at, u0_5, .int x0_wordStart, .int x0_wordLength, u0_8, u0_9, u0_10, u0_11, .int x0_error, .int x0_errorAt])), (a1, .inr (6, [u1_0, .ref a3, u1_2, u1_3, u1_4])), (a2, .inl (g.2.1 0, 500, .inl y2_text)), (a3, .inr (2, [u3_0, .int x3_reds, u3_2, u3_3, u3_4, u3_5]))]
noncomputable def f_X5_readRed (x0_length : Int32) (x0_at : Int32) (x0_wordStart : Int32) (x0_wordLength : Int32) (x0_error : Int32) (x0_errorAt : Int32) (y2_text : Nat → Int32) (x3_reds : Int32) (p1 : Int32) : Option (Int32 × Int32 × Int32 × Int32 × Int32 × Int32 × Int32) :=
  bd2 (f_X5_nextSign x0_length x0_at y2_text) fun (r1 : Int32) (x0_at_1 : Int32) =>
  bd1 (f_X5_isLetter r1) fun (r4 : Int32) =>
  (if r4 = 0 then (
    some (1, x0_at_1, x0_wordStart, x0_wordLength, x0_error, x0_errorAt, x3_reds)
  ) else (
    bd6 (f_X5_takeWord x0_length x0_at_1 x0_wordStart x0_wordLength x0_error x0_errorAt y2_text) fun (r13 : Int32) (x0_at_2 : Int32) (x0_wordStart_1 : Int32) (x0_wordLength_1 : Int32) (x0_error_1 : Int32) (x0_errorAt_1 : Int32) =>
    bd1 (f_X5_wordIs x0_length x0_wordStart_1 x0_wordLength_1 y2_text 7) fun (r20 : Int32) =>
    (if r20 = 0 then (
      bd3 (f_X5_fail x0_error_1 x0_errorAt_1 1 x0_wordStart_1) fun (r32 : Int32) (x0_error_2 : Int32) (x0_errorAt_2 : Int32) =>
      zb r32 (some (r32, x0_at_2, x0_wordStart_1, x0_wordLength_1, x0_error_2, x0_errorAt_2, x3_reds))
    ) else (
      bd1 (f_X2_redsIf x3_reds p1 1) fun (r52 : Int32) =>
      some (1, x0_at_2, x0_wordStart_1, x0_wordLength_1, x0_error_1, x0_errorAt_1, r52)
    ))
  ))
set_option maxRecDepth 4000 in
theorem c_X5_readRed (l : Launch) (g : GE) (a0 a1 a2 a3 : Nat) (sz : Nat) (u0_1 u0_5 u0_8 u0_9 u0_10 u0_11 u1_0 u1_2 u1_3 u1_4 u3_0 u3_2 u3_3 u3_4 u3_5 : Value) (x0_length : Int32) (x0_at : Int32) (x0_wordStart : Int32) (x0_wordLength : Int32) (x0_error : Int32) (x0_errorAt : Int32) (y2_text : Nat → Int32) (x3_reds : Int32) (p1 : Int32)  (r : Int32) (o_x0_at : Int32) (o_x0_wordStart : Int32) (o_x0_wordLength : Int32) (o_x0_error : Int32) (o_x0_errorAt : Int32) (o_x3_reds : Int32) (hf : f_X5_readRed x0_length x0_at x0_wordStart x0_wordLength x0_error x0_errorAt y2_text x3_reds p1 = some (r, o_x0_at, o_x0_wordStart, o_x0_wordLength, o_x0_error, o_x0_errorAt, o_x3_reds)) : MI l g yX5_readRed wsX5_readRed 6 133 [.ref a0, .int p1] (w_X5_readRed g a0 a1 a2 a3 u0_1 u0_5 u0_8 u0_9 u0_10 u0_11 u1_0 u1_2 u1_3 u1_4 u3_0 u3_2 u3_3 u3_4 u3_5 x0_length x0_at x0_wordStart x0_wordLength x0_error x0_errorAt y2_text x3_reds) sz (some (.int r)) (w_X5_readRed g a0 a1 a2 a3 u0_1 u0_5 u0_8 u0_9 u0_10 u0_11 u1_0 u1_2 u1_3 u1_4 u3_0 u3_2 u3_3 u3_4 u3_5 x0_length o_x0_at o_x0_wordStart o_x0_wordLength o_x0_error o_x0_errorAt y2_text o_x3_reds) := by
  refine MI.start (cc := cX5_readRed) (maxL := 2) (ret := (some .boolean)) rfl rfl (nle rfl) ?_
  intro p e s m args below meth c A ls Q hQ hexec hb hr hts hown hlocks hml hA hP hD hG hS hl
  unfold f_X5_readRed at hf
  have hWX2 : ∀ w ∈ wsX20, w.before args s = true := fun w h => hts w (List.mem_cons_of_mem _ (List.mem_append_right _ h))
  have hWX5 : ∀ w ∈ wsX50, w.before args s = true := fun w h => hts w (List.mem_cons_of_mem _ (List.mem_append_left _ (List.mem_append_left _ (List.mem_append_right _ h))))
  have hWX6 : ∀ w ∈ wsX60, w.before args s = true := fun w h => hts w (List.mem_cons_of_mem _ (List.mem_append_left _ (List.mem_append_right _ h)))
  have hS : va_S A s.heap s.heap [] := hS
  refine lv_aload_n (pc := 0) hexec hb dX5_readRed_0 rfl (lv_at hl 0 rfl) ?_
  obtain ⟨r1, x0_at_1, hc, hf⟩ := bd2_e hf
  refine kVp (pc := 1) (S := ⟨hexec, hb, hml, hown, hts⟩) hP hD hG hA hS [0, 2] [1, 3] [2, 0, 3, 1] (w2 := (w_X5_readRed g a0 a1 a2 a3 u0_1 u0_5 u0_8 u0_9 u0_10 u0_11 u1_0 u1_2 u1_3 u1_4 u3_0 u3_2 u3_3 u3_4 u3_5 x0_length x0_at_1 x0_wordStart x0_wordLength x0_error x0_errorAt y2_text x3_reds)) rfl rfl rfl rfl rfl rfl (by decide) (c_X5_nextSign l g a0 a2 _ (.ref a1) u0_1 u0_5 (.int x0_wordStart) (.int x0_wordLength) u0_8 u0_9 u0_10 u0_11 (.int x0_error) (.int x0_errorAt) x0_length x0_at y2_text r1 x0_at_1 hc) gX5_readRed_X5_nextSign rfl hv_X5_nextSign ⟨nle rfl, nle rfl⟩ 5 0 rfl rfl rfl (rest := []) rfl rfl hl.1 (nle rfl) dX5_readRed_1 (fun H locs hP hD hS => ?_)
  obtain ⟨r4, hc, hf⟩ := bd1_e hf
  refine kSp (pc := 4) (S := ⟨hexec, hb, hml, hown, hts⟩) hP hD hG hA hS [] [0, 1, 2, 3] [0, 1, 2, 3] (w2 := (w_X5_readRed g a0 a1 a2 a3 u0_1 u0_5 u0_8 u0_9 u0_10 u0_11 u1_0 u1_2 u1_3 u1_4 u3_0 u3_2 u3_3 u3_4 u3_5 x0_length x0_at_1 x0_wordStart x0_wordLength x0_error x0_errorAt y2_text x3_reds)) rfl rfl rfl rfl rfl rfl (by decide) (c_X5_isLetter l g _ r1 r4 hc) gX5_readRed_X5_isLetter rfl hs_X5_isLetter ⟨nle rfl, nle rfl⟩ (rest := []) rfl rfl hl.1 (nle rfl) dX5_readRed_4 (fun H locs hP hD hS => ?_)
  refine kb_ne (pc := 7) hexec hb dX5_readRed_7 (tgt := 12) rfl hf (fun hc hf => ?_) (fun hc hf => ?_)
  · refine lv_aload_n (pc := 12) hexec hb dX5_readRed_12 rfl (lv_at hl 0 rfl) ?_
    obtain ⟨r13, x0_at_2, x0_wordStart_1, x0_wordLength_1, x0_error_1, x0_errorAt_1, hc, hf⟩ := bd6_e hf
    refine kVp (pc := 13) (S := ⟨hexec, hb, hml, hown, hts⟩) hP hD hG hA hS [0, 2] [1, 3] [2, 0, 3, 1] (w2 := (w_X5_readRed g a0 a1 a2 a3 u0_1 u0_5 u0_8 u0_9 u0_10 u0_11 u1_0 u1_2 u1_3 u1_4 u3_0 u3_2 u3_3 u3_4 u3_5 x0_length x0_at_2 x0_wordStart_1 x0_wordLength_1 x0_error_1 x0_errorAt_1 y2_text x3_reds)) rfl rfl rfl rfl rfl rfl (by decide) (c_X5_takeWord l g a0 a2 _ (.ref a1) u0_1 u0_5 u0_8 u0_9 u0_10 u0_11 x0_length x0_at_1 x0_wordStart x0_wordLength x0_error x0_errorAt y2_text r13 x0_at_2 x0_wordStart_1 x0_wordLength_1 x0_error_1 x0_errorAt_1 hc) gX5_readRed_X5_takeWord rfl hv_X5_takeWord ⟨nle rfl, nle rfl⟩ 5 0 rfl rfl rfl (rest := []) rfl rfl hl.1 (nle rfl) dX5_readRed_13 (fun H locs hP hD hS => ?_)
    refine lv_pop (pc := 16) hexec hb dX5_readRed_16 rfl ?_
    refine lv_aload_n (pc := 17) hexec hb dX5_readRed_17 rfl (lv_at hl 0 rfl) ?_
    refine k_lds (pc := 18) hexec hb (own := RX5) hown hG 7 rfl dX5_readRed_18 ?_
    obtain ⟨r20, hc, hf⟩ := bd1_e hf
    refine kVp (pc := 20) (S := ⟨hexec, hb, hml, hown, hts⟩) hP hD hG hA hS [0, 2] [1, 3] [2, 0, 3, 1] (w2 := (w_X5_readRed g a0 a1 a2 a3 u0_1 u0_5 u0_8 u0_9 u0_10 u0_11 u1_0 u1_2 u1_3 u1_4 u3_0 u3_2 u3_3 u3_4 u3_5 x0_length x0_at_2 x0_wordStart_1 x0_wordLength_1 x0_error_1 x0_errorAt_1 y2_text x3_reds)) rfl rfl rfl rfl rfl rfl (by decide) (c_X5_wordIs l g a0 a2 _ (.ref a1) u0_1 (.int x0_at_2) u0_5 u0_8 u0_9 u0_10 u0_11 (.int x0_error_1) (.int x0_errorAt_1) x0_length x0_wordStart_1 x0_wordLength_1 y2_text 7 (nle rfl) r20 hc) gX5_readRed_X5_wordIs rfl hv_X5_wordIs ⟨nle rfl, nle rfl⟩ 5 0 rfl rfl rfl (rest := []) rfl rfl hl.1 (nle rfl) dX5_readRed_20 (fun H locs hP hD hS => ?_)
    refine kb_ne (pc := 23) hexec hb dX5_readRed_23 (tgt := 36) rfl hf (fun hc hf => ?_) (fun hc hf => ?_)
    · refine lv_aload_n (pc := 36) hexec hb dX5_readRed_36 rfl (lv_at hl 0 rfl) ?_
      refine kg_get (pc := 37) hexec hb (own := RX5) hWX5 hown hG hP 0 rfl rfl 0 (nle rfl) (hts _ (List.mem_cons_of_mem _ (List.mem_append_left _ (List.mem_append_left _ (List.mem_append_left _ (List.mem_append_left _ (List.mem_of_getElem? (i := 1) rfl))))))) rfl rfl dX5_readRed_37 ?_
      refine kg_getN (pc := 40) hexec hb (own := RX5) hWX6 hown hG hP 1 rfl rfl 1 (nle rfl) 26 rfl rfl rfl dX5_readRed_40 ?_
      refine lv_aload_n (pc := 43) hexec hb dX5_readRed_43 rfl (lv_at hl 0 rfl) ?_
      refine kg_get (pc := 44) hexec hb (own := RX5) hWX5 hown hG hP 0 rfl rfl 0 (nle rfl) (hts _ (List.mem_cons_of_mem _ (List.mem_append_left _ (List.mem_append_left _ (List.mem_append_left _ (List.mem_append_left _ (List.mem_of_getElem? (i := 1) rfl))))))) rfl rfl dX5_readRed_44 ?_
      refine kg_getN (pc := 47) hexec hb (own := RX5) hWX6 hown hG hP 1 rfl rfl 1 (nle rfl) 26 rfl rfl rfl dX5_readRed_47 ?_
      refine lv_iload_n (pc := 50) hexec hb dX5_readRed_50 rfl (lv_at hl 1 rfl) ?_
      refine lv_iconst (pc := 51) hexec hb dX5_readRed_51 ki_1 ?_
      obtain ⟨r52, hc, hf⟩ := bd1_e hf
      refine kVp (pc := 52) (S := ⟨hexec, hb, hml, hown, hts⟩) hP hD hG hA hS [3] [0, 1, 2] [0, 1, 2, 3] (w2 := (w_X5_readRed g a0 a1 a2 a3 u0_1 u0_5 u0_8 u0_9 u0_10 u0_11 u1_0 u1_2 u1_3 u1_4 u3_0 u3_2 u3_3 u3_4 u3_5 x0_length x0_at_2 x0_wordStart_1 x0_wordLength_1 x0_error_1 x0_errorAt_1 y2_text x3_reds)) rfl rfl rfl rfl rfl rfl (by decide) (c_X2_redsIf l g a3 _ u3_0 u3_2 u3_3 u3_4 u3_5 x3_reds p1 1 r52 hc) gX5_readRed_X2_redsIf rfl hv_X2_redsIf ⟨nle rfl, nle rfl⟩ 2 0 rfl rfl rfl (rest := [.ref a3]) rfl rfl hl.1 (nle rfl) dX5_readRed_52 (fun H locs hP hD hS => ?_)
      refine kp_putN (pc := 55) hexec hb (own := RX5) hWX2 tyX2 tyX2_ok nmX2 hown hG hP hD hS 3 rfl rfl 1 (nle rfl) 12 rfl rfl rfl rfl rfl (nle rfl) dX5_readRed_55 (fun H locs (hP : va_P g.1 vwCl (w_X5_readRed g a0 a1 a2 a3 u0_1 u0_5 u0_8 u0_9 u0_10 u0_11 u1_0 u1_2 u1_3 u1_4 u3_0 u3_2 u3_3 u3_4 u3_5 x0_length x0_at_2 x0_wordStart_1 x0_wordLength_1 x0_error_1 x0_errorAt_1 y2_text r52) H) (hD : va_D A (w_X5_readRed g a0 a1 a2 a3 u0_1 u0_5 u0_8 u0_9 u0_10 u0_11 u1_0 u1_2 u1_3 u1_4 u3_0 u3_2 u3_3 u3_4 u3_5 x0_length x0_at_2 x0_wordStart_1 x0_wordLength_1 x0_error_1 x0_errorAt_1 y2_text r52)) hS => ?_)
      refine lv_iconst (pc := 58) hexec hb dX5_readRed_58 ki_1 ?_
      cases hf
      exact ke_z hQ hexec hb hr (.inr rfl) hP hD hS dX5_readRed_59 hlocks
    · refine lv_aload_n (pc := 26) hexec hb dX5_readRed_26 rfl (lv_at hl 0 rfl) ?_
      refine lv_iconst (pc := 27) hexec hb dX5_readRed_27 ki_1 ?_
      refine lv_aload_n (pc := 28) hexec hb dX5_readRed_28 rfl (lv_at hl 0 rfl) ?_
      refine kg_get (pc := 29) hexec hb (own := RX5) hWX5 hown hG hP 0 rfl rfl 6 (nle rfl) (hts _ (List.mem_cons_of_mem _ (List.mem_append_left _ (List.mem_append_left _ (List.mem_append_left _ (List.mem_append_left _ (List.mem_of_getElem? (i := 0) rfl))))))) rfl rfl dX5_readRed_29 ?_
      obtain ⟨r32, x0_error_2, x0_errorAt_2, hc, hf⟩ := bd3_e hf
      refine kVp (pc := 32) (S := ⟨hexec, hb, hml, hown, hts⟩) hP hD hG hA hS [0] [1, 2, 3] [3, 0, 1, 2] (w2 := (w_X5_readRed g a0 a1 a2 a3 u0_1 u0_5 u0_8 u0_9 u0_10 u0_11 u1_0 u1_2 u1_3 u1_4 u3_0 u3_2 u3_3 u3_4 u3_5 x0_length x0_at_2 x0_wordStart_1 x0_wordLength_1 x0_error_2 x0_errorAt_2 y2_text x3_reds)) rfl rfl rfl rfl rfl rfl (by decide) (c_X5_fail l g a0 _ (.ref a1) u0_1 (.ref a2) (.int x0_length) (.int x0_at_2) u0_5 (.int x0_wordStart_1) (.int x0_wordLength_1) u0_8 u0_9 u0_10 u0_11 x0_error_1 x0_errorAt_1 1 x0_wordStart_1 r32 x0_error_2 x0_errorAt_2 hc) gX5_readRed_X5_fail rfl hv_X5_fail ⟨nle rfl, nle rfl⟩ 5 0 rfl rfl rfl (rest := []) rfl rfl hl.1 (nle rfl) dX5_readRed_32 (fun H locs hP hD hS => ?_)
      obtain ⟨hx, hf⟩ := zb_e hf
      cases hf
      exact ke_z hQ hexec hb hr hx hP hD hS dX5_readRed_35 hlocks
  · refine lv_iconst (pc := 10) hexec hb dX5_readRed_10 ki_1 ?_
    cases hf
    exact ke_z hQ hexec hb hr (.inr rfl) hP hD hS dX5_readRed_11 hlocks
abbrev w_X5_readHarbour (g : GE) (a0 a1 a2 a3 a4 a5 a6 a7 a8 a9 a10 a11 : Nat) (u0_1 u0_5 u0_11 u1_2 u1_4 u3_2 u3_5 : Value) (x0_length : Int32) (x0_at : Int32) (x0_wordStart : Int32) (x0_wordLength : Int32) (x0_numberStart : Int32) (x0_number : Int32) (x0_cell : Int32) (x0_error : Int32) (x0_errorAt : Int32) (y2_text : Nat → Int32) (x3_rows : Int32) (x3_columns : Int32) (x4_count : Int32) (x4_reds : Int32) (y5_namesOn : Nat → Int32) (y6_land : Nat → Int32) (y7_riverOf : Nat → Int32) (y8_direction : Nat → Int32) (y9_home : Nat → Int32) (y10_length : Nat → Int32) (y11_letters : Nat → Int32) : va_W := [(a0, .inr (5, [.ref a1, u0_1, .ref a2, .int x0_length, .int x0_at, u0_5, .int x0_wordStart, .int x0_wordLength, .int x0_numberStart, .int x0_number, .int x0_cell, u0_11, .int x0_error, .int x0_errorAt])), (a1, .inr (6, [.ref a3, .ref a4, u1_2, .ref a5, u1_4])), (a2, .inl (g.2.1 0, 500, .inl y2_text)), (a3, .inr (1, [.int x3_rows, .int x3_columns, u3_2, .ref a6, .ref a7, u3_5])), (a4, .inr (2, [.int x4_count, .int x4_reds, .ref a9, .ref a8, .ref a10, .ref a11])), (a5, .inl (g.2.1 0, 144, .inl y5_namesOn)), (a6, .inl (g.2.1 1, 144, .inl y6_land)), (a7, .inl (g.2.1 0, 144, .inl y7_riverOf)), (a8, .inl (g.2.1 0, 8, .inl y8_direction)), (a9, .inl (g.2.1 0, 8, .inl y9_home)), (a10, .inl (g.2.1 0, 8, .inl y10_length)), (a11, .inl (g.2.1 0, 64, .inl y11_letters))]
noncomputable def f_X5_readHarbour (x0_length : Int32) (x0_at : Int32) (x0_wordStart : Int32) (x0_wordLength : Int32) (x0_numberStart : Int32) (x0_number : Int32) (x0_cell : Int32) (x0_error : Int32) (x0_errorAt : Int32) (y2_text : Nat → Int32) (x3_rows : Int32) (x3_columns : Int32) (x4_count : Int32) (x4_reds : Int32) (y5_namesOn : Nat → Int32) (y6_land : Nat → Int32) (y7_riverOf : Nat → Int32) (y8_direction : Nat → Int32) (y9_home : Nat → Int32) (y10_length : Nat → Int32) (y11_letters : Nat → Int32)  : Option (Int32 × Int32 × Int32 × Int32 × Int32 × Int32 × Int32 × Int32 × Int32 × Int32 × Int32 × (Nat → Int32) × (Nat → Int32) × (Nat → Int32) × (Nat → Int32)) :=
  (if x4_count < 8 then (
    bd6 (f_X5_takeName x0_length x0_at x0_wordStart x0_wordLength x0_error x0_errorAt y2_text) fun (r26 : Int32) (x0_at_1 : Int32) (x0_wordStart_1 : Int32) (x0_wordLength_1 : Int32) (x0_error_1 : Int32) (x0_errorAt_1 : Int32) =>
    (if r26 = 0 then (
      some (0, x0_at_1, x0_wordStart_1, x0_wordLength_1, x0_numberStart, x0_number, x0_cell, x0_error_1, x0_errorAt_1, x4_count, x4_reds, y8_direction, y9_home, y10_length, y11_letters)
    ) else (
      bd1 (f_X5_namedHarbour x0_length x0_wordStart_1 x0_wordLength_1 y2_text x4_count y10_length y11_letters) fun (r35 : Int32) =>
      (if r35 = (-1) then (
        bd7 (f_X5_takeCell x0_length x0_at_1 x0_numberStart x0_number x0_cell x0_error_1 x0_errorAt_1 y2_text x3_rows x3_columns) fun (r63 : Int32) (x0_at_2 : Int32) (x0_numberStart_1 : Int32) (x0_number_1 : Int32) (x0_cell_1 : Int32) (x0_error_2 : Int32) (x0_errorAt_2 : Int32) =>
        (if r63 = 0 then (
          some (0, x0_at_2, x0_wordStart_1, x0_wordLength_1, x0_numberStart_1, x0_number_1, x0_cell_1, x0_error_2, x0_errorAt_2, x4_count, x4_reds, y8_direction, y9_home, y10_length, y11_letters)
        ) else (
          bd1 (f_X6_isOpen x4_count y6_land y7_riverOf y9_home x0_cell_1) fun (r79 : Int32) =>
          bv (fun (_ : Unit) => ((
            bd3 (f_X5_fail x0_error_2 x0_errorAt_2 3 x0_numberStart_1) fun (r123 : Int32) (x0_error_3 : Int32) (x0_errorAt_3 : Int32) =>
            zb r123 (some (r123, x0_at_2, x0_wordStart_1, x0_wordLength_1, x0_numberStart_1, x0_number_1, x0_cell_1, x0_error_3, x0_errorAt_3, x4_count, x4_reds, y8_direction, y9_home, y10_length, y11_letters))
            ) : Option (Int32 × Int32 × Int32 × Int32 × Int32 × Int32 × Int32 × Int32 × Int32 × Int32 × Int32 × (Nat → Int32) × (Nat → Int32) × (Nat → Int32) × (Nat → Int32)))) fun j117 =>
          (if r79 = 0 then (
            j117 ()
          ) else (
            bd1 (f_X6_namesIn y5_namesOn x0_cell_1) fun (r93 : Int32) =>
            (if r93 = 0 then (
              bd1 (f_X1_hasSeaBeside x3_rows x3_columns y6_land x0_cell_1 (-1)) fun (r111 : Int32) =>
              (if r111 = 0 then (
                j117 ()
              ) else (
                bd5 (f_X2_addHarbour x4_count y8_direction y9_home y10_length y11_letters y2_text x0_cell_1 x0_wordStart_1 x0_wordLength_1) fun (x4_count_1 : Int32) (y8_direction_1 : Nat → Int32) (y9_home_1 : Nat → Int32) (y10_length_1 : Nat → Int32) (y11_letters_1 : Nat → Int32) =>
                bd7 (f_X5_readRed x0_length x0_at_2 x0_wordStart_1 x0_wordLength_1 x0_error_2 x0_errorAt_2 y2_text x4_reds (x4_count_1 - 1)) fun (r160 : Int32) (x0_at_3 : Int32) (x0_wordStart_2 : Int32) (x0_wordLength_2 : Int32) (x0_error_4 : Int32) (x0_errorAt_4 : Int32) (x4_reds_1 : Int32) =>
                zb r160 (some (r160, x0_at_3, x0_wordStart_2, x0_wordLength_2, x0_numberStart_1, x0_number_1, x0_cell_1, x0_error_4, x0_errorAt_4, x4_count_1, x4_reds_1, y8_direction_1, y9_home_1, y10_length_1, y11_letters_1))
              ))
            ) else (
              j117 ()
            ))
          ))
        ))
      ) else (
        bd3 (f_X5_fail x0_error_1 x0_errorAt_1 3 x0_wordStart_1) fun (r48 : Int32) (x0_error_5 : Int32) (x0_errorAt_5 : Int32) =>
        zb r48 (some (r48, x0_at_1, x0_wordStart_1, x0_wordLength_1, x0_numberStart, x0_number, x0_cell, x0_error_5, x0_errorAt_5, x4_count, x4_reds, y8_direction, y9_home, y10_length, y11_letters))
      ))
    ))
  ) else (
    bd3 (f_X5_fail x0_error x0_errorAt 3 x0_wordStart) fun (r21 : Int32) (x0_error_6 : Int32) (x0_errorAt_6 : Int32) =>
    zb r21 (some (r21, x0_at, x0_wordStart, x0_wordLength, x0_numberStart, x0_number, x0_cell, x0_error_6, x0_errorAt_6, x4_count, x4_reds, y8_direction, y9_home, y10_length, y11_letters))
  ))
set_option maxRecDepth 4000 in
theorem c_X5_readHarbour (l : Launch) (g : GE) (a0 a1 a2 a3 a4 a5 a6 a7 a8 a9 a10 a11 : Nat) (sz : Nat) (u0_1 u0_5 u0_11 u1_2 u1_4 u3_2 u3_5 : Value) (x0_length : Int32) (x0_at : Int32) (x0_wordStart : Int32) (x0_wordLength : Int32) (x0_numberStart : Int32) (x0_number : Int32) (x0_cell : Int32) (x0_error : Int32) (x0_errorAt : Int32) (y2_text : Nat → Int32) (x3_rows : Int32) (x3_columns : Int32) (x4_count : Int32) (x4_reds : Int32) (y5_namesOn : Nat → Int32) (y6_land : Nat → Int32) (y7_riverOf : Nat → Int32) (y8_direction : Nat → Int32) (y9_home : Nat → Int32) (y10_length : Nat → Int32) (y11_letters : Nat → Int32)   (r : Int32) (o_x0_at : Int32) (o_x0_wordStart : Int32) (o_x0_wordLength : Int32) (o_x0_numberStart : Int32) (o_x0_number : Int32) (o_x0_cell : Int32) (o_x0_error : Int32) (o_x0_errorAt : Int32) (o_x4_count : Int32) (o_x4_reds : Int32) (o_y8_direction : Nat → Int32) (o_y9_home : Nat → Int32) (o_y10_length : Nat → Int32) (o_y11_letters : Nat → Int32) (hf : f_X5_readHarbour x0_length x0_at x0_wordStart x0_wordLength x0_numberStart x0_number x0_cell x0_error x0_errorAt y2_text x3_rows x3_columns x4_count x4_reds y5_namesOn y6_land y7_riverOf y8_direction y9_home y10_length y11_letters = some (r, o_x0_at, o_x0_wordStart, o_x0_wordLength, o_x0_numberStart, o_x0_number, o_x0_cell, o_x0_error, o_x0_errorAt, o_x4_count, o_x4_reds, o_y8_direction, o_y9_home, o_y10_length, o_y11_letters)) : MI l g yX5_readHarbour wsX5_readHarbour 7 154 [.ref a0] (w_X5_readHarbour g a0 a1 a2 a3 a4 a5 a6 a7 a8 a9 a10 a11 u0_1 u0_5 u0_11 u1_2 u1_4 u3_2 u3_5 x0_length x0_at x0_wordStart x0_wordLength x0_numberStart x0_number x0_cell x0_error x0_errorAt y2_text x3_rows x3_columns x4_count x4_reds y5_namesOn y6_land y7_riverOf y8_direction y9_home y10_length y11_letters) sz (some (.int r)) (w_X5_readHarbour g a0 a1 a2 a3 a4 a5 a6 a7 a8 a9 a10 a11 u0_1 u0_5 u0_11 u1_2 u1_4 u3_2 u3_5 x0_length o_x0_at o_x0_wordStart o_x0_wordLength o_x0_numberStart o_x0_number o_x0_cell o_x0_error o_x0_errorAt y2_text x3_rows x3_columns o_x4_count o_x4_reds y5_namesOn y6_land y7_riverOf o_y8_direction o_y9_home o_y10_length o_y11_letters) := by
  refine MI.start (cc := cX5_readHarbour) (maxL := 3) (ret := (some .boolean)) rfl rfl (nle rfl) ?_
  intro p e s m args below meth c A ls Q hQ hexec hb hr hts hown hlocks hml hA hP hD hG hS hl
  unfold f_X5_readHarbour at hf
  have hWX1 : ∀ w ∈ wsX10, w.before args s = true := fun w h => hts w (List.mem_cons_of_mem _ (List.mem_append_right _ h))
  have hWX2 : ∀ w ∈ wsX20, w.before args s = true := fun w h => hts w (List.mem_cons_of_mem _ (List.mem_append_left _ (List.mem_append_right _ h)))
  have hWX5 : ∀ w ∈ wsX50, w.before args s = true := fun w h => hts w (List.mem_cons_of_mem _ (List.mem_append_left _ (List.mem_append_left _ (List.mem_append_left _ (List.mem_append_right _ h)))))
  have hWX6 : ∀ w ∈ wsX60, w.before args s = true := fun w h => hts w (List.mem_cons_of_mem _ (List.mem_append_left _ (List.mem_append_left _ (List.mem_append_right _ h))))
  have hS : va_S A s.heap s.heap [] := hS
  refine lv_aload_n (pc := 0) hexec hb dX5_readHarbour_0 rfl (lv_at hl 0 rfl) ?_
  refine kg_get (pc := 1) hexec hb (own := RX5) hWX5 hown hG hP 0 rfl rfl 0 (nle rfl) (hts _ (List.mem_cons_of_mem _ (List.mem_append_left _ (List.mem_append_left _ (List.mem_append_left _ (List.mem_append_left _ (List.mem_append_left _ (List.mem_of_getElem? (i := 0) rfl)))))))) rfl rfl dX5_readHarbour_1 ?_
  refine kg_getN (pc := 4) hexec hb (own := RX5) hWX6 hown hG hP 1 rfl rfl 1 (nle rfl) 26 rfl rfl rfl dX5_readHarbour_4 ?_
  refine kg_getN (pc := 7) hexec hb (own := RX5) hWX2 hown hG hP 4 rfl rfl 0 (nle rfl) 9 rfl rfl rfl dX5_readHarbour_7 ?_
  refine lv_bipush (pc := 10) hexec hb dX5_readHarbour_10 kb_8 ?_
  refine ki_lt (pc := 12) hexec hb dX5_readHarbour_12 (tgt := 25) rfl hf (fun hc hf => ?_) (fun hc hf => ?_)
  · refine lv_aload_n (pc := 25) hexec hb dX5_readHarbour_25 rfl (lv_at hl 0 rfl) ?_
    obtain ⟨r26, x0_at_1, x0_wordStart_1, x0_wordLength_1, x0_error_1, x0_errorAt_1, hc, hf⟩ := bd6_e hf
    refine kVp (pc := 26) (S := ⟨hexec, hb, hml, hown, hts⟩) hP hD hG hA hS [0, 2] [1, 3, 4, 5, 6, 7, 8, 9, 10, 11] [10, 0, 11, 1, 2, 3, 4, 5, 6, 7, 8, 9] (w2 := (w_X5_readHarbour g a0 a1 a2 a3 a4 a5 a6 a7 a8 a9 a10 a11 u0_1 u0_5 u0_11 u1_2 u1_4 u3_2 u3_5 x0_length x0_at_1 x0_wordStart_1 x0_wordLength_1 x0_numberStart x0_number x0_cell x0_error_1 x0_errorAt_1 y2_text x3_rows x3_columns x4_count x4_reds y5_namesOn y6_land y7_riverOf y8_direction y9_home y10_length y11_letters)) rfl rfl rfl rfl rfl rfl (by decide) (c_X5_takeName l g a0 a2 _ (.ref a1) u0_1 u0_5 (.int x0_numberStart) (.int x0_number) (.int x0_cell) u0_11 x0_length x0_at x0_wordStart x0_wordLength x0_error x0_errorAt y2_text r26 x0_at_1 x0_wordStart_1 x0_wordLength_1 x0_error_1 x0_errorAt_1 hc) gX5_readHarbour_X5_takeName rfl hv_X5_takeName ⟨nle rfl, nle rfl⟩ 5 0 rfl rfl rfl (rest := []) rfl rfl hl.1 (nle rfl) dX5_readHarbour_26 (fun H locs hP hD hS => ?_)
    refine kb_ne (pc := 29) hexec hb dX5_readHarbour_29 (tgt := 34) rfl hf (fun hc hf => ?_) (fun hc hf => ?_)
    · refine lv_aload_n (pc := 34) hexec hb dX5_readHarbour_34 rfl (lv_at hl 0 rfl) ?_
      obtain ⟨r35, hc, hf⟩ := bd1_e hf
      refine kVp (pc := 35) (S := ⟨hexec, hb, hml, hown, hts⟩) hP hD hG hA hS [0, 1, 2, 4, 10, 11] [3, 5, 6, 7, 8, 9] [6, 7, 8, 0, 9, 1, 2, 3, 4, 5, 10, 11] (w2 := (w_X5_readHarbour g a0 a1 a2 a3 a4 a5 a6 a7 a8 a9 a10 a11 u0_1 u0_5 u0_11 u1_2 u1_4 u3_2 u3_5 x0_length x0_at_1 x0_wordStart_1 x0_wordLength_1 x0_numberStart x0_number x0_cell x0_error_1 x0_errorAt_1 y2_text x3_rows x3_columns x4_count x4_reds y5_namesOn y6_land y7_riverOf y8_direction y9_home y10_length y11_letters)) rfl rfl rfl rfl rfl rfl (by decide) (c_X5_namedHarbour l g a0 a1 a2 a4 a10 a11 _ u0_1 (.int x0_at_1) u0_5 (.int x0_numberStart) (.int x0_number) (.int x0_cell) u0_11 (.int x0_error_1) (.int x0_errorAt_1) (.ref a3) u1_2 (.ref a5) u1_4 (.int x4_reds) (.ref a9) (.ref a8) x0_length x0_wordStart_1 x0_wordLength_1 y2_text x4_count y10_length y11_letters r35 hc) gX5_readHarbour_X5_namedHarbour rfl hv_X5_namedHarbour ⟨nle rfl, nle rfl⟩ 5 0 rfl rfl rfl (rest := []) rfl rfl hl.1 (nle rfl) dX5_readHarbour_35 (fun H locs hP hD hS => ?_)
      refine lv_iconst (pc := 38) hexec hb dX5_readHarbour_38 ki_m1 ?_
      refine ki_eq (pc := 39) hexec hb dX5_readHarbour_39 (tgt := 52) rfl hf (fun hc hf => ?_) (fun hc hf => ?_)
      · refine lv_aload_n (pc := 52) hexec hb dX5_readHarbour_52 rfl (lv_at hl 0 rfl) ?_
        refine kg_get (pc := 53) hexec hb (own := RX5) hWX5 hown hG hP 0 rfl rfl 6 (nle rfl) (hts _ (List.mem_cons_of_mem _ (List.mem_append_left _ (List.mem_append_left _ (List.mem_append_left _ (List.mem_append_left _ (List.mem_append_left _ (List.mem_of_getElem? (i := 1) rfl)))))))) rfl rfl dX5_readHarbour_53 ?_
        refine lv_istore_n (pc := 56) hexec hb dX5_readHarbour_56 rfl hl (nle rfl) rfl (fun ls (hl : lv_has ls 3 [(1, .int x0_wordStart_1), (0, .ref a0)]) => ?_)
        refine lv_aload_n (pc := 57) hexec hb dX5_readHarbour_57 rfl (lv_at hl 1 rfl) ?_
        refine kg_get (pc := 58) hexec hb (own := RX5) hWX5 hown hG hP 0 rfl rfl 7 (nle rfl) (hts _ (List.mem_cons_of_mem _ (List.mem_append_left _ (List.mem_append_left _ (List.mem_append_left _ (List.mem_append_left _ (List.mem_append_left _ (List.mem_of_getElem? (i := 2) rfl)))))))) rfl rfl dX5_readHarbour_58 ?_
        refine lv_istore_n (pc := 61) hexec hb dX5_readHarbour_61 rfl hl (nle rfl) rfl (fun ls (hl : lv_has ls 3 [(2, .int x0_wordLength_1), (1, .int x0_wordStart_1), (0, .ref a0)]) => ?_)
        refine lv_aload_n (pc := 62) hexec hb dX5_readHarbour_62 rfl (lv_at hl 2 rfl) ?_
        obtain ⟨r63, x0_at_2, x0_numberStart_1, x0_number_1, x0_cell_1, x0_error_2, x0_errorAt_2, hc, hf⟩ := bd7_e hf
        refine kVp (pc := 63) (S := ⟨hexec, hb, hml, hown, hts⟩) hP hD hG hA hS [0, 1, 2, 3] [4, 5, 6, 7, 8, 9, 10, 11] [8, 9, 10, 11, 0, 1, 2, 3, 4, 5, 6, 7] (w2 := (w_X5_readHarbour g a0 a1 a2 a3 a4 a5 a6 a7 a8 a9 a10 a11 u0_1 u0_5 u0_11 u1_2 u1_4 u3_2 u3_5 x0_length x0_at_2 x0_wordStart_1 x0_wordLength_1 x0_numberStart_1 x0_number_1 x0_cell_1 x0_error_2 x0_errorAt_2 y2_text x3_rows x3_columns x4_count x4_reds y5_namesOn y6_land y7_riverOf y8_direction y9_home y10_length y11_letters)) rfl rfl rfl rfl rfl rfl (by decide) (c_X5_takeCell l g a0 a1 a2 a3 _ u0_1 u0_5 (.int x0_wordStart_1) (.int x0_wordLength_1) u0_11 (.ref a4) u1_2 (.ref a5) u1_4 u3_2 (.ref a6) (.ref a7) u3_5 x0_length x0_at_1 x0_numberStart x0_number x0_cell x0_error_1 x0_errorAt_1 y2_text x3_rows x3_columns r63 x0_at_2 x0_numberStart_1 x0_number_1 x0_cell_1 x0_error_2 x0_errorAt_2 hc) gX5_readHarbour_X5_takeCell rfl hv_X5_takeCell ⟨nle rfl, nle rfl⟩ 5 0 rfl rfl rfl (rest := []) rfl rfl hl.1 (nle rfl) dX5_readHarbour_63 (fun H locs hP hD hS => ?_)
        refine kb_ne (pc := 66) hexec hb dX5_readHarbour_66 (tgt := 71) rfl hf (fun hc hf => ?_) (fun hc hf => ?_)
        · refine lv_aload_n (pc := 71) hexec hb dX5_readHarbour_71 rfl (lv_at hl 2 rfl) ?_
          refine kg_get (pc := 72) hexec hb (own := RX5) hWX5 hown hG hP 0 rfl rfl 0 (nle rfl) (hts _ (List.mem_cons_of_mem _ (List.mem_append_left _ (List.mem_append_left _ (List.mem_append_left _ (List.mem_append_left _ (List.mem_append_left _ (List.mem_of_getElem? (i := 0) rfl)))))))) rfl rfl dX5_readHarbour_72 ?_
          refine lv_aload_n (pc := 75) hexec hb dX5_readHarbour_75 rfl (lv_at hl 2 rfl) ?_
          refine kg_get (pc := 76) hexec hb (own := RX5) hWX5 hown hG hP 0 rfl rfl 10 (nle rfl) (hts _ (List.mem_cons_of_mem _ (List.mem_append_left _ (List.mem_append_left _ (List.mem_append_left _ (List.mem_append_left _ (List.mem_append_left _ (List.mem_of_getElem? (i := 3) rfl)))))))) rfl rfl dX5_readHarbour_76 ?_
          obtain ⟨r79, hc, hf⟩ := bd1_e hf
          refine kVp (pc := 79) (S := ⟨hexec, hb, hml, hown, hts⟩) hP hD hG hA hS [1, 3, 4, 6, 7, 9] [0, 2, 5, 8, 10, 11] [0, 6, 1, 7, 8, 2, 9, 10, 3, 11, 4, 5] (w2 := (w_X5_readHarbour g a0 a1 a2 a3 a4 a5 a6 a7 a8 a9 a10 a11 u0_1 u0_5 u0_11 u1_2 u1_4 u3_2 u3_5 x0_length x0_at_2 x0_wordStart_1 x0_wordLength_1 x0_numberStart_1 x0_number_1 x0_cell_1 x0_error_2 x0_errorAt_2 y2_text x3_rows x3_columns x4_count x4_reds y5_namesOn y6_land y7_riverOf y8_direction y9_home y10_length y11_letters)) rfl rfl rfl rfl rfl rfl (by decide) (c_X6_isOpen l g a1 a3 a4 a6 a7 a9 _ u1_2 (.ref a5) u1_4 (.int x3_rows) (.int x3_columns) u3_2 u3_5 (.int x4_reds) (.ref a8) (.ref a10) (.ref a11) x4_count y6_land y7_riverOf y9_home x0_cell_1 r79 hc) gX5_readHarbour_X6_isOpen rfl hv_X6_isOpen ⟨nle rfl, nle rfl⟩ 6 0 rfl rfl rfl (rest := []) rfl rfl hl.1 (nle rfl) dX5_readHarbour_79 (fun H locs hP hD hS => ?_)
          obtain ⟨j117, ej117, hf⟩ := bvf1 hf
          have hj117 : ∀ (u : Unit) (H : Heap) (locs : List Loc) (ls : Array Slot), j117 u = some (r, o_x0_at, o_x0_wordStart, o_x0_wordLength, o_x0_numberStart, o_x0_number, o_x0_cell, o_x0_error, o_x0_errorAt, o_x4_count, o_x4_reds, o_y8_direction, o_y9_home, o_y10_length, o_y11_letters) → va_P g.1 vwCl (w_X5_readHarbour g a0 a1 a2 a3 a4 a5 a6 a7 a8 a9 a10 a11 u0_1 u0_5 u0_11 u1_2 u1_4 u3_2 u3_5 x0_length x0_at_2 x0_wordStart_1 x0_wordLength_1 x0_numberStart_1 x0_number_1 x0_cell_1 x0_error_2 x0_errorAt_2 y2_text x3_rows x3_columns x4_count x4_reds y5_namesOn y6_land y7_riverOf y8_direction y9_home y10_length y11_letters) H → va_D A (w_X5_readHarbour g a0 a1 a2 a3 a4 a5 a6 a7 a8 a9 a10 a11 u0_1 u0_5 u0_11 u1_2 u1_4 u3_2 u3_5 x0_length x0_at_2 x0_wordStart_1 x0_wordLength_1 x0_numberStart_1 x0_number_1 x0_cell_1 x0_error_2 x0_errorAt_2 y2_text x3_rows x3_columns x4_count x4_reds y5_namesOn y6_land y7_riverOf y8_direction y9_home y10_length y11_letters) → va_S A s.heap H locs → lv_has ls 3 [(0, .ref a0)] → W p l e (RM 7 154) s m args below meth c H locs 0 0 Q (F0 m 117 ls []) := by
            intro u H locs ls hf hP hD hS hl
            have hf := (ej117 u).symm.trans hf
            refine lv_aload_n (pc := 117) hexec hb dX5_readHarbour_117 rfl (lv_at hl 0 rfl) ?_
            refine lv_iconst (pc := 118) hexec hb dX5_readHarbour_118 ki_3 ?_
            refine lv_aload_n (pc := 119) hexec hb dX5_readHarbour_119 rfl (lv_at hl 0 rfl) ?_
            refine kg_get (pc := 120) hexec hb (own := RX5) hWX5 hown hG hP 0 rfl rfl 8 (nle rfl) (hts _ (List.mem_cons_of_mem _ (List.mem_append_left _ (List.mem_append_left _ (List.mem_append_left _ (List.mem_append_left _ (List.mem_append_left _ (List.mem_of_getElem? (i := 4) rfl)))))))) rfl rfl dX5_readHarbour_120 ?_
            obtain ⟨r123, x0_error_3, x0_errorAt_3, hc, hf⟩ := bd3_e hf
            refine kVp (pc := 123) (S := ⟨hexec, hb, hml, hown, hts⟩) hP hD hG hA hS [0] [1, 2, 3, 4, 5, 6, 7, 8, 9, 10, 11] [11, 0, 1, 2, 3, 4, 5, 6, 7, 8, 9, 10] (w2 := (w_X5_readHarbour g a0 a1 a2 a3 a4 a5 a6 a7 a8 a9 a10 a11 u0_1 u0_5 u0_11 u1_2 u1_4 u3_2 u3_5 x0_length x0_at_2 x0_wordStart_1 x0_wordLength_1 x0_numberStart_1 x0_number_1 x0_cell_1 x0_error_3 x0_errorAt_3 y2_text x3_rows x3_columns x4_count x4_reds y5_namesOn y6_land y7_riverOf y8_direction y9_home y10_length y11_letters)) rfl rfl rfl rfl rfl rfl (by decide) (c_X5_fail l g a0 _ (.ref a1) u0_1 (.ref a2) (.int x0_length) (.int x0_at_2) u0_5 (.int x0_wordStart_1) (.int x0_wordLength_1) (.int x0_numberStart_1) (.int x0_number_1) (.int x0_cell_1) u0_11 x0_error_2 x0_errorAt_2 3 x0_numberStart_1 r123 x0_error_3 x0_errorAt_3 hc) gX5_readHarbour_X5_fail rfl hv_X5_fail ⟨nle rfl, nle rfl⟩ 5 0 rfl rfl rfl (rest := []) rfl rfl hl.1 (nle rfl) dX5_readHarbour_123 (fun H locs hP hD hS => ?_)
            obtain ⟨hx, hf⟩ := zb_e hf
            cases hf
            exact ke_z hQ hexec hb hr hx hP hD hS dX5_readHarbour_126 hlocks
          refine kb_eq (pc := 82) hexec hb dX5_readHarbour_82 (tgt := 117) rfl hf (fun hc hf => ?_) (fun hc hf => ?_)
          · exact hj117 _ _ _ _ hf hP hD hS (lv_sub hl [2] rfl)
          · refine lv_aload_n (pc := 85) hexec hb dX5_readHarbour_85 rfl (lv_at hl 2 rfl) ?_
            refine kg_get (pc := 86) hexec hb (own := RX5) hWX5 hown hG hP 0 rfl rfl 0 (nle rfl) (hts _ (List.mem_cons_of_mem _ (List.mem_append_left _ (List.mem_append_left _ (List.mem_append_left _ (List.mem_append_left _ (List.mem_append_left _ (List.mem_of_getElem? (i := 0) rfl)))))))) rfl rfl dX5_readHarbour_86 ?_
            refine lv_aload_n (pc := 89) hexec hb dX5_readHarbour_89 rfl (lv_at hl 2 rfl) ?_
            refine kg_get (pc := 90) hexec hb (own := RX5) hWX5 hown hG hP 0 rfl rfl 10 (nle rfl) (hts _ (List.mem_cons_of_mem _ (List.mem_append_left _ (List.mem_append_left _ (List.mem_append_left _ (List.mem_append_left _ (List.mem_append_left _ (List.mem_of_getElem? (i := 3) rfl)))))))) rfl rfl dX5_readHarbour_90 ?_
            obtain ⟨r93, hc, hf⟩ := bd1_e hf
            refine kVp (pc := 93) (S := ⟨hexec, hb, hml, hown, hts⟩) hP hD hG hA hS [1, 5] [0, 2, 3, 4, 6, 7, 8, 9, 10, 11] [0, 10, 1, 2, 3, 11, 4, 5, 6, 7, 8, 9] (w2 := (w_X5_readHarbour g a0 a1 a2 a3 a4 a5 a6 a7 a8 a9 a10 a11 u0_1 u0_5 u0_11 u1_2 u1_4 u3_2 u3_5 x0_length x0_at_2 x0_wordStart_1 x0_wordLength_1 x0_numberStart_1 x0_number_1 x0_cell_1 x0_error_2 x0_errorAt_2 y2_text x3_rows x3_columns x4_count x4_reds y5_namesOn y6_land y7_riverOf y8_direction y9_home y10_length y11_letters)) rfl rfl rfl rfl rfl rfl (by decide) (c_X6_namesIn l g a1 a5 _ (.ref a3) (.ref a4) u1_2 u1_4 y5_namesOn x0_cell_1 r93 hc) gX5_readHarbour_X6_namesIn rfl hv_X6_namesIn ⟨nle rfl, nle rfl⟩ 6 0 rfl rfl rfl (rest := []) rfl rfl hl.1 (nle rfl) dX5_readHarbour_93 (fun H locs hP hD hS => ?_)
            refine kb_ne (pc := 96) hexec hb dX5_readHarbour_96 (tgt := 117) rfl hf (fun hc hf => ?_) (fun hc hf => ?_)
            · exact hj117 _ _ _ _ hf hP hD hS (lv_sub hl [2] rfl)
            · refine lv_aload_n (pc := 99) hexec hb dX5_readHarbour_99 rfl (lv_at hl 2 rfl) ?_
              refine kg_get (pc := 100) hexec hb (own := RX5) hWX5 hown hG hP 0 rfl rfl 0 (nle rfl) (hts _ (List.mem_cons_of_mem _ (List.mem_append_left _ (List.mem_append_left _ (List.mem_append_left _ (List.mem_append_left _ (List.mem_append_left _ (List.mem_of_getElem? (i := 0) rfl)))))))) rfl rfl dX5_readHarbour_100 ?_
              refine kg_getN (pc := 103) hexec hb (own := RX5) hWX6 hown hG hP 1 rfl rfl 0 (nle rfl) 23 rfl rfl rfl dX5_readHarbour_103 ?_
              refine lv_aload_n (pc := 106) hexec hb dX5_readHarbour_106 rfl (lv_at hl 2 rfl) ?_
              refine kg_get (pc := 107) hexec hb (own := RX5) hWX5 hown hG hP 0 rfl rfl 10 (nle rfl) (hts _ (List.mem_cons_of_mem _ (List.mem_append_left _ (List.mem_append_left _ (List.mem_append_left _ (List.mem_append_left _ (List.mem_append_left _ (List.mem_of_getElem? (i := 3) rfl)))))))) rfl rfl dX5_readHarbour_107 ?_
              refine lv_iconst (pc := 110) hexec hb dX5_readHarbour_110 ki_m1 ?_
              obtain ⟨r111, hc, hf⟩ := bd1_e hf
              refine kVp (pc := 111) (S := ⟨hexec, hb, hml, hown, hts⟩) hP hD hG hA hS [3, 6] [0, 1, 2, 4, 5, 7, 8, 9, 10, 11] [0, 1, 2, 10, 3, 4, 11, 5, 6, 7, 8, 9] (w2 := (w_X5_readHarbour g a0 a1 a2 a3 a4 a5 a6 a7 a8 a9 a10 a11 u0_1 u0_5 u0_11 u1_2 u1_4 u3_2 u3_5 x0_length x0_at_2 x0_wordStart_1 x0_wordLength_1 x0_numberStart_1 x0_number_1 x0_cell_1 x0_error_2 x0_errorAt_2 y2_text x3_rows x3_columns x4_count x4_reds y5_namesOn y6_land y7_riverOf y8_direction y9_home y10_length y11_letters)) rfl rfl rfl rfl rfl rfl (by decide) (c_X1_hasSeaBeside l g a3 a6 _ u3_2 (.ref a7) u3_5 x3_rows x3_columns y6_land x0_cell_1 (-1) r111 hc) gX5_readHarbour_X1_hasSeaBeside rfl hv_X1_hasSeaBeside ⟨nle rfl, nle rfl⟩ 1 0 rfl rfl rfl (rest := []) rfl rfl hl.1 (nle rfl) dX5_readHarbour_111 (fun H locs hP hD hS => ?_)
              refine kb_ne (pc := 114) hexec hb dX5_readHarbour_114 (tgt := 127) rfl hf (fun hc hf => ?_) (fun hc hf => ?_)
              · refine lv_aload_n (pc := 127) hexec hb dX5_readHarbour_127 rfl (lv_at hl 2 rfl) ?_
                refine kg_get (pc := 128) hexec hb (own := RX5) hWX5 hown hG hP 0 rfl rfl 0 (nle rfl) (hts _ (List.mem_cons_of_mem _ (List.mem_append_left _ (List.mem_append_left _ (List.mem_append_left _ (List.mem_append_left _ (List.mem_append_left _ (List.mem_of_getElem? (i := 0) rfl)))))))) rfl rfl dX5_readHarbour_128 ?_
                refine kg_getN (pc := 131) hexec hb (own := RX5) hWX6 hown hG hP 1 rfl rfl 1 (nle rfl) 26 rfl rfl rfl dX5_readHarbour_131 ?_
                refine lv_aload_n (pc := 134) hexec hb dX5_readHarbour_134 rfl (lv_at hl 2 rfl) ?_
                refine kg_get (pc := 135) hexec hb (own := RX5) hWX5 hown hG hP 0 rfl rfl 10 (nle rfl) (hts _ (List.mem_cons_of_mem _ (List.mem_append_left _ (List.mem_append_left _ (List.mem_append_left _ (List.mem_append_left _ (List.mem_append_left _ (List.mem_of_getElem? (i := 3) rfl)))))))) rfl rfl dX5_readHarbour_135 ?_
                refine lv_aload_n (pc := 138) hexec hb dX5_readHarbour_138 rfl (lv_at hl 2 rfl) ?_
                refine kg_get (pc := 139) hexec hb (own := RX5) hWX5 hown hG hP 0 rfl rfl 2 (nle rfl) (hts _ (List.mem_cons_of_mem _ (List.mem_append_left _ (List.mem_append_left _ (List.mem_append_left _ (List.mem_append_left _ (List.mem_append_left _ (List.mem_of_getElem? (i := 5) rfl)))))))) rfl rfl dX5_readHarbour_139 ?_
                refine lv_iload_n (pc := 142) hexec hb dX5_readHarbour_142 rfl (lv_at hl 1 rfl) ?_
                refine lv_iload_n (pc := 143) hexec hb dX5_readHarbour_143 rfl (lv_at hl 0 rfl) ?_
                obtain ⟨x4_count_1, y8_direction_1, y9_home_1, y10_length_1, y11_letters_1, hc, hf⟩ := bd5_e hf
                refine kVp (pc := 144) (S := ⟨hexec, hb, hml, hown, hts⟩) hP hD hG hA hS [4, 8, 9, 10, 11, 2] [0, 1, 3, 5, 6, 7] [0, 1, 11, 2, 6, 3, 4, 5, 7, 8, 9, 10] (w2 := (w_X5_readHarbour g a0 a1 a2 a3 a4 a5 a6 a7 a8 a9 a10 a11 u0_1 u0_5 u0_11 u1_2 u1_4 u3_2 u3_5 x0_length x0_at_2 x0_wordStart_1 x0_wordLength_1 x0_numberStart_1 x0_number_1 x0_cell_1 x0_error_2 x0_errorAt_2 y2_text x3_rows x3_columns x4_count_1 x4_reds y5_namesOn y6_land y7_riverOf y8_direction_1 y9_home_1 y10_length_1 y11_letters_1)) rfl rfl rfl rfl rfl rfl (by decide) (c_X2_addHarbour l g a4 a8 a9 a10 a11 a2 _ (.int x4_reds) x4_count y8_direction y9_home y10_length y11_letters y2_text x0_cell_1 x0_wordStart_1 x0_wordLength_1 x4_count_1 y8_direction_1 y9_home_1 y10_length_1 y11_letters_1 hc) gX5_readHarbour_X2_addHarbour rfl hv_X2_addHarbour ⟨nle rfl, nle rfl⟩ 2 0 rfl rfl rfl (rest := []) rfl rfl hl.1 (nle rfl) dX5_readHarbour_144 (fun H locs hP hD hS => ?_)
                refine lv_aload_n (pc := 147) hexec hb dX5_readHarbour_147 rfl (lv_at hl 2 rfl) ?_
                refine lv_aload_n (pc := 148) hexec hb dX5_readHarbour_148 rfl (lv_at hl 2 rfl) ?_
                refine kg_get (pc := 149) hexec hb (own := RX5) hWX5 hown hG hP 0 rfl rfl 0 (nle rfl) (hts _ (List.mem_cons_of_mem _ (List.mem_append_left _ (List.mem_append_left _ (List.mem_append_left _ (List.mem_append_left _ (List.mem_append_left _ (List.mem_of_getElem? (i := 0) rfl)))))))) rfl rfl dX5_readHarbour_149 ?_
                refine kg_getN (pc := 152) hexec hb (own := RX5) hWX6 hown hG hP 1 rfl rfl 1 (nle rfl) 26 rfl rfl rfl dX5_readHarbour_152 ?_
                refine kg_getN (pc := 155) hexec hb (own := RX5) hWX2 hown hG hP 4 rfl rfl 0 (nle rfl) 9 rfl rfl rfl dX5_readHarbour_155 ?_
                refine lv_iconst (pc := 158) hexec hb dX5_readHarbour_158 ki_1 ?_
                refine lv_isub (pc := 159) hexec hb dX5_readHarbour_159 ?_
                obtain ⟨r160, x0_at_3, x0_wordStart_2, x0_wordLength_2, x0_error_4, x0_errorAt_4, x4_reds_1, hc, hf⟩ := bd7_e hf
                refine kVp (pc := 160) (S := ⟨hexec, hb, hml, hown, hts⟩) hP hD hG hA hS [0, 1, 2, 4] [3, 5, 6, 7, 8, 9, 10, 11] [8, 9, 10, 0, 11, 1, 2, 3, 4, 5, 6, 7] (w2 := (w_X5_readHarbour g a0 a1 a2 a3 a4 a5 a6 a7 a8 a9 a10 a11 u0_1 u0_5 u0_11 u1_2 u1_4 u3_2 u3_5 x0_length x0_at_3 x0_wordStart_2 x0_wordLength_2 x0_numberStart_1 x0_number_1 x0_cell_1 x0_error_4 x0_errorAt_4 y2_text x3_rows x3_columns x4_count_1 x4_reds_1 y5_namesOn y6_land y7_riverOf y8_direction_1 y9_home_1 y10_length_1 y11_letters_1)) rfl rfl rfl rfl rfl rfl (by decide) (c_X5_readRed l g a0 a1 a2 a4 _ u0_1 u0_5 (.int x0_numberStart_1) (.int x0_number_1) (.int x0_cell_1) u0_11 (.ref a3) u1_2 (.ref a5) u1_4 (.int x4_count_1) (.ref a9) (.ref a8) (.ref a10) (.ref a11) x0_length x0_at_2 x0_wordStart_1 x0_wordLength_1 x0_error_2 x0_errorAt_2 y2_text x4_reds (x4_count_1 - 1) r160 x0_at_3 x0_wordStart_2 x0_wordLength_2 x0_error_4 x0_errorAt_4 x4_reds_1 hc) gX5_readHarbour_X5_readRed rfl hv_X5_readRed ⟨nle rfl, nle rfl⟩ 5 0 rfl rfl rfl (rest := []) rfl rfl hl.1 (nle rfl) dX5_readHarbour_160 (fun H locs hP hD hS => ?_)
                obtain ⟨hx, hf⟩ := zb_e hf
                cases hf
                exact ke_z hQ hexec hb hr hx hP hD hS dX5_readHarbour_163 hlocks
              · exact hj117 _ _ _ _ hf hP hD hS (lv_sub hl [2] rfl)
        · refine lv_iconst (pc := 69) hexec hb dX5_readHarbour_69 ki_0 ?_
          cases hf
          exact ke_z hQ hexec hb hr (.inl rfl) hP hD hS dX5_readHarbour_70 hlocks
      · refine lv_aload_n (pc := 42) hexec hb dX5_readHarbour_42 rfl (lv_at hl 0 rfl) ?_
        refine lv_iconst (pc := 43) hexec hb dX5_readHarbour_43 ki_3 ?_
        refine lv_aload_n (pc := 44) hexec hb dX5_readHarbour_44 rfl (lv_at hl 0 rfl) ?_
        refine kg_get (pc := 45) hexec hb (own := RX5) hWX5 hown hG hP 0 rfl rfl 6 (nle rfl) (hts _ (List.mem_cons_of_mem _ (List.mem_append_left _ (List.mem_append_left _ (List.mem_append_left _ (List.mem_append_left _ (List.mem_append_left _ (List.mem_of_getElem? (i := 1) rfl)))))))) rfl rfl dX5_readHarbour_45 ?_
        obtain ⟨r48, x0_error_5, x0_errorAt_5, hc, hf⟩ := bd3_e hf
        refine kVp (pc := 48) (S := ⟨hexec, hb, hml, hown, hts⟩) hP hD hG hA hS [0] [1, 2, 3, 4, 5, 6, 7, 8, 9, 10, 11] [11, 0, 1, 2, 3, 4, 5, 6, 7, 8, 9, 10] (w2 := (w_X5_readHarbour g a0 a1 a2 a3 a4 a5 a6 a7 a8 a9 a10 a11 u0_1 u0_5 u0_11 u1_2 u1_4 u3_2 u3_5 x0_length x0_at_1 x0_wordStart_1 x0_wordLength_1 x0_numberStart x0_number x0_cell x0_error_5 x0_errorAt_5 y2_text x3_rows x3_columns x4_count x4_reds y5_namesOn y6_land y7_riverOf y8_direction y9_home y10_length y11_letters)) rfl rfl rfl rfl rfl rfl (by decide) (c_X5_fail l g a0 _ (.ref a1) u0_1 (.ref a2) (.int x0_length) (.int x0_at_1) u0_5 (.int x0_wordStart_1) (.int x0_wordLength_1) (.int x0_numberStart) (.int x0_number) (.int x0_cell) u0_11 x0_error_1 x0_errorAt_1 3 x0_wordStart_1 r48 x0_error_5 x0_errorAt_5 hc) gX5_readHarbour_X5_fail rfl hv_X5_fail ⟨nle rfl, nle rfl⟩ 5 0 rfl rfl rfl (rest := []) rfl rfl hl.1 (nle rfl) dX5_readHarbour_48 (fun H locs hP hD hS => ?_)
        obtain ⟨hx, hf⟩ := zb_e hf
        cases hf
        exact ke_z hQ hexec hb hr hx hP hD hS dX5_readHarbour_51 hlocks
    · refine lv_iconst (pc := 32) hexec hb dX5_readHarbour_32 ki_0 ?_
      cases hf
      exact ke_z hQ hexec hb hr (.inl rfl) hP hD hS dX5_readHarbour_33 hlocks
  · refine lv_aload_n (pc := 15) hexec hb dX5_readHarbour_15 rfl (lv_at hl 0 rfl) ?_
    refine lv_iconst (pc := 16) hexec hb dX5_readHarbour_16 ki_3 ?_
    refine lv_aload_n (pc := 17) hexec hb dX5_readHarbour_17 rfl (lv_at hl 0 rfl) ?_
    refine kg_get (pc := 18) hexec hb (own := RX5) hWX5 hown hG hP 0 rfl rfl 6 (nle rfl) (hts _ (List.mem_cons_of_mem _ (List.mem_append_left _ (List.mem_append_left _ (List.mem_append_left _ (List.mem_append_left _ (List.mem_append_left _ (List.mem_of_getElem? (i := 1) rfl)))))))) rfl rfl dX5_readHarbour_18 ?_
    obtain ⟨r21, x0_error_6, x0_errorAt_6, hc, hf⟩ := bd3_e hf
    refine kVp (pc := 21) (S := ⟨hexec, hb, hml, hown, hts⟩) hP hD hG hA hS [0] [1, 2, 3, 4, 5, 6, 7, 8, 9, 10, 11] [11, 0, 1, 2, 3, 4, 5, 6, 7, 8, 9, 10] (w2 := (w_X5_readHarbour g a0 a1 a2 a3 a4 a5 a6 a7 a8 a9 a10 a11 u0_1 u0_5 u0_11 u1_2 u1_4 u3_2 u3_5 x0_length x0_at x0_wordStart x0_wordLength x0_numberStart x0_number x0_cell x0_error_6 x0_errorAt_6 y2_text x3_rows x3_columns x4_count x4_reds y5_namesOn y6_land y7_riverOf y8_direction y9_home y10_length y11_letters)) rfl rfl rfl rfl rfl rfl (by decide) (c_X5_fail l g a0 _ (.ref a1) u0_1 (.ref a2) (.int x0_length) (.int x0_at) u0_5 (.int x0_wordStart) (.int x0_wordLength) (.int x0_numberStart) (.int x0_number) (.int x0_cell) u0_11 x0_error x0_errorAt 3 x0_wordStart r21 x0_error_6 x0_errorAt_6 hc) gX5_readHarbour_X5_fail rfl hv_X5_fail ⟨nle rfl, nle rfl⟩ 5 0 rfl rfl rfl (rest := []) rfl rfl hl.1 (nle rfl) dX5_readHarbour_21 (fun H locs hP hD hS => ?_)
    obtain ⟨hx, hf⟩ := zb_e hf
    cases hf
    exact ke_z hQ hexec hb hr hx hP hD hS dX5_readHarbour_24 hlocks
abbrev w_X5_readRiver (g : GE) (a0 a1 a2 a3 a4 a5 a6 a7 a8 a9 a10 a11 a12 a13 a14 a15 : Nat) (u0_5 u0_7 u0_11 u1_2 u1_4 u5_1 u5_5 : Value) (x0_length : Int32) (x0_at : Int32) (x0_wordStart : Int32) (x0_numberStart : Int32) (x0_number : Int32) (x0_cell : Int32) (x0_error : Int32) (x0_errorAt : Int32) (x2_length : Int32) (y3_text : Nat → Int32) (x4_rows : Int32) (x4_columns : Int32) (x4_rivers : Int32) (x5_count : Int32) (y6_namesOn : Nat → Int32) (y7_costs : Nat → Int32) (y8_sums : Nat → Int32) (y9_way : Nat → Int32) (y10_land : Nat → Int32) (y11_riverOf : Nat → Int32) (y12_riverPlace : Nat → Int32) (y13_direction : Nat → Int32) (y14_home : Nat → Int32) (y15_length : Nat → Int32) : va_W := [(a0, .inr (5, [.ref a1, .ref a2, .ref a3, .int x0_length, .int x0_at, u0_5, .int x0_wordStart, u0_7, .int x0_numberStart, .int x0_number, .int x0_cell, u0_11, .int x0_error, .int x0_errorAt])), (a1, .inr (6, [.ref a4, .ref a5, u1_2, .ref a6, u1_4])), (a2, .inr (7, [.ref a7, .ref a8, .ref a9, .int x2_length])), (a3, .inl (g.2.1 0, 500, .inl y3_text)), (a4, .inr (1, [.int x4_rows, .int x4_columns, .int x4_rivers, .ref a10, .ref a11, .ref a12])), (a5, .inr (2, [.int x5_count, u5_1, .ref a14, .ref a13, .ref a15, u5_5])), (a6, .inl (g.2.1 0, 144, .inl y6_namesOn)), (a7, .inl (g.2.1 0, 144, .inl y7_costs)), (a8, .inl (g.2.1 0, 144, .inl y8_sums)), (a9, .inl (g.2.1 0, 144, .inl y9_way)), (a10, .inl (g.2.1 1, 144, .inl y10_land)), (a11, .inl (g.2.1 0, 144, .inl y11_riverOf)), (a12, .inl (g.2.1 0, 144, .inl y12_riverPlace)), (a13, .inl (g.2.1 0, 8, .inl y13_direction)), (a14, .inl (g.2.1 0, 8, .inl y14_home)), (a15, .inl (g.2.1 0, 8, .inl y15_length))]
noncomputable def f_X5_readRiver (x0_length : Int32) (x0_at : Int32) (x0_wordStart : Int32) (x0_numberStart : Int32) (x0_number : Int32) (x0_cell : Int32) (x0_error : Int32) (x0_errorAt : Int32) (x2_length : Int32) (y3_text : Nat → Int32) (x4_rows : Int32) (x4_columns : Int32) (x4_rivers : Int32) (x5_count : Int32) (y6_namesOn : Nat → Int32) (y7_costs : Nat → Int32) (y8_sums : Nat → Int32) (y9_way : Nat → Int32) (y10_land : Nat → Int32) (y11_riverOf : Nat → Int32) (y12_riverPlace : Nat → Int32) (y13_direction : Nat → Int32) (y14_home : Nat → Int32) (y15_length : Nat → Int32)  : Option (Int32 × Int32 × Int32 × Int32 × Int32 × Int32 × Int32 × Int32 × Int32 × (Nat → Int32) × (Nat → Int32) × (Nat → Int32) × (Nat → Int32) × (Nat → Int32) × (Nat → Int32) × (Nat → Int32)) :=
  (if x4_rivers < 8 then (
    bd7 (f_X5_takeCell x0_length x0_at x0_numberStart x0_number x0_cell x0_error x0_errorAt y3_text x4_rows x4_columns) fun (r26 : Int32) (x0_at_1 : Int32) (x0_numberStart_1 : Int32) (x0_number_1 : Int32) (x0_cell_1 : Int32) (x0_error_1 : Int32) (x0_errorAt_1 : Int32) =>
    (if r26 = 0 then (
      some (0, x0_at_1, x0_numberStart_1, x0_number_1, x0_cell_1, x0_error_1, x0_errorAt_1, x2_length, x4_rivers, y6_namesOn, y7_costs, y8_sums, y9_way, y11_riverOf, y12_riverPlace, y13_direction)
    ) else (
      bd2 (f_X7_survey y7_costs y8_sums x4_rows x4_columns x5_count y6_namesOn y10_land y11_riverOf y14_home) fun (y7_costs_1 : Nat → Int32) (y8_sums_1 : Nat → Int32) =>
      bd3 (f_X7_trace x2_length y7_costs_1 y8_sums_1 y9_way x4_rows x4_columns x0_cell_1) fun (r60 : Int32) (x2_length_1 : Int32) (y9_way_1 : Nat → Int32) =>
      (if r60 = 0 then (
        bd3 (f_X5_fail x0_error_1 x0_errorAt_1 3 x0_numberStart_1) fun (r72 : Int32) (x0_error_2 : Int32) (x0_errorAt_2 : Int32) =>
        zb r72 (some (r72, x0_at_1, x0_numberStart_1, x0_number_1, x0_cell_1, x0_error_2, x0_errorAt_2, x2_length_1, x4_rivers, y6_namesOn, y7_costs_1, y8_sums_1, y9_way_1, y11_riverOf, y12_riverPlace, y13_direction))
      ) else (
        bd1 (f_X7_namesOnWay x2_length_1 y9_way_1 y6_namesOn) fun (r88 : Int32) =>
        bd2 (f_X6_takeNames x4_rows x4_columns x5_count y6_namesOn y13_direction y14_home y15_length r88) fun (y6_namesOn_1 : Nat → Int32) (y13_direction_1 : Nat → Int32) =>
        bd3 (f_X1_layRiver x4_rivers y11_riverOf y12_riverPlace y9_way_1 x2_length_1) fun (x4_rivers_1 : Int32) (y11_riverOf_1 : Nat → Int32) (y12_riverPlace_1 : Nat → Int32) =>
        some (1, x0_at_1, x0_numberStart_1, x0_number_1, x0_cell_1, x0_error_1, x0_errorAt_1, x2_length_1, x4_rivers_1, y6_namesOn_1, y7_costs_1, y8_sums_1, y9_way_1, y11_riverOf_1, y12_riverPlace_1, y13_direction_1)
      ))
    ))
  ) else (
    bd3 (f_X5_fail x0_error x0_errorAt 3 x0_wordStart) fun (r21 : Int32) (x0_error_3 : Int32) (x0_errorAt_3 : Int32) =>
    zb r21 (some (r21, x0_at, x0_numberStart, x0_number, x0_cell, x0_error_3, x0_errorAt_3, x2_length, x4_rivers, y6_namesOn, y7_costs, y8_sums, y9_way, y11_riverOf, y12_riverPlace, y13_direction))
  ))
set_option maxRecDepth 4000 in
theorem c_X5_readRiver (l : Launch) (g : GE) (a0 a1 a2 a3 a4 a5 a6 a7 a8 a9 a10 a11 a12 a13 a14 a15 : Nat) (sz : Nat) (u0_5 u0_7 u0_11 u1_2 u1_4 u5_1 u5_5 : Value) (x0_length : Int32) (x0_at : Int32) (x0_wordStart : Int32) (x0_numberStart : Int32) (x0_number : Int32) (x0_cell : Int32) (x0_error : Int32) (x0_errorAt : Int32) (x2_length : Int32) (y3_text : Nat → Int32) (x4_rows : Int32) (x4_columns : Int32) (x4_rivers : Int32) (x5_count : Int32) (y6_namesOn : Nat → Int32) (y7_costs : Nat → Int32) (y8_sums : Nat → Int32) (y9_way : Nat → Int32) (y10_land : Nat → Int32) (y11_riverOf : Nat → Int32) (y12_riverPlace : Nat → Int32) (y13_direction : Nat → Int32) (y14_home : Nat → Int32) (y15_length : Nat → Int32)   (r : Int32) (o_x0_at : Int32) (o_x0_numberStart : Int32) (o_x0_number : Int32) (o_x0_cell : Int32) (o_x0_error : Int32) (o_x0_errorAt : Int32) (o_x2_length : Int32) (o_x4_rivers : Int32) (o_y6_namesOn : Nat → Int32) (o_y7_costs : Nat → Int32) (o_y8_sums : Nat → Int32) (o_y9_way : Nat → Int32) (o_y11_riverOf : Nat → Int32) (o_y12_riverPlace : Nat → Int32) (o_y13_direction : Nat → Int32) (hf : f_X5_readRiver x0_length x0_at x0_wordStart x0_numberStart x0_number x0_cell x0_error x0_errorAt x2_length y3_text x4_rows x4_columns x4_rivers x5_count y6_namesOn y7_costs y8_sums y9_way y10_land y11_riverOf y12_riverPlace y13_direction y14_home y15_length = some (r, o_x0_at, o_x0_numberStart, o_x0_number, o_x0_cell, o_x0_error, o_x0_errorAt, o_x2_length, o_x4_rivers, o_y6_namesOn, o_y7_costs, o_y8_sums, o_y9_way, o_y11_riverOf, o_y12_riverPlace, o_y13_direction)) : MI l g yX5_readRiver wsX5_readRiver 5 110 [.ref a0] (w_X5_readRiver g a0 a1 a2 a3 a4 a5 a6 a7 a8 a9 a10 a11 a12 a13 a14 a15 u0_5 u0_7 u0_11 u1_2 u1_4 u5_1 u5_5 x0_length x0_at x0_wordStart x0_numberStart x0_number x0_cell x0_error x0_errorAt x2_length y3_text x4_rows x4_columns x4_rivers x5_count y6_namesOn y7_costs y8_sums y9_way y10_land y11_riverOf y12_riverPlace y13_direction y14_home y15_length) sz (some (.int r)) (w_X5_readRiver g a0 a1 a2 a3 a4 a5 a6 a7 a8 a9 a10 a11 a12 a13 a14 a15 u0_5 u0_7 u0_11 u1_2 u1_4 u5_1 u5_5 x0_length o_x0_at x0_wordStart o_x0_numberStart o_x0_number o_x0_cell o_x0_error o_x0_errorAt o_x2_length y3_text x4_rows x4_columns o_x4_rivers x5_count o_y6_namesOn o_y7_costs o_y8_sums o_y9_way y10_land o_y11_riverOf o_y12_riverPlace o_y13_direction y14_home y15_length) := by
  refine MI.start (cc := cX5_readRiver) (maxL := 1) (ret := (some .boolean)) rfl rfl (nle rfl) ?_
  intro p e s m args below meth c A ls Q hQ hexec hb hr hts hown hlocks hml hA hP hD hG hS hl
  unfold f_X5_readRiver at hf
  have hWX1 : ∀ w ∈ wsX10, w.before args s = true := fun w h => hts w (List.mem_cons_of_mem _ (List.mem_append_left _ (List.mem_append_left _ (List.mem_append_right _ h))))
  have hWX2 : ∀ w ∈ wsX20, w.before args s = true := fun w h => hts w (List.mem_cons_of_mem _ (List.mem_append_right _ h))
  have hWX5 : ∀ w ∈ wsX50, w.before args s = true := fun w h => hts w (List.mem_cons_of_mem _ (List.mem_append_left _ (List.mem_append_left _ (List.mem_append_left _ (List.mem_append_left _ (List.mem_append_right _ h))))))
  have hWX6 : ∀ w ∈ wsX60, w.before args s = true := fun w h => hts w (List.mem_cons_of_mem _ (List.mem_append_left _ (List.mem_append_left _ (List.mem_append_left _ (List.mem_append_right _ h)))))
  have hWX7 : ∀ w ∈ wsX70, w.before args s = true := fun w h => hts w (List.mem_cons_of_mem _ (List.mem_append_left _ (List.mem_append_right _ h)))
  have hS : va_S A s.heap s.heap [] := hS
  refine lv_aload_n (pc := 0) hexec hb dX5_readRiver_0 rfl (lv_at hl 0 rfl) ?_
  refine kg_get (pc := 1) hexec hb (own := RX5) hWX5 hown hG hP 0 rfl rfl 0 (nle rfl) (hts _ (List.mem_cons_of_mem _ (List.mem_append_left _ (List.mem_append_left _ (List.mem_append_left _ (List.mem_append_left _ (List.mem_append_left _ (List.mem_append_left _ (List.mem_of_getElem? (i := 0) rfl))))))))) rfl rfl dX5_readRiver_1 ?_
  refine kg_getN (pc := 4) hexec hb (own := RX5) hWX6 hown hG hP 1 rfl rfl 0 (nle rfl) 23 rfl rfl rfl dX5_readRiver_4 ?_
  refine kg_getN (pc := 7) hexec hb (own := RX5) hWX1 hown hG hP 4 rfl rfl 2 (nle rfl) 5 rfl rfl rfl dX5_readRiver_7 ?_
  refine lv_bipush (pc := 10) hexec hb dX5_readRiver_10 kb_8 ?_
  refine ki_lt (pc := 12) hexec hb dX5_readRiver_12 (tgt := 25) rfl hf (fun hc hf => ?_) (fun hc hf => ?_)
  · refine lv_aload_n (pc := 25) hexec hb dX5_readRiver_25 rfl (lv_at hl 0 rfl) ?_
    obtain ⟨r26, x0_at_1, x0_numberStart_1, x0_number_1, x0_cell_1, x0_error_1, x0_errorAt_1, hc, hf⟩ := bd7_e hf
    refine kVp (pc := 26) (S := ⟨hexec, hb, hml, hown, hts⟩) hP hD hG hA hS [0, 1, 3, 4] [2, 5, 6, 7, 8, 9, 10, 11, 12, 13, 14, 15] [12, 13, 0, 14, 15, 1, 2, 3, 4, 5, 6, 7, 8, 9, 10, 11] (w2 := (w_X5_readRiver g a0 a1 a2 a3 a4 a5 a6 a7 a8 a9 a10 a11 a12 a13 a14 a15 u0_5 u0_7 u0_11 u1_2 u1_4 u5_1 u5_5 x0_length x0_at_1 x0_wordStart x0_numberStart_1 x0_number_1 x0_cell_1 x0_error_1 x0_errorAt_1 x2_length y3_text x4_rows x4_columns x4_rivers x5_count y6_namesOn y7_costs y8_sums y9_way y10_land y11_riverOf y12_riverPlace y13_direction y14_home y15_length)) rfl rfl rfl rfl rfl rfl (by decide) (c_X5_takeCell l g a0 a1 a3 a4 _ (.ref a2) u0_5 (.int x0_wordStart) u0_7 u0_11 (.ref a5) u1_2 (.ref a6) u1_4 (.int x4_rivers) (.ref a10) (.ref a11) (.ref a12) x0_length x0_at x0_numberStart x0_number x0_cell x0_error x0_errorAt y3_text x4_rows x4_columns r26 x0_at_1 x0_numberStart_1 x0_number_1 x0_cell_1 x0_error_1 x0_errorAt_1 hc) gX5_readRiver_X5_takeCell rfl hv_X5_takeCell ⟨nle rfl, nle rfl⟩ 5 0 rfl rfl rfl (rest := []) rfl rfl hl.1 (nle rfl) dX5_readRiver_26 (fun H locs hP hD hS => ?_)
    refine kb_ne (pc := 29) hexec hb dX5_readRiver_29 (tgt := 34) rfl hf (fun hc hf => ?_) (fun hc hf => ?_)
    · refine lv_aload_n (pc := 34) hexec hb dX5_readRiver_34 rfl (lv_at hl 0 rfl) ?_
      refine kg_get (pc := 35) hexec hb (own := RX5) hWX5 hown hG hP 0 rfl rfl 1 (nle rfl) (hts _ (List.mem_cons_of_mem _ (List.mem_append_left _ (List.mem_append_left _ (List.mem_append_left _ (List.mem_append_left _ (List.mem_append_left _ (List.mem_append_left _ (List.mem_of_getElem? (i := 2) rfl))))))))) rfl rfl dX5_readRiver_35 ?_
      refine lv_aload_n (pc := 38) hexec hb dX5_readRiver_38 rfl (lv_at hl 0 rfl) ?_
      refine kg_get (pc := 39) hexec hb (own := RX5) hWX5 hown hG hP 0 rfl rfl 0 (nle rfl) (hts _ (List.mem_cons_of_mem _ (List.mem_append_left _ (List.mem_append_left _ (List.mem_append_left _ (List.mem_append_left _ (List.mem_append_left _ (List.mem_append_left _ (List.mem_of_getElem? (i := 0) rfl))))))))) rfl rfl dX5_readRiver_39 ?_
      obtain ⟨y7_costs_1, y8_sums_1, hc, hf⟩ := bd2_e hf
      refine kVp (pc := 42) (S := ⟨hexec, hb, hml, hown, hts⟩) hP hD hG hA hS [2, 7, 8, 1, 4, 5, 6, 10, 11, 14] [0, 3, 9, 12, 13, 15] [0, 9, 6, 1, 10, 11, 12, 7, 8, 2, 13, 14, 3, 4, 15, 5] (w2 := (w_X5_readRiver g a0 a1 a2 a3 a4 a5 a6 a7 a8 a9 a10 a11 a12 a13 a14 a15 u0_5 u0_7 u0_11 u1_2 u1_4 u5_1 u5_5 x0_length x0_at_1 x0_wordStart x0_numberStart_1 x0_number_1 x0_cell_1 x0_error_1 x0_errorAt_1 x2_length y3_text x4_rows x4_columns x4_rivers x5_count y6_namesOn y7_costs_1 y8_sums_1 y9_way y10_land y11_riverOf y12_riverPlace y13_direction y14_home y15_length)) rfl rfl rfl rfl rfl rfl (by decide) (c_X7_survey l g a2 a7 a8 a1 a4 a5 a6 a10 a11 a14 _ (.ref a9) (.int x2_length) u1_2 u1_4 (.int x4_rivers) (.ref a12) u5_1 (.ref a13) (.ref a15) u5_5 y7_costs y8_sums x4_rows x4_columns x5_count y6_namesOn y10_land y11_riverOf y14_home y7_costs_1 y8_sums_1 hc) gX5_readRiver_X7_survey rfl hv_X7_survey ⟨nle rfl, nle rfl⟩ 7 0 rfl rfl rfl (rest := []) rfl rfl hl.1 (nle rfl) dX5_readRiver_42 (fun H locs hP hD hS => ?_)
      refine lv_aload_n (pc := 45) hexec hb dX5_readRiver_45 rfl (lv_at hl 0 rfl) ?_
      refine kg_get (pc := 46) hexec hb (own := RX5) hWX5 hown hG hP 0 rfl rfl 1 (nle rfl) (hts _ (List.mem_cons_of_mem _ (List.mem_append_left _ (List.mem_append_left _ (List.mem_append_left _ (List.mem_append_left _ (List.mem_append_left _ (List.mem_append_left _ (List.mem_of_getElem? (i := 2) rfl))))))))) rfl rfl dX5_readRiver_46 ?_
      refine lv_aload_n (pc := 49) hexec hb dX5_readRiver_49 rfl (lv_at hl 0 rfl) ?_
      refine kg_get (pc := 50) hexec hb (own := RX5) hWX5 hown hG hP 0 rfl rfl 0 (nle rfl) (hts _ (List.mem_cons_of_mem _ (List.mem_append_left _ (List.mem_append_left _ (List.mem_append_left _ (List.mem_append_left _ (List.mem_append_left _ (List.mem_append_left _ (List.mem_of_getElem? (i := 0) rfl))))))))) rfl rfl dX5_readRiver_50 ?_
      refine kg_getN (pc := 53) hexec hb (own := RX5) hWX6 hown hG hP 1 rfl rfl 0 (nle rfl) 23 rfl rfl rfl dX5_readRiver_53 ?_
      refine lv_aload_n (pc := 56) hexec hb dX5_readRiver_56 rfl (lv_at hl 0 rfl) ?_
      refine kg_get (pc := 57) hexec hb (own := RX5) hWX5 hown hG hP 0 rfl rfl 10 (nle rfl) (hts _ (List.mem_cons_of_mem _ (List.mem_append_left _ (List.mem_append_left _ (List.mem_append_left _ (List.mem_append_left _ (List.mem_append_left _ (List.mem_append_left _ (List.mem_of_getElem? (i := 3) rfl))))))))) rfl rfl dX5_readRiver_57 ?_
      obtain ⟨r60, x2_length_1, y9_way_1, hc, hf⟩ := bd3_e hf
      refine kVp (pc := 60) (S := ⟨hexec, hb, hml, hown, hts⟩) hP hD hG hA hS [2, 7, 8, 9, 4] [0, 1, 3, 5, 6, 10, 11, 12, 13, 14, 15] [0, 1, 11, 2, 15, 3, 4, 12, 13, 14, 5, 6, 7, 8, 9, 10] (w2 := (w_X5_readRiver g a0 a1 a2 a3 a4 a5 a6 a7 a8 a9 a10 a11 a12 a13 a14 a15 u0_5 u0_7 u0_11 u1_2 u1_4 u5_1 u5_5 x0_length x0_at_1 x0_wordStart x0_numberStart_1 x0_number_1 x0_cell_1 x0_error_1 x0_errorAt_1 x2_length_1 y3_text x4_rows x4_columns x4_rivers x5_count y6_namesOn y7_costs_1 y8_sums_1 y9_way_1 y10_land y11_riverOf y12_riverPlace y13_direction y14_home y15_length)) rfl rfl rfl rfl rfl rfl (by decide) (c_X7_trace l g a2 a7 a8 a9 a4 _ (.int x4_rivers) (.ref a10) (.ref a11) (.ref a12) x2_length y7_costs_1 y8_sums_1 y9_way x4_rows x4_columns x0_cell_1 r60 x2_length_1 y9_way_1 hc) gX5_readRiver_X7_trace rfl hv_X7_trace ⟨nle rfl, nle rfl⟩ 7 0 rfl rfl rfl (rest := []) rfl rfl hl.1 (nle rfl) dX5_readRiver_60 (fun H locs hP hD hS => ?_)
      refine kb_ne (pc := 63) hexec hb dX5_readRiver_63 (tgt := 76) rfl hf (fun hc hf => ?_) (fun hc hf => ?_)
      · refine lv_aload_n (pc := 76) hexec hb dX5_readRiver_76 rfl (lv_at hl 0 rfl) ?_
        refine kg_get (pc := 77) hexec hb (own := RX5) hWX5 hown hG hP 0 rfl rfl 0 (nle rfl) (hts _ (List.mem_cons_of_mem _ (List.mem_append_left _ (List.mem_append_left _ (List.mem_append_left _ (List.mem_append_left _ (List.mem_append_left _ (List.mem_append_left _ (List.mem_of_getElem? (i := 0) rfl))))))))) rfl rfl dX5_readRiver_77 ?_
        refine lv_aload_n (pc := 80) hexec hb dX5_readRiver_80 rfl (lv_at hl 0 rfl) ?_
        refine kg_get (pc := 81) hexec hb (own := RX5) hWX5 hown hG hP 0 rfl rfl 1 (nle rfl) (hts _ (List.mem_cons_of_mem _ (List.mem_append_left _ (List.mem_append_left _ (List.mem_append_left _ (List.mem_append_left _ (List.mem_append_left _ (List.mem_append_left _ (List.mem_of_getElem? (i := 2) rfl))))))))) rfl rfl dX5_readRiver_81 ?_
        refine lv_aload_n (pc := 84) hexec hb dX5_readRiver_84 rfl (lv_at hl 0 rfl) ?_
        refine kg_get (pc := 85) hexec hb (own := RX5) hWX5 hown hG hP 0 rfl rfl 0 (nle rfl) (hts _ (List.mem_cons_of_mem _ (List.mem_append_left _ (List.mem_append_left _ (List.mem_append_left _ (List.mem_append_left _ (List.mem_append_left _ (List.mem_append_left _ (List.mem_of_getElem? (i := 0) rfl))))))))) rfl rfl dX5_readRiver_85 ?_
        obtain ⟨r88, hc, hf⟩ := bd1_e hf
        refine kVp (pc := 88) (S := ⟨hexec, hb, hml, hown, hts⟩) hP hD hG hA hS [2, 9, 1, 6] [0, 3, 4, 5, 7, 8, 10, 11, 12, 13, 14, 15] [0, 14, 12, 1, 2, 3, 15, 4, 5, 13, 6, 7, 8, 9, 10, 11] (w2 := (w_X5_readRiver g a0 a1 a2 a3 a4 a5 a6 a7 a8 a9 a10 a11 a12 a13 a14 a15 u0_5 u0_7 u0_11 u1_2 u1_4 u5_1 u5_5 x0_length x0_at_1 x0_wordStart x0_numberStart_1 x0_number_1 x0_cell_1 x0_error_1 x0_errorAt_1 x2_length_1 y3_text x4_rows x4_columns x4_rivers x5_count y6_namesOn y7_costs_1 y8_sums_1 y9_way_1 y10_land y11_riverOf y12_riverPlace y13_direction y14_home y15_length)) rfl rfl rfl rfl rfl rfl (by decide) (c_X7_namesOnWay l g a2 a9 a1 a6 _ (.ref a7) (.ref a8) (.ref a4) (.ref a5) u1_2 u1_4 x2_length_1 y9_way_1 y6_namesOn r88 hc) gX5_readRiver_X7_namesOnWay rfl hv_X7_namesOnWay ⟨nle rfl, nle rfl⟩ 7 0 rfl rfl rfl (rest := [.ref a1]) rfl rfl hl.1 (nle rfl) dX5_readRiver_88 (fun H locs hP hD hS => ?_)
        obtain ⟨y6_namesOn_1, y13_direction_1, hc, hf⟩ := bd2_e hf
        refine kVp (pc := 91) (S := ⟨hexec, hb, hml, hown, hts⟩) hP hD hG hA hS [1, 4, 5, 6, 13, 14, 15] [0, 2, 3, 7, 8, 9, 10, 11, 12] [0, 9, 1, 2, 10, 11, 12, 3, 4, 5, 6, 7, 8, 13, 14, 15] (w2 := (w_X5_readRiver g a0 a1 a2 a3 a4 a5 a6 a7 a8 a9 a10 a11 a12 a13 a14 a15 u0_5 u0_7 u0_11 u1_2 u1_4 u5_1 u5_5 x0_length x0_at_1 x0_wordStart x0_numberStart_1 x0_number_1 x0_cell_1 x0_error_1 x0_errorAt_1 x2_length_1 y3_text x4_rows x4_columns x4_rivers x5_count y6_namesOn_1 y7_costs_1 y8_sums_1 y9_way_1 y10_land y11_riverOf y12_riverPlace y13_direction_1 y14_home y15_length)) rfl rfl rfl rfl rfl rfl (by decide) (c_X6_takeNames l g a1 a4 a5 a6 a13 a14 a15 _ u1_2 u1_4 (.int x4_rivers) (.ref a10) (.ref a11) (.ref a12) u5_1 u5_5 x4_rows x4_columns x5_count y6_namesOn y13_direction y14_home y15_length r88 y6_namesOn_1 y13_direction_1 hc) gX5_readRiver_X6_takeNames rfl hv_X6_takeNames ⟨nle rfl, nle rfl⟩ 6 0 rfl rfl rfl (rest := []) rfl rfl hl.1 (nle rfl) dX5_readRiver_91 (fun H locs hP hD hS => ?_)
        refine lv_aload_n (pc := 94) hexec hb dX5_readRiver_94 rfl (lv_at hl 0 rfl) ?_
        refine kg_get (pc := 95) hexec hb (own := RX5) hWX5 hown hG hP 0 rfl rfl 0 (nle rfl) (hts _ (List.mem_cons_of_mem _ (List.mem_append_left _ (List.mem_append_left _ (List.mem_append_left _ (List.mem_append_left _ (List.mem_append_left _ (List.mem_append_left _ (List.mem_of_getElem? (i := 0) rfl))))))))) rfl rfl dX5_readRiver_95 ?_
        refine kg_getN (pc := 98) hexec hb (own := RX5) hWX6 hown hG hP 1 rfl rfl 0 (nle rfl) 23 rfl rfl rfl dX5_readRiver_98 ?_
        refine lv_aload_n (pc := 101) hexec hb dX5_readRiver_101 rfl (lv_at hl 0 rfl) ?_
        refine kg_get (pc := 102) hexec hb (own := RX5) hWX5 hown hG hP 0 rfl rfl 1 (nle rfl) (hts _ (List.mem_cons_of_mem _ (List.mem_append_left _ (List.mem_append_left _ (List.mem_append_left _ (List.mem_append_left _ (List.mem_append_left _ (List.mem_append_left _ (List.mem_of_getElem? (i := 2) rfl))))))))) rfl rfl dX5_readRiver_102 ?_
        refine kg_getN (pc := 105) hexec hb (own := RX5) hWX7 hown hG hP 2 rfl rfl 2 (nle rfl) 31 rfl rfl rfl dX5_readRiver_105 ?_
        refine lv_aload_n (pc := 108) hexec hb dX5_readRiver_108 rfl (lv_at hl 0 rfl) ?_
        refine kg_get (pc := 109) hexec hb (own := RX5) hWX5 hown hG hP 0 rfl rfl 1 (nle rfl) (hts _ (List.mem_cons_of_mem _ (List.mem_append_left _ (List.mem_append_left _ (List.mem_append_left _ (List.mem_append_left _ (List.mem_append_left _ (List.mem_append_left _ (List.mem_of_getElem? (i := 2) rfl))))))))) rfl rfl dX5_readRiver_109 ?_
        refine kg_getN (pc := 112) hexec hb (own := RX5) hWX7 hown hG hP 2 rfl rfl 3 (nle rfl) 33 rfl rfl rfl dX5_readRiver_112 ?_
        obtain ⟨x4_rivers_1, y11_riverOf_1, y12_riverPlace_1, hc, hf⟩ := bd3_e hf
        refine kVp (pc := 115) (S := ⟨hexec, hb, hml, hown, hts⟩) hP hD hG hA hS [4, 11, 12, 9] [0, 1, 2, 3, 5, 6, 7, 8, 10, 13, 14, 15] [0, 1, 2, 3, 12, 4, 5, 6, 7, 15, 8, 13, 14, 9, 10, 11] (w2 := (w_X5_readRiver g a0 a1 a2 a3 a4 a5 a6 a7 a8 a9 a10 a11 a12 a13 a14 a15 u0_5 u0_7 u0_11 u1_2 u1_4 u5_1 u5_5 x0_length x0_at_1 x0_wordStart x0_numberStart_1 x0_number_1 x0_cell_1 x0_error_1 x0_errorAt_1 x2_length_1 y3_text x4_rows x4_columns x4_rivers_1 x5_count y6_namesOn_1 y7_costs_1 y8_sums_1 y9_way_1 y10_land y11_riverOf_1 y12_riverPlace_1 y13_direction_1 y14_home y15_length)) rfl rfl rfl rfl rfl rfl (by decide) (c_X1_layRiver l g a4 a11 a12 a9 _ (.int x4_rows) (.int x4_columns) (.ref a10) x4_rivers y11_riverOf y12_riverPlace y9_way_1 x2_length_1 x4_rivers_1 y11_riverOf_1 y12_riverPlace_1 hc) gX5_readRiver_X1_layRiver rfl hv_X1_layRiver ⟨nle rfl, nle rfl⟩ 1 0 rfl rfl rfl (rest := []) rfl rfl hl.1 (nle rfl) dX5_readRiver_115 (fun H locs hP hD hS => ?_)
        refine lv_iconst (pc := 118) hexec hb dX5_readRiver_118 ki_1 ?_
        cases hf
        exact ke_z hQ hexec hb hr (.inr rfl) hP hD hS dX5_readRiver_119 hlocks
      · refine lv_aload_n (pc := 66) hexec hb dX5_readRiver_66 rfl (lv_at hl 0 rfl) ?_
        refine lv_iconst (pc := 67) hexec hb dX5_readRiver_67 ki_3 ?_
        refine lv_aload_n (pc := 68) hexec hb dX5_readRiver_68 rfl (lv_at hl 0 rfl) ?_
        refine kg_get (pc := 69) hexec hb (own := RX5) hWX5 hown hG hP 0 rfl rfl 8 (nle rfl) (hts _ (List.mem_cons_of_mem _ (List.mem_append_left _ (List.mem_append_left _ (List.mem_append_left _ (List.mem_append_left _ (List.mem_append_left _ (List.mem_append_left _ (List.mem_of_getElem? (i := 4) rfl))))))))) rfl rfl dX5_readRiver_69 ?_
        obtain ⟨r72, x0_error_2, x0_errorAt_2, hc, hf⟩ := bd3_e hf
        refine kVp (pc := 72) (S := ⟨hexec, hb, hml, hown, hts⟩) hP hD hG hA hS [0] [1, 2, 3, 4, 5, 6, 7, 8, 9, 10, 11, 12, 13, 14, 15] [15, 0, 1, 2, 3, 4, 5, 6, 7, 8, 9, 10, 11, 12, 13, 14] (w2 := (w_X5_readRiver g a0 a1 a2 a3 a4 a5 a6 a7 a8 a9 a10 a11 a12 a13 a14 a15 u0_5 u0_7 u0_11 u1_2 u1_4 u5_1 u5_5 x0_length x0_at_1 x0_wordStart x0_numberStart_1 x0_number_1 x0_cell_1 x0_error_2 x0_errorAt_2 x2_length_1 y3_text x4_rows x4_columns x4_rivers x5_count y6_namesOn y7_costs_1 y8_sums_1 y9_way_1 y10_land y11_riverOf y12_riverPlace y13_direction y14_home y15_length)) rfl rfl rfl rfl rfl rfl (by decide) (c_X5_fail l g a0 _ (.ref a1) (.ref a2) (.ref a3) (.int x0_length) (.int x0_at_1) u0_5 (.int x0_wordStart) u0_7 (.int x0_numberStart_1) (.int x0_number_1) (.int x0_cell_1) u0_11 x0_error_1 x0_errorAt_1 3 x0_numberStart_1 r72 x0_error_2 x0_errorAt_2 hc) gX5_readRiver_X5_fail rfl hv_X5_fail ⟨nle rfl, nle rfl⟩ 5 0 rfl rfl rfl (rest := []) rfl rfl hl.1 (nle rfl) dX5_readRiver_72 (fun H locs hP hD hS => ?_)
        obtain ⟨hx, hf⟩ := zb_e hf
        cases hf
        exact ke_z hQ hexec hb hr hx hP hD hS dX5_readRiver_75 hlocks
    · refine lv_iconst (pc := 32) hexec hb dX5_readRiver_32 ki_0 ?_
      cases hf
      exact ke_z hQ hexec hb hr (.inl rfl) hP hD hS dX5_readRiver_33 hlocks
  · refine lv_aload_n (pc := 15) hexec hb dX5_readRiver_15 rfl (lv_at hl 0 rfl) ?_
    refine lv_iconst (pc := 16) hexec hb dX5_readRiver_16 ki_3 ?_
    refine lv_aload_n (pc := 17) hexec hb dX5_readRiver_17 rfl (lv_at hl 0 rfl) ?_
    refine kg_get (pc := 18) hexec hb (own := RX5) hWX5 hown hG hP 0 rfl rfl 6 (nle rfl) (hts _ (List.mem_cons_of_mem _ (List.mem_append_left _ (List.mem_append_left _ (List.mem_append_left _ (List.mem_append_left _ (List.mem_append_left _ (List.mem_append_left _ (List.mem_of_getElem? (i := 1) rfl))))))))) rfl rfl dX5_readRiver_18 ?_
    obtain ⟨r21, x0_error_3, x0_errorAt_3, hc, hf⟩ := bd3_e hf
    refine kVp (pc := 21) (S := ⟨hexec, hb, hml, hown, hts⟩) hP hD hG hA hS [0] [1, 2, 3, 4, 5, 6, 7, 8, 9, 10, 11, 12, 13, 14, 15] [15, 0, 1, 2, 3, 4, 5, 6, 7, 8, 9, 10, 11, 12, 13, 14] (w2 := (w_X5_readRiver g a0 a1 a2 a3 a4 a5 a6 a7 a8 a9 a10 a11 a12 a13 a14 a15 u0_5 u0_7 u0_11 u1_2 u1_4 u5_1 u5_5 x0_length x0_at x0_wordStart x0_numberStart x0_number x0_cell x0_error_3 x0_errorAt_3 x2_length y3_text x4_rows x4_columns x4_rivers x5_count y6_namesOn y7_costs y8_sums y9_way y10_land y11_riverOf y12_riverPlace y13_direction y14_home y15_length)) rfl rfl rfl rfl rfl rfl (by decide) (c_X5_fail l g a0 _ (.ref a1) (.ref a2) (.ref a3) (.int x0_length) (.int x0_at) u0_5 (.int x0_wordStart) u0_7 (.int x0_numberStart) (.int x0_number) (.int x0_cell) u0_11 x0_error x0_errorAt 3 x0_wordStart r21 x0_error_3 x0_errorAt_3 hc) gX5_readRiver_X5_fail rfl hv_X5_fail ⟨nle rfl, nle rfl⟩ 5 0 rfl rfl rfl (rest := []) rfl rfl hl.1 (nle rfl) dX5_readRiver_21 (fun H locs hP hD hS => ?_)
    obtain ⟨hx, hf⟩ := zb_e hf
    cases hf
    exact ke_z hQ hexec hb hr hx hP hD hS dX5_readRiver_24 hlocks
abbrev w_X5_directionWord (g : GE) (a0 a1 : Nat) (u0_0 u0_1 u0_4 u0_5 u0_8 u0_9 u0_10 u0_11 u0_12 u0_13 : Value) (x0_length : Int32) (x0_wordStart : Int32) (x0_wordLength : Int32) (y1_text : Nat → Int32) : va_W := [(a0, .inr (5, [u0_0, u0_1, .ref a1, .int x0_length, u0_4, u0_5, .int x0_wordStart, .int x0_wordLength, u0_8, u0_9, u0_10, u0_11, u0_12, u0_13])), (a1, .inl (g.2.1 0, 500, .inl y1_text))]
noncomputable def f_X5_directionWord (x0_length : Int32) (x0_wordStart : Int32) (x0_wordLength : Int32) (y1_text : Nat → Int32)  : Option (Int32) :=
  bd1 (f_X5_wordIs x0_length x0_wordStart x0_wordLength y1_text 8) fun (r3 : Int32) =>
  (if r3 = 0 then (
    bd1 (f_X5_wordIs x0_length x0_wordStart x0_wordLength y1_text 9) fun (r16 : Int32) =>
    (if r16 = 0 then (
      bd1 (f_X5_wordIs x0_length x0_wordStart x0_wordLength y1_text 10) fun (r29 : Int32) =>
      (if r29 = 0 then (
        bd1 (f_X5_wordIs x0_length x0_wordStart x0_wordLength y1_text 11) fun (r42 : Int32) =>
        (if r42 = 0 then (
          some (-1)
        ) else (
          some 3
        ))
      ) else (
        some 2
      ))
    ) else (
      some 1
    ))
  ) else (
    some 0
  ))
set_option maxRecDepth 4000 in
theorem c_X5_directionWord (l : Launch) (g : GE) (a0 a1 : Nat) (sz : Nat) (u0_0 u0_1 u0_4 u0_5 u0_8 u0_9 u0_10 u0_11 u0_12 u0_13 : Value) (x0_length : Int32) (x0_wordStart : Int32) (x0_wordLength : Int32) (y1_text : Nat → Int32)   (r : Int32) (hf : f_X5_directionWord x0_length x0_wordStart x0_wordLength y1_text = some r) : MI l g yX5_directionWord wsX5_directionWord 6 133 [.ref a0] (w_X5_directionWord g a0 a1 u0_0 u0_1 u0_4 u0_5 u0_8 u0_9 u0_10 u0_11 u0_12 u0_13 x0_length x0_wordStart x0_wordLength y1_text) sz (some (.int r)) (w_X5_directionWord g a0 a1 u0_0 u0_1 u0_4 u0_5 u0_8 u0_9 u0_10 u0_11 u0_12 u0_13 x0_length x0_wordStart x0_wordLength y1_text) := by
  refine MI.start (cc := cX5_directionWord) (maxL := 1) (ret := (some .int)) rfl rfl (nle rfl) ?_
  intro p e s m args below meth c A ls Q hQ hexec hb hr hts hown hlocks hml hA hP hD hG hS hl
  unfold f_X5_directionWord at hf
  have hWX5 : ∀ w ∈ wsX50, w.before args s = true := fun w h => hts w (List.mem_cons_of_mem _ (List.mem_append_right _ h))
  have hS : va_S A s.heap s.heap [] := hS
  refine lv_aload_n (pc := 0) hexec hb dX5_directionWord_0 rfl (lv_at hl 0 rfl) ?_
  refine k_lds (pc := 1) hexec hb (own := RX5) hown hG 8 rfl dX5_directionWord_1 ?_
  obtain ⟨r3, hc, hf⟩ := bd1_e hf
  refine kVp (pc := 3) (S := ⟨hexec, hb, hml, hown, hts⟩) hP hD hG hA hS [0, 1] [] [0, 1] (w2 := (w_X5_directionWord g a0 a1 u0_0 u0_1 u0_4 u0_5 u0_8 u0_9 u0_10 u0_11 u0_12 u0_13 x0_length x0_wordStart x0_wordLength y1_text)) rfl rfl rfl rfl rfl rfl (by decide) (c_X5_wordIs l g a0 a1 _ u0_0 u0_1 u0_4 u0_5 u0_8 u0_9 u0_10 u0_11 u0_12 u0_13 x0_length x0_wordStart x0_wordLength y1_text 8 (nle rfl) r3 hc) gX5_directionWord_X5_wordIs rfl hv_X5_wordIs ⟨nle rfl, nle rfl⟩ 5 0 rfl rfl rfl (rest := []) rfl rfl hl.1 (nle rfl) dX5_directionWord_3 (fun H locs hP hD hS => ?_)
  refine kb_eq (pc := 6) hexec hb dX5_directionWord_6 (tgt := 13) rfl hf (fun hc hf => ?_) (fun hc hf => ?_)
  · refine lv_aload_n (pc := 13) hexec hb dX5_directionWord_13 rfl (lv_at hl 0 rfl) ?_
    refine k_lds (pc := 14) hexec hb (own := RX5) hown hG 9 rfl dX5_directionWord_14 ?_
    obtain ⟨r16, hc, hf⟩ := bd1_e hf
    refine kVp (pc := 16) (S := ⟨hexec, hb, hml, hown, hts⟩) hP hD hG hA hS [0, 1] [] [0, 1] (w2 := (w_X5_directionWord g a0 a1 u0_0 u0_1 u0_4 u0_5 u0_8 u0_9 u0_10 u0_11 u0_12 u0_13 x0_length x0_wordStart x0_wordLength y1_text)) rfl rfl rfl rfl rfl rfl (by decide) (c_X5_wordIs l g a0 a1 _ u0_0 u0_1 u0_4 u0_5 u0_8 u0_9 u0_10 u0_11 u0_12 u0_13 x0_length x0_wordStart x0_wordLength y1_text 9 (nle rfl) r16 hc) gX5_directionWord_X5_wordIs rfl hv_X5_wordIs ⟨nle rfl, nle rfl⟩ 5 0 rfl rfl rfl (rest := []) rfl rfl hl.1 (nle rfl) dX5_directionWord_16 (fun H locs hP hD hS => ?_)
    refine kb_eq (pc := 19) hexec hb dX5_directionWord_19 (tgt := 26) rfl hf (fun hc hf => ?_) (fun hc hf => ?_)
    · refine lv_aload_n (pc := 26) hexec hb dX5_directionWord_26 rfl (lv_at hl 0 rfl) ?_
      refine k_lds (pc := 27) hexec hb (own := RX5) hown hG 10 rfl dX5_directionWord_27 ?_
      obtain ⟨r29, hc, hf⟩ := bd1_e hf
      refine kVp (pc := 29) (S := ⟨hexec, hb, hml, hown, hts⟩) hP hD hG hA hS [0, 1] [] [0, 1] (w2 := (w_X5_directionWord g a0 a1 u0_0 u0_1 u0_4 u0_5 u0_8 u0_9 u0_10 u0_11 u0_12 u0_13 x0_length x0_wordStart x0_wordLength y1_text)) rfl rfl rfl rfl rfl rfl (by decide) (c_X5_wordIs l g a0 a1 _ u0_0 u0_1 u0_4 u0_5 u0_8 u0_9 u0_10 u0_11 u0_12 u0_13 x0_length x0_wordStart x0_wordLength y1_text 10 (nle rfl) r29 hc) gX5_directionWord_X5_wordIs rfl hv_X5_wordIs ⟨nle rfl, nle rfl⟩ 5 0 rfl rfl rfl (rest := []) rfl rfl hl.1 (nle rfl) dX5_directionWord_29 (fun H locs hP hD hS => ?_)
      refine kb_eq (pc := 32) hexec hb dX5_directionWord_32 (tgt := 39) rfl hf (fun hc hf => ?_) (fun hc hf => ?_)
      · refine lv_aload_n (pc := 39) hexec hb dX5_directionWord_39 rfl (lv_at hl 0 rfl) ?_
        refine k_lds (pc := 40) hexec hb (own := RX5) hown hG 11 rfl dX5_directionWord_40 ?_
        obtain ⟨r42, hc, hf⟩ := bd1_e hf
        refine kVp (pc := 42) (S := ⟨hexec, hb, hml, hown, hts⟩) hP hD hG hA hS [0, 1] [] [0, 1] (w2 := (w_X5_directionWord g a0 a1 u0_0 u0_1 u0_4 u0_5 u0_8 u0_9 u0_10 u0_11 u0_12 u0_13 x0_length x0_wordStart x0_wordLength y1_text)) rfl rfl rfl rfl rfl rfl (by decide) (c_X5_wordIs l g a0 a1 _ u0_0 u0_1 u0_4 u0_5 u0_8 u0_9 u0_10 u0_11 u0_12 u0_13 x0_length x0_wordStart x0_wordLength y1_text 11 (nle rfl) r42 hc) gX5_directionWord_X5_wordIs rfl hv_X5_wordIs ⟨nle rfl, nle rfl⟩ 5 0 rfl rfl rfl (rest := []) rfl rfl hl.1 (nle rfl) dX5_directionWord_42 (fun H locs hP hD hS => ?_)
        refine kb_eq (pc := 45) hexec hb dX5_directionWord_45 (tgt := 52) rfl hf (fun hc hf => ?_) (fun hc hf => ?_)
        · refine lv_iconst (pc := 52) hexec hb dX5_directionWord_52 ki_m1 ?_
          cases hf
          exact ke_i hQ hexec hb hr hP hD hS dX5_directionWord_53 hlocks
        · refine lv_iconst (pc := 48) hexec hb dX5_directionWord_48 ki_3 ?_
          refine lv_goto (pc := 49) hexec hb dX5_directionWord_49 (tgt := 53) rfl ?_
          cases hf
          exact ke_i hQ hexec hb hr hP hD hS dX5_directionWord_53 hlocks
      · refine lv_iconst (pc := 35) hexec hb dX5_directionWord_35 ki_2 ?_
        refine lv_goto (pc := 36) hexec hb dX5_directionWord_36 (tgt := 53) rfl ?_
        cases hf
        exact ke_i hQ hexec hb hr hP hD hS dX5_directionWord_53 hlocks
    · refine lv_iconst (pc := 22) hexec hb dX5_directionWord_22 ki_1 ?_
      refine lv_goto (pc := 23) hexec hb dX5_directionWord_23 (tgt := 53) rfl ?_
      cases hf
      exact ke_i hQ hexec hb hr hP hD hS dX5_directionWord_53 hlocks
  · refine lv_iconst (pc := 9) hexec hb dX5_directionWord_9 ki_0 ?_
    refine lv_goto (pc := 10) hexec hb dX5_directionWord_10 (tgt := 53) rfl ?_
    cases hf
    exact ke_i hQ hexec hb hr hP hD hS dX5_directionWord_53 hlocks
abbrev w_X5_readPlace (g : GE) (a0 a1 a2 a3 a4 a5 a6 a7 a8 a9 a10 a11 a12 : Nat) (u0_1 u0_5 u0_8 u0_9 u0_10 u0_11 u1_2 u3_2 u3_5 : Value) (x0_length : Int32) (x0_at : Int32) (x0_wordStart : Int32) (x0_wordLength : Int32) (x0_error : Int32) (x0_errorAt : Int32) (y2_text : Nat → Int32) (x3_rows : Int32) (x3_columns : Int32) (x4_count : Int32) (x4_reds : Int32) (y5_letterOn : Nat → Int32) (y6_namesOn : Nat → Int32) (y7_land : Nat → Int32) (y8_riverOf : Nat → Int32) (y9_direction : Nat → Int32) (y10_home : Nat → Int32) (y11_length : Nat → Int32) (y12_letters : Nat → Int32) : va_W := [(a0, .inr (5, [.ref a1, u0_1, .ref a2, .int x0_length, .int x0_at, u0_5, .int x0_wordStart, .int x0_wordLength, u0_8, u0_9, u0_10, u0_11, .int x0_error, .int x0_errorAt])), (a1, .inr (6, [.ref a3, .ref a4, u1_2, .ref a6, .ref a5])), (a2, .inl (g.2.1 0, 500, .inl y2_text)), (a3, .inr (1, [.int x3_rows, .int x3_columns, u3_2, .ref a7, .ref a8, u3_5])), (a4, .inr (2, [.int x4_count, .int x4_reds, .ref a10, .ref a9, .ref a11, .ref a12])), (a5, .inl (g.2.1 0, 144, .inl y5_letterOn)), (a6, .inl (g.2.1 0, 144, .inl y6_namesOn)), (a7, .inl (g.2.1 1, 144, .inl y7_land)), (a8, .inl (g.2.1 0, 144, .inl y8_riverOf)), (a9, .inl (g.2.1 0, 8, .inl y9_direction)), (a10, .inl (g.2.1 0, 8, .inl y10_home)), (a11, .inl (g.2.1 0, 8, .inl y11_length)), (a12, .inl (g.2.1 0, 64, .inl y12_letters))]
noncomputable def f_X5_readPlace (x0_length : Int32) (x0_at : Int32) (x0_wordStart : Int32) (x0_wordLength : Int32) (x0_error : Int32) (x0_errorAt : Int32) (y2_text : Nat → Int32) (x3_rows : Int32) (x3_columns : Int32) (x4_count : Int32) (x4_reds : Int32) (y5_letterOn : Nat → Int32) (y6_namesOn : Nat → Int32) (y7_land : Nat → Int32) (y8_riverOf : Nat → Int32) (y9_direction : Nat → Int32) (y10_home : Nat → Int32) (y11_length : Nat → Int32) (y12_letters : Nat → Int32)  : Option (Int32 × Int32 × Int32 × Int32 × Int32 × Int32 × (Nat → Int32) × (Nat → Int32) × (Nat → Int32)) :=
  bd6 (f_X5_takeName x0_length x0_at x0_wordStart x0_wordLength x0_error x0_errorAt y2_text) fun (r1 : Int32) (x0_at_1 : Int32) (x0_wordStart_1 : Int32) (x0_wordLength_1 : Int32) (x0_error_1 : Int32) (x0_errorAt_1 : Int32) =>
  (if r1 = 0 then (
    some (0, x0_at_1, x0_wordStart_1, x0_wordLength_1, x0_error_1, x0_errorAt_1, y5_letterOn, y6_namesOn, y9_direction)
  ) else (
    bd1 (f_X5_namedHarbour x0_length x0_wordStart_1 x0_wordLength_1 y2_text x4_count y11_length y12_letters) fun (r10 : Int32) =>
    (if r10 = (-1) then (
      bd3 (f_X5_fail x0_error_1 x0_errorAt_1 4 x0_wordStart_1) fun (r25 : Int32) (x0_error_5 : Int32) (x0_errorAt_5 : Int32) =>
      zb r25 (some (r25, x0_at_1, x0_wordStart_1, x0_wordLength_1, x0_error_5, x0_errorAt_5, y5_letterOn, y6_namesOn, y9_direction))
    ) else (
      bd6 (f_X5_takeWord x0_length x0_at_1 x0_wordStart_1 x0_wordLength_1 x0_error_1 x0_errorAt_1 y2_text) fun (r30 : Int32) (x0_at_2 : Int32) (x0_wordStart_2 : Int32) (x0_wordLength_2 : Int32) (x0_error_2 : Int32) (x0_errorAt_2 : Int32) =>
      (if r30 = 0 then (
        some (0, x0_at_2, x0_wordStart_2, x0_wordLength_2, x0_error_2, x0_errorAt_2, y5_letterOn, y6_namesOn, y9_direction)
      ) else (
        bd1 (f_X5_directionWord x0_length x0_wordStart_2 x0_wordLength_2 y2_text) fun (r39 : Int32) =>
        (if r39 = (-1) then (
          bd3 (f_X5_fail x0_error_2 x0_errorAt_2 1 x0_wordStart_2) fun (r54 : Int32) (x0_error_4 : Int32) (x0_errorAt_4 : Int32) =>
          zb r54 (some (r54, x0_at_2, x0_wordStart_2, x0_wordLength_2, x0_error_4, x0_errorAt_4, y5_letterOn, y6_namesOn, y9_direction))
        ) else (
          bd1 (f_X6_reasonAgainst x3_rows x3_columns x4_count x4_reds y5_letterOn y6_namesOn y7_land y8_riverOf y10_home y11_length y12_letters r10 r39) fun (r64 : Int32) =>
          (if r64 = 0 then (
            bd3 (f_X6_putName x3_rows x3_columns x4_count y5_letterOn y6_namesOn y9_direction y10_home y11_length y12_letters r10 r39) fun (y5_letterOn_1 : Nat → Int32) (y6_namesOn_1 : Nat → Int32) (y9_direction_1 : Nat → Int32) =>
            some (1, x0_at_2, x0_wordStart_2, x0_wordLength_2, x0_error_2, x0_errorAt_2, y5_letterOn_1, y6_namesOn_1, y9_direction_1)
          ) else (
            bd3 (f_X5_fail x0_error_2 x0_errorAt_2 3 x0_wordStart_2) fun (r76 : Int32) (x0_error_3 : Int32) (x0_errorAt_3 : Int32) =>
            zb r76 (some (r76, x0_at_2, x0_wordStart_2, x0_wordLength_2, x0_error_3, x0_errorAt_3, y5_letterOn, y6_namesOn, y9_direction))
          ))
        ))
      ))
    ))
  ))
set_option maxRecDepth 4000 in
theorem c_X5_readPlace (l : Launch) (g : GE) (a0 a1 a2 a3 a4 a5 a6 a7 a8 a9 a10 a11 a12 : Nat) (sz : Nat) (u0_1 u0_5 u0_8 u0_9 u0_10 u0_11 u1_2 u3_2 u3_5 : Value) (x0_length : Int32) (x0_at : Int32) (x0_wordStart : Int32) (x0_wordLength : Int32) (x0_error : Int32) (x0_errorAt : Int32) (y2_text : Nat → Int32) (x3_rows : Int32) (x3_columns : Int32) (x4_count : Int32) (x4_reds : Int32) (y5_letterOn : Nat → Int32) (y6_namesOn : Nat → Int32) (y7_land : Nat → Int32) (y8_riverOf : Nat → Int32) (y9_direction : Nat → Int32) (y10_home : Nat → Int32) (y11_length : Nat → Int32) (y12_letters : Nat → Int32)   (r : Int32) (o_x0_at : Int32) (o_x0_wordStart : Int32) (o_x0_wordLength : Int32) (o_x0_error : Int32) (o_x0_errorAt : Int32) (o_y5_letterOn : Nat → Int32) (o_y6_namesOn : Nat → Int32) (o_y9_direction : Nat → Int32) (hf : f_X5_readPlace x0_length x0_at x0_wordStart x0_wordLength x0_error x0_errorAt y2_text x3_rows x3_columns x4_count x4_reds y5_letterOn y6_namesOn y7_land y8_riverOf y9_direction y10_home y11_length y12_letters = some (r, o_x0_at, o_x0_wordStart, o_x0_wordLength, o_x0_error, o_x0_errorAt, o_y5_letterOn, o_y6_namesOn, o_y9_direction)) : MI l g yX5_readPlace wsX5_readPlace 7 153 [.ref a0] (w_X5_readPlace g a0 a1 a2 a3 a4 a5 a6 a7 a8 a9 a10 a11 a12 u0_1 u0_5 u0_8 u0_9 u0_10 u0_11 u1_2 u3_2 u3_5 x0_length x0_at x0_wordStart x0_wordLength x0_error x0_errorAt y2_text x3_rows x3_columns x4_count x4_reds y5_letterOn y6_namesOn y7_land y8_riverOf y9_direction y10_home y11_length y12_letters) sz (some (.int r)) (w_X5_readPlace g a0 a1 a2 a3 a4 a5 a6 a7 a8 a9 a10 a11 a12 u0_1 u0_5 u0_8 u0_9 u0_10 u0_11 u1_2 u3_2 u3_5 x0_length o_x0_at o_x0_wordStart o_x0_wordLength o_x0_error o_x0_errorAt y2_text x3_rows x3_columns x4_count x4_reds o_y5_letterOn o_y6_namesOn y7_land y8_riverOf o_y9_direction y10_home y11_length y12_letters) := by
  refine MI.start (cc := cX5_readPlace) (maxL := 3) (ret := (some .boolean)) rfl rfl (nle rfl) ?_
  intro p e s m args below meth c A ls Q hQ hexec hb hr hts hown hlocks hml hA hP hD hG hS hl
  unfold f_X5_readPlace at hf
  have hWX1 : ∀ w ∈ wsX10, w.before args s = true := fun w h => hts w (List.mem_cons_of_mem _ (List.mem_append_right _ h))
  have hWX2 : ∀ w ∈ wsX20, w.before args s = true := fun w h => hts w (List.mem_cons_of_mem _ (List.mem_append_left _ (List.mem_append_right _ h)))
  have hWX5 : ∀ w ∈ wsX50, w.before args s = true := fun w h => hts w (List.mem_cons_of_mem _ (List.mem_append_left _ (List.mem_append_left _ (List.mem_append_left _ (List.mem_append_right _ h)))))
  have hWX6 : ∀ w ∈ wsX60, w.before args s = true := fun w h => hts w (List.mem_cons_of_mem _ (List.mem_append_left _ (List.mem_append_left _ (List.mem_append_right _ h))))
  have hS : va_S A s.heap s.heap [] := hS
  refine lv_aload_n (pc := 0) hexec hb dX5_readPlace_0 rfl (lv_at hl 0 rfl) ?_
  obtain ⟨r1, x0_at_1, x0_wordStart_1, x0_wordLength_1, x0_error_1, x0_errorAt_1, hc, hf⟩ := bd6_e hf
  refine kVp (pc := 1) (S := ⟨hexec, hb, hml, hown, hts⟩) hP hD hG hA hS [0, 2] [1, 3, 4, 5, 6, 7, 8, 9, 10, 11, 12] [11, 0, 12, 1, 2, 3, 4, 5, 6, 7, 8, 9, 10] (w2 := (w_X5_readPlace g a0 a1 a2 a3 a4 a5 a6 a7 a8 a9 a10 a11 a12 u0_1 u0_5 u0_8 u0_9 u0_10 u0_11 u1_2 u3_2 u3_5 x0_length x0_at_1 x0_wordStart_1 x0_wordLength_1 x0_error_1 x0_errorAt_1 y2_text x3_rows x3_columns x4_count x4_reds y5_letterOn y6_namesOn y7_land y8_riverOf y9_direction y10_home y11_length y12_letters)) rfl rfl rfl rfl rfl rfl (by decide) (c_X5_takeName l g a0 a2 _ (.ref a1) u0_1 u0_5 u0_8 u0_9 u0_10 u0_11 x0_length x0_at x0_wordStart x0_wordLength x0_error x0_errorAt y2_text r1 x0_at_1 x0_wordStart_1 x0_wordLength_1 x0_error_1 x0_errorAt_1 hc) gX5_readPlace_X5_takeName rfl hv_X5_takeName ⟨nle rfl, nle rfl⟩ 5 0 rfl rfl rfl (rest := []) rfl rfl hl.1 (nle rfl) dX5_readPlace_1 (fun H locs hP hD hS => ?_)
  refine kb_ne (pc := 4) hexec hb dX5_readPlace_4 (tgt := 9) rfl hf (fun hc hf => ?_) (fun hc hf => ?_)
  · refine lv_aload_n (pc := 9) hexec hb dX5_readPlace_9 rfl (lv_at hl 0 rfl) ?_
    obtain ⟨r10, hc, hf⟩ := bd1_e hf
    refine kVp (pc := 10) (S := ⟨hexec, hb, hml, hown, hts⟩) hP hD hG hA hS [0, 1, 2, 4, 11, 12] [3, 5, 6, 7, 8, 9, 10] [7, 8, 9, 0, 10, 1, 2, 3, 4, 5, 6, 11, 12] (w2 := (w_X5_readPlace g a0 a1 a2 a3 a4 a5 a6 a7 a8 a9 a10 a11 a12 u0_1 u0_5 u0_8 u0_9 u0_10 u0_11 u1_2 u3_2 u3_5 x0_length x0_at_1 x0_wordStart_1 x0_wordLength_1 x0_error_1 x0_errorAt_1 y2_text x3_rows x3_columns x4_count x4_reds y5_letterOn y6_namesOn y7_land y8_riverOf y9_direction y10_home y11_length y12_letters)) rfl rfl rfl rfl rfl rfl (by decide) (c_X5_namedHarbour l g a0 a1 a2 a4 a11 a12 _ u0_1 (.int x0_at_1) u0_5 u0_8 u0_9 u0_10 u0_11 (.int x0_error_1) (.int x0_errorAt_1) (.ref a3) u1_2 (.ref a6) (.ref a5) (.int x4_reds) (.ref a10) (.ref a9) x0_length x0_wordStart_1 x0_wordLength_1 y2_text x4_count y11_length y12_letters r10 hc) gX5_readPlace_X5_namedHarbour rfl hv_X5_namedHarbour ⟨nle rfl, nle rfl⟩ 5 0 rfl rfl rfl (rest := []) rfl rfl hl.1 (nle rfl) dX5_readPlace_10 (fun H locs hP hD hS => ?_)
    refine lv_istore_n (pc := 13) hexec hb dX5_readPlace_13 rfl hl (nle rfl) rfl (fun ls (hl : lv_has ls 3 [(1, .int r10), (0, .ref a0)]) => ?_)
    refine lv_iload_n (pc := 14) hexec hb dX5_readPlace_14 rfl (lv_at hl 0 rfl) ?_
    refine lv_iconst (pc := 15) hexec hb dX5_readPlace_15 ki_m1 ?_
    refine ki_ne (pc := 16) hexec hb dX5_readPlace_16 (tgt := 29) rfl hf (fun hc hf => ?_) (fun hc hf => ?_)
    · refine lv_aload_n (pc := 29) hexec hb dX5_readPlace_29 rfl (lv_at hl 1 rfl) ?_
      obtain ⟨r30, x0_at_2, x0_wordStart_2, x0_wordLength_2, x0_error_2, x0_errorAt_2, hc, hf⟩ := bd6_e hf
      refine kVp (pc := 30) (S := ⟨hexec, hb, hml, hown, hts⟩) hP hD hG hA hS [0, 2] [1, 3, 4, 5, 6, 7, 8, 9, 10, 11, 12] [11, 0, 12, 1, 2, 3, 4, 5, 6, 7, 8, 9, 10] (w2 := (w_X5_readPlace g a0 a1 a2 a3 a4 a5 a6 a7 a8 a9 a10 a11 a12 u0_1 u0_5 u0_8 u0_9 u0_10 u0_11 u1_2 u3_2 u3_5 x0_length x0_at_2 x0_wordStart_2 x0_wordLength_2 x0_error_2 x0_errorAt_2 y2_text x3_rows x3_columns x4_count x4_reds y5_letterOn y6_namesOn y7_land y8_riverOf y9_direction y10_home y11_length y12_letters)) rfl rfl rfl rfl rfl rfl (by decide) (c_X5_takeWord l g a0 a2 _ (.ref a1) u0_1 u0_5 u0_8 u0_9 u0_10 u0_11 x0_length x0_at_1 x0_wordStart_1 x0_wordLength_1 x0_error_1 x0_errorAt_1 y2_text r30 x0_at_2 x0_wordStart_2 x0_wordLength_2 x0_error_2 x0_errorAt_2 hc) gX5_readPlace_X5_takeWord rfl hv_X5_takeWord ⟨nle rfl, nle rfl⟩ 5 0 rfl rfl rfl (rest := []) rfl rfl hl.1 (nle rfl) dX5_readPlace_30 (fun H locs hP hD hS => ?_)
      refine kb_ne (pc := 33) hexec hb dX5_readPlace_33 (tgt := 38) rfl hf (fun hc hf => ?_) (fun hc hf => ?_)
      · refine lv_aload_n (pc := 38) hexec hb dX5_readPlace_38 rfl (lv_at hl 1 rfl) ?_
        obtain ⟨r39, hc, hf⟩ := bd1_e hf
        refine kVp (pc := 39) (S := ⟨hexec, hb, hml, hown, hts⟩) hP hD hG hA hS [0, 2] [1, 3, 4, 5, 6, 7, 8, 9, 10, 11, 12] [11, 0, 12, 1, 2, 3, 4, 5, 6, 7, 8, 9, 10] (w2 := (w_X5_readPlace g a0 a1 a2 a3 a4 a5 a6 a7 a8 a9 a10 a11 a12 u0_1 u0_5 u0_8 u0_9 u0_10 u0_11 u1_2 u3_2 u3_5 x0_length x0_at_2 x0_wordStart_2 x0_wordLength_2 x0_error_2 x0_errorAt_2 y2_text x3_rows x3_columns x4_count x4_reds y5_letterOn y6_namesOn y7_land y8_riverOf y9_direction y10_home y11_length y12_letters)) rfl rfl rfl rfl rfl rfl (by decide) (c_X5_directionWord l g a0 a2 _ (.ref a1) u0_1 (.int x0_at_2) u0_5 u0_8 u0_9 u0_10 u0_11 (.int x0_error_2) (.int x0_errorAt_2) x0_length x0_wordStart_2 x0_wordLength_2 y2_text r39 hc) gX5_readPlace_X5_directionWord rfl hv_X5_directionWord ⟨nle rfl, nle rfl⟩ 5 0 rfl rfl rfl (rest := []) rfl rfl hl.1 (nle rfl) dX5_readPlace_39 (fun H locs hP hD hS => ?_)
        refine lv_istore_n (pc := 42) hexec hb dX5_readPlace_42 rfl hl (nle rfl) rfl (fun ls (hl : lv_has ls 3 [(2, .int r39), (1, .int r10), (0, .ref a0)]) => ?_)
        refine lv_iload_n (pc := 43) hexec hb dX5_readPlace_43 rfl (lv_at hl 0 rfl) ?_
        refine lv_iconst (pc := 44) hexec hb dX5_readPlace_44 ki_m1 ?_
        refine ki_ne (pc := 45) hexec hb dX5_readPlace_45 (tgt := 58) rfl hf (fun hc hf => ?_) (fun hc hf => ?_)
        · refine lv_aload_n (pc := 58) hexec hb dX5_readPlace_58 rfl (lv_at hl 2 rfl) ?_
          refine kg_get (pc := 59) hexec hb (own := RX5) hWX5 hown hG hP 0 rfl rfl 0 (nle rfl) (hts _ (List.mem_cons_of_mem _ (List.mem_append_left _ (List.mem_append_left _ (List.mem_append_left _ (List.mem_append_left _ (List.mem_append_left _ (List.mem_of_getElem? (i := 1) rfl)))))))) rfl rfl dX5_readPlace_59 ?_
          refine lv_iload_n (pc := 62) hexec hb dX5_readPlace_62 rfl (lv_at hl 1 rfl) ?_
          refine lv_iload_n (pc := 63) hexec hb dX5_readPlace_63 rfl (lv_at hl 0 rfl) ?_
          obtain ⟨r64, hc, hf⟩ := bd1_e hf
          refine kVp (pc := 64) (S := ⟨hexec, hb, hml, hown, hts⟩) hP hD hG hA hS [1, 3, 4, 5, 6, 7, 8, 10, 11, 12] [0, 2, 9] [0, 3, 1, 4, 5, 6, 7, 8, 9, 2, 10, 11, 12] (w2 := (w_X5_readPlace g a0 a1 a2 a3 a4 a5 a6 a7 a8 a9 a10 a11 a12 u0_1 u0_5 u0_8 u0_9 u0_10 u0_11 u1_2 u3_2 u3_5 x0_length x0_at_2 x0_wordStart_2 x0_wordLength_2 x0_error_2 x0_errorAt_2 y2_text x3_rows x3_columns x4_count x4_reds y5_letterOn y6_namesOn y7_land y8_riverOf y9_direction y10_home y11_length y12_letters)) rfl rfl rfl rfl rfl rfl (by decide) (c_X6_reasonAgainst l g a1 a3 a4 a5 a6 a7 a8 a10 a11 a12 _ u1_2 u3_2 u3_5 (.ref a9) x3_rows x3_columns x4_count x4_reds y5_letterOn y6_namesOn y7_land y8_riverOf y10_home y11_length y12_letters r10 r39 r64 hc) gX5_readPlace_X6_reasonAgainst rfl hv_X6_reasonAgainst ⟨nle rfl, nle rfl⟩ 6 0 rfl rfl rfl (rest := []) rfl rfl hl.1 (nle rfl) dX5_readPlace_64 (fun H locs hP hD hS => ?_)
          refine kb_eq (pc := 67) hexec hb dX5_readPlace_67 (tgt := 80) rfl hf (fun hc hf => ?_) (fun hc hf => ?_)
          · refine lv_aload_n (pc := 80) hexec hb dX5_readPlace_80 rfl (lv_at hl 2 rfl) ?_
            refine kg_get (pc := 81) hexec hb (own := RX5) hWX5 hown hG hP 0 rfl rfl 0 (nle rfl) (hts _ (List.mem_cons_of_mem _ (List.mem_append_left _ (List.mem_append_left _ (List.mem_append_left _ (List.mem_append_left _ (List.mem_append_left _ (List.mem_of_getElem? (i := 1) rfl)))))))) rfl rfl dX5_readPlace_81 ?_
            refine lv_iload_n (pc := 84) hexec hb dX5_readPlace_84 rfl (lv_at hl 1 rfl) ?_
            refine lv_iload_n (pc := 85) hexec hb dX5_readPlace_85 rfl (lv_at hl 0 rfl) ?_
            obtain ⟨y5_letterOn_1, y6_namesOn_1, y9_direction_1, hc, hf⟩ := bd3_e hf
            refine kVp (pc := 86) (S := ⟨hexec, hb, hml, hown, hts⟩) hP hD hG hA hS [1, 3, 4, 5, 6, 9, 10, 11, 12] [0, 2, 7, 8] [0, 4, 1, 5, 6, 7, 8, 2, 3, 9, 10, 11, 12] (w2 := (w_X5_readPlace g a0 a1 a2 a3 a4 a5 a6 a7 a8 a9 a10 a11 a12 u0_1 u0_5 u0_8 u0_9 u0_10 u0_11 u1_2 u3_2 u3_5 x0_length x0_at_2 x0_wordStart_2 x0_wordLength_2 x0_error_2 x0_errorAt_2 y2_text x3_rows x3_columns x4_count x4_reds y5_letterOn_1 y6_namesOn_1 y7_land y8_riverOf y9_direction_1 y10_home y11_length y12_letters)) rfl rfl rfl rfl rfl rfl (by decide) (c_X6_putName l g a1 a3 a4 a5 a6 a9 a10 a11 a12 _ u1_2 u3_2 (.ref a7) (.ref a8) u3_5 (.int x4_reds) x3_rows x3_columns x4_count y5_letterOn y6_namesOn y9_direction y10_home y11_length y12_letters r10 r39 y5_letterOn_1 y6_namesOn_1 y9_direction_1 hc) gX5_readPlace_X6_putName rfl hv_X6_putName ⟨nle rfl, nle rfl⟩ 6 0 rfl rfl rfl (rest := []) rfl rfl hl.1 (nle rfl) dX5_readPlace_86 (fun H locs hP hD hS => ?_)
            refine lv_iconst (pc := 89) hexec hb dX5_readPlace_89 ki_1 ?_
            cases hf
            exact ke_z hQ hexec hb hr (.inr rfl) hP hD hS dX5_readPlace_90 hlocks
          · refine lv_aload_n (pc := 70) hexec hb dX5_readPlace_70 rfl (lv_at hl 2 rfl) ?_
            refine lv_iconst (pc := 71) hexec hb dX5_readPlace_71 ki_3 ?_
            refine lv_aload_n (pc := 72) hexec hb dX5_readPlace_72 rfl (lv_at hl 2 rfl) ?_
            refine kg_get (pc := 73) hexec hb (own := RX5) hWX5 hown hG hP 0 rfl rfl 6 (nle rfl) (hts _ (List.mem_cons_of_mem _ (List.mem_append_left _ (List.mem_append_left _ (List.mem_append_left _ (List.mem_append_left _ (List.mem_append_left _ (List.mem_of_getElem? (i := 0) rfl)))))))) rfl rfl dX5_readPlace_73 ?_
            obtain ⟨r76, x0_error_3, x0_errorAt_3, hc, hf⟩ := bd3_e hf
            refine kVp (pc := 76) (S := ⟨hexec, hb, hml, hown, hts⟩) hP hD hG hA hS [0] [1, 2, 3, 4, 5, 6, 7, 8, 9, 10, 11, 12] [12, 0, 1, 2, 3, 4, 5, 6, 7, 8, 9, 10, 11] (w2 := (w_X5_readPlace g a0 a1 a2 a3 a4 a5 a6 a7 a8 a9 a10 a11 a12 u0_1 u0_5 u0_8 u0_9 u0_10 u0_11 u1_2 u3_2 u3_5 x0_length x0_at_2 x0_wordStart_2 x0_wordLength_2 x0_error_3 x0_errorAt_3 y2_text x3_rows x3_columns x4_count x4_reds y5_letterOn y6_namesOn y7_land y8_riverOf y9_direction y10_home y11_length y12_letters)) rfl rfl rfl rfl rfl rfl (by decide) (c_X5_fail l g a0 _ (.ref a1) u0_1 (.ref a2) (.int x0_length) (.int x0_at_2) u0_5 (.int x0_wordStart_2) (.int x0_wordLength_2) u0_8 u0_9 u0_10 u0_11 x0_error_2 x0_errorAt_2 3 x0_wordStart_2 r76 x0_error_3 x0_errorAt_3 hc) gX5_readPlace_X5_fail rfl hv_X5_fail ⟨nle rfl, nle rfl⟩ 5 0 rfl rfl rfl (rest := []) rfl rfl hl.1 (nle rfl) dX5_readPlace_76 (fun H locs hP hD hS => ?_)
            obtain ⟨hx, hf⟩ := zb_e hf
            cases hf
            exact ke_z hQ hexec hb hr hx hP hD hS dX5_readPlace_79 hlocks
        · refine lv_aload_n (pc := 48) hexec hb dX5_readPlace_48 rfl (lv_at hl 2 rfl) ?_
          refine lv_iconst (pc := 49) hexec hb dX5_readPlace_49 ki_1 ?_
          refine lv_aload_n (pc := 50) hexec hb dX5_readPlace_50 rfl (lv_at hl 2 rfl) ?_
          refine kg_get (pc := 51) hexec hb (own := RX5) hWX5 hown hG hP 0 rfl rfl 6 (nle rfl) (hts _ (List.mem_cons_of_mem _ (List.mem_append_left _ (List.mem_append_left _ (List.mem_append_left _ (List.mem_append_left _ (List.mem_append_left _ (List.mem_of_getElem? (i := 0) rfl)))))))) rfl rfl dX5_readPlace_51 ?_
          obtain ⟨r54, x0_error_4, x0_errorAt_4, hc, hf⟩ := bd3_e hf
          refine kVp (pc := 54) (S := ⟨hexec, hb, hml, hown, hts⟩) hP hD hG hA hS [0] [1, 2, 3, 4, 5, 6, 7, 8, 9, 10, 11, 12] [12, 0, 1, 2, 3, 4, 5, 6, 7, 8, 9, 10, 11] (w2 := (w_X5_readPlace g a0 a1 a2 a3 a4 a5 a6 a7 a8 a9 a10 a11 a12 u0_1 u0_5 u0_8 u0_9 u0_10 u0_11 u1_2 u3_2 u3_5 x0_length x0_at_2 x0_wordStart_2 x0_wordLength_2 x0_error_4 x0_errorAt_4 y2_text x3_rows x3_columns x4_count x4_reds y5_letterOn y6_namesOn y7_land y8_riverOf y9_direction y10_home y11_length y12_letters)) rfl rfl rfl rfl rfl rfl (by decide) (c_X5_fail l g a0 _ (.ref a1) u0_1 (.ref a2) (.int x0_length) (.int x0_at_2) u0_5 (.int x0_wordStart_2) (.int x0_wordLength_2) u0_8 u0_9 u0_10 u0_11 x0_error_2 x0_errorAt_2 1 x0_wordStart_2 r54 x0_error_4 x0_errorAt_4 hc) gX5_readPlace_X5_fail rfl hv_X5_fail ⟨nle rfl, nle rfl⟩ 5 0 rfl rfl rfl (rest := []) rfl rfl hl.1 (nle rfl) dX5_readPlace_54 (fun H locs hP hD hS => ?_)
          obtain ⟨hx, hf⟩ := zb_e hf
          cases hf
          exact ke_z hQ hexec hb hr hx hP hD hS dX5_readPlace_57 hlocks
      · refine lv_iconst (pc := 36) hexec hb dX5_readPlace_36 ki_0 ?_
        cases hf
        exact ke_z hQ hexec hb hr (.inl rfl) hP hD hS dX5_readPlace_37 hlocks
    · refine lv_aload_n (pc := 19) hexec hb dX5_readPlace_19 rfl (lv_at hl 1 rfl) ?_
      refine lv_iconst (pc := 20) hexec hb dX5_readPlace_20 ki_4 ?_
      refine lv_aload_n (pc := 21) hexec hb dX5_readPlace_21 rfl (lv_at hl 1 rfl) ?_
      refine kg_get (pc := 22) hexec hb (own := RX5) hWX5 hown hG hP 0 rfl rfl 6 (nle rfl) (hts _ (List.mem_cons_of_mem _ (List.mem_append_left _ (List.mem_append_left _ (List.mem_append_left _ (List.mem_append_left _ (List.mem_append_left _ (List.mem_of_getElem? (i := 0) rfl)))))))) rfl rfl dX5_readPlace_22 ?_
      obtain ⟨r25, x0_error_5, x0_errorAt_5, hc, hf⟩ := bd3_e hf
      refine kVp (pc := 25) (S := ⟨hexec, hb, hml, hown, hts⟩) hP hD hG hA hS [0] [1, 2, 3, 4, 5, 6, 7, 8, 9, 10, 11, 12] [12, 0, 1, 2, 3, 4, 5, 6, 7, 8, 9, 10, 11] (w2 := (w_X5_readPlace g a0 a1 a2 a3 a4 a5 a6 a7 a8 a9 a10 a11 a12 u0_1 u0_5 u0_8 u0_9 u0_10 u0_11 u1_2 u3_2 u3_5 x0_length x0_at_1 x0_wordStart_1 x0_wordLength_1 x0_error_5 x0_errorAt_5 y2_text x3_rows x3_columns x4_count x4_reds y5_letterOn y6_namesOn y7_land y8_riverOf y9_direction y10_home y11_length y12_letters)) rfl rfl rfl rfl rfl rfl (by decide) (c_X5_fail l g a0 _ (.ref a1) u0_1 (.ref a2) (.int x0_length) (.int x0_at_1) u0_5 (.int x0_wordStart_1) (.int x0_wordLength_1) u0_8 u0_9 u0_10 u0_11 x0_error_1 x0_errorAt_1 4 x0_wordStart_1 r25 x0_error_5 x0_errorAt_5 hc) gX5_readPlace_X5_fail rfl hv_X5_fail ⟨nle rfl, nle rfl⟩ 5 0 rfl rfl rfl (rest := []) rfl rfl hl.1 (nle rfl) dX5_readPlace_25 (fun H locs hP hD hS => ?_)
      obtain ⟨hx, hf⟩ := zb_e hf
      cases hf
      exact ke_z hQ hexec hb hr hx hP hD hS dX5_readPlace_28 hlocks
  · refine lv_iconst (pc := 7) hexec hb dX5_readPlace_7 ki_0 ?_
    cases hf
    exact ke_z hQ hexec hb hr (.inl rfl) hP hD hS dX5_readPlace_8 hlocks
abbrev w_X5_readVoyage (g : GE) (a0 a1 a2 a3 a4 a5 a6 a7 : Nat) (u0_1 u0_8 u0_9 u0_10 u0_11 u1_0 u1_3 u1_4 u3_1 u3_2 u3_3 u4_1 u4_2 u4_3 : Value) (x0_length : Int32) (x0_at : Int32) (x0_voyageTold : Int32) (x0_wordStart : Int32) (x0_wordLength : Int32) (x0_error : Int32) (x0_errorAt : Int32) (y2_text : Nat → Int32) (x3_count : Int32) (x4_count : Int32) (y5_length : Nat → Int32) (y6_letters : Nat → Int32) (y7_stops : Nat → Int32) : va_W := [(a0, .inr (5, [.ref a1, u0_1, .ref a2, .int x0_length, .int x0_at, .int x0_voyageTold, .int x0_wordStart, .int x0_wordLength, u0_8, u0_9, u0_10, u0_11, .int x0_error, .int x0_errorAt])), (a1, .inr (6, [u1_0, .ref a3, .ref a4, u1_3, u1_4])), (a2, .inl (g.2.1 0, 500, .inl y2_text)), (a3, .inr (2, [.int x3_count, u3_1, u3_2, u3_3, .ref a5, .ref a6])), (a4, .inr (4, [.int x4_count, u4_1, u4_2, u4_3, .ref a7])), (a5, .inl (g.2.1 0, 8, .inl y5_length)), (a6, .inl (g.2.1 0, 64, .inl y6_letters)), (a7, .inl (g.2.1 0, 16, .inl y7_stops))]
noncomputable def f_X5_readVoyage (x0_length : Int32) (x0_at : Int32) (x0_voyageTold : Int32) (x0_wordStart : Int32) (x0_wordLength : Int32) (x0_error : Int32) (x0_errorAt : Int32) (y2_text : Nat → Int32) (x3_count : Int32) (x4_count : Int32) (y5_length : Nat → Int32) (y6_letters : Nat → Int32) (y7_stops : Nat → Int32)  : Option (Int32 × Int32 × Int32 × Int32 × Int32 × Int32 × Int32 × Int32 × (Nat → Int32)) :=
  (if x0_voyageTold = 0 then (
    bv (fun (v1 : Int32) (x0_at_1 : Int32) (x0_wordStart_1 : Int32) (x0_wordLength_1 : Int32) (x0_error_1 : Int32) (x0_errorAt_1 : Int32) (x4_count_1 : Int32) (y7_stops_1 : Nat → Int32) => ((
      bv (fun (x0_at_2 : Int32) => ((
        bd6 (f_X5_takeName x0_length x0_at_2 x0_wordStart_1 x0_wordLength_1 x0_error_1 x0_errorAt_1 y2_text) fun (r45 : Int32) (x0_at_3 : Int32) (x0_wordStart_2 : Int32) (x0_wordLength_2 : Int32) (x0_error_2 : Int32) (x0_errorAt_2 : Int32) =>
        (if r45 = 0 then (
          mr (some (0, x0_at_3, 1, x0_wordStart_2, x0_wordLength_2, x0_error_2, x0_errorAt_2, x4_count_1, y7_stops_1))
        ) else (
          (if v1 = 16 then (
            mr (bd3 (f_X5_fail x0_error_2 x0_errorAt_2 3 x0_wordStart_2) fun (r65 : Int32) (x0_error_4 : Int32) (x0_errorAt_4 : Int32) =>
            zb r65 (some (r65, x0_at_3, 1, x0_wordStart_2, x0_wordLength_2, x0_error_4, x0_errorAt_4, x4_count_1, y7_stops_1)))
          ) else (
            bd1 (f_X5_namedHarbour x0_length x0_wordStart_2 x0_wordLength_2 y2_text x3_count y5_length y6_letters) fun (r70 : Int32) =>
            (if r70 = (-1) then (
              mr (bd3 (f_X5_fail x0_error_2 x0_errorAt_2 4 x0_wordStart_2) fun (r85 : Int32) (x0_error_3 : Int32) (x0_errorAt_3 : Int32) =>
              zb r85 (some (r85, x0_at_3, 1, x0_wordStart_2, x0_wordLength_2, x0_error_3, x0_errorAt_3, x4_count_1, y7_stops_1)))
            ) else (
              bd2 (f_X4_addStop x4_count_1 y7_stops_1 r70) fun (x4_count_2 : Int32) (y7_stops_2 : Nat → Int32) =>
              bv (v1 + 1) fun v1_1 =>
              some (.inl (v1_1, x0_at_3, x0_wordStart_2, x0_wordLength_2, x0_error_2, x0_errorAt_2, x4_count_2, y7_stops_2))
            ))
          ))
        ))
        ) : Option ((Int32 × Int32 × Int32 × Int32 × Int32 × Int32 × Int32 × (Nat → Int32)) ⊕ (Int32 × Int32 × Int32 × Int32 × Int32 × Int32 × Int32 × Int32 × (Nat → Int32))))) fun j44 =>
      (if v1 = 0 then (
        j44 x0_at_1
      ) else (
        bd2 (f_X5_nextSign x0_length x0_at_1 y2_text) fun (r29 : Int32) (x0_at_4 : Int32) =>
        bd1 (f_X5_isLetter r29) fun (r32 : Int32) =>
        (if r32 = 0 then (
          mr (some (1, x0_at_4, 1, x0_wordStart_1, x0_wordLength_1, x0_error_1, x0_errorAt_1, x4_count_1, y7_stops_1))
        ) else (
          (if 16 < v1 then (
            mr (some (1, x0_at_4, 1, x0_wordStart_1, x0_wordLength_1, x0_error_1, x0_errorAt_1, x4_count_1, y7_stops_1))
          ) else (
            j44 x0_at_4
          ))
        ))
      ))
      ) : Option ((Int32 × Int32 × Int32 × Int32 × Int32 × Int32 × Int32 × (Nat → Int32)) ⊕ (Int32 × Int32 × Int32 × Int32 × Int32 × Int32 × Int32 × Int32 × (Nat → Int32))))) fun l24 =>
    lq8 l24 0 x0_at x0_wordStart x0_wordLength x0_error x0_errorAt x4_count y7_stops
  ) else (
    bd3 (f_X5_fail x0_error x0_errorAt 3 x0_wordStart) fun (r13 : Int32) (x0_error_5 : Int32) (x0_errorAt_5 : Int32) =>
    zb r13 (some (r13, x0_at, x0_voyageTold, x0_wordStart, x0_wordLength, x0_error_5, x0_errorAt_5, x4_count, y7_stops))
  ))
set_option maxRecDepth 4000 in
theorem c_X5_readVoyage (l : Launch) (g : GE) (a0 a1 a2 a3 a4 a5 a6 a7 : Nat) (sz : Nat) (u0_1 u0_8 u0_9 u0_10 u0_11 u1_0 u1_3 u1_4 u3_1 u3_2 u3_3 u4_1 u4_2 u4_3 : Value) (x0_length : Int32) (x0_at : Int32) (x0_voyageTold : Int32) (x0_wordStart : Int32) (x0_wordLength : Int32) (x0_error : Int32) (x0_errorAt : Int32) (y2_text : Nat → Int32) (x3_count : Int32) (x4_count : Int32) (y5_length : Nat → Int32) (y6_letters : Nat → Int32) (y7_stops : Nat → Int32)   (r : Int32) (o_x0_at : Int32) (o_x0_voyageTold : Int32) (o_x0_wordStart : Int32) (o_x0_wordLength : Int32) (o_x0_error : Int32) (o_x0_errorAt : Int32) (o_x4_count : Int32) (o_y7_stops : Nat → Int32) (hf : f_X5_readVoyage x0_length x0_at x0_voyageTold x0_wordStart x0_wordLength x0_error x0_errorAt y2_text x3_count x4_count y5_length y6_letters y7_stops = some (r, o_x0_at, o_x0_voyageTold, o_x0_wordStart, o_x0_wordLength, o_x0_error, o_x0_errorAt, o_x4_count, o_y7_stops)) : MI l g yX5_readVoyage wsX5_readVoyage 5 107 [.ref a0] (w_X5_readVoyage g a0 a1 a2 a3 a4 a5 a6 a7 u0_1 u0_8 u0_9 u0_10 u0_11 u1_0 u1_3 u1_4 u3_1 u3_2 u3_3 u4_1 u4_2 u4_3 x0_length x0_at x0_voyageTold x0_wordStart x0_wordLength x0_error x0_errorAt y2_text x3_count x4_count y5_length y6_letters y7_stops) sz (some (.int r)) (w_X5_readVoyage g a0 a1 a2 a3 a4 a5 a6 a7 u0_1 u0_8 u0_9 u0_10 u0_11 u1_0 u1_3 u1_4 u3_1 u3_2 u3_3 u4_1 u4_2 u4_3 x0_length o_x0_at o_x0_voyageTold o_x0_wordStart o_x0_wordLength o_x0_error o_x0_errorAt y2_text x3_count o_x4_count y5_length y6_letters o_y7_stops) := by
  refine MI.start (cc := cX5_readVoyage) (maxL := 3) (ret := (some .boolean)) rfl rfl (nle rfl) ?_
  intro p e s m args below meth c A ls Q hQ hexec hb hr hts hown hlocks hml hA hP hD hG hS hl
  unfold f_X5_readVoyage at hf
  have hWX2 : ∀ w ∈ wsX20, w.before args s = true := fun w h => hts w (List.mem_cons_of_mem _ (List.mem_append_left _ (List.mem_append_right _ h)))
  have hWX4 : ∀ w ∈ wsX40, w.before args s = true := fun w h => hts w (List.mem_cons_of_mem _ (List.mem_append_right _ h))
  have hWX5 : ∀ w ∈ wsX50, w.before args s = true := fun w h => hts w (List.mem_cons_of_mem _ (List.mem_append_left _ (List.mem_append_left _ (List.mem_append_left _ (List.mem_append_right _ h)))))
  have hWX6 : ∀ w ∈ wsX60, w.before args s = true := fun w h => hts w (List.mem_cons_of_mem _ (List.mem_append_left _ (List.mem_append_left _ (List.mem_append_right _ h))))
  have hS : va_S A s.heap s.heap [] := hS
  refine lv_aload_n (pc := 0) hexec hb dX5_readVoyage_0 rfl (lv_at hl 0 rfl) ?_
  refine kg_get (pc := 1) hexec hb (own := RX5) hWX5 hown hG hP 0 rfl rfl 5 (nle rfl) (hts _ (List.mem_cons_of_mem _ (List.mem_append_left _ (List.mem_append_left _ (List.mem_append_left _ (List.mem_append_left _ (List.mem_append_left _ (List.mem_of_getElem? (i := 0) rfl)))))))) rfl rfl dX5_readVoyage_1 ?_
  refine kb_eq (pc := 4) hexec hb dX5_readVoyage_4 (tgt := 17) rfl hf (fun hc hf => ?_) (fun hc hf => ?_)
  · refine lv_aload_n (pc := 17) hexec hb dX5_readVoyage_17 rfl (lv_at hl 0 rfl) ?_
    refine lv_iconst (pc := 18) hexec hb dX5_readVoyage_18 ki_1 ?_
    refine kp_put (pc := 19) hexec hb (own := RX5) hWX5 tyX5 tyX5_ok nmX5 hown hG hP hD hS 0 rfl rfl 5 (nle rfl) (hts _ (List.mem_cons_of_mem _ (List.mem_append_left _ (List.mem_append_left _ (List.mem_append_left _ (List.mem_append_left _ (List.mem_append_left _ (List.mem_of_getElem? (i := 0) rfl)))))))) rfl rfl rfl rfl (nle rfl) dX5_readVoyage_19 (fun H locs (hP : va_P g.1 vwCl (w_X5_readVoyage g a0 a1 a2 a3 a4 a5 a6 a7 u0_1 u0_8 u0_9 u0_10 u0_11 u1_0 u1_3 u1_4 u3_1 u3_2 u3_3 u4_1 u4_2 u4_3 x0_length x0_at 1 x0_wordStart x0_wordLength x0_error x0_errorAt y2_text x3_count x4_count y5_length y6_letters y7_stops) H) (hD : va_D A (w_X5_readVoyage g a0 a1 a2 a3 a4 a5 a6 a7 u0_1 u0_8 u0_9 u0_10 u0_11 u1_0 u1_3 u1_4 u3_1 u3_2 u3_3 u4_1 u4_2 u4_3 x0_length x0_at 1 x0_wordStart x0_wordLength x0_error x0_errorAt y2_text x3_count x4_count y5_length y6_letters y7_stops)) hS => ?_)
    refine lv_iconst (pc := 22) hexec hb dX5_readVoyage_22 ki_0 ?_
    refine lv_istore_n (pc := 23) hexec hb dX5_readVoyage_23 rfl hl (nle rfl) rfl (fun ls (hl : lv_has ls 3 [(1, .int 0), (0, .ref a0)]) => ?_)
    obtain ⟨l24, el24, hf⟩ := bvf8 hf
    obtain ⟨n, hz⟩ := lq8_e hf
    have hL24 : ∀ (n : Nat) (v1 : Int32) (x0_at_1 : Int32) (x0_wordStart_1 : Int32) (x0_wordLength_1 : Int32) (x0_error_1 : Int32) (x0_errorAt_1 : Int32) (x4_count_1 : Int32) (y7_stops_1 : Nat → Int32) (H : Heap) (locs : List Loc) (ls : Array Slot), it8 l24 n v1 x0_at_1 x0_wordStart_1 x0_wordLength_1 x0_error_1 x0_errorAt_1 x4_count_1 y7_stops_1 = some (r, o_x0_at, o_x0_voyageTold, o_x0_wordStart, o_x0_wordLength, o_x0_error, o_x0_errorAt, o_x4_count, o_y7_stops) → va_P g.1 vwCl (w_X5_readVoyage g a0 a1 a2 a3 a4 a5 a6 a7 u0_1 u0_8 u0_9 u0_10 u0_11 u1_0 u1_3 u1_4 u3_1 u3_2 u3_3 u4_1 u4_2 u4_3 x0_length x0_at_1 1 x0_wordStart_1 x0_wordLength_1 x0_error_1 x0_errorAt_1 y2_text x3_count x4_count_1 y5_length y6_letters y7_stops_1) H → va_D A (w_X5_readVoyage g a0 a1 a2 a3 a4 a5 a6 a7 u0_1 u0_8 u0_9 u0_10 u0_11 u1_0 u1_3 u1_4 u3_1 u3_2 u3_3 u4_1 u4_2 u4_3 x0_length x0_at_1 1 x0_wordStart_1 x0_wordLength_1 x0_error_1 x0_errorAt_1 y2_text x3_count x4_count_1 y5_length y6_letters y7_stops_1) → va_S A s.heap H locs → lv_has ls 3 [(0, .ref a0), (1, .int v1)] → W p l e (RM 5 107) s m args below meth c H locs 0 0 Q (F0 m 24 ls []) := by
      intro n
      induction n with
      | zero =>
        intro v1 x0_at_1 x0_wordStart_1 x0_wordLength_1 x0_error_1 x0_errorAt_1 x4_count_1 y7_stops_1 H locs ls hf hP hD hS hl
        exact it8_0 hf
      | succ n24 ih24 =>
        intro v1 x0_at_1 x0_wordStart_1 x0_wordLength_1 x0_error_1 x0_errorAt_1 x4_count_1 y7_stops_1 H locs ls hf hP hD hS hl
        obtain ⟨q24, hf, hk24⟩ := it8_e hf
        have hf := (el24 v1 x0_at_1 x0_wordStart_1 x0_wordLength_1 x0_error_1 x0_errorAt_1 x4_count_1 y7_stops_1).symm.trans hf
        refine lv_iload_n (pc := 24) hexec hb dX5_readVoyage_24 rfl (lv_at hl 1 rfl) ?_
        obtain ⟨j44, ej44, hf⟩ := bvf1 hf
        have hj44 : ∀ (x0_at_2 : Int32) (H : Heap) (locs : List Loc) (ls : Array Slot), j44 x0_at_2 = some q24 → va_P g.1 vwCl (w_X5_readVoyage g a0 a1 a2 a3 a4 a5 a6 a7 u0_1 u0_8 u0_9 u0_10 u0_11 u1_0 u1_3 u1_4 u3_1 u3_2 u3_3 u4_1 u4_2 u4_3 x0_length x0_at_2 1 x0_wordStart_1 x0_wordLength_1 x0_error_1 x0_errorAt_1 y2_text x3_count x4_count_1 y5_length y6_letters y7_stops_1) H → va_D A (w_X5_readVoyage g a0 a1 a2 a3 a4 a5 a6 a7 u0_1 u0_8 u0_9 u0_10 u0_11 u1_0 u1_3 u1_4 u3_1 u3_2 u3_3 u4_1 u4_2 u4_3 x0_length x0_at_2 1 x0_wordStart_1 x0_wordLength_1 x0_error_1 x0_errorAt_1 y2_text x3_count x4_count_1 y5_length y6_letters y7_stops_1) → va_S A s.heap H locs → lv_has ls 3 [(0, .ref a0), (1, .int v1)] → W p l e (RM 5 107) s m args below meth c H locs 0 0 Q (F0 m 44 ls []) := by
          intro x0_at_2 H locs ls hf hP hD hS hl
          have hf := (ej44 x0_at_2).symm.trans hf
          refine lv_aload_n (pc := 44) hexec hb dX5_readVoyage_44 rfl (lv_at hl 0 rfl) ?_
          obtain ⟨r45, x0_at_3, x0_wordStart_2, x0_wordLength_2, x0_error_2, x0_errorAt_2, hc, hf⟩ := bd6_e hf
          refine kVp (pc := 45) (S := ⟨hexec, hb, hml, hown, hts⟩) hP hD hG hA hS [0, 2] [1, 3, 4, 5, 6, 7] [6, 0, 7, 1, 2, 3, 4, 5] (w2 := (w_X5_readVoyage g a0 a1 a2 a3 a4 a5 a6 a7 u0_1 u0_8 u0_9 u0_10 u0_11 u1_0 u1_3 u1_4 u3_1 u3_2 u3_3 u4_1 u4_2 u4_3 x0_length x0_at_3 1 x0_wordStart_2 x0_wordLength_2 x0_error_2 x0_errorAt_2 y2_text x3_count x4_count_1 y5_length y6_letters y7_stops_1)) rfl rfl rfl rfl rfl rfl (by decide) (c_X5_takeName l g a0 a2 _ (.ref a1) u0_1 (.int 1) u0_8 u0_9 u0_10 u0_11 x0_length x0_at_2 x0_wordStart_1 x0_wordLength_1 x0_error_1 x0_errorAt_1 y2_text r45 x0_at_3 x0_wordStart_2 x0_wordLength_2 x0_error_2 x0_errorAt_2 hc) gX5_readVoyage_X5_takeName rfl hv_X5_takeName ⟨nle rfl, nle rfl⟩ 5 0 rfl rfl rfl (rest := []) rfl rfl hl.1 (nle rfl) dX5_readVoyage_45 (fun H locs hP hD hS => ?_)
          refine kb_ne (pc := 48) hexec hb dX5_readVoyage_48 (tgt := 53) rfl hf (fun hc hf => ?_) (fun hc hf => ?_)
          · refine lv_iload_n (pc := 53) hexec hb dX5_readVoyage_53 rfl (lv_at hl 1 rfl) ?_
            refine lv_bipush (pc := 54) hexec hb dX5_readVoyage_54 kb_16 ?_
            refine ki_ne (pc := 56) hexec hb dX5_readVoyage_56 (tgt := 69) rfl hf (fun hc hf => ?_) (fun hc hf => ?_)
            · refine lv_aload_n (pc := 69) hexec hb dX5_readVoyage_69 rfl (lv_at hl 0 rfl) ?_
              obtain ⟨r70, hc, hf⟩ := bd1_e hf
              refine kVp (pc := 70) (S := ⟨hexec, hb, hml, hown, hts⟩) hP hD hG hA hS [0, 1, 2, 3, 5, 6] [4, 7] [2, 3, 4, 5, 0, 6, 7, 1] (w2 := (w_X5_readVoyage g a0 a1 a2 a3 a4 a5 a6 a7 u0_1 u0_8 u0_9 u0_10 u0_11 u1_0 u1_3 u1_4 u3_1 u3_2 u3_3 u4_1 u4_2 u4_3 x0_length x0_at_3 1 x0_wordStart_2 x0_wordLength_2 x0_error_2 x0_errorAt_2 y2_text x3_count x4_count_1 y5_length y6_letters y7_stops_1)) rfl rfl rfl rfl rfl rfl (by decide) (c_X5_namedHarbour l g a0 a1 a2 a3 a5 a6 _ u0_1 (.int x0_at_3) (.int 1) u0_8 u0_9 u0_10 u0_11 (.int x0_error_2) (.int x0_errorAt_2) u1_0 (.ref a4) u1_3 u1_4 u3_1 u3_2 u3_3 x0_length x0_wordStart_2 x0_wordLength_2 y2_text x3_count y5_length y6_letters r70 hc) gX5_readVoyage_X5_namedHarbour rfl hv_X5_namedHarbour ⟨nle rfl, nle rfl⟩ 5 0 rfl rfl rfl (rest := []) rfl rfl hl.1 (nle rfl) dX5_readVoyage_70 (fun H locs hP hD hS => ?_)
              refine lv_istore_n (pc := 73) hexec hb dX5_readVoyage_73 rfl hl (nle rfl) rfl (fun ls (hl : lv_has ls 3 [(2, .int r70), (0, .ref a0), (1, .int v1)]) => ?_)
              refine lv_iload_n (pc := 74) hexec hb dX5_readVoyage_74 rfl (lv_at hl 0 rfl) ?_
              refine lv_iconst (pc := 75) hexec hb dX5_readVoyage_75 ki_m1 ?_
              refine ki_ne (pc := 76) hexec hb dX5_readVoyage_76 (tgt := 89) rfl hf (fun hc hf => ?_) (fun hc hf => ?_)
              · refine lv_aload_n (pc := 89) hexec hb dX5_readVoyage_89 rfl (lv_at hl 1 rfl) ?_
                refine kg_get (pc := 90) hexec hb (own := RX5) hWX5 hown hG hP 0 rfl rfl 0 (nle rfl) (hts _ (List.mem_cons_of_mem _ (List.mem_append_left _ (List.mem_append_left _ (List.mem_append_left _ (List.mem_append_left _ (List.mem_append_left _ (List.mem_of_getElem? (i := 2) rfl)))))))) rfl rfl dX5_readVoyage_90 ?_
                refine kg_getN (pc := 93) hexec hb (own := RX5) hWX6 hown hG hP 1 rfl rfl 2 (nle rfl) 29 rfl rfl rfl dX5_readVoyage_93 ?_
                refine lv_iload_n (pc := 96) hexec hb dX5_readVoyage_96 rfl (lv_at hl 0 rfl) ?_
                obtain ⟨x4_count_2, y7_stops_2, hc, hf⟩ := bd2_e hf
                refine kVp (pc := 97) (S := ⟨hexec, hb, hml, hown, hts⟩) hP hD hG hA hS [4, 7] [0, 1, 2, 3, 5, 6] [0, 1, 2, 3, 6, 4, 5, 7] (w2 := (w_X5_readVoyage g a0 a1 a2 a3 a4 a5 a6 a7 u0_1 u0_8 u0_9 u0_10 u0_11 u1_0 u1_3 u1_4 u3_1 u3_2 u3_3 u4_1 u4_2 u4_3 x0_length x0_at_3 1 x0_wordStart_2 x0_wordLength_2 x0_error_2 x0_errorAt_2 y2_text x3_count x4_count_2 y5_length y6_letters y7_stops_2)) rfl rfl rfl rfl rfl rfl (by decide) (c_X4_addStop l g a4 a7 _ u4_1 u4_2 u4_3 x4_count_1 y7_stops_1 r70 x4_count_2 y7_stops_2 hc) gX5_readVoyage_X4_addStop rfl hv_X4_addStop ⟨nle rfl, nle rfl⟩ 4 0 rfl rfl rfl (rest := []) rfl rfl hl.1 (nle rfl) dX5_readVoyage_97 (fun H locs hP hD hS => ?_)
                obtain ⟨v1_1, ev1_1, hf⟩ := bv_e hf
                refine k_iinc (pc := 100) hexec hb dX5_readVoyage_100 kq_1 hl (k := 2) rfl ev1_1 (nle rfl) rfl (fun ls (hl : lv_has ls 3 [(1, .int v1_1), (2, .int r70), (0, .ref a0)]) => ?_)
                refine lv_goto (pc := 103) hexec hb dX5_readVoyage_103 (tgt := 24) rfl ?_
                exact ih24 _ _ _ _ _ _ _ _ _ _ _ (sl8 hf hk24) hP hD hS (lv_sub hl [2, 0] rfl)
              · have hf := mk8 hf hk24
                refine lv_aload_n (pc := 79) hexec hb dX5_readVoyage_79 rfl (lv_at hl 1 rfl) ?_
                refine lv_iconst (pc := 80) hexec hb dX5_readVoyage_80 ki_4 ?_
                refine lv_aload_n (pc := 81) hexec hb dX5_readVoyage_81 rfl (lv_at hl 1 rfl) ?_
                refine kg_get (pc := 82) hexec hb (own := RX5) hWX5 hown hG hP 0 rfl rfl 6 (nle rfl) (hts _ (List.mem_cons_of_mem _ (List.mem_append_left _ (List.mem_append_left _ (List.mem_append_left _ (List.mem_append_left _ (List.mem_append_left _ (List.mem_of_getElem? (i := 1) rfl)))))))) rfl rfl dX5_readVoyage_82 ?_
                obtain ⟨r85, x0_error_3, x0_errorAt_3, hc, hf⟩ := bd3_e hf
                refine kVp (pc := 85) (S := ⟨hexec, hb, hml, hown, hts⟩) hP hD hG hA hS [0] [1, 2, 3, 4, 5, 6, 7] [7, 0, 1, 2, 3, 4, 5, 6] (w2 := (w_X5_readVoyage g a0 a1 a2 a3 a4 a5 a6 a7 u0_1 u0_8 u0_9 u0_10 u0_11 u1_0 u1_3 u1_4 u3_1 u3_2 u3_3 u4_1 u4_2 u4_3 x0_length x0_at_3 1 x0_wordStart_2 x0_wordLength_2 x0_error_3 x0_errorAt_3 y2_text x3_count x4_count_1 y5_length y6_letters y7_stops_1)) rfl rfl rfl rfl rfl rfl (by decide) (c_X5_fail l g a0 _ (.ref a1) u0_1 (.ref a2) (.int x0_length) (.int x0_at_3) (.int 1) (.int x0_wordStart_2) (.int x0_wordLength_2) u0_8 u0_9 u0_10 u0_11 x0_error_2 x0_errorAt_2 4 x0_wordStart_2 r85 x0_error_3 x0_errorAt_3 hc) gX5_readVoyage_X5_fail rfl hv_X5_fail ⟨nle rfl, nle rfl⟩ 5 0 rfl rfl rfl (rest := []) rfl rfl hl.1 (nle rfl) dX5_readVoyage_85 (fun H locs hP hD hS => ?_)
                obtain ⟨hx, hf⟩ := zb_e hf
                cases hf
                exact ke_z hQ hexec hb hr hx hP hD hS dX5_readVoyage_88 hlocks
            · have hf := mk8 hf hk24
              refine lv_aload_n (pc := 59) hexec hb dX5_readVoyage_59 rfl (lv_at hl 0 rfl) ?_
              refine lv_iconst (pc := 60) hexec hb dX5_readVoyage_60 ki_3 ?_
              refine lv_aload_n (pc := 61) hexec hb dX5_readVoyage_61 rfl (lv_at hl 0 rfl) ?_
              refine kg_get (pc := 62) hexec hb (own := RX5) hWX5 hown hG hP 0 rfl rfl 6 (nle rfl) (hts _ (List.mem_cons_of_mem _ (List.mem_append_left _ (List.mem_append_left _ (List.mem_append_left _ (List.mem_append_left _ (List.mem_append_left _ (List.mem_of_getElem? (i := 1) rfl)))))))) rfl rfl dX5_readVoyage_62 ?_
              obtain ⟨r65, x0_error_4, x0_errorAt_4, hc, hf⟩ := bd3_e hf
              refine kVp (pc := 65) (S := ⟨hexec, hb, hml, hown, hts⟩) hP hD hG hA hS [0] [1, 2, 3, 4, 5, 6, 7] [7, 0, 1, 2, 3, 4, 5, 6] (w2 := (w_X5_readVoyage g a0 a1 a2 a3 a4 a5 a6 a7 u0_1 u0_8 u0_9 u0_10 u0_11 u1_0 u1_3 u1_4 u3_1 u3_2 u3_3 u4_1 u4_2 u4_3 x0_length x0_at_3 1 x0_wordStart_2 x0_wordLength_2 x0_error_4 x0_errorAt_4 y2_text x3_count x4_count_1 y5_length y6_letters y7_stops_1)) rfl rfl rfl rfl rfl rfl (by decide) (c_X5_fail l g a0 _ (.ref a1) u0_1 (.ref a2) (.int x0_length) (.int x0_at_3) (.int 1) (.int x0_wordStart_2) (.int x0_wordLength_2) u0_8 u0_9 u0_10 u0_11 x0_error_2 x0_errorAt_2 3 x0_wordStart_2 r65 x0_error_4 x0_errorAt_4 hc) gX5_readVoyage_X5_fail rfl hv_X5_fail ⟨nle rfl, nle rfl⟩ 5 0 rfl rfl rfl (rest := []) rfl rfl hl.1 (nle rfl) dX5_readVoyage_65 (fun H locs hP hD hS => ?_)
              obtain ⟨hx, hf⟩ := zb_e hf
              cases hf
              exact ke_z hQ hexec hb hr hx hP hD hS dX5_readVoyage_68 hlocks
          · have hf := mk8 hf hk24
            refine lv_iconst (pc := 51) hexec hb dX5_readVoyage_51 ki_0 ?_
            cases hf
            exact ke_z hQ hexec hb hr (.inl rfl) hP hD hS dX5_readVoyage_52 hlocks
        refine kb_eq (pc := 25) hexec hb dX5_readVoyage_25 (tgt := 44) rfl hf (fun hc hf => ?_) (fun hc hf => ?_)
        · exact hj44 _ _ _ _ hf hP hD hS (lv_sub hl [0, 1] rfl)
        · refine lv_aload_n (pc := 28) hexec hb dX5_readVoyage_28 rfl (lv_at hl 0 rfl) ?_
          obtain ⟨r29, x0_at_4, hc, hf⟩ := bd2_e hf
          refine kVp (pc := 29) (S := ⟨hexec, hb, hml, hown, hts⟩) hP hD hG hA hS [0, 2] [1, 3, 4, 5, 6, 7] [6, 0, 7, 1, 2, 3, 4, 5] (w2 := (w_X5_readVoyage g a0 a1 a2 a3 a4 a5 a6 a7 u0_1 u0_8 u0_9 u0_10 u0_11 u1_0 u1_3 u1_4 u3_1 u3_2 u3_3 u4_1 u4_2 u4_3 x0_length x0_at_4 1 x0_wordStart_1 x0_wordLength_1 x0_error_1 x0_errorAt_1 y2_text x3_count x4_count_1 y5_length y6_letters y7_stops_1)) rfl rfl rfl rfl rfl rfl (by decide) (c_X5_nextSign l g a0 a2 _ (.ref a1) u0_1 (.int 1) (.int x0_wordStart_1) (.int x0_wordLength_1) u0_8 u0_9 u0_10 u0_11 (.int x0_error_1) (.int x0_errorAt_1) x0_length x0_at_1 y2_text r29 x0_at_4 hc) gX5_readVoyage_X5_nextSign rfl hv_X5_nextSign ⟨nle rfl, nle rfl⟩ 5 0 rfl rfl rfl (rest := []) rfl rfl hl.1 (nle rfl) dX5_readVoyage_29 (fun H locs hP hD hS => ?_)
          obtain ⟨r32, hc, hf⟩ := bd1_e hf
          refine kSp (pc := 32) (S := ⟨hexec, hb, hml, hown, hts⟩) hP hD hG hA hS [] [0, 1, 2, 3, 4, 5, 6, 7] [0, 1, 2, 3, 4, 5, 6, 7] (w2 := (w_X5_readVoyage g a0 a1 a2 a3 a4 a5 a6 a7 u0_1 u0_8 u0_9 u0_10 u0_11 u1_0 u1_3 u1_4 u3_1 u3_2 u3_3 u4_1 u4_2 u4_3 x0_length x0_at_4 1 x0_wordStart_1 x0_wordLength_1 x0_error_1 x0_errorAt_1 y2_text x3_count x4_count_1 y5_length y6_letters y7_stops_1)) rfl rfl rfl rfl rfl rfl (by decide) (c_X5_isLetter l g _ r29 r32 hc) gX5_readVoyage_X5_isLetter rfl hs_X5_isLetter ⟨nle rfl, nle rfl⟩ (rest := []) rfl rfl hl.1 (nle rfl) dX5_readVoyage_32 (fun H locs hP hD hS => ?_)
          refine kb_eq (pc := 35) hexec hb dX5_readVoyage_35 (tgt := 106) rfl hf (fun hc hf => ?_) (fun hc hf => ?_)
          · have hf := mk8 hf hk24
            refine lv_iconst (pc := 106) hexec hb dX5_readVoyage_106 ki_1 ?_
            cases hf
            exact ke_z hQ hexec hb hr (.inr rfl) hP hD hS dX5_readVoyage_107 hlocks
          · refine lv_iload_n (pc := 38) hexec hb dX5_readVoyage_38 rfl (lv_at hl 1 rfl) ?_
            refine lv_bipush (pc := 39) hexec hb dX5_readVoyage_39 kb_16 ?_
            refine ki_gt (pc := 41) hexec hb dX5_readVoyage_41 (tgt := 106) rfl hf (fun hc hf => ?_) (fun hc hf => ?_)
            · have hf := mk8 hf hk24
              refine lv_iconst (pc := 106) hexec hb dX5_readVoyage_106 ki_1 ?_
              cases hf
              exact ke_z hQ hexec hb hr (.inr rfl) hP hD hS dX5_readVoyage_107 hlocks
            · exact hj44 _ _ _ _ hf hP hD hS (lv_sub hl [0, 1] rfl)
    exact hL24 n _ _ _ _ _ _ _ _ _ _ _ hz hP hD hS (lv_sub hl [1, 0] rfl)
  · refine lv_aload_n (pc := 7) hexec hb dX5_readVoyage_7 rfl (lv_at hl 0 rfl) ?_
    refine lv_iconst (pc := 8) hexec hb dX5_readVoyage_8 ki_3 ?_
    refine lv_aload_n (pc := 9) hexec hb dX5_readVoyage_9 rfl (lv_at hl 0 rfl) ?_
    refine kg_get (pc := 10) hexec hb (own := RX5) hWX5 hown hG hP 0 rfl rfl 6 (nle rfl) (hts _ (List.mem_cons_of_mem _ (List.mem_append_left _ (List.mem_append_left _ (List.mem_append_left _ (List.mem_append_left _ (List.mem_append_left _ (List.mem_of_getElem? (i := 1) rfl)))))))) rfl rfl dX5_readVoyage_10 ?_
    obtain ⟨r13, x0_error_5, x0_errorAt_5, hc, hf⟩ := bd3_e hf
    refine kVp (pc := 13) (S := ⟨hexec, hb, hml, hown, hts⟩) hP hD hG hA hS [0] [1, 2, 3, 4, 5, 6, 7] [7, 0, 1, 2, 3, 4, 5, 6] (w2 := (w_X5_readVoyage g a0 a1 a2 a3 a4 a5 a6 a7 u0_1 u0_8 u0_9 u0_10 u0_11 u1_0 u1_3 u1_4 u3_1 u3_2 u3_3 u4_1 u4_2 u4_3 x0_length x0_at x0_voyageTold x0_wordStart x0_wordLength x0_error_5 x0_errorAt_5 y2_text x3_count x4_count y5_length y6_letters y7_stops)) rfl rfl rfl rfl rfl rfl (by decide) (c_X5_fail l g a0 _ (.ref a1) u0_1 (.ref a2) (.int x0_length) (.int x0_at) (.int x0_voyageTold) (.int x0_wordStart) (.int x0_wordLength) u0_8 u0_9 u0_10 u0_11 x0_error x0_errorAt 3 x0_wordStart r13 x0_error_5 x0_errorAt_5 hc) gX5_readVoyage_X5_fail rfl hv_X5_fail ⟨nle rfl, nle rfl⟩ 5 0 rfl rfl rfl (rest := []) rfl rfl hl.1 (nle rfl) dX5_readVoyage_13 (fun H locs hP hD hS => ?_)
    obtain ⟨hx, hf⟩ := zb_e hf
    cases hf
    exact ke_z hQ hexec hb hr hx hP hD hS dX5_readVoyage_16 hlocks
abbrev w_X5_readTurn (g : GE) (a0 a1 a2 a3 : Nat) (u0_1 u0_5 u0_6 u0_7 u0_10 u0_11 u1_0 u1_1 u1_3 u1_4 u3_0 u3_1 u3_3 u3_4 : Value) (x0_length : Int32) (x0_at : Int32) (x0_numberStart : Int32) (x0_number : Int32) (x0_error : Int32) (x0_errorAt : Int32) (y2_text : Nat → Int32) (x3_turn : Int32) : va_W := [(a0, .inr (5, [.ref a1, u0_1, .ref a2, .int x0_length, .int x0_at, u0_5, u0_6, u0_7, .int x0_numberStart, .int x0_number, u0_10, u0_11, .int x0_error, .int x0_errorAt])), (a1, .inr (6, [u1_0, u1_1, .ref a3, u1_3, u1_4])), (a2, .inl (g.2.1 0, 500, .inl y2_text)), (a3, .inr (4, [u3_0, u3_1, .int x3_turn, u3_3, u3_4]))]
noncomputable def f_X5_readTurn (x0_length : Int32) (x0_at : Int32) (x0_numberStart : Int32) (x0_number : Int32) (x0_error : Int32) (x0_errorAt : Int32) (y2_text : Nat → Int32) (x3_turn : Int32)  : Option (Int32 × Int32 × Int32 × Int32 × Int32 × Int32 × Int32) :=
  bd6 (f_X5_takeNumber x0_length x0_at x0_numberStart x0_number x0_error x0_errorAt y2_text 0 3) fun (r3 : Int32) (x0_at_1 : Int32) (x0_numberStart_1 : Int32) (x0_number_1 : Int32) (x0_error_1 : Int32) (x0_errorAt_1 : Int32) =>
  (if r3 = 0 then (
    some (0, x0_at_1, x0_numberStart_1, x0_number_1, x0_error_1, x0_errorAt_1, x3_turn)
  ) else (
    some (1, x0_at_1, x0_numberStart_1, x0_number_1, x0_error_1, x0_errorAt_1, x0_number_1)
  ))
set_option maxRecDepth 4000 in
theorem c_X5_readTurn (l : Launch) (g : GE) (a0 a1 a2 a3 : Nat) (sz : Nat) (u0_1 u0_5 u0_6 u0_7 u0_10 u0_11 u1_0 u1_1 u1_3 u1_4 u3_0 u3_1 u3_3 u3_4 : Value) (x0_length : Int32) (x0_at : Int32) (x0_numberStart : Int32) (x0_number : Int32) (x0_error : Int32) (x0_errorAt : Int32) (y2_text : Nat → Int32) (x3_turn : Int32)   (r : Int32) (o_x0_at : Int32) (o_x0_numberStart : Int32) (o_x0_number : Int32) (o_x0_error : Int32) (o_x0_errorAt : Int32) (o_x3_turn : Int32) (hf : f_X5_readTurn x0_length x0_at x0_numberStart x0_number x0_error x0_errorAt y2_text x3_turn = some (r, o_x0_at, o_x0_numberStart, o_x0_number, o_x0_error, o_x0_errorAt, o_x3_turn)) : MI l g yX5_readTurn wsX5_readTurn 4 89 [.ref a0] (w_X5_readTurn g a0 a1 a2 a3 u0_1 u0_5 u0_6 u0_7 u0_10 u0_11 u1_0 u1_1 u1_3 u1_4 u3_0 u3_1 u3_3 u3_4 x0_length x0_at x0_numberStart x0_number x0_error x0_errorAt y2_text x3_turn) sz (some (.int r)) (w_X5_readTurn g a0 a1 a2 a3 u0_1 u0_5 u0_6 u0_7 u0_10 u0_11 u1_0 u1_1 u1_3 u1_4 u3_0 u3_1 u3_3 u3_4 x0_length o_x0_at o_x0_numberStart o_x0_number o_x0_error o_x0_errorAt y2_text o_x3_turn) := by
  refine MI.start (cc := cX5_readTurn) (maxL := 1) (ret := (some .boolean)) rfl rfl (nle rfl) ?_
  intro p e s m args below meth c A ls Q hQ hexec hb hr hts hown hlocks hml hA hP hD hG hS hl
  unfold f_X5_readTurn at hf
  have hWX4 : ∀ w ∈ wsX40, w.before args s = true := fun w h => hts w (List.mem_cons_of_mem _ (List.mem_append_right _ h))
  have hWX5 : ∀ w ∈ wsX50, w.before args s = true := fun w h => hts w (List.mem_cons_of_mem _ (List.mem_append_left _ (List.mem_append_left _ (List.mem_append_right _ h))))
  have hWX6 : ∀ w ∈ wsX60, w.before args s = true := fun w h => hts w (List.mem_cons_of_mem _ (List.mem_append_left _ (List.mem_append_right _ h)))
  have hS : va_S A s.heap s.heap [] := hS
  refine lv_aload_n (pc := 0) hexec hb dX5_readTurn_0 rfl (lv_at hl 0 rfl) ?_
  refine lv_iconst (pc := 1) hexec hb dX5_readTurn_1 ki_0 ?_
  refine lv_iconst (pc := 2) hexec hb dX5_readTurn_2 ki_3 ?_
  obtain ⟨r3, x0_at_1, x0_numberStart_1, x0_number_1, x0_error_1, x0_errorAt_1, hc, hf⟩ := bd6_e hf
  refine kVp (pc := 3) (S := ⟨hexec, hb, hml, hown, hts⟩) hP hD hG hA hS [0, 2] [1, 3] [2, 0, 3, 1] (w2 := (w_X5_readTurn g a0 a1 a2 a3 u0_1 u0_5 u0_6 u0_7 u0_10 u0_11 u1_0 u1_1 u1_3 u1_4 u3_0 u3_1 u3_3 u3_4 x0_length x0_at_1 x0_numberStart_1 x0_number_1 x0_error_1 x0_errorAt_1 y2_text x3_turn)) rfl rfl rfl rfl rfl rfl (by decide) (c_X5_takeNumber l g a0 a2 _ (.ref a1) u0_1 u0_5 u0_6 u0_7 u0_10 u0_11 x0_length x0_at x0_numberStart x0_number x0_error x0_errorAt y2_text 0 3 r3 x0_at_1 x0_numberStart_1 x0_number_1 x0_error_1 x0_errorAt_1 hc) gX5_readTurn_X5_takeNumber rfl hv_X5_takeNumber ⟨nle rfl, nle rfl⟩ 5 0 rfl rfl rfl (rest := []) rfl rfl hl.1 (nle rfl) dX5_readTurn_3 (fun H locs hP hD hS => ?_)
  refine kb_ne (pc := 6) hexec hb dX5_readTurn_6 (tgt := 11) rfl hf (fun hc hf => ?_) (fun hc hf => ?_)
  · refine lv_aload_n (pc := 11) hexec hb dX5_readTurn_11 rfl (lv_at hl 0 rfl) ?_
    refine kg_get (pc := 12) hexec hb (own := RX5) hWX5 hown hG hP 0 rfl rfl 0 (nle rfl) (hts _ (List.mem_cons_of_mem _ (List.mem_append_left _ (List.mem_append_left _ (List.mem_append_left _ (List.mem_append_left _ (List.mem_of_getElem? (i := 0) rfl))))))) rfl rfl dX5_readTurn_12 ?_
    refine kg_getN (pc := 15) hexec hb (own := RX5) hWX6 hown hG hP 1 rfl rfl 2 (nle rfl) 29 rfl rfl rfl dX5_readTurn_15 ?_
    refine lv_aload_n (pc := 18) hexec hb dX5_readTurn_18 rfl (lv_at hl 0 rfl) ?_
    refine kg_get (pc := 19) hexec hb (own := RX5) hWX5 hown hG hP 0 rfl rfl 9 (nle rfl) (hts _ (List.mem_cons_of_mem _ (List.mem_append_left _ (List.mem_append_left _ (List.mem_append_left _ (List.mem_append_left _ (List.mem_of_getElem? (i := 1) rfl))))))) rfl rfl dX5_readTurn_19 ?_
    refine kp_putN (pc := 22) hexec hb (own := RX5) hWX4 tyX4 tyX4_ok nmX4 hown hG hP hD hS 3 rfl rfl 2 (nle rfl) 18 rfl rfl rfl rfl rfl (nle rfl) dX5_readTurn_22 (fun H locs (hP : va_P g.1 vwCl (w_X5_readTurn g a0 a1 a2 a3 u0_1 u0_5 u0_6 u0_7 u0_10 u0_11 u1_0 u1_1 u1_3 u1_4 u3_0 u3_1 u3_3 u3_4 x0_length x0_at_1 x0_numberStart_1 x0_number_1 x0_error_1 x0_errorAt_1 y2_text x0_number_1) H) (hD : va_D A (w_X5_readTurn g a0 a1 a2 a3 u0_1 u0_5 u0_6 u0_7 u0_10 u0_11 u1_0 u1_1 u1_3 u1_4 u3_0 u3_1 u3_3 u3_4 x0_length x0_at_1 x0_numberStart_1 x0_number_1 x0_error_1 x0_errorAt_1 y2_text x0_number_1)) hS => ?_)
    refine lv_iconst (pc := 25) hexec hb dX5_readTurn_25 ki_1 ?_
    cases hf
    exact ke_z hQ hexec hb hr (.inr rfl) hP hD hS dX5_readTurn_26 hlocks
  · refine lv_iconst (pc := 9) hexec hb dX5_readTurn_9 ki_0 ?_
    cases hf
    exact ke_z hQ hexec hb hr (.inl rfl) hP hD hS dX5_readTurn_10 hlocks
abbrev w_X5_readText (g : GE) (a0 a1 a2 a3 a4 a5 a6 a7 a8 a9 a10 a11 a12 a13 a14 a15 a16 a17 a18 a19 : Nat) (x0_length : Int32) (x0_at : Int32) (x0_voyageTold : Int32) (x0_wordStart : Int32) (x0_wordLength : Int32) (x0_numberStart : Int32) (x0_number : Int32) (x0_cell : Int32) (x0_statement : Int32) (x0_error : Int32) (x0_errorAt : Int32) (x2_length : Int32) (y3_text : Nat → Int32) (x4_rows : Int32) (x4_columns : Int32) (x4_rivers : Int32) (x5_count : Int32) (x5_reds : Int32) (x6_count : Int32) (x6_next : Int32) (x6_turn : Int32) (x6_quarters : Int32) (y7_letterOn : Nat → Int32) (y8_namesOn : Nat → Int32) (y9_costs : Nat → Int32) (y10_sums : Nat → Int32) (y11_way : Nat → Int32) (y12_land : Nat → Int32) (y13_riverOf : Nat → Int32) (y14_riverPlace : Nat → Int32) (y15_direction : Nat → Int32) (y16_home : Nat → Int32) (y17_length : Nat → Int32) (y18_letters : Nat → Int32) (y19_stops : Nat → Int32) : va_W := [(a0, .inr (5, [.ref a1, .ref a2, .ref a3, .int x0_length, .int x0_at, .int x0_voyageTold, .int x0_wordStart, .int x0_wordLength, .int x0_numberStart, .int x0_number, .int x0_cell, .int x0_statement, .int x0_error, .int x0_errorAt])), (a1, .inr (6, [.ref a4, .ref a5, .ref a6, .ref a8, .ref a7])), (a2, .inr (7, [.ref a9, .ref a10, .ref a11, .int x2_length])), (a3, .inl (g.2.1 0, 500, .inl y3_text)), (a4, .inr (1, [.int x4_rows, .int x4_columns, .int x4_rivers, .ref a12, .ref a13, .ref a14])), (a5, .inr (2, [.int x5_count, .int x5_reds, .ref a16, .ref a15, .ref a17, .ref a18])), (a6, .inr (4, [.int x6_count, .int x6_next, .int x6_turn, .int x6_quarters, .ref a19])), (a7, .inl (g.2.1 0, 144, .inl y7_letterOn)), (a8, .inl (g.2.1 0, 144, .inl y8_namesOn)), (a9, .inl (g.2.1 0, 144, .inl y9_costs)), (a10, .inl (g.2.1 0, 144, .inl y10_sums)), (a11, .inl (g.2.1 0, 144, .inl y11_way)), (a12, .inl (g.2.1 1, 144, .inl y12_land)), (a13, .inl (g.2.1 0, 144, .inl y13_riverOf)), (a14, .inl (g.2.1 0, 144, .inl y14_riverPlace)), (a15, .inl (g.2.1 0, 8, .inl y15_direction)), (a16, .inl (g.2.1 0, 8, .inl y16_home)), (a17, .inl (g.2.1 0, 8, .inl y17_length)), (a18, .inl (g.2.1 0, 64, .inl y18_letters)), (a19, .inl (g.2.1 0, 16, .inl y19_stops))]
noncomputable def f_X5_readText (x0_length : Int32) (x0_at : Int32) (x0_voyageTold : Int32) (x0_wordStart : Int32) (x0_wordLength : Int32) (x0_numberStart : Int32) (x0_number : Int32) (x0_cell : Int32) (x0_statement : Int32) (x0_error : Int32) (x0_errorAt : Int32) (x2_length : Int32) (y3_text : Nat → Int32) (x4_rows : Int32) (x4_columns : Int32) (x4_rivers : Int32) (x5_count : Int32) (x5_reds : Int32) (x6_count : Int32) (x6_next : Int32) (x6_turn : Int32) (x6_quarters : Int32) (y7_letterOn : Nat → Int32) (y8_namesOn : Nat → Int32) (y9_costs : Nat → Int32) (y10_sums : Nat → Int32) (y11_way : Nat → Int32) (y12_land : Nat → Int32) (y13_riverOf : Nat → Int32) (y14_riverPlace : Nat → Int32) (y15_direction : Nat → Int32) (y16_home : Nat → Int32) (y17_length : Nat → Int32) (y18_letters : Nat → Int32) (y19_stops : Nat → Int32)  : Option (Int32 × Int32 × Int32 × Int32 × Int32 × Int32 × Int32 × Int32 × Int32 × Int32 × Int32 × Int32 × Int32 × Int32 × Int32 × Int32 × Int32 × Int32 × Int32 × Int32 × Int32 × (Nat → Int32) × (Nat → Int32) × (Nat → Int32) × (Nat → Int32) × (Nat → Int32) × (Nat → Int32) × (Nat → Int32) × (Nat → Int32) × (Nat → Int32) × (Nat → Int32) × (Nat → Int32) × (Nat → Int32) × (Nat → Int32)) :=
  bd22 (f_X5_readChart x0_length 0 x0_wordStart x0_wordLength x0_numberStart x0_number 0 0 y3_text x4_rows x4_columns x4_rivers x5_count x5_reds x6_count x6_next x6_turn x6_quarters y7_letterOn y8_namesOn y12_land y13_riverOf y14_riverPlace) fun (r26 : Int32) (x0_at_1 : Int32) (x0_wordStart_1 : Int32) (x0_wordLength_1 : Int32) (x0_numberStart_1 : Int32) (x0_number_1 : Int32) (x0_error_1 : Int32) (x0_errorAt_1 : Int32) (x4_rows_1 : Int32) (x4_columns_1 : Int32) (x4_rivers_1 : Int32) (x5_count_1 : Int32) (x5_reds_1 : Int32) (x6_count_1 : Int32) (x6_next_1 : Int32) (x6_turn_1 : Int32) (x6_quarters_1 : Int32) (y7_letterOn_1 : Nat → Int32) (y8_namesOn_1 : Nat → Int32) (y12_land_1 : Nat → Int32) (y13_riverOf_1 : Nat → Int32) (y14_riverPlace_1 : Nat → Int32) =>
  bv (fun (v1 : Int32) (v2 : Int32) (x0_at_2 : Int32) (x0_voyageTold_1 : Int32) (x0_wordStart_2 : Int32) (x0_wordLength_2 : Int32) (x0_numberStart_2 : Int32) (x0_number_2 : Int32) (x0_cell_1 : Int32) (x0_statement_1 : Int32) (x0_error_2 : Int32) (x0_errorAt_2 : Int32) (x2_length_1 : Int32) (x4_rivers_2 : Int32) (x5_count_2 : Int32) (x5_reds_2 : Int32) (x6_count_2 : Int32) (x6_turn_2 : Int32) (y7_letterOn_2 : Nat → Int32) (y8_namesOn_2 : Nat → Int32) (y9_costs_1 : Nat → Int32) (y10_sums_1 : Nat → Int32) (y11_way_1 : Nat → Int32) (y12_land_2 : Nat → Int32) (y13_riverOf_2 : Nat → Int32) (y14_riverPlace_2 : Nat → Int32) (y15_direction_1 : Nat → Int32) (y16_home_1 : Nat → Int32) (y17_length_1 : Nat → Int32) (y18_letters_1 : Nat → Int32) (y19_stops_1 : Nat → Int32) => ((
    (if x0_length < v2 then (
      some (.inr (v1, x0_at_2, x0_voyageTold_1, x0_wordStart_2, x0_wordLength_2, x0_numberStart_2, x0_number_2, x0_cell_1, x0_statement_1, x0_error_2, x0_errorAt_2, x2_length_1, x4_rivers_2, x5_count_2, x5_reds_2, x6_count_2, x6_turn_2, y7_letterOn_2, y8_namesOn_2, y9_costs_1, y10_sums_1, y11_way_1, y12_land_2, y13_riverOf_2, y14_riverPlace_2, y15_direction_1, y16_home_1, y17_length_1, y18_letters_1, y19_stops_1))
    ) else (
      (if v1 = 0 then (
        some (.inr (v1, x0_at_2, x0_voyageTold_1, x0_wordStart_2, x0_wordLength_2, x0_numberStart_2, x0_number_2, x0_cell_1, x0_statement_1, x0_error_2, x0_errorAt_2, x2_length_1, x4_rivers_2, x5_count_2, x5_reds_2, x6_count_2, x6_turn_2, y7_letterOn_2, y8_namesOn_2, y9_costs_1, y10_sums_1, y11_way_1, y12_land_2, y13_riverOf_2, y14_riverPlace_2, y15_direction_1, y16_home_1, y17_length_1, y18_letters_1, y19_stops_1))
      ) else (
        bd2 (f_X5_nextSign x0_length x0_at_2 y3_text) fun (r45 : Int32) (x0_at_4 : Int32) =>
        (if r45 = (-1) then (
          some (.inr (v1, x0_at_4, x0_voyageTold_1, x0_wordStart_2, x0_wordLength_2, x0_numberStart_2, x0_number_2, x0_cell_1, x0_statement_1, x0_error_2, x0_errorAt_2, x2_length_1, x4_rivers_2, x5_count_2, x5_reds_2, x6_count_2, x6_turn_2, y7_letterOn_2, y8_namesOn_2, y9_costs_1, y10_sums_1, y11_way_1, y12_land_2, y13_riverOf_2, y14_riverPlace_2, y15_direction_1, y16_home_1, y17_length_1, y18_letters_1, y19_stops_1))
        ) else (
          bd5 (f_X5_takeSemicolon x0_length x0_at_4 x0_statement_1 x0_error_2 x0_errorAt_2 y3_text) fun (r53 : Int32) (x0_at_5 : Int32) (x0_statement_3 : Int32) (x0_error_4 : Int32) (x0_errorAt_4 : Int32) =>
          bv (fun (x0_at_6 : Int32) (x0_wordStart_4 : Int32) (x0_wordLength_4 : Int32) (x0_error_5 : Int32) (x0_errorAt_5 : Int32) (t69 : Int32) => ((
            bv (fun (v1_2 : Int32) (x0_at_7 : Int32) (x0_voyageTold_3 : Int32) (x0_wordStart_5 : Int32) (x0_wordLength_5 : Int32) (x0_numberStart_4 : Int32) (x0_number_4 : Int32) (x0_cell_3 : Int32) (x0_error_6 : Int32) (x0_errorAt_6 : Int32) (x2_length_3 : Int32) (x4_rivers_4 : Int32) (x5_count_4 : Int32) (x5_reds_4 : Int32) (x6_count_4 : Int32) (x6_turn_4 : Int32) (y7_letterOn_4 : Nat → Int32) (y8_namesOn_4 : Nat → Int32) (y9_costs_3 : Nat → Int32) (y10_sums_3 : Nat → Int32) (y11_way_3 : Nat → Int32) (y12_land_4 : Nat → Int32) (y13_riverOf_4 : Nat → Int32) (y14_riverPlace_4 : Nat → Int32) (y15_direction_3 : Nat → Int32) (y16_home_3 : Nat → Int32) (y17_length_3 : Nat → Int32) (y18_letters_3 : Nat → Int32) (y19_stops_3 : Nat → Int32) => ((
              bv (v2 + 1) fun v2_1 =>
              some (.inl (v1_2, v2_1, x0_at_7, x0_voyageTold_3, x0_wordStart_5, x0_wordLength_5, x0_numberStart_4, x0_number_4, x0_cell_3, x0_statement_3, x0_error_6, x0_errorAt_6, x2_length_3, x4_rivers_4, x5_count_4, x5_reds_4, x6_count_4, x6_turn_4, y7_letterOn_4, y8_namesOn_4, y9_costs_3, y10_sums_3, y11_way_3, y12_land_4, y13_riverOf_4, y14_riverPlace_4, y15_direction_3, y16_home_3, y17_length_3, y18_letters_3, y19_stops_3))
              ) : Option ((Int32 × Int32 × Int32 × Int32 × Int32 × Int32 × Int32 × Int32 × Int32 × Int32 × Int32 × Int32 × Int32 × Int32 × Int32 × Int32 × Int32 × Int32 × (Nat → Int32) × (Nat → Int32) × (Nat → Int32) × (Nat → Int32) × (Nat → Int32) × (Nat → Int32) × (Nat → Int32) × (Nat → Int32) × (Nat → Int32) × (Nat → Int32) × (Nat → Int32) × (Nat → Int32) × (Nat → Int32)) ⊕ (Int32 × Int32 × Int32 × Int32 × Int32 × Int32 × Int32 × Int32 × Int32 × Int32 × Int32 × Int32 × Int32 × Int32 × Int32 × Int32 × Int32 × (Nat → Int32) × (Nat → Int32) × (Nat → Int32) × (Nat → Int32) × (Nat → Int32) × (Nat → Int32) × (Nat → Int32) × (Nat → Int32) × (Nat → Int32) × (Nat → Int32) × (Nat → Int32) × (Nat → Int32) × (Nat → Int32))))) fun j158 =>
            (if t69 = 1 then (
              bd8 (f_X5_readLand x0_length x0_at_6 x0_wordStart_4 x0_numberStart_2 x0_number_2 x0_cell_1 x0_error_5 x0_errorAt_5 y3_text x4_rows_1 x4_columns_1 x4_rivers_2 x5_count_2 y12_land_2) fun (r109 : Int32) (x0_at_8 : Int32) (x0_numberStart_5 : Int32) (x0_number_5 : Int32) (x0_cell_4 : Int32) (x0_error_7 : Int32) (x0_errorAt_7 : Int32) (y12_land_5 : Nat → Int32) =>
              j158 r109 x0_at_8 x0_voyageTold_1 x0_wordStart_4 x0_wordLength_4 x0_numberStart_5 x0_number_5 x0_cell_4 x0_error_7 x0_errorAt_7 x2_length_1 x4_rivers_2 x5_count_2 x5_reds_2 x6_count_2 x6_turn_2 y7_letterOn_2 y8_namesOn_2 y9_costs_1 y10_sums_1 y11_way_1 y12_land_5 y13_riverOf_2 y14_riverPlace_2 y15_direction_1 y16_home_1 y17_length_1 y18_letters_1 y19_stops_1
            ) else (
            (if t69 = 2 then (
              bd15 (f_X5_readHarbour x0_length x0_at_6 x0_wordStart_4 x0_wordLength_4 x0_numberStart_2 x0_number_2 x0_cell_1 x0_error_5 x0_errorAt_5 y3_text x4_rows_1 x4_columns_1 x5_count_2 x5_reds_2 y8_namesOn_2 y12_land_2 y13_riverOf_2 y15_direction_1 y16_home_1 y17_length_1 y18_letters_1) fun (r117 : Int32) (x0_at_9 : Int32) (x0_wordStart_6 : Int32) (x0_wordLength_6 : Int32) (x0_numberStart_6 : Int32) (x0_number_6 : Int32) (x0_cell_5 : Int32) (x0_error_8 : Int32) (x0_errorAt_8 : Int32) (x5_count_5 : Int32) (x5_reds_5 : Int32) (y15_direction_4 : Nat → Int32) (y16_home_4 : Nat → Int32) (y17_length_4 : Nat → Int32) (y18_letters_4 : Nat → Int32) =>
              j158 r117 x0_at_9 x0_voyageTold_1 x0_wordStart_6 x0_wordLength_6 x0_numberStart_6 x0_number_6 x0_cell_5 x0_error_8 x0_errorAt_8 x2_length_1 x4_rivers_2 x5_count_5 x5_reds_5 x6_count_2 x6_turn_2 y7_letterOn_2 y8_namesOn_2 y9_costs_1 y10_sums_1 y11_way_1 y12_land_2 y13_riverOf_2 y14_riverPlace_2 y15_direction_4 y16_home_4 y17_length_4 y18_letters_4 y19_stops_1
            ) else (
            (if t69 = 3 then (
              bd16 (f_X5_readRiver x0_length x0_at_6 x0_wordStart_4 x0_numberStart_2 x0_number_2 x0_cell_1 x0_error_5 x0_errorAt_5 x2_length_1 y3_text x4_rows_1 x4_columns_1 x4_rivers_2 x5_count_2 y8_namesOn_2 y9_costs_1 y10_sums_1 y11_way_1 y12_land_2 y13_riverOf_2 y14_riverPlace_2 y15_direction_1 y16_home_1 y17_length_1) fun (r125 : Int32) (x0_at_10 : Int32) (x0_numberStart_7 : Int32) (x0_number_7 : Int32) (x0_cell_6 : Int32) (x0_error_9 : Int32) (x0_errorAt_9 : Int32) (x2_length_4 : Int32) (x4_rivers_5 : Int32) (y8_namesOn_5 : Nat → Int32) (y9_costs_4 : Nat → Int32) (y10_sums_4 : Nat → Int32) (y11_way_4 : Nat → Int32) (y13_riverOf_5 : Nat → Int32) (y14_riverPlace_5 : Nat → Int32) (y15_direction_5 : Nat → Int32) =>
              j158 r125 x0_at_10 x0_voyageTold_1 x0_wordStart_4 x0_wordLength_4 x0_numberStart_7 x0_number_7 x0_cell_6 x0_error_9 x0_errorAt_9 x2_length_4 x4_rivers_5 x5_count_2 x5_reds_2 x6_count_2 x6_turn_2 y7_letterOn_2 y8_namesOn_5 y9_costs_4 y10_sums_4 y11_way_4 y12_land_2 y13_riverOf_5 y14_riverPlace_5 y15_direction_5 y16_home_1 y17_length_1 y18_letters_1 y19_stops_1
            ) else (
            (if t69 = 4 then (
              bd9 (f_X5_readPlace x0_length x0_at_6 x0_wordStart_4 x0_wordLength_4 x0_error_5 x0_errorAt_5 y3_text x4_rows_1 x4_columns_1 x5_count_2 x5_reds_2 y7_letterOn_2 y8_namesOn_2 y12_land_2 y13_riverOf_2 y15_direction_1 y16_home_1 y17_length_1 y18_letters_1) fun (r133 : Int32) (x0_at_11 : Int32) (x0_wordStart_7 : Int32) (x0_wordLength_7 : Int32) (x0_error_10 : Int32) (x0_errorAt_10 : Int32) (y7_letterOn_5 : Nat → Int32) (y8_namesOn_6 : Nat → Int32) (y15_direction_6 : Nat → Int32) =>
              j158 r133 x0_at_11 x0_voyageTold_1 x0_wordStart_7 x0_wordLength_7 x0_numberStart_2 x0_number_2 x0_cell_1 x0_error_10 x0_errorAt_10 x2_length_1 x4_rivers_2 x5_count_2 x5_reds_2 x6_count_2 x6_turn_2 y7_letterOn_5 y8_namesOn_6 y9_costs_1 y10_sums_1 y11_way_1 y12_land_2 y13_riverOf_2 y14_riverPlace_2 y15_direction_6 y16_home_1 y17_length_1 y18_letters_1 y19_stops_1
            ) else (
            (if t69 = 5 then (
              bd9 (f_X5_readVoyage x0_length x0_at_6 x0_voyageTold_1 x0_wordStart_4 x0_wordLength_4 x0_error_5 x0_errorAt_5 y3_text x5_count_2 x6_count_2 y17_length_1 y18_letters_1 y19_stops_1) fun (r141 : Int32) (x0_at_12 : Int32) (x0_voyageTold_4 : Int32) (x0_wordStart_8 : Int32) (x0_wordLength_8 : Int32) (x0_error_11 : Int32) (x0_errorAt_11 : Int32) (x6_count_5 : Int32) (y19_stops_4 : Nat → Int32) =>
              j158 r141 x0_at_12 x0_voyageTold_4 x0_wordStart_8 x0_wordLength_8 x0_numberStart_2 x0_number_2 x0_cell_1 x0_error_11 x0_errorAt_11 x2_length_1 x4_rivers_2 x5_count_2 x5_reds_2 x6_count_5 x6_turn_2 y7_letterOn_2 y8_namesOn_2 y9_costs_1 y10_sums_1 y11_way_1 y12_land_2 y13_riverOf_2 y14_riverPlace_2 y15_direction_1 y16_home_1 y17_length_1 y18_letters_1 y19_stops_4
            ) else (
            (if t69 = 6 then (
              bd7 (f_X5_readTurn x0_length x0_at_6 x0_numberStart_2 x0_number_2 x0_error_5 x0_errorAt_5 y3_text x6_turn_2) fun (r149 : Int32) (x0_at_13 : Int32) (x0_numberStart_8 : Int32) (x0_number_8 : Int32) (x0_error_12 : Int32) (x0_errorAt_12 : Int32) (x6_turn_5 : Int32) =>
              j158 r149 x0_at_13 x0_voyageTold_1 x0_wordStart_4 x0_wordLength_4 x0_numberStart_8 x0_number_8 x0_cell_1 x0_error_12 x0_errorAt_12 x2_length_1 x4_rivers_2 x5_count_2 x5_reds_2 x6_count_2 x6_turn_5 y7_letterOn_2 y8_namesOn_2 y9_costs_1 y10_sums_1 y11_way_1 y12_land_2 y13_riverOf_2 y14_riverPlace_2 y15_direction_1 y16_home_1 y17_length_1 y18_letters_1 y19_stops_1
            ) else (
            j158 0 x0_at_6 x0_voyageTold_1 x0_wordStart_4 x0_wordLength_4 x0_numberStart_2 x0_number_2 x0_cell_1 x0_error_5 x0_errorAt_5 x2_length_1 x4_rivers_2 x5_count_2 x5_reds_2 x6_count_2 x6_turn_2 y7_letterOn_2 y8_namesOn_2 y9_costs_1 y10_sums_1 y11_way_1 y12_land_2 y13_riverOf_2 y14_riverPlace_2 y15_direction_1 y16_home_1 y17_length_1 y18_letters_1 y19_stops_1
            ))
            ))
            ))
            ))
            ))
            ))
            ) : Option ((Int32 × Int32 × Int32 × Int32 × Int32 × Int32 × Int32 × Int32 × Int32 × Int32 × Int32 × Int32 × Int32 × Int32 × Int32 × Int32 × Int32 × Int32 × (Nat → Int32) × (Nat → Int32) × (Nat → Int32) × (Nat → Int32) × (Nat → Int32) × (Nat → Int32) × (Nat → Int32) × (Nat → Int32) × (Nat → Int32) × (Nat → Int32) × (Nat → Int32) × (Nat → Int32) × (Nat → Int32)) ⊕ (Int32 × Int32 × Int32 × Int32 × Int32 × Int32 × Int32 × Int32 × Int32 × Int32 × Int32 × Int32 × Int32 × Int32 × Int32 × Int32 × Int32 × (Nat → Int32) × (Nat → Int32) × (Nat → Int32) × (Nat → Int32) × (Nat → Int32) × (Nat → Int32) × (Nat → Int32) × (Nat → Int32) × (Nat → Int32) × (Nat → Int32) × (Nat → Int32) × (Nat → Int32) × (Nat → Int32))))) fun j69 =>
          (if r53 = 0 then (
            j69 x0_at_5 x0_wordStart_2 x0_wordLength_2 x0_error_4 x0_errorAt_4 (-1)
          ) else (
            bd6 (f_X5_takeKeyword x0_length x0_at_5 x0_wordStart_2 x0_wordLength_2 x0_error_4 x0_errorAt_4 y3_text) fun (r62 : Int32) (x0_at_14 : Int32) (x0_wordStart_9 : Int32) (x0_wordLength_9 : Int32) (x0_error_13 : Int32) (x0_errorAt_13 : Int32) =>
            j69 x0_at_14 x0_wordStart_9 x0_wordLength_9 x0_error_13 x0_errorAt_13 r62
          ))
        ))
      ))
    ))
    ) : Option ((Int32 × Int32 × Int32 × Int32 × Int32 × Int32 × Int32 × Int32 × Int32 × Int32 × Int32 × Int32 × Int32 × Int32 × Int32 × Int32 × Int32 × Int32 × (Nat → Int32) × (Nat → Int32) × (Nat → Int32) × (Nat → Int32) × (Nat → Int32) × (Nat → Int32) × (Nat → Int32) × (Nat → Int32) × (Nat → Int32) × (Nat → Int32) × (Nat → Int32) × (Nat → Int32) × (Nat → Int32)) ⊕ (Int32 × Int32 × Int32 × Int32 × Int32 × Int32 × Int32 × Int32 × Int32 × Int32 × Int32 × Int32 × Int32 × Int32 × Int32 × Int32 × Int32 × (Nat → Int32) × (Nat → Int32) × (Nat → Int32) × (Nat → Int32) × (Nat → Int32) × (Nat → Int32) × (Nat → Int32) × (Nat → Int32) × (Nat → Int32) × (Nat → Int32) × (Nat → Int32) × (Nat → Int32) × (Nat → Int32))))) fun l32 =>
  bd30 (lq31 l32 r26 0 x0_at_1 0 x0_wordStart_1 x0_wordLength_1 x0_numberStart_1 x0_number_1 x0_cell 0 x0_error_1 x0_errorAt_1 x2_length x4_rivers_1 x5_count_1 x5_reds_1 x6_count_1 x6_turn_1 y7_letterOn_1 y8_namesOn_1 y9_costs y10_sums y11_way y12_land_1 y13_riverOf_1 y14_riverPlace_1 y15_direction y16_home y17_length y18_letters y19_stops) fun (v1_1 : Int32) (x0_at_3 : Int32) (x0_voyageTold_2 : Int32) (x0_wordStart_3 : Int32) (x0_wordLength_3 : Int32) (x0_numberStart_3 : Int32) (x0_number_3 : Int32) (x0_cell_2 : Int32) (x0_statement_2 : Int32) (x0_error_3 : Int32) (x0_errorAt_3 : Int32) (x2_length_2 : Int32) (x4_rivers_3 : Int32) (x5_count_3 : Int32) (x5_reds_3 : Int32) (x6_count_3 : Int32) (x6_turn_3 : Int32) (y7_letterOn_3 : Nat → Int32) (y8_namesOn_3 : Nat → Int32) (y9_costs_2 : Nat → Int32) (y10_sums_2 : Nat → Int32) (y11_way_2 : Nat → Int32) (y12_land_3 : Nat → Int32) (y13_riverOf_3 : Nat → Int32) (y14_riverPlace_3 : Nat → Int32) (y15_direction_2 : Nat → Int32) (y16_home_2 : Nat → Int32) (y17_length_2 : Nat → Int32) (y18_letters_2 : Nat → Int32) (y19_stops_2 : Nat → Int32) =>
  zb v1_1 (some (v1_1, x0_at_3, x0_voyageTold_2, x0_wordStart_3, x0_wordLength_3, x0_numberStart_3, x0_number_3, x0_cell_2, x0_statement_2, x0_error_3, x0_errorAt_3, x2_length_2, x4_rows_1, x4_columns_1, x4_rivers_3, x5_count_3, x5_reds_3, x6_count_3, x6_next_1, x6_turn_3, x6_quarters_1, y7_letterOn_3, y8_namesOn_3, y9_costs_2, y10_sums_2, y11_way_2, y12_land_3, y13_riverOf_3, y14_riverPlace_3, y15_direction_2, y16_home_2, y17_length_2, y18_letters_2, y19_stops_2))
set_option maxRecDepth 4000 in
theorem c_X5_readText (l : Launch) (g : GE) (a0 a1 a2 a3 a4 a5 a6 a7 a8 a9 a10 a11 a12 a13 a14 a15 a16 a17 a18 a19 : Nat) (sz : Nat) (x0_length : Int32) (x0_at : Int32) (x0_voyageTold : Int32) (x0_wordStart : Int32) (x0_wordLength : Int32) (x0_numberStart : Int32) (x0_number : Int32) (x0_cell : Int32) (x0_statement : Int32) (x0_error : Int32) (x0_errorAt : Int32) (x2_length : Int32) (y3_text : Nat → Int32) (x4_rows : Int32) (x4_columns : Int32) (x4_rivers : Int32) (x5_count : Int32) (x5_reds : Int32) (x6_count : Int32) (x6_next : Int32) (x6_turn : Int32) (x6_quarters : Int32) (y7_letterOn : Nat → Int32) (y8_namesOn : Nat → Int32) (y9_costs : Nat → Int32) (y10_sums : Nat → Int32) (y11_way : Nat → Int32) (y12_land : Nat → Int32) (y13_riverOf : Nat → Int32) (y14_riverPlace : Nat → Int32) (y15_direction : Nat → Int32) (y16_home : Nat → Int32) (y17_length : Nat → Int32) (y18_letters : Nat → Int32) (y19_stops : Nat → Int32)   (r : Int32) (o_x0_at : Int32) (o_x0_voyageTold : Int32) (o_x0_wordStart : Int32) (o_x0_wordLength : Int32) (o_x0_numberStart : Int32) (o_x0_number : Int32) (o_x0_cell : Int32) (o_x0_statement : Int32) (o_x0_error : Int32) (o_x0_errorAt : Int32) (o_x2_length : Int32) (o_x4_rows : Int32) (o_x4_columns : Int32) (o_x4_rivers : Int32) (o_x5_count : Int32) (o_x5_reds : Int32) (o_x6_count : Int32) (o_x6_next : Int32) (o_x6_turn : Int32) (o_x6_quarters : Int32) (o_y7_letterOn : Nat → Int32) (o_y8_namesOn : Nat → Int32) (o_y9_costs : Nat → Int32) (o_y10_sums : Nat → Int32) (o_y11_way : Nat → Int32) (o_y12_land : Nat → Int32) (o_y13_riverOf : Nat → Int32) (o_y14_riverPlace : Nat → Int32) (o_y15_direction : Nat → Int32) (o_y16_home : Nat → Int32) (o_y17_length : Nat → Int32) (o_y18_letters : Nat → Int32) (o_y19_stops : Nat → Int32) (hf : f_X5_readText x0_length x0_at x0_voyageTold x0_wordStart x0_wordLength x0_numberStart x0_number x0_cell x0_statement x0_error x0_errorAt x2_length y3_text x4_rows x4_columns x4_rivers x5_count x5_reds x6_count x6_next x6_turn x6_quarters y7_letterOn y8_namesOn y9_costs y10_sums y11_way y12_land y13_riverOf y14_riverPlace y15_direction y16_home y17_length y18_letters y19_stops = some (r, o_x0_at, o_x0_voyageTold, o_x0_wordStart, o_x0_wordLength, o_x0_numberStart, o_x0_number, o_x0_cell, o_x0_statement, o_x0_error, o_x0_errorAt, o_x2_length, o_x4_rows, o_x4_columns, o_x4_rivers, o_x5_count, o_x5_reds, o_x6_count, o_x6_next, o_x6_turn, o_x6_quarters, o_y7_letterOn, o_y8_namesOn, o_y9_costs, o_y10_sums, o_y11_way, o_y12_land, o_y13_riverOf, o_y14_riverPlace, o_y15_direction, o_y16_home, o_y17_length, o_y18_letters, o_y19_stops)) : MI l g yX5_readText wsX5_readText 8 176 [.ref a0] (w_X5_readText g a0 a1 a2 a3 a4 a5 a6 a7 a8 a9 a10 a11 a12 a13 a14 a15 a16 a17 a18 a19 x0_length x0_at x0_voyageTold x0_wordStart x0_wordLength x0_numberStart x0_number x0_cell x0_statement x0_error x0_errorAt x2_length y3_text x4_rows x4_columns x4_rivers x5_count x5_reds x6_count x6_next x6_turn x6_quarters y7_letterOn y8_namesOn y9_costs y10_sums y11_way y12_land y13_riverOf y14_riverPlace y15_direction y16_home y17_length y18_letters y19_stops) sz (some (.int r)) (w_X5_readText g a0 a1 a2 a3 a4 a5 a6 a7 a8 a9 a10 a11 a12 a13 a14 a15 a16 a17 a18 a19 x0_length o_x0_at o_x0_voyageTold o_x0_wordStart o_x0_wordLength o_x0_numberStart o_x0_number o_x0_cell o_x0_statement o_x0_error o_x0_errorAt o_x2_length y3_text o_x4_rows o_x4_columns o_x4_rivers o_x5_count o_x5_reds o_x6_count o_x6_next o_x6_turn o_x6_quarters o_y7_letterOn o_y8_namesOn o_y9_costs o_y10_sums o_y11_way o_y12_land o_y13_riverOf o_y14_riverPlace o_y15_direction o_y16_home o_y17_length o_y18_letters o_y19_stops) := by
  refine MI.start (cc := cX5_readText) (maxL := 3) (ret := (some .boolean)) rfl rfl (nle rfl) ?_
  intro p e s m args below meth c A ls Q hQ hexec hb hr hts hown hlocks hml hA hP hD hG hS hl
  unfold f_X5_readText at hf
  have hWX1 : ∀ w ∈ wsX10, w.before args s = true := fun w h => hts w (List.mem_cons_of_mem _ (List.mem_append_left _ (List.mem_append_left _ (List.mem_append_left _ (List.mem_append_right _ h)))))
  have hWX2 : ∀ w ∈ wsX20, w.before args s = true := fun w h => hts w (List.mem_cons_of_mem _ (List.mem_append_left _ (List.mem_append_left _ (List.mem_append_right _ h))))
  have hWX4 : ∀ w ∈ wsX40, w.before args s = true := fun w h => hts w (List.mem_cons_of_mem _ (List.mem_append_left _ (List.mem_append_right _ h)))
  have hWX5 : ∀ w ∈ wsX50, w.before args s = true := fun w h => hts w (List.mem_cons_of_mem _ (List.mem_append_left _ (List.mem_append_left _ (List.mem_append_left _ (List.mem_append_left _ (List.mem_append_left _ (List.mem_append_right _ h)))))))
  have hWX6 : ∀ w ∈ wsX60, w.before args s = true := fun w h => hts w (List.mem_cons_of_mem _ (List.mem_append_left _ (List.mem_append_left _ (List.mem_append_left _ (List.mem_append_left _ (List.mem_append_right _ h))))))
  have hWX7 : ∀ w ∈ wsX70, w.before args s = true := fun w h => hts w (List.mem_cons_of_mem _ (List.mem_append_right _ h))
  have hS : va_S A s.heap s.heap [] := hS
  refine lv_aload_n (pc := 0) hexec hb dX5_readText_0 rfl (lv_at hl 0 rfl) ?_
  refine lv_iconst (pc := 1) hexec hb dX5_readText_1 ki_0 ?_
  refine kp_put (pc := 2) hexec hb (own := RX5) hWX5 tyX5 tyX5_ok nmX5 hown hG hP hD hS 0 rfl rfl 4 (nle rfl) (hts _ (List.mem_cons_of_mem _ (List.mem_append_left _ (List.mem_append_left _ (List.mem_append_left _ (List.mem_append_left _ (List.mem_append_left _ (List.mem_append_left _ (List.mem_append_left _ (List.mem_of_getElem? (i := 0) rfl)))))))))) rfl rfl rfl rfl (nle rfl) dX5_readText_2 (fun H locs (hP : va_P g.1 vwCl (w_X5_readText g a0 a1 a2 a3 a4 a5 a6 a7 a8 a9 a10 a11 a12 a13 a14 a15 a16 a17 a18 a19 x0_length 0 x0_voyageTold x0_wordStart x0_wordLength x0_numberStart x0_number x0_cell x0_statement x0_error x0_errorAt x2_length y3_text x4_rows x4_columns x4_rivers x5_count x5_reds x6_count x6_next x6_turn x6_quarters y7_letterOn y8_namesOn y9_costs y10_sums y11_way y12_land y13_riverOf y14_riverPlace y15_direction y16_home y17_length y18_letters y19_stops) H) (hD : va_D A (w_X5_readText g a0 a1 a2 a3 a4 a5 a6 a7 a8 a9 a10 a11 a12 a13 a14 a15 a16 a17 a18 a19 x0_length 0 x0_voyageTold x0_wordStart x0_wordLength x0_numberStart x0_number x0_cell x0_statement x0_error x0_errorAt x2_length y3_text x4_rows x4_columns x4_rivers x5_count x5_reds x6_count x6_next x6_turn x6_quarters y7_letterOn y8_namesOn y9_costs y10_sums y11_way y12_land y13_riverOf y14_riverPlace y15_direction y16_home y17_length y18_letters y19_stops)) hS => ?_)
  refine lv_aload_n (pc := 5) hexec hb dX5_readText_5 rfl (lv_at hl 0 rfl) ?_
  refine lv_iconst (pc := 6) hexec hb dX5_readText_6 ki_0 ?_
  refine kp_put (pc := 7) hexec hb (own := RX5) hWX5 tyX5 tyX5_ok nmX5 hown hG hP hD hS 0 rfl rfl 11 (nle rfl) (hts _ (List.mem_cons_of_mem _ (List.mem_append_left _ (List.mem_append_left _ (List.mem_append_left _ (List.mem_append_left _ (List.mem_append_left _ (List.mem_append_left _ (List.mem_append_left _ (List.mem_of_getElem? (i := 1) rfl)))))))))) rfl rfl rfl rfl (nle rfl) dX5_readText_7 (fun H locs (hP : va_P g.1 vwCl (w_X5_readText g a0 a1 a2 a3 a4 a5 a6 a7 a8 a9 a10 a11 a12 a13 a14 a15 a16 a17 a18 a19 x0_length 0 x0_voyageTold x0_wordStart x0_wordLength x0_numberStart x0_number x0_cell 0 x0_error x0_errorAt x2_length y3_text x4_rows x4_columns x4_rivers x5_count x5_reds x6_count x6_next x6_turn x6_quarters y7_letterOn y8_namesOn y9_costs y10_sums y11_way y12_land y13_riverOf y14_riverPlace y15_direction y16_home y17_length y18_letters y19_stops) H) (hD : va_D A (w_X5_readText g a0 a1 a2 a3 a4 a5 a6 a7 a8 a9 a10 a11 a12 a13 a14 a15 a16 a17 a18 a19 x0_length 0 x0_voyageTold x0_wordStart x0_wordLength x0_numberStart x0_number x0_cell 0 x0_error x0_errorAt x2_length y3_text x4_rows x4_columns x4_rivers x5_count x5_reds x6_count x6_next x6_turn x6_quarters y7_letterOn y8_namesOn y9_costs y10_sums y11_way y12_land y13_riverOf y14_riverPlace y15_direction y16_home y17_length y18_letters y19_stops)) hS => ?_)
  refine lv_aload_n (pc := 10) hexec hb dX5_readText_10 rfl (lv_at hl 0 rfl) ?_
  refine lv_iconst (pc := 11) hexec hb dX5_readText_11 ki_0 ?_
  refine kp_put (pc := 12) hexec hb (own := RX5) hWX5 tyX5 tyX5_ok nmX5 hown hG hP hD hS 0 rfl rfl 12 (nle rfl) (hts _ (List.mem_cons_of_mem _ (List.mem_append_left _ (List.mem_append_left _ (List.mem_append_left _ (List.mem_append_left _ (List.mem_append_left _ (List.mem_append_left _ (List.mem_append_left _ (List.mem_of_getElem? (i := 2) rfl)))))))))) rfl rfl rfl rfl (nle rfl) dX5_readText_12 (fun H locs (hP : va_P g.1 vwCl (w_X5_readText g a0 a1 a2 a3 a4 a5 a6 a7 a8 a9 a10 a11 a12 a13 a14 a15 a16 a17 a18 a19 x0_length 0 x0_voyageTold x0_wordStart x0_wordLength x0_numberStart x0_number x0_cell 0 0 x0_errorAt x2_length y3_text x4_rows x4_columns x4_rivers x5_count x5_reds x6_count x6_next x6_turn x6_quarters y7_letterOn y8_namesOn y9_costs y10_sums y11_way y12_land y13_riverOf y14_riverPlace y15_direction y16_home y17_length y18_letters y19_stops) H) (hD : va_D A (w_X5_readText g a0 a1 a2 a3 a4 a5 a6 a7 a8 a9 a10 a11 a12 a13 a14 a15 a16 a17 a18 a19 x0_length 0 x0_voyageTold x0_wordStart x0_wordLength x0_numberStart x0_number x0_cell 0 0 x0_errorAt x2_length y3_text x4_rows x4_columns x4_rivers x5_count x5_reds x6_count x6_next x6_turn x6_quarters y7_letterOn y8_namesOn y9_costs y10_sums y11_way y12_land y13_riverOf y14_riverPlace y15_direction y16_home y17_length y18_letters y19_stops)) hS => ?_)
  refine lv_aload_n (pc := 15) hexec hb dX5_readText_15 rfl (lv_at hl 0 rfl) ?_
  refine lv_iconst (pc := 16) hexec hb dX5_readText_16 ki_0 ?_
  refine kp_put (pc := 17) hexec hb (own := RX5) hWX5 tyX5 tyX5_ok nmX5 hown hG hP hD hS 0 rfl rfl 13 (nle rfl) (hts _ (List.mem_cons_of_mem _ (List.mem_append_left _ (List.mem_append_left _ (List.mem_append_left _ (List.mem_append_left _ (List.mem_append_left _ (List.mem_append_left _ (List.mem_append_left _ (List.mem_of_getElem? (i := 3) rfl)))))))))) rfl rfl rfl rfl (nle rfl) dX5_readText_17 (fun H locs (hP : va_P g.1 vwCl (w_X5_readText g a0 a1 a2 a3 a4 a5 a6 a7 a8 a9 a10 a11 a12 a13 a14 a15 a16 a17 a18 a19 x0_length 0 x0_voyageTold x0_wordStart x0_wordLength x0_numberStart x0_number x0_cell 0 0 0 x2_length y3_text x4_rows x4_columns x4_rivers x5_count x5_reds x6_count x6_next x6_turn x6_quarters y7_letterOn y8_namesOn y9_costs y10_sums y11_way y12_land y13_riverOf y14_riverPlace y15_direction y16_home y17_length y18_letters y19_stops) H) (hD : va_D A (w_X5_readText g a0 a1 a2 a3 a4 a5 a6 a7 a8 a9 a10 a11 a12 a13 a14 a15 a16 a17 a18 a19 x0_length 0 x0_voyageTold x0_wordStart x0_wordLength x0_numberStart x0_number x0_cell 0 0 0 x2_length y3_text x4_rows x4_columns x4_rivers x5_count x5_reds x6_count x6_next x6_turn x6_quarters y7_letterOn y8_namesOn y9_costs y10_sums y11_way y12_land y13_riverOf y14_riverPlace y15_direction y16_home y17_length y18_letters y19_stops)) hS => ?_)
  refine lv_aload_n (pc := 20) hexec hb dX5_readText_20 rfl (lv_at hl 0 rfl) ?_
  refine lv_iconst (pc := 21) hexec hb dX5_readText_21 ki_0 ?_
  refine kp_put (pc := 22) hexec hb (own := RX5) hWX5 tyX5 tyX5_ok nmX5 hown hG hP hD hS 0 rfl rfl 5 (nle rfl) (hts _ (List.mem_cons_of_mem _ (List.mem_append_left _ (List.mem_append_left _ (List.mem_append_left _ (List.mem_append_left _ (List.mem_append_left _ (List.mem_append_left _ (List.mem_append_left _ (List.mem_of_getElem? (i := 4) rfl)))))))))) rfl rfl rfl rfl (nle rfl) dX5_readText_22 (fun H locs (hP : va_P g.1 vwCl (w_X5_readText g a0 a1 a2 a3 a4 a5 a6 a7 a8 a9 a10 a11 a12 a13 a14 a15 a16 a17 a18 a19 x0_length 0 0 x0_wordStart x0_wordLength x0_numberStart x0_number x0_cell 0 0 0 x2_length y3_text x4_rows x4_columns x4_rivers x5_count x5_reds x6_count x6_next x6_turn x6_quarters y7_letterOn y8_namesOn y9_costs y10_sums y11_way y12_land y13_riverOf y14_riverPlace y15_direction y16_home y17_length y18_letters y19_stops) H) (hD : va_D A (w_X5_readText g a0 a1 a2 a3 a4 a5 a6 a7 a8 a9 a10 a11 a12 a13 a14 a15 a16 a17 a18 a19 x0_length 0 0 x0_wordStart x0_wordLength x0_numberStart x0_number x0_cell 0 0 0 x2_length y3_text x4_rows x4_columns x4_rivers x5_count x5_reds x6_count x6_next x6_turn x6_quarters y7_letterOn y8_namesOn y9_costs y10_sums y11_way y12_land y13_riverOf y14_riverPlace y15_direction y16_home y17_length y18_letters y19_stops)) hS => ?_)
  refine lv_aload_n (pc := 25) hexec hb dX5_readText_25 rfl (lv_at hl 0 rfl) ?_
  obtain ⟨r26, x0_at_1, x0_wordStart_1, x0_wordLength_1, x0_numberStart_1, x0_number_1, x0_error_1, x0_errorAt_1, x4_rows_1, x4_columns_1, x4_rivers_1, x5_count_1, x5_reds_1, x6_count_1, x6_next_1, x6_turn_1, x6_quarters_1, y7_letterOn_1, y8_namesOn_1, y12_land_1, y13_riverOf_1, y14_riverPlace_1, hc, hf⟩ := bd22_e hf
  refine kVp (pc := 26) (S := ⟨hexec, hb, hml, hown, hts⟩) hP hD hG hA hS [0, 1, 3, 4, 5, 6, 7, 8, 12, 13, 14] [2, 9, 10, 11, 15, 16, 17, 18, 19] [9, 10, 0, 11, 12, 13, 14, 15, 16, 1, 2, 3, 17, 18, 19, 4, 5, 6, 7, 8] (w2 := (w_X5_readText g a0 a1 a2 a3 a4 a5 a6 a7 a8 a9 a10 a11 a12 a13 a14 a15 a16 a17 a18 a19 x0_length x0_at_1 0 x0_wordStart_1 x0_wordLength_1 x0_numberStart_1 x0_number_1 x0_cell 0 x0_error_1 x0_errorAt_1 x2_length y3_text x4_rows_1 x4_columns_1 x4_rivers_1 x5_count_1 x5_reds_1 x6_count_1 x6_next_1 x6_turn_1 x6_quarters_1 y7_letterOn_1 y8_namesOn_1 y9_costs y10_sums y11_way y12_land_1 y13_riverOf_1 y14_riverPlace_1 y15_direction y16_home y17_length y18_letters y19_stops)) rfl rfl rfl rfl rfl rfl (by decide) (c_X5_readChart l g a0 a1 a3 a4 a5 a6 a7 a8 a12 a13 a14 _ (.ref a2) (.int 0) (.int x0_cell) (.int 0) (.ref a16) (.ref a15) (.ref a17) (.ref a18) (.ref a19) x0_length 0 x0_wordStart x0_wordLength x0_numberStart x0_number 0 0 y3_text x4_rows x4_columns x4_rivers x5_count x5_reds x6_count x6_next x6_turn x6_quarters y7_letterOn y8_namesOn y12_land y13_riverOf y14_riverPlace r26 x0_at_1 x0_wordStart_1 x0_wordLength_1 x0_numberStart_1 x0_number_1 x0_error_1 x0_errorAt_1 x4_rows_1 x4_columns_1 x4_rivers_1 x5_count_1 x5_reds_1 x6_count_1 x6_next_1 x6_turn_1 x6_quarters_1 y7_letterOn_1 y8_namesOn_1 y12_land_1 y13_riverOf_1 y14_riverPlace_1 hc) gX5_readText_X5_readChart rfl hv_X5_readChart ⟨nle rfl, nle rfl⟩ 5 0 rfl rfl rfl (rest := []) rfl rfl hl.1 (nle rfl) dX5_readText_26 (fun H locs hP hD hS => ?_)
  refine lv_istore_n (pc := 29) hexec hb dX5_readText_29 rfl hl (nle rfl) rfl (fun ls (hl : lv_has ls 3 [(1, .int r26), (0, .ref a0)]) => ?_)
  refine lv_iconst (pc := 30) hexec hb dX5_readText_30 ki_0 ?_
  refine lv_istore_n (pc := 31) hexec hb dX5_readText_31 rfl hl (nle rfl) rfl (fun ls (hl : lv_has ls 3 [(2, .int 0), (1, .int r26), (0, .ref a0)]) => ?_)
  obtain ⟨l32, el32, hf⟩ := bvf31 hf
  obtain ⟨v1_1, x0_at_3, x0_voyageTold_2, x0_wordStart_3, x0_wordLength_3, x0_numberStart_3, x0_number_3, x0_cell_2, x0_statement_2, x0_error_3, x0_errorAt_3, x2_length_2, x4_rivers_3, x5_count_3, x5_reds_3, x6_count_3, x6_turn_3, y7_letterOn_3, y8_namesOn_3, y9_costs_2, y10_sums_2, y11_way_2, y12_land_3, y13_riverOf_3, y14_riverPlace_3, y15_direction_2, y16_home_2, y17_length_2, y18_letters_2, y19_stops_2, hz, hf⟩ := bd30_e hf
  have hE32 : ∀ (H : Heap) (locs : List Loc) (ls : Array Slot), va_P g.1 vwCl (w_X5_readText g a0 a1 a2 a3 a4 a5 a6 a7 a8 a9 a10 a11 a12 a13 a14 a15 a16 a17 a18 a19 x0_length x0_at_3 x0_voyageTold_2 x0_wordStart_3 x0_wordLength_3 x0_numberStart_3 x0_number_3 x0_cell_2 x0_statement_2 x0_error_3 x0_errorAt_3 x2_length_2 y3_text x4_rows_1 x4_columns_1 x4_rivers_3 x5_count_3 x5_reds_3 x6_count_3 x6_next_1 x6_turn_3 x6_quarters_1 y7_letterOn_3 y8_namesOn_3 y9_costs_2 y10_sums_2 y11_way_2 y12_land_3 y13_riverOf_3 y14_riverPlace_3 y15_direction_2 y16_home_2 y17_length_2 y18_letters_2 y19_stops_2) H → va_D A (w_X5_readText g a0 a1 a2 a3 a4 a5 a6 a7 a8 a9 a10 a11 a12 a13 a14 a15 a16 a17 a18 a19 x0_length x0_at_3 x0_voyageTold_2 x0_wordStart_3 x0_wordLength_3 x0_numberStart_3 x0_number_3 x0_cell_2 x0_statement_2 x0_error_3 x0_errorAt_3 x2_length_2 y3_text x4_rows_1 x4_columns_1 x4_rivers_3 x5_count_3 x5_reds_3 x6_count_3 x6_next_1 x6_turn_3 x6_quarters_1 y7_letterOn_3 y8_namesOn_3 y9_costs_2 y10_sums_2 y11_way_2 y12_land_3 y13_riverOf_3 y14_riverPlace_3 y15_direction_2 y16_home_2 y17_length_2 y18_letters_2 y19_stops_2) → va_S A s.heap H locs → lv_has ls 3 [(1, .int v1_1)] → W p l e (RM 8 176) s m args below meth c H locs 0 0 Q (F0 m 164 ls []) := by
    intro H locs ls hP hD hS hl
    refine lv_iload_n (pc := 164) hexec hb dX5_readText_164 rfl (lv_at hl 0 rfl) ?_
    obtain ⟨hx, hf⟩ := zb_e hf
    cases hf
    exact ke_z hQ hexec hb hr hx hP hD hS dX5_readText_165 hlocks
  obtain ⟨n, hz⟩ := lq31_e hz
  have hL32 : ∀ (n : Nat) (v1 : Int32) (v2 : Int32) (x0_at_2 : Int32) (x0_voyageTold_1 : Int32) (x0_wordStart_2 : Int32) (x0_wordLength_2 : Int32) (x0_numberStart_2 : Int32) (x0_number_2 : Int32) (x0_cell_1 : Int32) (x0_statement_1 : Int32) (x0_error_2 : Int32) (x0_errorAt_2 : Int32) (x2_length_1 : Int32) (x4_rivers_2 : Int32) (x5_count_2 : Int32) (x5_reds_2 : Int32) (x6_count_2 : Int32) (x6_turn_2 : Int32) (y7_letterOn_2 : Nat → Int32) (y8_namesOn_2 : Nat → Int32) (y9_costs_1 : Nat → Int32) (y10_sums_1 : Nat → Int32) (y11_way_1 : Nat → Int32) (y12_land_2 : Nat → Int32) (y13_riverOf_2 : Nat → Int32) (y14_riverPlace_2 : Nat → Int32) (y15_direction_1 : Nat → Int32) (y16_home_1 : Nat → Int32) (y17_length_1 : Nat → Int32) (y18_letters_1 : Nat → Int32) (y19_stops_1 : Nat → Int32) (H : Heap) (locs : List Loc) (ls : Array Slot), it31 l32 n v1 v2 x0_at_2 x0_voyageTold_1 x0_wordStart_2 x0_wordLength_2 x0_numberStart_2 x0_number_2 x0_cell_1 x0_statement_1 x0_error_2 x0_errorAt_2 x2_length_1 x4_rivers_2 x5_count_2 x5_reds_2 x6_count_2 x6_turn_2 y7_letterOn_2 y8_namesOn_2 y9_costs_1 y10_sums_1 y11_way_1 y12_land_2 y13_riverOf_2 y14_riverPlace_2 y15_direction_1 y16_home_1 y17_length_1 y18_letters_1 y19_stops_1 = some (v1_1, x0_at_3, x0_voyageTold_2, x0_wordStart_3, x0_wordLength_3, x0_numberStart_3, x0_number_3, x0_cell_2, x0_statement_2, x0_error_3, x0_errorAt_3, x2_length_2, x4_rivers_3, x5_count_3, x5_reds_3, x6_count_3, x6_turn_3, y7_letterOn_3, y8_namesOn_3, y9_costs_2, y10_sums_2, y11_way_2, y12_land_3, y13_riverOf_3, y14_riverPlace_3, y15_direction_2, y16_home_2, y17_length_2, y18_letters_2, y19_stops_2) → va_P g.1 vwCl (w_X5_readText g a0 a1 a2 a3 a4 a5 a6 a7 a8 a9 a10 a11 a12 a13 a14 a15 a16 a17 a18 a19 x0_length x0_at_2 x0_voyageTold_1 x0_wordStart_2 x0_wordLength_2 x0_numberStart_2 x0_number_2 x0_cell_1 x0_statement_1 x0_error_2 x0_errorAt_2 x2_length_1 y3_text x4_rows_1 x4_columns_1 x4_rivers_2 x5_count_2 x5_reds_2 x6_count_2 x6_next_1 x6_turn_2 x6_quarters_1 y7_letterOn_2 y8_namesOn_2 y9_costs_1 y10_sums_1 y11_way_1 y12_land_2 y13_riverOf_2 y14_riverPlace_2 y15_direction_1 y16_home_1 y17_length_1 y18_letters_1 y19_stops_1) H → va_D A (w_X5_readText g a0 a1 a2 a3 a4 a5 a6 a7 a8 a9 a10 a11 a12 a13 a14 a15 a16 a17 a18 a19 x0_length x0_at_2 x0_voyageTold_1 x0_wordStart_2 x0_wordLength_2 x0_numberStart_2 x0_number_2 x0_cell_1 x0_statement_1 x0_error_2 x0_errorAt_2 x2_length_1 y3_text x4_rows_1 x4_columns_1 x4_rivers_2 x5_count_2 x5_reds_2 x6_count_2 x6_next_1 x6_turn_2 x6_quarters_1 y7_letterOn_2 y8_namesOn_2 y9_costs_1 y10_sums_1 y11_way_1 y12_land_2 y13_riverOf_2 y14_riverPlace_2 y15_direction_1 y16_home_1 y17_length_1 y18_letters_1 y19_stops_1) → va_S A s.heap H locs → lv_has ls 3 [(0, .ref a0), (1, .int v1), (2, .int v2)] → W p l e (RM 8 176) s m args below meth c H locs 0 0 Q (F0 m 32 ls []) := by
    intro n
    induction n with
    | zero =>
      intro v1 v2 x0_at_2 x0_voyageTold_1 x0_wordStart_2 x0_wordLength_2 x0_numberStart_2 x0_number_2 x0_cell_1 x0_statement_1 x0_error_2 x0_errorAt_2 x2_length_1 x4_rivers_2 x5_count_2 x5_reds_2 x6_count_2 x6_turn_2 y7_letterOn_2 y8_namesOn_2 y9_costs_1 y10_sums_1 y11_way_1 y12_land_2 y13_riverOf_2 y14_riverPlace_2 y15_direction_1 y16_home_1 y17_length_1 y18_letters_1 y19_stops_1 H locs ls hf hP hD hS hl
      exact it31_0 hf
    | succ n32 ih32 =>
      intro v1 v2 x0_at_2 x0_voyageTold_1 x0_wordStart_2 x0_wordLength_2 x0_numberStart_2 x0_number_2 x0_cell_1 x0_statement_1 x0_error_2 x0_errorAt_2 x2_length_1 x4_rivers_2 x5_count_2 x5_reds_2 x6_count_2 x6_turn_2 y7_letterOn_2 y8_namesOn_2 y9_costs_1 y10_sums_1 y11_way_1 y12_land_2 y13_riverOf_2 y14_riverPlace_2 y15_direction_1 y16_home_1 y17_length_1 y18_letters_1 y19_stops_1 H locs ls hf hP hD hS hl
      obtain ⟨q32, hf, hk32⟩ := it31_e hf
      have hf := (el32 v1 v2 x0_at_2 x0_voyageTold_1 x0_wordStart_2 x0_wordLength_2 x0_numberStart_2 x0_number_2 x0_cell_1 x0_statement_1 x0_error_2 x0_errorAt_2 x2_length_1 x4_rivers_2 x5_count_2 x5_reds_2 x6_count_2 x6_turn_2 y7_letterOn_2 y8_namesOn_2 y9_costs_1 y10_sums_1 y11_way_1 y12_land_2 y13_riverOf_2 y14_riverPlace_2 y15_direction_1 y16_home_1 y17_length_1 y18_letters_1 y19_stops_1).symm.trans hf
      refine lv_iload_n (pc := 32) hexec hb dX5_readText_32 rfl (lv_at hl 2 rfl) ?_
      refine lv_aload_n (pc := 33) hexec hb dX5_readText_33 rfl (lv_at hl 0 rfl) ?_
      refine kg_get (pc := 34) hexec hb (own := RX5) hWX5 hown hG hP 0 rfl rfl 3 (nle rfl) (hts _ (List.mem_cons_of_mem _ (List.mem_append_left _ (List.mem_append_left _ (List.mem_append_left _ (List.mem_append_left _ (List.mem_append_left _ (List.mem_append_left _ (List.mem_append_left _ (List.mem_of_getElem? (i := 5) rfl)))))))))) rfl rfl dX5_readText_34 ?_
      refine ki_gt (pc := 37) hexec hb dX5_readText_37 (tgt := 164) rfl hf (fun hc hf => ?_) (fun hc hf => ?_)
      · cases sr31 hf hk32
        exact hE32 _ _ _ hP hD hS (lv_sub hl [1] rfl)
      · refine lv_iload_n (pc := 40) hexec hb dX5_readText_40 rfl (lv_at hl 1 rfl) ?_
        refine kb_eq (pc := 41) hexec hb dX5_readText_41 (tgt := 164) rfl hf (fun hc hf => ?_) (fun hc hf => ?_)
        · cases sr31 hf hk32
          exact hE32 _ _ _ hP hD hS (lv_sub hl [1] rfl)
        · refine lv_aload_n (pc := 44) hexec hb dX5_readText_44 rfl (lv_at hl 0 rfl) ?_
          obtain ⟨r45, x0_at_4, hc, hf⟩ := bd2_e hf
          refine kVp (pc := 45) (S := ⟨hexec, hb, hml, hown, hts⟩) hP hD hG hA hS [0, 3] [1, 2, 4, 5, 6, 7, 8, 9, 10, 11, 12, 13, 14, 15, 16, 17, 18, 19] [18, 0, 1, 19, 2, 3, 4, 5, 6, 7, 8, 9, 10, 11, 12, 13, 14, 15, 16, 17] (w2 := (w_X5_readText g a0 a1 a2 a3 a4 a5 a6 a7 a8 a9 a10 a11 a12 a13 a14 a15 a16 a17 a18 a19 x0_length x0_at_4 x0_voyageTold_1 x0_wordStart_2 x0_wordLength_2 x0_numberStart_2 x0_number_2 x0_cell_1 x0_statement_1 x0_error_2 x0_errorAt_2 x2_length_1 y3_text x4_rows_1 x4_columns_1 x4_rivers_2 x5_count_2 x5_reds_2 x6_count_2 x6_next_1 x6_turn_2 x6_quarters_1 y7_letterOn_2 y8_namesOn_2 y9_costs_1 y10_sums_1 y11_way_1 y12_land_2 y13_riverOf_2 y14_riverPlace_2 y15_direction_1 y16_home_1 y17_length_1 y18_letters_1 y19_stops_1)) rfl rfl rfl rfl rfl rfl (by decide) (c_X5_nextSign l g a0 a3 _ (.ref a1) (.ref a2) (.int x0_voyageTold_1) (.int x0_wordStart_2) (.int x0_wordLength_2) (.int x0_numberStart_2) (.int x0_number_2) (.int x0_cell_1) (.int x0_statement_1) (.int x0_error_2) (.int x0_errorAt_2) x0_length x0_at_2 y3_text r45 x0_at_4 hc) gX5_readText_X5_nextSign rfl hv_X5_nextSign ⟨nle rfl, nle rfl⟩ 5 0 rfl rfl rfl (rest := []) rfl rfl hl.1 (nle rfl) dX5_readText_45 (fun H locs hP hD hS => ?_)
          refine lv_iconst (pc := 48) hexec hb dX5_readText_48 ki_m1 ?_
          refine ki_eq (pc := 49) hexec hb dX5_readText_49 (tgt := 164) rfl hf (fun hc hf => ?_) (fun hc hf => ?_)
          · cases sr31 hf hk32
            exact hE32 _ _ _ hP hD hS (lv_sub hl [1] rfl)
          · refine lv_aload_n (pc := 52) hexec hb dX5_readText_52 rfl (lv_at hl 0 rfl) ?_
            obtain ⟨r53, x0_at_5, x0_statement_3, x0_error_4, x0_errorAt_4, hc, hf⟩ := bd5_e hf
            refine kVp (pc := 53) (S := ⟨hexec, hb, hml, hown, hts⟩) hP hD hG hA hS [0, 3] [1, 2, 4, 5, 6, 7, 8, 9, 10, 11, 12, 13, 14, 15, 16, 17, 18, 19] [18, 0, 1, 19, 2, 3, 4, 5, 6, 7, 8, 9, 10, 11, 12, 13, 14, 15, 16, 17] (w2 := (w_X5_readText g a0 a1 a2 a3 a4 a5 a6 a7 a8 a9 a10 a11 a12 a13 a14 a15 a16 a17 a18 a19 x0_length x0_at_5 x0_voyageTold_1 x0_wordStart_2 x0_wordLength_2 x0_numberStart_2 x0_number_2 x0_cell_1 x0_statement_3 x0_error_4 x0_errorAt_4 x2_length_1 y3_text x4_rows_1 x4_columns_1 x4_rivers_2 x5_count_2 x5_reds_2 x6_count_2 x6_next_1 x6_turn_2 x6_quarters_1 y7_letterOn_2 y8_namesOn_2 y9_costs_1 y10_sums_1 y11_way_1 y12_land_2 y13_riverOf_2 y14_riverPlace_2 y15_direction_1 y16_home_1 y17_length_1 y18_letters_1 y19_stops_1)) rfl rfl rfl rfl rfl rfl (by decide) (c_X5_takeSemicolon l g a0 a3 _ (.ref a1) (.ref a2) (.int x0_voyageTold_1) (.int x0_wordStart_2) (.int x0_wordLength_2) (.int x0_numberStart_2) (.int x0_number_2) (.int x0_cell_1) x0_length x0_at_4 x0_statement_1 x0_error_2 x0_errorAt_2 y3_text r53 x0_at_5 x0_statement_3 x0_error_4 x0_errorAt_4 hc) gX5_readText_X5_takeSemicolon rfl hv_X5_takeSemicolon ⟨nle rfl, nle rfl⟩ 5 0 rfl rfl rfl (rest := []) rfl rfl hl.1 (nle rfl) dX5_readText_53 (fun H locs hP hD hS => ?_)
            refine lv_istore_n (pc := 56) hexec hb dX5_readText_56 rfl hl (nle rfl) rfl (fun ls (hl : lv_has ls 3 [(1, .int r53), (0, .ref a0), (2, .int v2)]) => ?_)
            refine lv_iload_n (pc := 57) hexec hb dX5_readText_57 rfl (lv_at hl 0 rfl) ?_
            obtain ⟨j69, ej69, hf⟩ := bvf6 hf
            have hj69 : ∀ (x0_at_6 : Int32) (x0_wordStart_4 : Int32) (x0_wordLength_4 : Int32) (x0_error_5 : Int32) (x0_errorAt_5 : Int32) (t69 : Int32) (H : Heap) (locs : List Loc) (ls : Array Slot), j69 x0_at_6 x0_wordStart_4 x0_wordLength_4 x0_error_5 x0_errorAt_5 t69 = some q32 → va_P g.1 vwCl (w_X5_readText g a0 a1 a2 a3 a4 a5 a6 a7 a8 a9 a10 a11 a12 a13 a14 a15 a16 a17 a18 a19 x0_length x0_at_6 x0_voyageTold_1 x0_wordStart_4 x0_wordLength_4 x0_numberStart_2 x0_number_2 x0_cell_1 x0_statement_3 x0_error_5 x0_errorAt_5 x2_length_1 y3_text x4_rows_1 x4_columns_1 x4_rivers_2 x5_count_2 x5_reds_2 x6_count_2 x6_next_1 x6_turn_2 x6_quarters_1 y7_letterOn_2 y8_namesOn_2 y9_costs_1 y10_sums_1 y11_way_1 y12_land_2 y13_riverOf_2 y14_riverPlace_2 y15_direction_1 y16_home_1 y17_length_1 y18_letters_1 y19_stops_1) H → va_D A (w_X5_readText g a0 a1 a2 a3 a4 a5 a6 a7 a8 a9 a10 a11 a12 a13 a14 a15 a16 a17 a18 a19 x0_length x0_at_6 x0_voyageTold_1 x0_wordStart_4 x0_wordLength_4 x0_numberStart_2 x0_number_2 x0_cell_1 x0_statement_3 x0_error_5 x0_errorAt_5 x2_length_1 y3_text x4_rows_1 x4_columns_1 x4_rivers_2 x5_count_2 x5_reds_2 x6_count_2 x6_next_1 x6_turn_2 x6_quarters_1 y7_letterOn_2 y8_namesOn_2 y9_costs_1 y10_sums_1 y11_way_1 y12_land_2 y13_riverOf_2 y14_riverPlace_2 y15_direction_1 y16_home_1 y17_length_1 y18_letters_1 y19_stops_1) → va_S A s.heap H locs → lv_has ls 3 [(0, .ref a0), (2, .int v2)] → W p l e (RM 8 176) s m args below meth c H locs 0 0 Q (F0 m 69 ls [.int t69]) := by
              intro x0_at_6 x0_wordStart_4 x0_wordLength_4 x0_error_5 x0_errorAt_5 t69 H locs ls hf hP hD hS hl
              have hf := (ej69 x0_at_6 x0_wordStart_4 x0_wordLength_4 x0_error_5 x0_errorAt_5 t69).symm.trans hf
              obtain ⟨j158, ej158, hf⟩ := bvf29 hf
              have hj158 : ∀ (v1_2 : Int32) (x0_at_7 : Int32) (x0_voyageTold_3 : Int32) (x0_wordStart_5 : Int32) (x0_wordLength_5 : Int32) (x0_numberStart_4 : Int32) (x0_number_4 : Int32) (x0_cell_3 : Int32) (x0_error_6 : Int32) (x0_errorAt_6 : Int32) (x2_length_3 : Int32) (x4_rivers_4 : Int32) (x5_count_4 : Int32) (x5_reds_4 : Int32) (x6_count_4 : Int32) (x6_turn_4 : Int32) (y7_letterOn_4 : Nat → Int32) (y8_namesOn_4 : Nat → Int32) (y9_costs_3 : Nat → Int32) (y10_sums_3 : Nat → Int32) (y11_way_3 : Nat → Int32) (y12_land_4 : Nat → Int32) (y13_riverOf_4 : Nat → Int32) (y14_riverPlace_4 : Nat → Int32) (y15_direction_3 : Nat → Int32) (y16_home_3 : Nat → Int32) (y17_length_3 : Nat → Int32) (y18_letters_3 : Nat → Int32) (y19_stops_3 : Nat → Int32) (H : Heap) (locs : List Loc) (ls : Array Slot), j158 v1_2 x0_at_7 x0_voyageTold_3 x0_wordStart_5 x0_wordLength_5 x0_numberStart_4 x0_number_4 x0_cell_3 x0_error_6 x0_errorAt_6 x2_length_3 x4_rivers_4 x5_count_4 x5_reds_4 x6_count_4 x6_turn_4 y7_letterOn_4 y8_namesOn_4 y9_costs_3 y10_sums_3 y11_way_3 y12_land_4 y13_riverOf_4 y14_riverPlace_4 y15_direction_3 y16_home_3 y17_length_3 y18_letters_3 y19_stops_3 = some q32 → va_P g.1 vwCl (w_X5_readText g a0 a1 a2 a3 a4 a5 a6 a7 a8 a9 a10 a11 a12 a13 a14 a15 a16 a17 a18 a19 x0_length x0_at_7 x0_voyageTold_3 x0_wordStart_5 x0_wordLength_5 x0_numberStart_4 x0_number_4 x0_cell_3 x0_statement_3 x0_error_6 x0_errorAt_6 x2_length_3 y3_text x4_rows_1 x4_columns_1 x4_rivers_4 x5_count_4 x5_reds_4 x6_count_4 x6_next_1 x6_turn_4 x6_quarters_1 y7_letterOn_4 y8_namesOn_4 y9_costs_3 y10_sums_3 y11_way_3 y12_land_4 y13_riverOf_4 y14_riverPlace_4 y15_direction_3 y16_home_3 y17_length_3 y18_letters_3 y19_stops_3) H → va_D A (w_X5_readText g a0 a1 a2 a3 a4 a5 a6 a7 a8 a9 a10 a11 a12 a13 a14 a15 a16 a17 a18 a19 x0_length x0_at_7 x0_voyageTold_3 x0_wordStart_5 x0_wordLength_5 x0_numberStart_4 x0_number_4 x0_cell_3 x0_statement_3 x0_error_6 x0_errorAt_6 x2_length_3 y3_text x4_rows_1 x4_columns_1 x4_rivers_4 x5_count_4 x5_reds_4 x6_count_4 x6_next_1 x6_turn_4 x6_quarters_1 y7_letterOn_4 y8_namesOn_4 y9_costs_3 y10_sums_3 y11_way_3 y12_land_4 y13_riverOf_4 y14_riverPlace_4 y15_direction_3 y16_home_3 y17_length_3 y18_letters_3 y19_stops_3) → va_S A s.heap H locs → lv_has ls 3 [(0, .ref a0), (1, .int v1_2), (2, .int v2)] → W p l e (RM 8 176) s m args below meth c H locs 0 0 Q (F0 m 158 ls []) := by
                intro v1_2 x0_at_7 x0_voyageTold_3 x0_wordStart_5 x0_wordLength_5 x0_numberStart_4 x0_number_4 x0_cell_3 x0_error_6 x0_errorAt_6 x2_length_3 x4_rivers_4 x5_count_4 x5_reds_4 x6_count_4 x6_turn_4 y7_letterOn_4 y8_namesOn_4 y9_costs_3 y10_sums_3 y11_way_3 y12_land_4 y13_riverOf_4 y14_riverPlace_4 y15_direction_3 y16_home_3 y17_length_3 y18_letters_3 y19_stops_3 H locs ls hf hP hD hS hl
                have hf := (ej158 v1_2 x0_at_7 x0_voyageTold_3 x0_wordStart_5 x0_wordLength_5 x0_numberStart_4 x0_number_4 x0_cell_3 x0_error_6 x0_errorAt_6 x2_length_3 x4_rivers_4 x5_count_4 x5_reds_4 x6_count_4 x6_turn_4 y7_letterOn_4 y8_namesOn_4 y9_costs_3 y10_sums_3 y11_way_3 y12_land_4 y13_riverOf_4 y14_riverPlace_4 y15_direction_3 y16_home_3 y17_length_3 y18_letters_3 y19_stops_3).symm.trans hf
                obtain ⟨v2_1, ev2_1, hf⟩ := bv_e hf
                refine k_iinc (pc := 158) hexec hb dX5_readText_158 kq_1 hl (k := 2) rfl ev2_1 (nle rfl) rfl (fun ls (hl : lv_has ls 3 [(2, .int v2_1), (0, .ref a0), (1, .int v1_2)]) => ?_)
                refine lv_goto (pc := 161) hexec hb dX5_readText_161 (tgt := 32) rfl ?_
                exact ih32 _ _ _ _ _ _ _ _ _ _ _ _ _ _ _ _ _ _ _ _ _ _ _ _ _ _ _ _ _ _ _ _ _ _ (sl31 hf hk32) hP hD hS (lv_sub hl [1, 2, 0] rfl)
              rcases ite_or hf with ⟨hc0, hf⟩ | ⟨hc0, hf⟩
              · refine lv_tableIn (pc := 69) hexec hb dX5_readText_69 (by rw [hc0]; decide) (by rw [hc0]; decide) (by rw [hc0]; rfl) (tgt := 108) rfl ?_
                refine lv_aload_n (pc := 108) hexec hb dX5_readText_108 rfl (lv_at hl 0 rfl) ?_
                obtain ⟨r109, x0_at_8, x0_numberStart_5, x0_number_5, x0_cell_4, x0_error_7, x0_errorAt_7, y12_land_5, hc, hf⟩ := bd8_e hf
                refine kVp (pc := 109) (S := ⟨hexec, hb, hml, hown, hts⟩) hP hD hG hA hS [0, 1, 3, 4, 5, 12] [2, 6, 7, 8, 9, 10, 11, 13, 14, 15, 16, 17, 18, 19] [14, 15, 0, 16, 17, 18, 1, 2, 3, 4, 5, 6, 19, 7, 8, 9, 10, 11, 12, 13] (w2 := (w_X5_readText g a0 a1 a2 a3 a4 a5 a6 a7 a8 a9 a10 a11 a12 a13 a14 a15 a16 a17 a18 a19 x0_length x0_at_8 x0_voyageTold_1 x0_wordStart_4 x0_wordLength_4 x0_numberStart_5 x0_number_5 x0_cell_4 x0_statement_3 x0_error_7 x0_errorAt_7 x2_length_1 y3_text x4_rows_1 x4_columns_1 x4_rivers_2 x5_count_2 x5_reds_2 x6_count_2 x6_next_1 x6_turn_2 x6_quarters_1 y7_letterOn_2 y8_namesOn_2 y9_costs_1 y10_sums_1 y11_way_1 y12_land_5 y13_riverOf_2 y14_riverPlace_2 y15_direction_1 y16_home_1 y17_length_1 y18_letters_1 y19_stops_1)) rfl rfl rfl rfl rfl rfl (by decide) (c_X5_readLand l g a0 a1 a3 a4 a5 a12 _ (.ref a2) (.int x0_voyageTold_1) (.int x0_wordLength_4) (.int x0_statement_3) (.ref a6) (.ref a8) (.ref a7) (.ref a13) (.ref a14) (.int x5_reds_2) (.ref a16) (.ref a15) (.ref a17) (.ref a18) x0_length x0_at_6 x0_wordStart_4 x0_numberStart_2 x0_number_2 x0_cell_1 x0_error_5 x0_errorAt_5 y3_text x4_rows_1 x4_columns_1 x4_rivers_2 x5_count_2 y12_land_2 r109 x0_at_8 x0_numberStart_5 x0_number_5 x0_cell_4 x0_error_7 x0_errorAt_7 y12_land_5 hc) gX5_readText_X5_readLand rfl hv_X5_readLand ⟨nle rfl, nle rfl⟩ 5 0 rfl rfl rfl (rest := []) rfl rfl hl.1 (nle rfl) dX5_readText_109 (fun H locs hP hD hS => ?_)
                refine lv_istore_n (pc := 112) hexec hb dX5_readText_112 rfl hl (nle rfl) rfl (fun ls (hl : lv_has ls 3 [(1, .int r109), (0, .ref a0), (2, .int v2)]) => ?_)
                refine lv_goto (pc := 113) hexec hb dX5_readText_113 (tgt := 158) rfl ?_
                exact hj158 _ _ _ _ _ _ _ _ _ _ _ _ _ _ _ _ _ _ _ _ _ _ _ _ _ _ _ _ _ _ _ _ hf hP hD hS (lv_sub hl [1, 0, 2] rfl)
              rcases ite_or hf with ⟨hc1, hf⟩ | ⟨hc1, hf⟩
              · refine lv_tableIn (pc := 69) hexec hb dX5_readText_69 (by rw [hc1]; decide) (by rw [hc1]; decide) (by rw [hc1]; rfl) (tgt := 116) rfl ?_
                refine lv_aload_n (pc := 116) hexec hb dX5_readText_116 rfl (lv_at hl 0 rfl) ?_
                obtain ⟨r117, x0_at_9, x0_wordStart_6, x0_wordLength_6, x0_numberStart_6, x0_number_6, x0_cell_5, x0_error_8, x0_errorAt_8, x5_count_5, x5_reds_5, y15_direction_4, y16_home_4, y17_length_4, y18_letters_4, hc, hf⟩ := bd15_e hf
                refine kVp (pc := 117) (S := ⟨hexec, hb, hml, hown, hts⟩) hP hD hG hA hS [0, 1, 3, 4, 5, 8, 12, 13, 15, 16, 17, 18] [2, 6, 7, 9, 10, 11, 14, 19] [8, 9, 0, 10, 11, 12, 1, 2, 13, 3, 4, 5, 14, 15, 6, 16, 17, 18, 19, 7] (w2 := (w_X5_readText g a0 a1 a2 a3 a4 a5 a6 a7 a8 a9 a10 a11 a12 a13 a14 a15 a16 a17 a18 a19 x0_length x0_at_9 x0_voyageTold_1 x0_wordStart_6 x0_wordLength_6 x0_numberStart_6 x0_number_6 x0_cell_5 x0_statement_3 x0_error_8 x0_errorAt_8 x2_length_1 y3_text x4_rows_1 x4_columns_1 x4_rivers_2 x5_count_5 x5_reds_5 x6_count_2 x6_next_1 x6_turn_2 x6_quarters_1 y7_letterOn_2 y8_namesOn_2 y9_costs_1 y10_sums_1 y11_way_1 y12_land_2 y13_riverOf_2 y14_riverPlace_2 y15_direction_4 y16_home_4 y17_length_4 y18_letters_4 y19_stops_1)) rfl rfl rfl rfl rfl rfl (by decide) (c_X5_readHarbour l g a0 a1 a3 a4 a5 a8 a12 a13 a15 a16 a17 a18 _ (.ref a2) (.int x0_voyageTold_1) (.int x0_statement_3) (.ref a6) (.ref a7) (.int x4_rivers_2) (.ref a14) x0_length x0_at_6 x0_wordStart_4 x0_wordLength_4 x0_numberStart_2 x0_number_2 x0_cell_1 x0_error_5 x0_errorAt_5 y3_text x4_rows_1 x4_columns_1 x5_count_2 x5_reds_2 y8_namesOn_2 y12_land_2 y13_riverOf_2 y15_direction_1 y16_home_1 y17_length_1 y18_letters_1 r117 x0_at_9 x0_wordStart_6 x0_wordLength_6 x0_numberStart_6 x0_number_6 x0_cell_5 x0_error_8 x0_errorAt_8 x5_count_5 x5_reds_5 y15_direction_4 y16_home_4 y17_length_4 y18_letters_4 hc) gX5_readText_X5_readHarbour rfl hv_X5_readHarbour ⟨nle rfl, nle rfl⟩ 5 0 rfl rfl rfl (rest := []) rfl rfl hl.1 (nle rfl) dX5_readText_117 (fun H locs hP hD hS => ?_)
                refine lv_istore_n (pc := 120) hexec hb dX5_readText_120 rfl hl (nle rfl) rfl (fun ls (hl : lv_has ls 3 [(1, .int r117), (0, .ref a0), (2, .int v2)]) => ?_)
                refine lv_goto (pc := 121) hexec hb dX5_readText_121 (tgt := 158) rfl ?_
                exact hj158 _ _ _ _ _ _ _ _ _ _ _ _ _ _ _ _ _ _ _ _ _ _ _ _ _ _ _ _ _ _ _ _ hf hP hD hS (lv_sub hl [1, 0, 2] rfl)
              rcases ite_or hf with ⟨hc2, hf⟩ | ⟨hc2, hf⟩
              · refine lv_tableIn (pc := 69) hexec hb dX5_readText_69 (by rw [hc2]; decide) (by rw [hc2]; decide) (by rw [hc2]; rfl) (tgt := 124) rfl ?_
                refine lv_aload_n (pc := 124) hexec hb dX5_readText_124 rfl (lv_at hl 0 rfl) ?_
                obtain ⟨r125, x0_at_10, x0_numberStart_7, x0_number_7, x0_cell_6, x0_error_9, x0_errorAt_9, x2_length_4, x4_rivers_5, y8_namesOn_5, y9_costs_4, y10_sums_4, y11_way_4, y13_riverOf_5, y14_riverPlace_5, y15_direction_5, hc, hf⟩ := bd16_e hf
                refine kVp (pc := 125) (S := ⟨hexec, hb, hml, hown, hts⟩) hP hD hG hA hS [0, 1, 2, 3, 4, 5, 8, 9, 10, 11, 12, 13, 14, 15, 16, 17] [6, 7, 18, 19] [4, 5, 6, 7, 8, 9, 0, 1, 10, 11, 12, 13, 14, 15, 16, 17, 18, 19, 2, 3] (w2 := (w_X5_readText g a0 a1 a2 a3 a4 a5 a6 a7 a8 a9 a10 a11 a12 a13 a14 a15 a16 a17 a18 a19 x0_length x0_at_10 x0_voyageTold_1 x0_wordStart_4 x0_wordLength_4 x0_numberStart_7 x0_number_7 x0_cell_6 x0_statement_3 x0_error_9 x0_errorAt_9 x2_length_4 y3_text x4_rows_1 x4_columns_1 x4_rivers_5 x5_count_2 x5_reds_2 x6_count_2 x6_next_1 x6_turn_2 x6_quarters_1 y7_letterOn_2 y8_namesOn_5 y9_costs_4 y10_sums_4 y11_way_4 y12_land_2 y13_riverOf_5 y14_riverPlace_5 y15_direction_5 y16_home_1 y17_length_1 y18_letters_1 y19_stops_1)) rfl rfl rfl rfl rfl rfl (by decide) (c_X5_readRiver l g a0 a1 a2 a3 a4 a5 a8 a9 a10 a11 a12 a13 a14 a15 a16 a17 _ (.int x0_voyageTold_1) (.int x0_wordLength_4) (.int x0_statement_3) (.ref a6) (.ref a7) (.int x5_reds_2) (.ref a18) x0_length x0_at_6 x0_wordStart_4 x0_numberStart_2 x0_number_2 x0_cell_1 x0_error_5 x0_errorAt_5 x2_length_1 y3_text x4_rows_1 x4_columns_1 x4_rivers_2 x5_count_2 y8_namesOn_2 y9_costs_1 y10_sums_1 y11_way_1 y12_land_2 y13_riverOf_2 y14_riverPlace_2 y15_direction_1 y16_home_1 y17_length_1 r125 x0_at_10 x0_numberStart_7 x0_number_7 x0_cell_6 x0_error_9 x0_errorAt_9 x2_length_4 x4_rivers_5 y8_namesOn_5 y9_costs_4 y10_sums_4 y11_way_4 y13_riverOf_5 y14_riverPlace_5 y15_direction_5 hc) gX5_readText_X5_readRiver rfl hv_X5_readRiver ⟨nle rfl, nle rfl⟩ 5 0 rfl rfl rfl (rest := []) rfl rfl hl.1 (nle rfl) dX5_readText_125 (fun H locs hP hD hS => ?_)
                refine lv_istore_n (pc := 128) hexec hb dX5_readText_128 rfl hl (nle rfl) rfl (fun ls (hl : lv_has ls 3 [(1, .int r125), (0, .ref a0), (2, .int v2)]) => ?_)
                refine lv_goto (pc := 129) hexec hb dX5_readText_129 (tgt := 158) rfl ?_
                exact hj158 _ _ _ _ _ _ _ _ _ _ _ _ _ _ _ _ _ _ _ _ _ _ _ _ _ _ _ _ _ _ _ _ hf hP hD hS (lv_sub hl [1, 0, 2] rfl)
              rcases ite_or hf with ⟨hc3, hf⟩ | ⟨hc3, hf⟩
              · refine lv_tableIn (pc := 69) hexec hb dX5_readText_69 (by rw [hc3]; decide) (by rw [hc3]; decide) (by rw [hc3]; rfl) (tgt := 132) rfl ?_
                refine lv_aload_n (pc := 132) hexec hb dX5_readText_132 rfl (lv_at hl 0 rfl) ?_
                obtain ⟨r133, x0_at_11, x0_wordStart_7, x0_wordLength_7, x0_error_10, x0_errorAt_10, y7_letterOn_5, y8_namesOn_6, y15_direction_6, hc, hf⟩ := bd9_e hf
                refine kVp (pc := 133) (S := ⟨hexec, hb, hml, hown, hts⟩) hP hD hG hA hS [0, 1, 3, 4, 5, 7, 8, 12, 13, 15, 16, 17, 18] [2, 6, 9, 10, 11, 14, 19] [7, 8, 0, 9, 10, 11, 1, 12, 13, 2, 3, 4, 14, 15, 5, 16, 17, 18, 19, 6] (w2 := (w_X5_readText g a0 a1 a2 a3 a4 a5 a6 a7 a8 a9 a10 a11 a12 a13 a14 a15 a16 a17 a18 a19 x0_length x0_at_11 x0_voyageTold_1 x0_wordStart_7 x0_wordLength_7 x0_numberStart_2 x0_number_2 x0_cell_1 x0_statement_3 x0_error_10 x0_errorAt_10 x2_length_1 y3_text x4_rows_1 x4_columns_1 x4_rivers_2 x5_count_2 x5_reds_2 x6_count_2 x6_next_1 x6_turn_2 x6_quarters_1 y7_letterOn_5 y8_namesOn_6 y9_costs_1 y10_sums_1 y11_way_1 y12_land_2 y13_riverOf_2 y14_riverPlace_2 y15_direction_6 y16_home_1 y17_length_1 y18_letters_1 y19_stops_1)) rfl rfl rfl rfl rfl rfl (by decide) (c_X5_readPlace l g a0 a1 a3 a4 a5 a7 a8 a12 a13 a15 a16 a17 a18 _ (.ref a2) (.int x0_voyageTold_1) (.int x0_numberStart_2) (.int x0_number_2) (.int x0_cell_1) (.int x0_statement_3) (.ref a6) (.int x4_rivers_2) (.ref a14) x0_length x0_at_6 x0_wordStart_4 x0_wordLength_4 x0_error_5 x0_errorAt_5 y3_text x4_rows_1 x4_columns_1 x5_count_2 x5_reds_2 y7_letterOn_2 y8_namesOn_2 y12_land_2 y13_riverOf_2 y15_direction_1 y16_home_1 y17_length_1 y18_letters_1 r133 x0_at_11 x0_wordStart_7 x0_wordLength_7 x0_error_10 x0_errorAt_10 y7_letterOn_5 y8_namesOn_6 y15_direction_6 hc) gX5_readText_X5_readPlace rfl hv_X5_readPlace ⟨nle rfl, nle rfl⟩ 5 0 rfl rfl rfl (rest := []) rfl rfl hl.1 (nle rfl) dX5_readText_133 (fun H locs hP hD hS => ?_)
                refine lv_istore_n (pc := 136) hexec hb dX5_readText_136 rfl hl (nle rfl) rfl (fun ls (hl : lv_has ls 3 [(1, .int r133), (0, .ref a0), (2, .int v2)]) => ?_)
                refine lv_goto (pc := 137) hexec hb dX5_readText_137 (tgt := 158) rfl ?_
                exact hj158 _ _ _ _ _ _ _ _ _ _ _ _ _ _ _ _ _ _ _ _ _ _ _ _ _ _ _ _ _ _ _ _ hf hP hD hS (lv_sub hl [1, 0, 2] rfl)
              rcases ite_or hf with ⟨hc4, hf⟩ | ⟨hc4, hf⟩
              · refine lv_tableIn (pc := 69) hexec hb dX5_readText_69 (by rw [hc4]; decide) (by rw [hc4]; decide) (by rw [hc4]; rfl) (tgt := 140) rfl ?_
                refine lv_aload_n (pc := 140) hexec hb dX5_readText_140 rfl (lv_at hl 0 rfl) ?_
                obtain ⟨r141, x0_at_12, x0_voyageTold_4, x0_wordStart_8, x0_wordLength_8, x0_error_11, x0_errorAt_11, x6_count_5, y19_stops_4, hc, hf⟩ := bd9_e hf
                refine kVp (pc := 141) (S := ⟨hexec, hb, hml, hown, hts⟩) hP hD hG hA hS [0, 1, 3, 5, 6, 17, 18, 19] [2, 4, 7, 8, 9, 10, 11, 12, 13, 14, 15, 16] [12, 13, 0, 14, 1, 15, 16, 2, 3, 4, 5, 6, 7, 8, 9, 10, 11, 17, 18, 19] (w2 := (w_X5_readText g a0 a1 a2 a3 a4 a5 a6 a7 a8 a9 a10 a11 a12 a13 a14 a15 a16 a17 a18 a19 x0_length x0_at_12 x0_voyageTold_4 x0_wordStart_8 x0_wordLength_8 x0_numberStart_2 x0_number_2 x0_cell_1 x0_statement_3 x0_error_11 x0_errorAt_11 x2_length_1 y3_text x4_rows_1 x4_columns_1 x4_rivers_2 x5_count_2 x5_reds_2 x6_count_5 x6_next_1 x6_turn_2 x6_quarters_1 y7_letterOn_2 y8_namesOn_2 y9_costs_1 y10_sums_1 y11_way_1 y12_land_2 y13_riverOf_2 y14_riverPlace_2 y15_direction_1 y16_home_1 y17_length_1 y18_letters_1 y19_stops_4)) rfl rfl rfl rfl rfl rfl (by decide) (c_X5_readVoyage l g a0 a1 a3 a5 a6 a17 a18 a19 _ (.ref a2) (.int x0_numberStart_2) (.int x0_number_2) (.int x0_cell_1) (.int x0_statement_3) (.ref a4) (.ref a8) (.ref a7) (.int x5_reds_2) (.ref a16) (.ref a15) (.int x6_next_1) (.int x6_turn_2) (.int x6_quarters_1) x0_length x0_at_6 x0_voyageTold_1 x0_wordStart_4 x0_wordLength_4 x0_error_5 x0_errorAt_5 y3_text x5_count_2 x6_count_2 y17_length_1 y18_letters_1 y19_stops_1 r141 x0_at_12 x0_voyageTold_4 x0_wordStart_8 x0_wordLength_8 x0_error_11 x0_errorAt_11 x6_count_5 y19_stops_4 hc) gX5_readText_X5_readVoyage rfl hv_X5_readVoyage ⟨nle rfl, nle rfl⟩ 5 0 rfl rfl rfl (rest := []) rfl rfl hl.1 (nle rfl) dX5_readText_141 (fun H locs hP hD hS => ?_)
                refine lv_istore_n (pc := 144) hexec hb dX5_readText_144 rfl hl (nle rfl) rfl (fun ls (hl : lv_has ls 3 [(1, .int r141), (0, .ref a0), (2, .int v2)]) => ?_)
                refine lv_goto (pc := 145) hexec hb dX5_readText_145 (tgt := 158) rfl ?_
                exact hj158 _ _ _ _ _ _ _ _ _ _ _ _ _ _ _ _ _ _ _ _ _ _ _ _ _ _ _ _ _ _ _ _ hf hP hD hS (lv_sub hl [1, 0, 2] rfl)
              rcases ite_or hf with ⟨hc5, hf⟩ | ⟨hc5, hf⟩
              · refine lv_tableIn (pc := 69) hexec hb dX5_readText_69 (by rw [hc5]; decide) (by rw [hc5]; decide) (by rw [hc5]; rfl) (tgt := 148) rfl ?_
                refine lv_aload_n (pc := 148) hexec hb dX5_readText_148 rfl (lv_at hl 0 rfl) ?_
                obtain ⟨r149, x0_at_13, x0_numberStart_8, x0_number_8, x0_error_12, x0_errorAt_12, x6_turn_5, hc, hf⟩ := bd7_e hf
                refine kVp (pc := 149) (S := ⟨hexec, hb, hml, hown, hts⟩) hP hD hG hA hS [0, 1, 3, 6] [2, 4, 5, 7, 8, 9, 10, 11, 12, 13, 14, 15, 16, 17, 18, 19] [16, 17, 0, 18, 1, 2, 19, 3, 4, 5, 6, 7, 8, 9, 10, 11, 12, 13, 14, 15] (w2 := (w_X5_readText g a0 a1 a2 a3 a4 a5 a6 a7 a8 a9 a10 a11 a12 a13 a14 a15 a16 a17 a18 a19 x0_length x0_at_13 x0_voyageTold_1 x0_wordStart_4 x0_wordLength_4 x0_numberStart_8 x0_number_8 x0_cell_1 x0_statement_3 x0_error_12 x0_errorAt_12 x2_length_1 y3_text x4_rows_1 x4_columns_1 x4_rivers_2 x5_count_2 x5_reds_2 x6_count_2 x6_next_1 x6_turn_5 x6_quarters_1 y7_letterOn_2 y8_namesOn_2 y9_costs_1 y10_sums_1 y11_way_1 y12_land_2 y13_riverOf_2 y14_riverPlace_2 y15_direction_1 y16_home_1 y17_length_1 y18_letters_1 y19_stops_1)) rfl rfl rfl rfl rfl rfl (by decide) (c_X5_readTurn l g a0 a1 a3 a6 _ (.ref a2) (.int x0_voyageTold_1) (.int x0_wordStart_4) (.int x0_wordLength_4) (.int x0_cell_1) (.int x0_statement_3) (.ref a4) (.ref a5) (.ref a8) (.ref a7) (.int x6_count_2) (.int x6_next_1) (.int x6_quarters_1) (.ref a19) x0_length x0_at_6 x0_numberStart_2 x0_number_2 x0_error_5 x0_errorAt_5 y3_text x6_turn_2 r149 x0_at_13 x0_numberStart_8 x0_number_8 x0_error_12 x0_errorAt_12 x6_turn_5 hc) gX5_readText_X5_readTurn rfl hv_X5_readTurn ⟨nle rfl, nle rfl⟩ 5 0 rfl rfl rfl (rest := []) rfl rfl hl.1 (nle rfl) dX5_readText_149 (fun H locs hP hD hS => ?_)
                refine lv_istore_n (pc := 152) hexec hb dX5_readText_152 rfl hl (nle rfl) rfl (fun ls (hl : lv_has ls 3 [(1, .int r149), (0, .ref a0), (2, .int v2)]) => ?_)
                refine lv_goto (pc := 153) hexec hb dX5_readText_153 (tgt := 158) rfl ?_
                exact hj158 _ _ _ _ _ _ _ _ _ _ _ _ _ _ _ _ _ _ _ _ _ _ _ _ _ _ _ _ _ _ _ _ hf hP hD hS (lv_sub hl [1, 0, 2] rfl)
              refine lv_tableOut (pc := 69) hexec hb dX5_readText_69 (by have h0 : ¬ (t69).toInt = 1 := fun h => hc0 (Int32.toInt_inj.mp (h.trans (by decide))); have h1 : ¬ (t69).toInt = 2 := fun h => hc1 (Int32.toInt_inj.mp (h.trans (by decide))); have h2 : ¬ (t69).toInt = 3 := fun h => hc2 (Int32.toInt_inj.mp (h.trans (by decide))); have h3 : ¬ (t69).toInt = 4 := fun h => hc3 (Int32.toInt_inj.mp (h.trans (by decide))); have h4 : ¬ (t69).toInt = 5 := fun h => hc4 (Int32.toInt_inj.mp (h.trans (by decide))); have h5 : ¬ (t69).toInt = 6 := fun h => hc5 (Int32.toInt_inj.mp (h.trans (by decide))); omega) (tgt := 156) rfl ?_
              refine lv_iconst (pc := 156) hexec hb dX5_readText_156 ki_0 ?_
              refine lv_istore_n (pc := 157) hexec hb dX5_readText_157 rfl hl (nle rfl) rfl (fun ls (hl : lv_has ls 3 [(1, .int 0), (0, .ref a0), (2, .int v2)]) => ?_)
              exact hj158 _ _ _ _ _ _ _ _ _ _ _ _ _ _ _ _ _ _ _ _ _ _ _ _ _ _ _ _ _ _ _ _ hf hP hD hS (lv_sub hl [1, 0, 2] rfl)
            refine kb_eq (pc := 58) hexec hb dX5_readText_58 (tgt := 68) rfl hf (fun hc hf => ?_) (fun hc hf => ?_)
            · refine lv_iconst (pc := 68) hexec hb dX5_readText_68 ki_m1 ?_
              exact hj69 _ _ _ _ _ _ _ _ _ hf hP hD hS (lv_sub hl [1, 2] rfl)
            · refine lv_aload_n (pc := 61) hexec hb dX5_readText_61 rfl (lv_at hl 1 rfl) ?_
              obtain ⟨r62, x0_at_14, x0_wordStart_9, x0_wordLength_9, x0_error_13, x0_errorAt_13, hc, hf⟩ := bd6_e hf
              refine kVp (pc := 62) (S := ⟨hexec, hb, hml, hown, hts⟩) hP hD hG hA hS [0, 3] [1, 2, 4, 5, 6, 7, 8, 9, 10, 11, 12, 13, 14, 15, 16, 17, 18, 19] [18, 0, 1, 19, 2, 3, 4, 5, 6, 7, 8, 9, 10, 11, 12, 13, 14, 15, 16, 17] (w2 := (w_X5_readText g a0 a1 a2 a3 a4 a5 a6 a7 a8 a9 a10 a11 a12 a13 a14 a15 a16 a17 a18 a19 x0_length x0_at_14 x0_voyageTold_1 x0_wordStart_9 x0_wordLength_9 x0_numberStart_2 x0_number_2 x0_cell_1 x0_statement_3 x0_error_13 x0_errorAt_13 x2_length_1 y3_text x4_rows_1 x4_columns_1 x4_rivers_2 x5_count_2 x5_reds_2 x6_count_2 x6_next_1 x6_turn_2 x6_quarters_1 y7_letterOn_2 y8_namesOn_2 y9_costs_1 y10_sums_1 y11_way_1 y12_land_2 y13_riverOf_2 y14_riverPlace_2 y15_direction_1 y16_home_1 y17_length_1 y18_letters_1 y19_stops_1)) rfl rfl rfl rfl rfl rfl (by decide) (c_X5_takeKeyword l g a0 a3 _ (.ref a1) (.ref a2) (.int x0_voyageTold_1) (.int x0_numberStart_2) (.int x0_number_2) (.int x0_cell_1) (.int x0_statement_3) x0_length x0_at_5 x0_wordStart_2 x0_wordLength_2 x0_error_4 x0_errorAt_4 y3_text r62 x0_at_14 x0_wordStart_9 x0_wordLength_9 x0_error_13 x0_errorAt_13 hc) gX5_readText_X5_takeKeyword rfl hv_X5_takeKeyword ⟨nle rfl, nle rfl⟩ 5 0 rfl rfl rfl (rest := []) rfl rfl hl.1 (nle rfl) dX5_readText_62 (fun H locs hP hD hS => ?_)
              refine lv_goto (pc := 65) hexec hb dX5_readText_65 (tgt := 69) rfl ?_
              exact hj69 _ _ _ _ _ _ _ _ _ hf hP hD hS (lv_sub hl [1, 2] rfl)
  exact hL32 n _ _ _ _ _ _ _ _ _ _ _ _ _ _ _ _ _ _ _ _ _ _ _ _ _ _ _ _ _ _ _ _ _ _ hz hP hD hS (lv_sub hl [2, 1, 0] rfl)
