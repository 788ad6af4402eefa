abbrev w_X9_thrown (g : GE) (a0 : Nat) (u0_0 u0_1 u0_2 u0_3 u0_4 u0_5 u0_6 u0_8 u0_9 u0_10 u0_11 u0_12 u0_13 u0_14 u0_15 u0_16 u0_17 u0_18 u0_19 u0_20 u0_21 u0_22 u0_23 u0_24 u0_25 u0_26 u0_27 u0_28 u0_29 u0_30 : Value) (x0_thrown : Int32) : va_W := [(a0, .inr (9, [u0_0, u0_1, u0_2, u0_3, u0_4, u0_5, u0_6, .int x0_thrown, u0_8, u0_9, u0_10, u0_11, u0_12, u0_13, u0_14, u0_15, u0_16, u0_17, u0_18, u0_19, u0_20, u0_21, u0_22, u0_23, u0_24, u0_25, u0_26, u0_27, u0_28, u0_29, u0_30]))]
noncomputable def f_X9_thrown (x0_thrown : Int32)  : Option (Int32) :=
  some x0_thrown
set_option maxRecDepth 4000 in
theorem c_X9_thrown (l : Launch) (g : GE) (a0 : Nat) (sz : Nat) (u0_0 u0_1 u0_2 u0_3 u0_4 u0_5 u0_6 u0_8 u0_9 u0_10 u0_11 u0_12 u0_13 u0_14 u0_15 u0_16 u0_17 u0_18 u0_19 u0_20 u0_21 u0_22 u0_23 u0_24 u0_25 u0_26 u0_27 u0_28 u0_29 u0_30 : Value) (x0_thrown : Int32)  (r : Int32) (hf : f_X9_thrown x0_thrown = some r) : MI l g yX9_thrown wsX9_thrown 1 24 [.ref a0] (w_X9_thrown g a0 u0_0 u0_1 u0_2 u0_3 u0_4 u0_5 u0_6 u0_8 u0_9 u0_10 u0_11 u0_12 u0_13 u0_14 u0_15 u0_16 u0_17 u0_18 u0_19 u0_20 u0_21 u0_22 u0_23 u0_24 u0_25 u0_26 u0_27 u0_28 u0_29 u0_30 x0_thrown) sz (some (.int r)) (w_X9_thrown g a0 u0_0 u0_1 u0_2 u0_3 u0_4 u0_5 u0_6 u0_8 u0_9 u0_10 u0_11 u0_12 u0_13 u0_14 u0_15 u0_16 u0_17 u0_18 u0_19 u0_20 u0_21 u0_22 u0_23 u0_24 u0_25 u0_26 u0_27 u0_28 u0_29 u0_30 x0_thrown) := by
  refine MI.start (cc := cX9_thrown) (maxL := 1) (ret := (some .int)) rfl rfl (nle rfl) ?_
  intro p e s m args below meth c A ls Q hQ hexec hb hr hts hown hlocks hml hA hP hD hG hS hl
  unfold f_X9_thrown at hf
  have hWX9 : ∀ w ∈ wsX90, w.before args s = true := fun w h => hts w (List.mem_cons_of_mem _ (List.mem_append_right _ h))
  have hS : va_S A s.heap s.heap [] := hS
  refine lv_aload_n (pc := 0) hexec hb dX9_thrown_0 rfl (lv_at hl 0 rfl) ?_
  refine kg_get (pc := 1) hexec hb (own := RX9) hWX9 hown hG hP 0 rfl rfl 7 (nle rfl) (hts _ (List.mem_cons_of_mem _ (List.mem_append_left _ (List.mem_of_getElem? (i := 0) rfl)))) rfl rfl dX9_thrown_1 ?_
  cases hf
  exact ke_i hQ hexec hb hr hP hD hS dX9_thrown_4 hlocks
abbrev w_X9_begins (g : GE) (a0 a1 : Nat) (u0_1 u0_2 u0_3 u0_4 u0_5 u0_6 u0_7 u0_8 u0_9 u0_10 u0_11 u0_12 u0_13 u0_14 u0_15 u0_16 u0_17 u0_18 u0_19 u0_20 u0_21 u0_22 u0_23 u0_24 u0_25 u0_26 u0_27 u0_28 u0_29 u0_30 : Value) (y1_s : Nat → Int32) : va_W := [(a0, .inr (9, [.ref a1, u0_1, u0_2, u0_3, u0_4, u0_5, u0_6, u0_7, u0_8, u0_9, u0_10, u0_11, u0_12, u0_13, u0_14, u0_15, u0_16, u0_17, u0_18, u0_19, u0_20, u0_21, u0_22, u0_23, u0_24, u0_25, u0_26, u0_27, u0_28, u0_29, u0_30])), (a1, .inl (g.2.1 0, 552, .inl y1_s))]
noncomputable def f_X9_begins (y1_s : Nat → Int32) (p1 : Int32) (p2 : Int32) : Option ((Nat → Int32)) :=
  bv (fun (v3 : Int32) (y1_s_1 : Nat → Int32) => ((
    (if 552 ≤ v3 then (
      some (.inr y1_s_1)
    ) else (
      ar v3 552 <| bv (upd y1_s_1 v3.toNatClampNeg 0) fun y1_s_3 =>
      bv (v3 + 1) fun v3_1 =>
      some (.inl (v3_1, y1_s_3))
    ))
    ) : Option ((Int32 × (Nat → Int32)) ⊕ ((Nat → Int32))))) fun l2 =>
  bd1 (lq2 l2 0 y1_s) fun (y1_s_2 : Nat → Int32) =>
  ar 0 552 <| bv (upd y1_s_2 (0 : Int32).toNatClampNeg p1) fun y1_s_4 =>
  ar 1 552 <| bv (upd y1_s_4 (1 : Int32).toNatClampNeg p2) fun y1_s_5 =>
  some y1_s_5
set_option maxRecDepth 4000 in
theorem c_X9_begins (l : Launch) (g : GE) (a0 a1 : Nat) (sz : Nat) (u0_1 u0_2 u0_3 u0_4 u0_5 u0_6 u0_7 u0_8 u0_9 u0_10 u0_11 u0_12 u0_13 u0_14 u0_15 u0_16 u0_17 u0_18 u0_19 u0_20 u0_21 u0_22 u0_23 u0_24 u0_25 u0_26 u0_27 u0_28 u0_29 u0_30 : Value) (y1_s : Nat → Int32) (p1 : Int32) (p2 : Int32) (o_y1_s : Nat → Int32) (hf : f_X9_begins y1_s p1 p2 = some o_y1_s) : MI l g yX9_begins wsX9_begins 1 24 [.ref a0, .int p1, .int p2] (w_X9_begins g a0 a1 u0_1 u0_2 u0_3 u0_4 u0_5 u0_6 u0_7 u0_8 u0_9 u0_10 u0_11 u0_12 u0_13 u0_14 u0_15 u0_16 u0_17 u0_18 u0_19 u0_20 u0_21 u0_22 u0_23 u0_24 u0_25 u0_26 u0_27 u0_28 u0_29 u0_30 y1_s) sz none (w_X9_begins g a0 a1 u0_1 u0_2 u0_3 u0_4 u0_5 u0_6 u0_7 u0_8 u0_9 u0_10 u0_11 u0_12 u0_13 u0_14 u0_15 u0_16 u0_17 u0_18 u0_19 u0_20 u0_21 u0_22 u0_23 u0_24 u0_25 u0_26 u0_27 u0_28 u0_29 u0_30 o_y1_s) := by
  refine MI.start (cc := cX9_begins) (maxL := 4) (ret := none) rfl rfl (nle rfl) ?_
  intro p e s m args below meth c A ls Q hQ hexec hb hr hts hown hlocks hml hA hP hD hG hS hl
  unfold f_X9_begins at hf
  have hWX9 : ∀ w ∈ wsX90, w.before args s = true := fun w h => hts w (List.mem_cons_of_mem _ (List.mem_append_right _ h))
  have hS : va_S A s.heap s.heap [] := hS
  refine lv_iconst (pc := 0) hexec hb dX9_begins_0 ki_0 ?_
  refine lv_istore_n (pc := 1) hexec hb dX9_begins_1 rfl hl (nle rfl) rfl (fun ls (hl : lv_has ls 4 [(3, .int 0), (0, .ref a0), (1, .int p1), (2, .int p2)]) => ?_)
  obtain ⟨l2, el2, hf⟩ := bvf2 hf
  obtain ⟨y1_s_2, hz, hf⟩ := bd1_e hf
  have hE2 : ∀ (H : Heap) (locs : List Loc) (ls : Array Slot), va_P g.1 vwCl (w_X9_begins g a0 a1 u0_1 u0_2 u0_3 u0_4 u0_5 u0_6 u0_7 u0_8 u0_9 u0_10 u0_11 u0_12 u0_13 u0_14 u0_15 u0_16 u0_17 u0_18 u0_19 u0_20 u0_21 u0_22 u0_23 u0_24 u0_25 u0_26 u0_27 u0_28 u0_29 u0_30 y1_s_2) H → va_D A (w_X9_begins g a0 a1 u0_1 u0_2 u0_3 u0_4 u0_5 u0_6 u0_7 u0_8 u0_9 u0_10 u0_11 u0_12 u0_13 u0_14 u0_15 u0_16 u0_17 u0_18 u0_19 u0_20 u0_21 u0_22 u0_23 u0_24 u0_25 u0_26 u0_27 u0_28 u0_29 u0_30 y1_s_2) → va_S A s.heap H locs → lv_has ls 4 [(0, .ref a0), (1, .int p1), (2, .int p2)] → W p l e (RM 1 24) s m args below meth c H locs 0 0 Q (F0 m 22 ls []) := by
    intro H locs ls hP hD hS hl
    refine lv_aload_n (pc := 22) hexec hb dX9_begins_22 rfl (lv_at hl 0 rfl) ?_
    refine kg_get (pc := 23) hexec hb (own := RX9) hWX9 hown hG hP 0 rfl rfl 0 (nle rfl) (hts _ (List.mem_cons_of_mem _ (List.mem_append_left _ (List.mem_of_getElem? (i := 0) rfl)))) rfl rfl dX9_begins_23 ?_
    refine lv_iconst (pc := 26) hexec hb dX9_begins_26 ki_0 ?_
    refine lv_iload_n (pc := 27) hexec hb dX9_begins_27 rfl (lv_at hl 1 rfl) ?_
    refine kw_iast (pc := 28) hexec hb hG hP hD hS 1 rfl hf dX9_begins_28 (fun y1_s_4 H locs hf (hP : va_P g.1 vwCl (w_X9_begins g a0 a1 u0_1 u0_2 u0_3 u0_4 u0_5 u0_6 u0_7 u0_8 u0_9 u0_10 u0_11 u0_12 u0_13 u0_14 u0_15 u0_16 u0_17 u0_18 u0_19 u0_20 u0_21 u0_22 u0_23 u0_24 u0_25 u0_26 u0_27 u0_28 u0_29 u0_30 y1_s_4) H) (hD : va_D A (w_X9_begins g a0 a1 u0_1 u0_2 u0_3 u0_4 u0_5 u0_6 u0_7 u0_8 u0_9 u0_10 u0_11 u0_12 u0_13 u0_14 u0_15 u0_16 u0_17 u0_18 u0_19 u0_20 u0_21 u0_22 u0_23 u0_24 u0_25 u0_26 u0_27 u0_28 u0_29 u0_30 y1_s_4)) hS => ?_)
    refine lv_aload_n (pc := 29) hexec hb dX9_begins_29 rfl (lv_at hl 0 rfl) ?_
    refine kg_get (pc := 30) hexec hb (own := RX9) hWX9 hown hG hP 0 rfl rfl 0 (nle rfl) (hts _ (List.mem_cons_of_mem _ (List.mem_append_left _ (List.mem_of_getElem? (i := 0) rfl)))) rfl rfl dX9_begins_30 ?_
    refine lv_iconst (pc := 33) hexec hb dX9_begins_33 ki_1 ?_
    refine lv_iload_n (pc := 34) hexec hb dX9_begins_34 rfl (lv_at hl 2 rfl) ?_
    refine kw_iast (pc := 35) hexec hb hG hP hD hS 1 rfl hf dX9_begins_35 (fun y1_s_5 H locs hf (hP : va_P g.1 vwCl (w_X9_begins g a0 a1 u0_1 u0_2 u0_3 u0_4 u0_5 u0_6 u0_7 u0_8 u0_9 u0_10 u0_11 u0_12 u0_13 u0_14 u0_15 u0_16 u0_17 u0_18 u0_19 u0_20 u0_21 u0_22 u0_23 u0_24 u0_25 u0_26 u0_27 u0_28 u0_29 u0_30 y1_s_5) H) (hD : va_D A (w_X9_begins g a0 a1 u0_1 u0_2 u0_3 u0_4 u0_5 u0_6 u0_7 u0_8 u0_9 u0_10 u0_11 u0_12 u0_13 u0_14 u0_15 u0_16 u0_17 u0_18 u0_19 u0_20 u0_21 u0_22 u0_23 u0_24 u0_25 u0_26 u0_27 u0_28 u0_29 u0_30 y1_s_5)) hS => ?_)
    cases hf
    exact ke_v hQ hexec hb hr hP hD hS dX9_begins_36 hlocks
  obtain ⟨n, hz⟩ := lq2_e hz
  have hL2 : ∀ (n : Nat) (v3 : Int32) (y1_s_1 : Nat → Int32) (H : Heap) (locs : List Loc) (ls : Array Slot), it2 l2 n v3 y1_s_1 = some y1_s_2 → va_P g.1 vwCl (w_X9_begins g a0 a1 u0_1 u0_2 u0_3 u0_4 u0_5 u0_6 u0_7 u0_8 u0_9 u0_10 u0_11 u0_12 u0_13 u0_14 u0_15 u0_16 u0_17 u0_18 u0_19 u0_20 u0_21 u0_22 u0_23 u0_24 u0_25 u0_26 u0_27 u0_28 u0_29 u0_30 y1_s_1) H → va_D A (w_X9_begins g a0 a1 u0_1 u0_2 u0_3 u0_4 u0_5 u0_6 u0_7 u0_8 u0_9 u0_10 u0_11 u0_12 u0_13 u0_14 u0_15 u0_16 u0_17 u0_18 u0_19 u0_20 u0_21 u0_22 u0_23 u0_24 u0_25 u0_26 u0_27 u0_28 u0_29 u0_30 y1_s_1) → va_S A s.heap H locs → lv_has ls 4 [(0, .ref a0), (1, .int p1), (2, .int p2), (3, .int v3)] → W p l e (RM 1 24) s m args below meth c H locs 0 0 Q (F0 m 2 ls []) := by
    intro n
    induction n with
    | zero =>
      intro v3 y1_s_1 H locs ls hf hP hD hS hl
      exact it2_0 hf
    | succ n2 ih2 =>
      intro v3 y1_s_1 H locs ls hf hP hD hS hl
      obtain ⟨q2, hf, hk2⟩ := it2_e hf
      have hf := (el2 v3 y1_s_1).symm.trans hf
      refine lv_iload_n (pc := 2) hexec hb dX9_begins_2 rfl (lv_at hl 3 rfl) ?_
      refine lv_sipush (pc := 3) hexec hb dX9_begins_3 ks_552 ?_
      refine ki_ge (pc := 6) hexec hb dX9_begins_6 (tgt := 22) rfl hf (fun hc hf => ?_) (fun hc hf => ?_)
      · cases sr2 hf hk2
        exact hE2 _ _ _ hP hD hS (lv_sub hl [0, 1, 2] rfl)
      · refine lv_aload_n (pc := 9) hexec hb dX9_begins_9 rfl (lv_at hl 0 rfl) ?_
        refine kg_get (pc := 10) hexec hb (own := RX9) hWX9 hown hG hP 0 rfl rfl 0 (nle rfl) (hts _ (List.mem_cons_of_mem _ (List.mem_append_left _ (List.mem_of_getElem? (i := 0) rfl)))) rfl rfl dX9_begins_10 ?_
        refine lv_iload_n (pc := 13) hexec hb dX9_begins_13 rfl (lv_at hl 3 rfl) ?_
        refine lv_iconst (pc := 14) hexec hb dX9_begins_14 ki_0 ?_
        refine kw_iast (pc := 15) hexec hb hG hP hD hS 1 rfl hf dX9_begins_15 (fun y1_s_3 H locs hf (hP : va_P g.1 vwCl (w_X9_begins g a0 a1 u0_1 u0_2 u0_3 u0_4 u0_5 u0_6 u0_7 u0_8 u0_9 u0_10 u0_11 u0_12 u0_13 u0_14 u0_15 u0_16 u0_17 u0_18 u0_19 u0_20 u0_21 u0_22 u0_23 u0_24 u0_25 u0_26 u0_27 u0_28 u0_29 u0_30 y1_s_3) H) (hD : va_D A (w_X9_begins g a0 a1 u0_1 u0_2 u0_3 u0_4 u0_5 u0_6 u0_7 u0_8 u0_9 u0_10 u0_11 u0_12 u0_13 u0_14 u0_15 u0_16 u0_17 u0_18 u0_19 u0_20 u0_21 u0_22 u0_23 u0_24 u0_25 u0_26 u0_27 u0_28 u0_29 u0_30 y1_s_3)) hS => ?_)
        obtain ⟨v3_1, ev3_1, hf⟩ := bv_e hf
        refine k_iinc (pc := 16) hexec hb dX9_begins_16 kq_1 hl (k := 3) rfl ev3_1 (nle rfl) rfl (fun ls (hl : lv_has ls 4 [(3, .int v3_1), (0, .ref a0), (1, .int p1), (2, .int p2)]) => ?_)
        refine lv_goto (pc := 19) hexec hb dX9_begins_19 (tgt := 2) rfl ?_
        exact ih2 _ _ _ _ _ (sl2 hf hk2) hP hD hS (lv_sub hl [1, 2, 3, 0] rfl)
  exact hL2 n _ _ _ _ _ hz hP hD hS (lv_sub hl [1, 2, 3, 0] rfl)
abbrev w_X9_isIn (g : GE) : va_W := []
noncomputable def f_X9_isIn  (p0 : Int64) (p2 : Int64) (p4 : Int64) : Option (Int32) :=
  bv (fun (_ : Unit) => ((
    some 0
    ) : Option (Int32))) fun j17 =>
  (if (lg_cmp p0 p2) < 0 then (
    j17 ()
  ) else (
    (if 0 < (lg_cmp p0 p4) then (
      j17 ()
    ) else (
      some 1
    ))
  ))
set_option maxRecDepth 4000 in
theorem c_X9_isIn (l : Launch) (g : GE) (sz : Nat)  (p0 : Int64) (p2 : Int64) (p4 : Int64) (r : Int32) (hf : f_X9_isIn p0 p2 p4 = some r) : MI l g yX9_isIn wsX9_isIn 1 24 [.long p0, .long p2, .long p4] (w_X9_isIn g ) sz (some (.int r)) (w_X9_isIn g ) := by
  refine MI.start (cc := cX9_isIn) (maxL := 6) (ret := (some .boolean)) rfl rfl (nle rfl) ?_
  intro p e s m args below meth c A ls Q hQ hexec hb hr hts hown hlocks hml hA hP hD hG hS hl
  unfold f_X9_isIn at hf
  have hS : va_S A s.heap s.heap [] := hS
  refine lv_lload_n (pc := 0) hexec hb dX9_isIn_0 rfl (lv_at hl 0 rfl) ?_
  refine lv_lload_n (pc := 1) hexec hb dX9_isIn_1 rfl (lv_at hl 1 rfl) ?_
  refine kc_lcmp (pc := 2) hexec hb dX9_isIn_2 ?_
  obtain ⟨j17, ej17, hf⟩ := bvf1 hf
  have hj17 : ∀ (u : Unit) (H : Heap) (locs : List Loc) (ls : Array Slot), j17 u = some r → va_P g.1 vwCl (w_X9_isIn g ) H → va_D A (w_X9_isIn g ) → va_S A s.heap H locs → lv_has ls 6 [] → W p l e (RM 1 24) s m args below meth c H locs 0 0 Q (F0 m 17 ls []) := by
    intro u H locs ls hf hP hD hS hl
    have hf := (ej17 u).symm.trans hf
    refine lv_iconst (pc := 17) hexec hb dX9_isIn_17 ki_0 ?_
    cases hf
    exact ke_z hQ hexec hb hr (.inl rfl) hP hD hS dX9_isIn_18 hlocks
  refine kb_lt (pc := 3) hexec hb dX9_isIn_3 (tgt := 17) rfl hf (fun hc hf => ?_) (fun hc hf => ?_)
  · exact hj17 _ _ _ _ hf hP hD hS (lv_sub hl [] rfl)
  · refine lv_lload_n (pc := 6) hexec hb dX9_isIn_6 rfl (lv_at hl 0 rfl) ?_
    refine lv_lload (pc := 7) hexec hb dX9_isIn_7 (lv_at hl 2 rfl) ?_
    refine kc_lcmp (pc := 9) hexec hb dX9_isIn_9 ?_
    refine kb_gt (pc := 10) hexec hb dX9_isIn_10 (tgt := 17) rfl hf (fun hc hf => ?_) (fun hc hf => ?_)
    · exact hj17 _ _ _ _ hf hP hD hS (lv_sub hl [] rfl)
    · refine lv_iconst (pc := 13) hexec hb dX9_isIn_13 ki_1 ?_
      refine lv_goto (pc := 14) hexec hb dX9_isIn_14 (tgt := 18) rfl ?_
      cases hf
      exact ke_z hQ hexec hb hr (.inr rfl) hP hD hS dX9_isIn_18 hlocks
abbrev w_X9_passes (g : GE) (a0 : Nat) (u0_0 u0_1 u0_2 u0_3 u0_4 u0_5 u0_6 u0_8 u0_9 u0_10 u0_11 u0_12 u0_13 u0_14 u0_15 u0_16 u0_17 u0_18 u0_19 u0_20 u0_21 u0_22 u0_23 u0_24 u0_25 u0_26 u0_27 u0_28 u0_29 u0_30 : Value) (x0_thrown : Int32) : va_W := [(a0, .inr (9, [u0_0, u0_1, u0_2, u0_3, u0_4, u0_5, u0_6, .int x0_thrown, u0_8, u0_9, u0_10, u0_11, u0_12, u0_13, u0_14, u0_15, u0_16, u0_17, u0_18, u0_19, u0_20, u0_21, u0_22, u0_23, u0_24, u0_25, u0_26, u0_27, u0_28, u0_29, u0_30]))]
noncomputable def f_X9_passes (x0_thrown : Int32) (p1 : Int32) (p2 : Int32) : Option (Int32 × Int32) :=
  bv (fun (t18 : Int32) => ((
    (if t18 = 0 then (
      some (1, t18)
    ) else (
      some (0, t18)
    ))
    ) : Option (Int32 × Int32))) fun j18 =>
  (if p1 = 0 then (
    j18 1
  ) else (
    (if p2 = 0 then (
      j18 2
    ) else (
      j18 0
    ))
  ))
set_option maxRecDepth 4000 in
theorem c_X9_passes (l : Launch) (g : GE) (a0 : Nat) (sz : Nat) (u0_0 u0_1 u0_2 u0_3 u0_4 u0_5 u0_6 u0_8 u0_9 u0_10 u0_11 u0_12 u0_13 u0_14 u0_15 u0_16 u0_17 u0_18 u0_19 u0_20 u0_21 u0_22 u0_23 u0_24 u0_25 u0_26 u0_27 u0_28 u0_29 u0_30 : Value) (x0_thrown : Int32) (p1 : Int32) (p2 : Int32) (r : Int32) (o_x0_thrown : Int32) (hf : f_X9_passes x0_thrown p1 p2 = some (r, o_x0_thrown)) : MI l g yX9_passes wsX9_passes 1 24 [.ref a0, .int p1, .int p2] (w_X9_passes g a0 u0_0 u0_1 u0_2 u0_3 u0_4 u0_5 u0_6 u0_8 u0_9 u0_10 u0_11 u0_12 u0_13 u0_14 u0_15 u0_16 u0_17 u0_18 u0_19 u0_20 u0_21 u0_22 u0_23 u0_24 u0_25 u0_26 u0_27 u0_28 u0_29 u0_30 x0_thrown) sz (some (.int r)) (w_X9_passes g a0 u0_0 u0_1 u0_2 u0_3 u0_4 u0_5 u0_6 u0_8 u0_9 u0_10 u0_11 u0_12 u0_13 u0_14 u0_15 u0_16 u0_17 u0_18 u0_19 u0_20 u0_21 u0_22 u0_23 u0_24 u0_25 u0_26 u0_27 u0_28 u0_29 u0_30 o_x0_thrown) := by
  refine MI.start (cc := cX9_passes) (maxL := 3) (ret := (some .boolean)) rfl rfl (nle rfl) ?_
  intro p e s m args below meth c A ls Q hQ hexec hb hr hts hown hlocks hml hA hP hD hG hS hl
  unfold f_X9_passes at hf
  have hWX9 : ∀ w ∈ wsX90, w.before args s = true := fun w h => hts w (List.mem_cons_of_mem _ (List.mem_append_right _ h))
  have hS : va_S A s.heap s.heap [] := hS
  refine lv_aload_n (pc := 0) hexec hb dX9_passes_0 rfl (lv_at hl 0 rfl) ?_
  refine lv_iload_n (pc := 1) hexec hb dX9_passes_1 rfl (lv_at hl 1 rfl) ?_
  obtain ⟨j18, ej18, hf⟩ := bvf1 hf
  have hj18 : ∀ (t18 : Int32) (H : Heap) (locs : List Loc) (ls : Array Slot), j18 t18 = some (r, o_x0_thrown) → va_P g.1 vwCl (w_X9_passes g a0 u0_0 u0_1 u0_2 u0_3 u0_4 u0_5 u0_6 u0_8 u0_9 u0_10 u0_11 u0_12 u0_13 u0_14 u0_15 u0_16 u0_17 u0_18 u0_19 u0_20 u0_21 u0_22 u0_23 u0_24 u0_25 u0_26 u0_27 u0_28 u0_29 u0_30 x0_thrown) H → va_D A (w_X9_passes g a0 u0_0 u0_1 u0_2 u0_3 u0_4 u0_5 u0_6 u0_8 u0_9 u0_10 u0_11 u0_12 u0_13 u0_14 u0_15 u0_16 u0_17 u0_18 u0_19 u0_20 u0_21 u0_22 u0_23 u0_24 u0_25 u0_26 u0_27 u0_28 u0_29 u0_30 x0_thrown) → va_S A s.heap H locs → lv_has ls 3 [(0, .ref a0)] → W p l e (RM 1 24) s m args below meth c H locs 0 0 Q (F0 m 18 ls [.int t18, .ref a0]) := by
    intro t18 H locs ls hf hP hD hS hl
    have hf := (ej18 t18).symm.trans hf
    refine kp_put (pc := 18) hexec hb (own := RX9) hWX9 tyX9 tyX9_ok nmX9 hown hG hP hD hS 0 rfl rfl 7 (nle rfl) (hts _ (List.mem_cons_of_mem _ (List.mem_append_left _ (List.mem_of_getElem? (i := 0) rfl)))) rfl rfl rfl rfl (nle rfl) dX9_passes_18 (fun H locs (hP : va_P g.1 vwCl (w_X9_passes g a0 u0_0 u0_1 u0_2 u0_3 u0_4 u0_5 u0_6 u0_8 u0_9 u0_10 u0_11 u0_12 u0_13 u0_14 u0_15 u0_16 u0_17 u0_18 u0_19 u0_20 u0_21 u0_22 u0_23 u0_24 u0_25 u0_26 u0_27 u0_28 u0_29 u0_30 t18) H) (hD : va_D A (w_X9_passes g a0 u0_0 u0_1 u0_2 u0_3 u0_4 u0_5 u0_6 u0_8 u0_9 u0_10 u0_11 u0_12 u0_13 u0_14 u0_15 u0_16 u0_17 u0_18 u0_19 u0_20 u0_21 u0_22 u0_23 u0_24 u0_25 u0_26 u0_27 u0_28 u0_29 u0_30 t18)) hS => ?_)
    refine lv_aload_n (pc := 21) hexec hb dX9_passes_21 rfl (lv_at hl 0 rfl) ?_
    refine kg_get (pc := 22) hexec hb (own := RX9) hWX9 hown hG hP 0 rfl rfl 7 (nle rfl) (hts _ (List.mem_cons_of_mem _ (List.mem_append_left _ (List.mem_of_getElem? (i := 0) rfl)))) rfl rfl dX9_passes_22 ?_
    refine kb_ne (pc := 25) hexec hb dX9_passes_25 (tgt := 32) rfl hf (fun hc hf => ?_) (fun hc hf => ?_)
    · refine lv_iconst (pc := 32) hexec hb dX9_passes_32 ki_0 ?_
      cases hf
      exact ke_z hQ hexec hb hr (.inl rfl) hP hD hS dX9_passes_33 hlocks
    · refine lv_iconst (pc := 28) hexec hb dX9_passes_28 ki_1 ?_
      refine lv_goto (pc := 29) hexec hb dX9_passes_29 (tgt := 33) rfl ?_
      cases hf
      exact ke_z hQ hexec hb hr (.inr rfl) hP hD hS dX9_passes_33 hlocks
  refine kb_ne (pc := 2) hexec hb dX9_passes_2 (tgt := 9) rfl hf (fun hc hf => ?_) (fun hc hf => ?_)
  · refine lv_iload_n (pc := 9) hexec hb dX9_passes_9 rfl (lv_at hl 2 rfl) ?_
    refine kb_ne (pc := 10) hexec hb dX9_passes_10 (tgt := 17) rfl hf (fun hc hf => ?_) (fun hc hf => ?_)
    · refine lv_iconst (pc := 17) hexec hb dX9_passes_17 ki_0 ?_
      exact hj18 _ _ _ _ hf hP hD hS (lv_sub hl [0] rfl)
    · refine lv_iconst (pc := 13) hexec hb dX9_passes_13 ki_2 ?_
      refine lv_goto (pc := 14) hexec hb dX9_passes_14 (tgt := 18) rfl ?_
      exact hj18 _ _ _ _ hf hP hD hS (lv_sub hl [0] rfl)
  · refine lv_iconst (pc := 5) hexec hb dX9_passes_5 ki_1 ?_
    refine lv_goto (pc := 6) hexec hb dX9_passes_6 (tgt := 18) rfl ?_
    exact hj18 _ _ _ _ hf hP hD hS (lv_sub hl [0] rfl)
abbrev w_X9_ones (g : GE) : va_W := []
noncomputable def f_X9_ones  (p0 : Int32) : Option (Int32) :=
  bv (fun (v1 : Int32) (v2 : Int32) => ((
    (if 8 ≤ v2 then (
      some (.inr v1)
    ) else (
      bv (v1 + ((p0 >>> (v2 &&& 31)) &&& 1)) fun v1_2 =>
      bv (v2 + 1) fun v2_1 =>
      some (.inl (v1_2, v2_1))
    ))
    ) : Option ((Int32 × Int32) ⊕ (Int32)))) fun l4 =>
  bd1 (lq2 l4 0 0) fun (v1_1 : Int32) =>
  some v1_1
set_option maxRecDepth 4000 in
theorem c_X9_ones (l : Launch) (g : GE) (sz : Nat)  (p0 : Int32) (r : Int32) (hf : f_X9_ones p0 = some r) : MI l g yX9_ones wsX9_ones 1 24 [.int p0] (w_X9_ones g ) sz (some (.int r)) (w_X9_ones g ) := by
  refine MI.start (cc := cX9_ones) (maxL := 3) (ret := (some .int)) rfl rfl (nle rfl) ?_
  intro p e s m args below meth c A ls Q hQ hexec hb hr hts hown hlocks hml hA hP hD hG hS hl
  unfold f_X9_ones at hf
  have hS : va_S A s.heap s.heap [] := hS
  refine lv_iconst (pc := 0) hexec hb dX9_ones_0 ki_0 ?_
  refine lv_istore_n (pc := 1) hexec hb dX9_ones_1 rfl hl (nle rfl) rfl (fun ls (hl : lv_has ls 3 [(1, .int 0), (0, .int p0)]) => ?_)
  refine lv_iconst (pc := 2) hexec hb dX9_ones_2 ki_0 ?_
  refine lv_istore_n (pc := 3) hexec hb dX9_ones_3 rfl hl (nle rfl) rfl (fun ls (hl : lv_has ls 3 [(2, .int 0), (1, .int 0), (0, .int p0)]) => ?_)
  obtain ⟨l4, el4, hf⟩ := bvf2 hf
  obtain ⟨v1_1, hz, hf⟩ := bd1_e hf
  have hE4 : ∀ (H : Heap) (locs : List Loc) (ls : Array Slot), va_P g.1 vwCl (w_X9_ones g ) H → va_D A (w_X9_ones g ) → va_S A s.heap H locs → lv_has ls 3 [(1, .int v1_1)] → W p l e (RM 1 24) s m args below meth c H locs 0 0 Q (F0 m 24 ls []) := by
    intro H locs ls hP hD hS hl
    refine lv_iload_n (pc := 24) hexec hb dX9_ones_24 rfl (lv_at hl 0 rfl) ?_
    cases hf
    exact ke_i hQ hexec hb hr hP hD hS dX9_ones_25 hlocks
  obtain ⟨n, hz⟩ := lq2_e hz
  have hL4 : ∀ (n : Nat) (v1 : Int32) (v2 : Int32) (H : Heap) (locs : List Loc) (ls : Array Slot), it2 l4 n v1 v2 = some v1_1 → va_P g.1 vwCl (w_X9_ones g ) H → va_D A (w_X9_ones g ) → va_S A s.heap H locs → lv_has ls 3 [(0, .int p0), (1, .int v1), (2, .int v2)] → W p l e (RM 1 24) s m args below meth c H locs 0 0 Q (F0 m 4 ls []) := by
    intro n
    induction n with
    | zero =>
      intro v1 v2 H locs ls hf hP hD hS hl
      exact it2_0 hf
    | succ n4 ih4 =>
      intro v1 v2 H locs ls hf hP hD hS hl
      obtain ⟨q4, hf, hk4⟩ := it2_e hf
      have hf := (el4 v1 v2).symm.trans hf
      refine lv_iload_n (pc := 4) hexec hb dX9_ones_4 rfl (lv_at hl 2 rfl) ?_
      refine lv_bipush (pc := 5) hexec hb dX9_ones_5 kb_8 ?_
      refine ki_ge (pc := 7) hexec hb dX9_ones_7 (tgt := 24) rfl hf (fun hc hf => ?_) (fun hc hf => ?_)
      · cases sr2 hf hk4
        exact hE4 _ _ _ hP hD hS (lv_sub hl [1] rfl)
      · refine lv_iload_n (pc := 10) hexec hb dX9_ones_10 rfl (lv_at hl 1 rfl) ?_
        refine lv_iload_n (pc := 11) hexec hb dX9_ones_11 rfl (lv_at hl 0 rfl) ?_
        refine lv_iload_n (pc := 12) hexec hb dX9_ones_12 rfl (lv_at hl 2 rfl) ?_
        refine lv_ishr (pc := 13) hexec hb dX9_ones_13 ?_
        refine lv_iconst (pc := 14) hexec hb dX9_ones_14 ki_1 ?_
        refine lv_iand (pc := 15) hexec hb dX9_ones_15 ?_
        refine lv_iadd (pc := 16) hexec hb dX9_ones_16 ?_
        obtain ⟨v1_2, ev1_2, hf⟩ := bv_e hf
        refine kn_i ev1_2 ?_
        refine lv_istore_n (pc := 17) hexec hb dX9_ones_17 rfl hl (nle rfl) rfl (fun ls (hl : lv_has ls 3 [(1, .int v1_2), (0, .int p0), (2, .int v2)]) => ?_)
        obtain ⟨v2_1, ev2_1, hf⟩ := bv_e hf
        refine k_iinc (pc := 18) hexec hb dX9_ones_18 kq_1 hl (k := 2) rfl ev2_1 (nle rfl) rfl (fun ls (hl : lv_has ls 3 [(2, .int v2_1), (1, .int v1_2), (0, .int p0)]) => ?_)
        refine lv_goto (pc := 21) hexec hb dX9_ones_21 (tgt := 4) rfl ?_
        exact ih4 _ _ _ _ _ (sl2 hf hk4) hP hD hS (lv_sub hl [2, 1, 0] rfl)
  exact hL4 n _ _ _ _ _ hz hP hD hS (lv_sub hl [2, 1, 0] rfl)
abbrev w_X9_cells (g : GE) (a0 a1 : Nat) (u0_1 u0_2 u0_3 u0_4 u0_5 u0_6 u0_7 u0_8 u0_9 u0_10 u0_11 u0_12 u0_13 u0_14 u0_15 u0_16 u0_17 u0_18 u0_19 u0_20 u0_21 u0_22 u0_23 u0_24 u0_25 u0_26 u0_27 u0_28 u0_29 u0_30 : Value) (y1_s : Nat → Int32) : va_W := [(a0, .inr (9, [.ref a1, u0_1, u0_2, u0_3, u0_4, u0_5, u0_6, u0_7, u0_8, u0_9, u0_10, u0_11, u0_12, u0_13, u0_14, u0_15, u0_16, u0_17, u0_18, u0_19, u0_20, u0_21, u0_22, u0_23, u0_24, u0_25, u0_26, u0_27, u0_28, u0_29, u0_30])), (a1, .inl (g.2.1 0, 552, .inl y1_s))]
noncomputable def f_X9_cells (y1_s : Nat → Int32)  : Option (Int32) :=
  ar 0 552 <|
  ar 1 552 <|
  some ((y1_s (0 : Int32).toNatClampNeg) * (y1_s (1 : Int32).toNatClampNeg))
set_option maxRecDepth 4000 in
theorem c_X9_cells (l : Launch) (g : GE) (a0 a1 : Nat) (sz : Nat) (u0_1 u0_2 u0_3 u0_4 u0_5 u0_6 u0_7 u0_8 u0_9 u0_10 u0_11 u0_12 u0_13 u0_14 u0_15 u0_16 u0_17 u0_18 u0_19 u0_20 u0_21 u0_22 u0_23 u0_24 u0_25 u0_26 u0_27 u0_28 u0_29 u0_30 : Value) (y1_s : Nat → Int32)  (r : Int32) (hf : f_X9_cells y1_s = some r) : MI l g yX9_cells wsX9_cells 1 24 [.ref a0] (w_X9_cells g a0 a1 u0_1 u0_2 u0_3 u0_4 u0_5 u0_6 u0_7 u0_8 u0_9 u0_10 u0_11 u0_12 u0_13 u0_14 u0_15 u0_16 u0_17 u0_18 u0_19 u0_20 u0_21 u0_22 u0_23 u0_24 u0_25 u0_26 u0_27 u0_28 u0_29 u0_30 y1_s) sz (some (.int r)) (w_X9_cells g a0 a1 u0_1 u0_2 u0_3 u0_4 u0_5 u0_6 u0_7 u0_8 u0_9 u0_10 u0_11 u0_12 u0_13 u0_14 u0_15 u0_16 u0_17 u0_18 u0_19 u0_20 u0_21 u0_22 u0_23 u0_24 u0_25 u0_26 u0_27 u0_28 u0_29 u0_30 y1_s) := by
  refine MI.start (cc := cX9_cells) (maxL := 1) (ret := (some .int)) rfl rfl (nle rfl) ?_
  intro p e s m args below meth c A ls Q hQ hexec hb hr hts hown hlocks hml hA hP hD hG hS hl
  unfold f_X9_cells at hf
  have hWX9 : ∀ w ∈ wsX90, w.before args s = true := fun w h => hts w (List.mem_cons_of_mem _ (List.mem_append_right _ h))
  have hS : va_S A s.heap s.heap [] := hS
  refine lv_aload_n (pc := 0) hexec hb dX9_cells_0 rfl (lv_at hl 0 rfl) ?_
  refine kg_get (pc := 1) hexec hb (own := RX9) hWX9 hown hG hP 0 rfl rfl 0 (nle rfl) (hts _ (List.mem_cons_of_mem _ (List.mem_append_left _ (List.mem_of_getElem? (i := 0) rfl)))) rfl rfl dX9_cells_1 ?_
  refine lv_iconst (pc := 4) hexec hb dX9_cells_4 ki_0 ?_
  refine kr_iald (pc := 5) hexec hb hG hP 1 rfl hf dX9_cells_5 (fun hf => ?_)
  refine lv_aload_n (pc := 6) hexec hb dX9_cells_6 rfl (lv_at hl 0 rfl) ?_
  refine kg_get (pc := 7) hexec hb (own := RX9) hWX9 hown hG hP 0 rfl rfl 0 (nle rfl) (hts _ (List.mem_cons_of_mem _ (List.mem_append_left _ (List.mem_of_getElem? (i := 0) rfl)))) rfl rfl dX9_cells_7 ?_
  refine lv_iconst (pc := 10) hexec hb dX9_cells_10 ki_1 ?_
  refine kr_iald (pc := 11) hexec hb hG hP 1 rfl hf dX9_cells_11 (fun hf => ?_)
  refine lv_imul (pc := 12) hexec hb dX9_cells_12 ?_
  cases hf
  exact ke_i hQ hexec hb hr hP hD hS dX9_cells_13 hlocks
abbrev w_X9_isCell (g : GE) (a0 a1 : Nat) (u0_1 u0_2 u0_3 u0_4 u0_5 u0_6 u0_7 u0_8 u0_9 u0_10 u0_11 u0_12 u0_13 u0_14 u0_15 u0_16 u0_17 u0_18 u0_19 u0_20 u0_21 u0_22 u0_23 u0_24 u0_25 u0_26 u0_27 u0_28 u0_29 u0_30 : Value) (y1_s : Nat → Int32) : va_W := [(a0, .inr (9, [.ref a1, u0_1, u0_2, u0_3, u0_4, u0_5, u0_6, u0_7, u0_8, u0_9, u0_10, u0_11, u0_12, u0_13, u0_14, u0_15, u0_16, u0_17, u0_18, u0_19, u0_20, u0_21, u0_22, u0_23, u0_24, u0_25, u0_26, u0_27, u0_28, u0_29, u0_30])), (a1, .inl (g.2.1 0, 552, .inl y1_s))]
noncomputable def f_X9_isCell (y1_s : Nat → Int32) (p1 : Int32) : Option (Int32) :=
  bd1 (f_X9_cells y1_s) fun (r4 : Int32) =>
  bd1 (f_X9_isIn (p1.toInt64) 0 (((r4 - 1)).toInt64)) fun (r10 : Int32) =>
  zb r10 (some r10)
set_option maxRecDepth 4000 in
theorem c_X9_isCell (l : Launch) (g : GE) (a0 a1 : Nat) (sz : Nat) (u0_1 u0_2 u0_3 u0_4 u0_5 u0_6 u0_7 u0_8 u0_9 u0_10 u0_11 u0_12 u0_13 u0_14 u0_15 u0_16 u0_17 u0_18 u0_19 u0_20 u0_21 u0_22 u0_23 u0_24 u0_25 u0_26 u0_27 u0_28 u0_29 u0_30 : Value) (y1_s : Nat → Int32) (p1 : Int32) (r : Int32) (hf : f_X9_isCell y1_s p1 = some r) : MI l g yX9_isCell wsX9_isCell 2 49 [.ref a0, .int p1] (w_X9_isCell g a0 a1 u0_1 u0_2 u0_3 u0_4 u0_5 u0_6 u0_7 u0_8 u0_9 u0_10 u0_11 u0_12 u0_13 u0_14 u0_15 u0_16 u0_17 u0_18 u0_19 u0_20 u0_21 u0_22 u0_23 u0_24 u0_25 u0_26 u0_27 u0_28 u0_29 u0_30 y1_s) sz (some (.int r)) (w_X9_isCell g a0 a1 u0_1 u0_2 u0_3 u0_4 u0_5 u0_6 u0_7 u0_8 u0_9 u0_10 u0_11 u0_12 u0_13 u0_14 u0_15 u0_16 u0_17 u0_18 u0_19 u0_20 u0_21 u0_22 u0_23 u0_24 u0_25 u0_26 u0_27 u0_28 u0_29 u0_30 y1_s) := by
  refine MI.start (cc := cX9_isCell) (maxL := 2) (ret := (some .boolean)) rfl rfl (nle rfl) ?_
  intro p e s m args below meth c A ls Q hQ hexec hb hr hts hown hlocks hml hA hP hD hG hS hl
  unfold f_X9_isCell at hf
  have hWX9 : ∀ w ∈ wsX90, w.before args s = true := fun w h => hts w (List.mem_cons_of_mem _ (List.mem_append_right _ h))
  have hS : va_S A s.heap s.heap [] := hS
  refine lv_iload_n (pc := 0) hexec hb dX9_isCell_0 rfl (lv_at hl 1 rfl) ?_
  refine lv_i2l (pc := 1) hexec hb dX9_isCell_1 rfl ?_
  refine lv_lconst (pc := 2) hexec hb dX9_isCell_2 kl_0 ?_
  refine lv_aload_n (pc := 3) hexec hb dX9_isCell_3 rfl (lv_at hl 0 rfl) ?_
  obtain ⟨r4, hc, hf⟩ := bd1_e hf
  refine kVp (pc := 4) (S := ⟨hexec, hb, hml, hown, hts⟩) hP hD hG hA hS [0, 1] [] [0, 1] (w2 := (w_X9_isCell g a0 a1 u0_1 u0_2 u0_3 u0_4 u0_5 u0_6 u0_7 u0_8 u0_9 u0_10 u0_11 u0_12 u0_13 u0_14 u0_15 u0_16 u0_17 u0_18 u0_19 u0_20 u0_21 u0_22 u0_23 u0_24 u0_25 u0_26 u0_27 u0_28 u0_29 u0_30 y1_s)) rfl rfl rfl rfl rfl rfl (by decide) (c_X9_cells l g a0 a1 _ u0_1 u0_2 u0_3 u0_4 u0_5 u0_6 u0_7 u0_8 u0_9 u0_10 u0_11 u0_12 u0_13 u0_14 u0_15 u0_16 u0_17 u0_18 u0_19 u0_20 u0_21 u0_22 u0_23 u0_24 u0_25 u0_26 u0_27 u0_28 u0_29 u0_30 y1_s r4 hc) gX9_isCell_X9_cells rfl hv_X9_cells ⟨nle rfl, nle rfl⟩ 9 0 rfl rfl rfl (rest := [.long 0, .long (p1.toInt64)]) rfl rfl hl.1 (nle rfl) dX9_isCell_4 (fun H locs hP hD hS => ?_)
  refine lv_iconst (pc := 7) hexec hb dX9_isCell_7 ki_1 ?_
  refine lv_isub (pc := 8) hexec hb dX9_isCell_8 ?_
  refine lv_i2l (pc := 9) hexec hb dX9_isCell_9 rfl ?_
  obtain ⟨r10, hc, hf⟩ := bd1_e hf
  refine kSp (pc := 10) (S := ⟨hexec, hb, hml, hown, hts⟩) hP hD hG hA hS [] [0, 1] [0, 1] (w2 := (w_X9_isCell g a0 a1 u0_1 u0_2 u0_3 u0_4 u0_5 u0_6 u0_7 u0_8 u0_9 u0_10 u0_11 u0_12 u0_13 u0_14 u0_15 u0_16 u0_17 u0_18 u0_19 u0_20 u0_21 u0_22 u0_23 u0_24 u0_25 u0_26 u0_27 u0_28 u0_29 u0_30 y1_s)) rfl rfl rfl rfl rfl rfl (by decide) (c_X9_isIn l g _ (p1.toInt64) 0 (((r4 - 1)).toInt64) r10 hc) gX9_isCell_X9_isIn rfl hs_X9_isIn ⟨nle rfl, nle rfl⟩ (rest := []) rfl rfl hl.1 (nle rfl) dX9_isCell_10 (fun H locs hP hD hS => ?_)
  obtain ⟨hx, hf⟩ := zb_e hf
  cases hf
  exact ke_z hQ hexec hb hr hx hP hD hS dX9_isCell_13 hlocks
abbrev w_X9_away (g : GE) (a0 a1 : Nat) (u0_1 u0_2 u0_3 u0_4 u0_5 u0_6 u0_7 u0_8 u0_9 u0_10 u0_11 u0_12 u0_13 u0_14 u0_15 u0_16 u0_17 u0_18 u0_19 u0_20 u0_21 u0_22 u0_23 u0_24 u0_25 u0_26 u0_27 u0_28 u0_29 u0_30 : Value) (y1_s : Nat → Int32) : va_W := [(a0, .inr (9, [.ref a1, u0_1, u0_2, u0_3, u0_4, u0_5, u0_6, u0_7, u0_8, u0_9, u0_10, u0_11, u0_12, u0_13, u0_14, u0_15, u0_16, u0_17, u0_18, u0_19, u0_20, u0_21, u0_22, u0_23, u0_24, u0_25, u0_26, u0_27, u0_28, u0_29, u0_30])), (a1, .inl (g.2.1 0, 552, .inl y1_s))]
noncomputable def f_X9_away (y1_s : Nat → Int32) (p1 : Int32) (p2 : Int32) (p3 : Int32) : Option (Int32) :=
  ar 1 552 <|
  dv (y1_s (1 : Int32).toNatClampNeg) <|
  bv (p1 / (y1_s (1 : Int32).toNatClampNeg)) fun v4 =>
  ar 1 552 <|
  dv (y1_s (1 : Int32).toNatClampNeg) <|
  bv (p1 - p1 / (y1_s (1 : Int32).toNatClampNeg) * (y1_s (1 : Int32).toNatClampNeg)) fun v5 =>
  bv (fun (t41 : Int32) => ((
    bv (v4 + t41) fun v4_1 =>
    bv (fun (t66 : Int32) => ((
      bv (v5 + t66) fun v5_1 =>
      ar 0 552 <|
      bd1 (f_X9_isIn (v4_1.toInt64) 0 ((((y1_s (0 : Int32).toNatClampNeg) - 1)).toInt64)) fun (r82 : Int32) =>
      bv (fun (_ : Unit) => ((
        some (-1)
        ) : Option (Int32))) fun j122 =>
      (if r82 = 0 then (
        j122 ()
      ) else (
        ar 1 552 <|
        bd1 (f_X9_isIn (v5_1.toInt64) 0 ((((y1_s (1 : Int32).toNatClampNeg) - 1)).toInt64)) fun (r101 : Int32) =>
        (if r101 = 0 then (
          j122 ()
        ) else (
          ar 1 552 <|
          some (((y1_s (1 : Int32).toNatClampNeg) * v4_1) + v5_1)
        ))
      ))
      ) : Option (Int32))) fun j66 =>
    (if p2 = 1 then (
      j66 p3
    ) else (
      (if p2 = 3 then (
        j66 (-p3)
      ) else (
        j66 0
      ))
    ))
    ) : Option (Int32))) fun j41 =>
  (if p2 = 0 then (
    j41 (-p3)
  ) else (
    (if p2 = 2 then (
      j41 p3
    ) else (
      j41 0
    ))
  ))
set_option maxRecDepth 4000 in
theorem c_X9_away (l : Launch) (g : GE) (a0 a1 : Nat) (sz : Nat) (u0_1 u0_2 u0_3 u0_4 u0_5 u0_6 u0_7 u0_8 u0_9 u0_10 u0_11 u0_12 u0_13 u0_14 u0_15 u0_16 u0_17 u0_18 u0_19 u0_20 u0_21 u0_22 u0_23 u0_24 u0_25 u0_26 u0_27 u0_28 u0_29 u0_30 : Value) (y1_s : Nat → Int32) (p1 : Int32) (p2 : Int32) (p3 : Int32) (r : Int32) (hf : f_X9_away y1_s p1 p2 p3 = some r) : MI l g yX9_away wsX9_away 2 49 [.ref a0, .int p1, .int p2, .int p3] (w_X9_away g a0 a1 u0_1 u0_2 u0_3 u0_4 u0_5 u0_6 u0_7 u0_8 u0_9 u0_10 u0_11 u0_12 u0_13 u0_14 u0_15 u0_16 u0_17 u0_18 u0_19 u0_20 u0_21 u0_22 u0_23 u0_24 u0_25 u0_26 u0_27 u0_28 u0_29 u0_30 y1_s) sz (some (.int r)) (w_X9_away g a0 a1 u0_1 u0_2 u0_3 u0_4 u0_5 u0_6 u0_7 u0_8 u0_9 u0_10 u0_11 u0_12 u0_13 u0_14 u0_15 u0_16 u0_17 u0_18 u0_19 u0_20 u0_21 u0_22 u0_23 u0_24 u0_25 u0_26 u0_27 u0_28 u0_29 u0_30 y1_s) := by
  refine MI.start (cc := cX9_away) (maxL := 6) (ret := (some .int)) rfl rfl (nle rfl) ?_
  intro p e s m args below meth c A ls Q hQ hexec hb hr hts hown hlocks hml hA hP hD hG hS hl
  unfold f_X9_away at hf
  have hWX9 : ∀ w ∈ wsX90, w.before args s = true := fun w h => hts w (List.mem_cons_of_mem _ (List.mem_append_right _ h))
  have hS : va_S A s.heap s.heap [] := hS
  refine lv_iload_n (pc := 0) hexec hb dX9_away_0 rfl (lv_at hl 1 rfl) ?_
  refine lv_aload_n (pc := 1) hexec hb dX9_away_1 rfl (lv_at hl 0 rfl) ?_
  refine kg_get (pc := 2) hexec hb (own := RX9) hWX9 hown hG hP 0 rfl rfl 0 (nle rfl) (hts _ (List.mem_cons_of_mem _ (List.mem_append_left _ (List.mem_of_getElem? (i := 0) rfl)))) rfl rfl dX9_away_2 ?_
  refine lv_iconst (pc := 5) hexec hb dX9_away_5 ki_1 ?_
  refine kr_iald (pc := 6) hexec hb hG hP 1 rfl hf dX9_away_6 (fun hf => ?_)
  refine kd_idiv (pc := 7) hexec hb dX9_away_7 hf (fun hf => ?_)
  obtain ⟨v4, ev4, hf⟩ := bv_e hf
  refine kn_i ev4 ?_
  refine lv_istore (pc := 8) hexec hb dX9_away_8 hl (nle rfl) rfl (fun ls (hl : lv_has ls 6 [(4, .int v4), (0, .ref a0), (1, .int p1), (2, .int p2), (3, .int p3)]) => ?_)
  refine lv_iload_n (pc := 10) hexec hb dX9_away_10 rfl (lv_at hl 2 rfl) ?_
  refine lv_aload_n (pc := 11) hexec hb dX9_away_11 rfl (lv_at hl 1 rfl) ?_
  refine kg_get (pc := 12) hexec hb (own := RX9) hWX9 hown hG hP 0 rfl rfl 0 (nle rfl) (hts _ (List.mem_cons_of_mem _ (List.mem_append_left _ (List.mem_of_getElem? (i := 0) rfl)))) rfl rfl dX9_away_12 ?_
  refine lv_iconst (pc := 15) hexec hb dX9_away_15 ki_1 ?_
  refine kr_iald (pc := 16) hexec hb hG hP 1 rfl hf dX9_away_16 (fun hf => ?_)
  refine kd_irem (pc := 17) hexec hb dX9_away_17 hf (fun hf => ?_)
  obtain ⟨v5, ev5, hf⟩ := bv_e hf
  refine kn_i ev5 ?_
  refine lv_istore (pc := 18) hexec hb dX9_away_18 hl (nle rfl) rfl (fun ls (hl : lv_has ls 6 [(5, .int v5), (4, .int v4), (0, .ref a0), (1, .int p1), (2, .int p2), (3, .int p3)]) => ?_)
  refine lv_iload (pc := 20) hexec hb dX9_away_20 (lv_at hl 1 rfl) ?_
  refine lv_iload_n (pc := 22) hexec hb dX9_away_22 rfl (lv_at hl 4 rfl) ?_
  obtain ⟨j41, ej41, hf⟩ := bvf1 hf
  have hj41 : ∀ (t41 : Int32) (H : Heap) (locs : List Loc) (ls : Array Slot), j41 t41 = some r → va_P g.1 vwCl (w_X9_away g a0 a1 u0_1 u0_2 u0_3 u0_4 u0_5 u0_6 u0_7 u0_8 u0_9 u0_10 u0_11 u0_12 u0_13 u0_14 u0_15 u0_16 u0_17 u0_18 u0_19 u0_20 u0_21 u0_22 u0_23 u0_24 u0_25 u0_26 u0_27 u0_28 u0_29 u0_30 y1_s) H → va_D A (w_X9_away g a0 a1 u0_1 u0_2 u0_3 u0_4 u0_5 u0_6 u0_7 u0_8 u0_9 u0_10 u0_11 u0_12 u0_13 u0_14 u0_15 u0_16 u0_17 u0_18 u0_19 u0_20 u0_21 u0_22 u0_23 u0_24 u0_25 u0_26 u0_27 u0_28 u0_29 u0_30 y1_s) → va_S A s.heap H locs → lv_has ls 6 [(0, .ref a0), (2, .int p2), (3, .int p3), (5, .int v5)] → W p l e (RM 2 49) s m args below meth c H locs 0 0 Q (F0 m 41 ls [.int t41, .int v4]) := by
    intro t41 H locs ls hf hP hD hS hl
    have hf := (ej41 t41).symm.trans hf
    refine lv_iadd (pc := 41) hexec hb dX9_away_41 ?_
    obtain ⟨v4_1, ev4_1, hf⟩ := bv_e hf
    refine kn_i ev4_1 ?_
    refine lv_istore (pc := 42) hexec hb dX9_away_42 hl (nle rfl) rfl (fun ls (hl : lv_has ls 6 [(4, .int v4_1), (0, .ref a0), (2, .int p2), (3, .int p3), (5, .int v5)]) => ?_)
    refine lv_iload (pc := 44) hexec hb dX9_away_44 (lv_at hl 4 rfl) ?_
    refine lv_iload_n (pc := 46) hexec hb dX9_away_46 rfl (lv_at hl 2 rfl) ?_
    refine lv_iconst (pc := 47) hexec hb dX9_away_47 ki_1 ?_
    obtain ⟨j66, ej66, hf⟩ := bvf1 hf
    have hj66 : ∀ (t66 : Int32) (H : Heap) (locs : List Loc) (ls : Array Slot), j66 t66 = some r → va_P g.1 vwCl (w_X9_away g a0 a1 u0_1 u0_2 u0_3 u0_4 u0_5 u0_6 u0_7 u0_8 u0_9 u0_10 u0_11 u0_12 u0_13 u0_14 u0_15 u0_16 u0_17 u0_18 u0_19 u0_20 u0_21 u0_22 u0_23 u0_24 u0_25 u0_26 u0_27 u0_28 u0_29 u0_30 y1_s) H → va_D A (w_X9_away g a0 a1 u0_1 u0_2 u0_3 u0_4 u0_5 u0_6 u0_7 u0_8 u0_9 u0_10 u0_11 u0_12 u0_13 u0_14 u0_15 u0_16 u0_17 u0_18 u0_19 u0_20 u0_21 u0_22 u0_23 u0_24 u0_25 u0_26 u0_27 u0_28 u0_29 u0_30 y1_s) → va_S A s.heap H locs → lv_has ls 6 [(0, .ref a0), (4, .int v4_1)] → W p l e (RM 2 49) s m args below meth c H locs 0 0 Q (F0 m 66 ls [.int t66, .int v5]) := by
      intro t66 H locs ls hf hP hD hS hl
      have hf := (ej66 t66).symm.trans hf
      refine lv_iadd (pc := 66) hexec hb dX9_away_66 ?_
      obtain ⟨v5_1, ev5_1, hf⟩ := bv_e hf
      refine kn_i ev5_1 ?_
      refine lv_istore (pc := 67) hexec hb dX9_away_67 hl (nle rfl) rfl (fun ls (hl : lv_has ls 6 [(5, .int v5_1), (0, .ref a0), (4, .int v4_1)]) => ?_)
      refine lv_iload (pc := 69) hexec hb dX9_away_69 (lv_at hl 2 rfl) ?_
      refine lv_i2l (pc := 71) hexec hb dX9_away_71 rfl ?_
      refine lv_lconst (pc := 72) hexec hb dX9_away_72 kl_0 ?_
      refine lv_aload_n (pc := 73) hexec hb dX9_away_73 rfl (lv_at hl 1 rfl) ?_
      refine kg_get (pc := 74) hexec hb (own := RX9) hWX9 hown hG hP 0 rfl rfl 0 (nle rfl) (hts _ (List.mem_cons_of_mem _ (List.mem_append_left _ (List.mem_of_getElem? (i := 0) rfl)))) rfl rfl dX9_away_74 ?_
      refine lv_iconst (pc := 77) hexec hb dX9_away_77 ki_0 ?_
      refine kr_iald (pc := 78) hexec hb hG hP 1 rfl hf dX9_away_78 (fun hf => ?_)
      refine lv_iconst (pc := 79) hexec hb dX9_away_79 ki_1 ?_
      refine lv_isub (pc := 80) hexec hb dX9_away_80 ?_
      refine lv_i2l (pc := 81) hexec hb dX9_away_81 rfl ?_
      obtain ⟨r82, hc, hf⟩ := bd1_e hf
      refine kSp (pc := 82) (S := ⟨hexec, hb, hml, hown, hts⟩) hP hD hG hA hS [] [0, 1] [0, 1] (w2 := (w_X9_away g a0 a1 u0_1 u0_2 u0_3 u0_4 u0_5 u0_6 u0_7 u0_8 u0_9 u0_10 u0_11 u0_12 u0_13 u0_14 u0_15 u0_16 u0_17 u0_18 u0_19 u0_20 u0_21 u0_22 u0_23 u0_24 u0_25 u0_26 u0_27 u0_28 u0_29 u0_30 y1_s)) rfl rfl rfl rfl rfl rfl (by decide) (c_X9_isIn l g _ (v4_1.toInt64) 0 ((((y1_s (0 : Int32).toNatClampNeg) - 1)).toInt64) r82 hc) gX9_away_X9_isIn rfl hs_X9_isIn ⟨nle rfl, nle rfl⟩ (rest := []) rfl rfl hl.1 (nle rfl) dX9_away_82 (fun H locs hP hD hS => ?_)
      obtain ⟨j122, ej122, hf⟩ := bvf1 hf
      have hj122 : ∀ (u : Unit) (H : Heap) (locs : List Loc) (ls : Array Slot), j122 u = some r → va_P g.1 vwCl (w_X9_away g a0 a1 u0_1 u0_2 u0_3 u0_4 u0_5 u0_6 u0_7 u0_8 u0_9 u0_10 u0_11 u0_12 u0_13 u0_14 u0_15 u0_16 u0_17 u0_18 u0_19 u0_20 u0_21 u0_22 u0_23 u0_24 u0_25 u0_26 u0_27 u0_28 u0_29 u0_30 y1_s) H → va_D A (w_X9_away g a0 a1 u0_1 u0_2 u0_3 u0_4 u0_5 u0_6 u0_7 u0_8 u0_9 u0_10 u0_11 u0_12 u0_13 u0_14 u0_15 u0_16 u0_17 u0_18 u0_19 u0_20 u0_21 u0_22 u0_23 u0_24 u0_25 u0_26 u0_27 u0_28 u0_29 u0_30 y1_s) → va_S A s.heap H locs → lv_has ls 6 [] → W p l e (RM 2 49) s m args below meth c H locs 0 0 Q (F0 m 122 ls []) := by
        intro u H locs ls hf hP hD hS hl
        have hf := (ej122 u).symm.trans hf
        refine lv_iconst (pc := 122) hexec hb dX9_away_122 ki_m1 ?_
        cases hf
        exact ke_i hQ hexec hb hr hP hD hS dX9_away_123 hlocks
      refine kb_eq (pc := 85) hexec hb dX9_away_85 (tgt := 122) rfl hf (fun hc hf => ?_) (fun hc hf => ?_)
      · exact hj122 _ _ _ _ hf hP hD hS (lv_sub hl [] rfl)
      · refine lv_iload (pc := 88) hexec hb dX9_away_88 (lv_at hl 0 rfl) ?_
        refine lv_i2l (pc := 90) hexec hb dX9_away_90 rfl ?_
        refine lv_lconst (pc := 91) hexec hb dX9_away_91 kl_0 ?_
        refine lv_aload_n (pc := 92) hexec hb dX9_away_92 rfl (lv_at hl 1 rfl) ?_
        refine kg_get (pc := 93) hexec hb (own := RX9) hWX9 hown hG hP 0 rfl rfl 0 (nle rfl) (hts _ (List.mem_cons_of_mem _ (List.mem_append_left _ (List.mem_of_getElem? (i := 0) rfl)))) rfl rfl dX9_away_93 ?_
        refine lv_iconst (pc := 96) hexec hb dX9_away_96 ki_1 ?_
        refine kr_iald (pc := 97) hexec hb hG hP 1 rfl hf dX9_away_97 (fun hf => ?_)
        refine lv_iconst (pc := 98) hexec hb dX9_away_98 ki_1 ?_
        refine lv_isub (pc := 99) hexec hb dX9_away_99 ?_
        refine lv_i2l (pc := 100) hexec hb dX9_away_100 rfl ?_
        obtain ⟨r101, hc, hf⟩ := bd1_e hf
        refine kSp (pc := 101) (S := ⟨hexec, hb, hml, hown, hts⟩) hP hD hG hA hS [] [0, 1] [0, 1] (w2 := (w_X9_away g a0 a1 u0_1 u0_2 u0_3 u0_4 u0_5 u0_6 u0_7 u0_8 u0_9 u0_10 u0_11 u0_12 u0_13 u0_14 u0_15 u0_16 u0_17 u0_18 u0_19 u0_20 u0_21 u0_22 u0_23 u0_24 u0_25 u0_26 u0_27 u0_28 u0_29 u0_30 y1_s)) rfl rfl rfl rfl rfl rfl (by decide) (c_X9_isIn l g _ (v5_1.toInt64) 0 ((((y1_s (1 : Int32).toNatClampNeg) - 1)).toInt64) r101 hc) gX9_away_X9_isIn rfl hs_X9_isIn ⟨nle rfl, nle rfl⟩ (rest := []) rfl rfl hl.1 (nle rfl) dX9_away_101 (fun H locs hP hD hS => ?_)
        refine kb_eq (pc := 104) hexec hb dX9_away_104 (tgt := 122) rfl hf (fun hc hf => ?_) (fun hc hf => ?_)
        · exact hj122 _ _ _ _ hf hP hD hS (lv_sub hl [] rfl)
        · refine lv_aload_n (pc := 107) hexec hb dX9_away_107 rfl (lv_at hl 1 rfl) ?_
          refine kg_get (pc := 108) hexec hb (own := RX9) hWX9 hown hG hP 0 rfl rfl 0 (nle rfl) (hts _ (List.mem_cons_of_mem _ (List.mem_append_left _ (List.mem_of_getElem? (i := 0) rfl)))) rfl rfl dX9_away_108 ?_
          refine lv_iconst (pc := 111) hexec hb dX9_away_111 ki_1 ?_
          refine kr_iald (pc := 112) hexec hb hG hP 1 rfl hf dX9_away_112 (fun hf => ?_)
          refine lv_iload (pc := 113) hexec hb dX9_away_113 (lv_at hl 2 rfl) ?_
          refine lv_imul (pc := 115) hexec hb dX9_away_115 ?_
          refine lv_iload (pc := 116) hexec hb dX9_away_116 (lv_at hl 0 rfl) ?_
          refine lv_iadd (pc := 118) hexec hb dX9_away_118 ?_
          refine lv_goto (pc := 119) hexec hb dX9_away_119 (tgt := 123) rfl ?_
          cases hf
          exact ke_i hQ hexec hb hr hP hD hS dX9_away_123 hlocks
    refine ki_ne (pc := 48) hexec hb dX9_away_48 (tgt := 55) rfl hf (fun hc hf => ?_) (fun hc hf => ?_)
    · refine lv_iload_n (pc := 55) hexec hb dX9_away_55 rfl (lv_at hl 2 rfl) ?_
      refine lv_iconst (pc := 56) hexec hb dX9_away_56 ki_3 ?_
      refine ki_ne (pc := 57) hexec hb dX9_away_57 (tgt := 65) rfl hf (fun hc hf => ?_) (fun hc hf => ?_)
      · refine lv_iconst (pc := 65) hexec hb dX9_away_65 ki_0 ?_
        exact hj66 _ _ _ _ hf hP hD hS (lv_sub hl [1, 0] rfl)
      · refine lv_iload_n (pc := 60) hexec hb dX9_away_60 rfl (lv_at hl 3 rfl) ?_
        refine lv_ineg (pc := 61) hexec hb dX9_away_61 ?_
        refine lv_goto (pc := 62) hexec hb dX9_away_62 (tgt := 66) rfl ?_
        exact hj66 _ _ _ _ hf hP hD hS (lv_sub hl [1, 0] rfl)
    · refine lv_iload_n (pc := 51) hexec hb dX9_away_51 rfl (lv_at hl 3 rfl) ?_
      refine lv_goto (pc := 52) hexec hb dX9_away_52 (tgt := 66) rfl ?_
      exact hj66 _ _ _ _ hf hP hD hS (lv_sub hl [1, 0] rfl)
  refine kb_ne (pc := 23) hexec hb dX9_away_23 (tgt := 31) rfl hf (fun hc hf => ?_) (fun hc hf => ?_)
  · refine lv_iload_n (pc := 31) hexec hb dX9_away_31 rfl (lv_at hl 4 rfl) ?_
    refine lv_iconst (pc := 32) hexec hb dX9_away_32 ki_2 ?_
    refine ki_ne (pc := 33) hexec hb dX9_away_33 (tgt := 40) rfl hf (fun hc hf => ?_) (fun hc hf => ?_)
    · refine lv_iconst (pc := 40) hexec hb dX9_away_40 ki_0 ?_
      exact hj41 _ _ _ _ hf hP hD hS (lv_sub hl [2, 4, 5, 0] rfl)
    · refine lv_iload_n (pc := 36) hexec hb dX9_away_36 rfl (lv_at hl 5 rfl) ?_
      refine lv_goto (pc := 37) hexec hb dX9_away_37 (tgt := 41) rfl ?_
      exact hj41 _ _ _ _ hf hP hD hS (lv_sub hl [2, 4, 5, 0] rfl)
  · refine lv_iload_n (pc := 26) hexec hb dX9_away_26 rfl (lv_at hl 5 rfl) ?_
    refine lv_ineg (pc := 27) hexec hb dX9_away_27 ?_
    refine lv_goto (pc := 28) hexec hb dX9_away_28 (tgt := 41) rfl ?_
    exact hj41 _ _ _ _ hf hP hD hS (lv_sub hl [2, 4, 5, 0] rfl)
abbrev w_X9_isLand (g : GE) (a0 a1 : Nat) (u0_1 u0_2 u0_3 u0_4 u0_5 u0_6 u0_7 u0_8 u0_9 u0_10 u0_11 u0_12 u0_13 u0_14 u0_15 u0_16 u0_17 u0_18 u0_19 u0_20 u0_21 u0_22 u0_23 u0_24 u0_25 u0_26 u0_27 u0_28 u0_29 u0_30 : Value) (y1_s : Nat → Int32) : va_W := [(a0, .inr (9, [.ref a1, u0_1, u0_2, u0_3, u0_4, u0_5, u0_6, u0_7, u0_8, u0_9, u0_10, u0_11, u0_12, u0_13, u0_14, u0_15, u0_16, u0_17, u0_18, u0_19, u0_20, u0_21, u0_22, u0_23, u0_24, u0_25, u0_26, u0_27, u0_28, u0_29, u0_30])), (a1, .inl (g.2.1 0, 552, .inl y1_s))]
noncomputable def f_X9_isLand (y1_s : Nat → Int32) (p1 : Int32) : Option (Int32) :=
  bv (fun (_ : Unit) => ((
    some 0
    ) : Option (Int32))) fun j22 =>
  (if p1 = (-1) then (
    j22 ()
  ) else (
    ar (8 + p1) 552 <|
    (if (y1_s (8 + p1).toNatClampNeg) = 1 then (
      some 1
    ) else (
      j22 ()
    ))
  ))
set_option maxRecDepth 4000 in
theorem c_X9_isLand (l : Launch) (g : GE) (a0 a1 : Nat) (sz : Nat) (u0_1 u0_2 u0_3 u0_4 u0_5 u0_6 u0_7 u0_8 u0_9 u0_10 u0_11 u0_12 u0_13 u0_14 u0_15 u0_16 u0_17 u0_18 u0_19 u0_20 u0_21 u0_22 u0_23 u0_24 u0_25 u0_26 u0_27 u0_28 u0_29 u0_30 : Value) (y1_s : Nat → Int32) (p1 : Int32) (r : Int32) (hf : f_X9_isLand y1_s p1 = some r) : MI l g yX9_isLand wsX9_isLand 1 24 [.ref a0, .int p1] (w_X9_isLand g a0 a1 u0_1 u0_2 u0_3 u0_4 u0_5 u0_6 u0_7 u0_8 u0_9 u0_10 u0_11 u0_12 u0_13 u0_14 u0_15 u0_16 u0_17 u0_18 u0_19 u0_20 u0_21 u0_22 u0_23 u0_24 u0_25 u0_26 u0_27 u0_28 u0_29 u0_30 y1_s) sz (some (.int r)) (w_X9_isLand g a0 a1 u0_1 u0_2 u0_3 u0_4 u0_5 u0_6 u0_7 u0_8 u0_9 u0_10 u0_11 u0_12 u0_13 u0_14 u0_15 u0_16 u0_17 u0_18 u0_19 u0_20 u0_21 u0_22 u0_23 u0_24 u0_25 u0_26 u0_27 u0_28 u0_29 u0_30 y1_s) := by
  refine MI.start (cc := cX9_isLand) (maxL := 2) (ret := (some .boolean)) rfl rfl (nle rfl) ?_
  intro p e s m args below meth c A ls Q hQ hexec hb hr hts hown hlocks hml hA hP hD hG hS hl
  unfold f_X9_isLand at hf
  have hWX9 : ∀ w ∈ wsX90, w.before args s = true := fun w h => hts w (List.mem_cons_of_mem _ (List.mem_append_right _ h))
  have hS : va_S A s.heap s.heap [] := hS
  refine lv_iload_n (pc := 0) hexec hb dX9_isLand_0 rfl (lv_at hl 1 rfl) ?_
  refine lv_iconst (pc := 1) hexec hb dX9_isLand_1 ki_m1 ?_
  obtain ⟨j22, ej22, hf⟩ := bvf1 hf
  have hj22 : ∀ (u : Unit) (H : Heap) (locs : List Loc) (ls : Array Slot), j22 u = some r → va_P g.1 vwCl (w_X9_isLand g a0 a1 u0_1 u0_2 u0_3 u0_4 u0_5 u0_6 u0_7 u0_8 u0_9 u0_10 u0_11 u0_12 u0_13 u0_14 u0_15 u0_16 u0_17 u0_18 u0_19 u0_20 u0_21 u0_22 u0_23 u0_24 u0_25 u0_26 u0_27 u0_28 u0_29 u0_30 y1_s) H → va_D A (w_X9_isLand g a0 a1 u0_1 u0_2 u0_3 u0_4 u0_5 u0_6 u0_7 u0_8 u0_9 u0_10 u0_11 u0_12 u0_13 u0_14 u0_15 u0_16 u0_17 u0_18 u0_19 u0_20 u0_21 u0_22 u0_23 u0_24 u0_25 u0_26 u0_27 u0_28 u0_29 u0_30 y1_s) → va_S A s.heap H locs → lv_has ls 2 [] → W p l e (RM 1 24) s m args below meth c H locs 0 0 Q (F0 m 22 ls []) := by
    intro u H locs ls hf hP hD hS hl
    have hf := (ej22 u).symm.trans hf
    refine lv_iconst (pc := 22) hexec hb dX9_isLand_22 ki_0 ?_
    cases hf
    exact ke_z hQ hexec hb hr (.inl rfl) hP hD hS dX9_isLand_23 hlocks
  refine ki_eq (pc := 2) hexec hb dX9_isLand_2 (tgt := 22) rfl hf (fun hc hf => ?_) (fun hc hf => ?_)
  · exact hj22 _ _ _ _ hf hP hD hS (lv_sub hl [] rfl)
  · refine lv_aload_n (pc := 5) hexec hb dX9_isLand_5 rfl (lv_at hl 0 rfl) ?_
    refine kg_get (pc := 6) hexec hb (own := RX9) hWX9 hown hG hP 0 rfl rfl 0 (nle rfl) (hts _ (List.mem_cons_of_mem _ (List.mem_append_left _ (List.mem_of_getElem? (i := 0) rfl)))) rfl rfl dX9_isLand_6 ?_
    refine lv_bipush (pc := 9) hexec hb dX9_isLand_9 kb_8 ?_
    refine lv_iload_n (pc := 11) hexec hb dX9_isLand_11 rfl (lv_at hl 1 rfl) ?_
    refine lv_iadd (pc := 12) hexec hb dX9_isLand_12 ?_
    refine kr_iald (pc := 13) hexec hb hG hP 1 rfl hf dX9_isLand_13 (fun hf => ?_)
    refine lv_iconst (pc := 14) hexec hb dX9_isLand_14 ki_1 ?_
    refine ki_ne (pc := 15) hexec hb dX9_isLand_15 (tgt := 22) rfl hf (fun hc hf => ?_) (fun hc hf => ?_)
    · exact hj22 _ _ _ _ hf hP hD hS (lv_sub hl [] rfl)
    · refine lv_iconst (pc := 18) hexec hb dX9_isLand_18 ki_1 ?_
      refine lv_goto (pc := 19) hexec hb dX9_isLand_19 (tgt := 23) rfl ?_
      cases hf
      exact ke_z hQ hexec hb hr (.inr rfl) hP hD hS dX9_isLand_23 hlocks
abbrev w_X9_riverAt (g : GE) (a0 a1 : Nat) (u0_1 u0_2 u0_3 u0_4 u0_5 u0_6 u0_7 u0_8 u0_9 u0_10 u0_11 u0_12 u0_13 u0_14 u0_15 u0_16 u0_17 u0_18 u0_19 u0_20 u0_21 u0_22 u0_23 u0_24 u0_25 u0_26 u0_27 u0_28 u0_29 u0_30 : Value) (y1_s : Nat → Int32) : va_W := [(a0, .inr (9, [.ref a1, u0_1, u0_2, u0_3, u0_4, u0_5, u0_6, u0_7, u0_8, u0_9, u0_10, u0_11, u0_12, u0_13, u0_14, u0_15, u0_16, u0_17, u0_18, u0_19, u0_20, u0_21, u0_22, u0_23, u0_24, u0_25, u0_26, u0_27, u0_28, u0_29, u0_30])), (a1, .inl (g.2.1 0, 552, .inl y1_s))]
noncomputable def f_X9_riverAt (y1_s : Nat → Int32) (p1 : Int32) : Option (Int32) :=
  ar (152 + p1) 552 <|
  some ((y1_s (152 + p1).toNatClampNeg) - 1)
set_option maxRecDepth 4000 in
theorem c_X9_riverAt (l : Launch) (g : GE) (a0 a1 : Nat) (sz : Nat) (u0_1 u0_2 u0_3 u0_4 u0_5 u0_6 u0_7 u0_8 u0_9 u0_10 u0_11 u0_12 u0_13 u0_14 u0_15 u0_16 u0_17 u0_18 u0_19 u0_20 u0_21 u0_22 u0_23 u0_24 u0_25 u0_26 u0_27 u0_28 u0_29 u0_30 : Value) (y1_s : Nat → Int32) (p1 : Int32) (r : Int32) (hf : f_X9_riverAt y1_s p1 = some r) : MI l g yX9_riverAt wsX9_riverAt 1 24 [.ref a0, .int p1] (w_X9_riverAt g a0 a1 u0_1 u0_2 u0_3 u0_4 u0_5 u0_6 u0_7 u0_8 u0_9 u0_10 u0_11 u0_12 u0_13 u0_14 u0_15 u0_16 u0_17 u0_18 u0_19 u0_20 u0_21 u0_22 u0_23 u0_24 u0_25 u0_26 u0_27 u0_28 u0_29 u0_30 y1_s) sz (some (.int r)) (w_X9_riverAt g a0 a1 u0_1 u0_2 u0_3 u0_4 u0_5 u0_6 u0_7 u0_8 u0_9 u0_10 u0_11 u0_12 u0_13 u0_14 u0_15 u0_16 u0_17 u0_18 u0_19 u0_20 u0_21 u0_22 u0_23 u0_24 u0_25 u0_26 u0_27 u0_28 u0_29 u0_30 y1_s) := by
  refine MI.start (cc := cX9_riverAt) (maxL := 2) (ret := (some .int)) rfl rfl (nle rfl) ?_
  intro p e s m args below meth c A ls Q hQ hexec hb hr hts hown hlocks hml hA hP hD hG hS hl
  unfold f_X9_riverAt at hf
  have hWX9 : ∀ w ∈ wsX90, w.before args s = true := fun w h => hts w (List.mem_cons_of_mem _ (List.mem_append_right _ h))
  have hS : va_S A s.heap s.heap [] := hS
  refine lv_aload_n (pc := 0) hexec hb dX9_riverAt_0 rfl (lv_at hl 0 rfl) ?_
  refine kg_get (pc := 1) hexec hb (own := RX9) hWX9 hown hG hP 0 rfl rfl 0 (nle rfl) (hts _ (List.mem_cons_of_mem _ (List.mem_append_left _ (List.mem_of_getElem? (i := 0) rfl)))) rfl rfl dX9_riverAt_1 ?_
  refine lv_sipush (pc := 4) hexec hb dX9_riverAt_4 ks_152 ?_
  refine lv_iload_n (pc := 7) hexec hb dX9_riverAt_7 rfl (lv_at hl 1 rfl) ?_
  refine lv_iadd (pc := 8) hexec hb dX9_riverAt_8 ?_
  refine kr_iald (pc := 9) hexec hb hG hP 1 rfl hf dX9_riverAt_9 (fun hf => ?_)
  refine lv_iconst (pc := 10) hexec hb dX9_riverAt_10 ki_1 ?_
  refine lv_isub (pc := 11) hexec hb dX9_riverAt_11 ?_
  cases hf
  exact ke_i hQ hexec hb hr hP hD hS dX9_riverAt_12 hlocks
abbrev w_X9_isRiver (g : GE) (a0 a1 : Nat) (u0_1 u0_2 u0_3 u0_4 u0_5 u0_6 u0_7 u0_8 u0_9 u0_10 u0_11 u0_12 u0_13 u0_14 u0_15 u0_16 u0_17 u0_18 u0_19 u0_20 u0_21 u0_22 u0_23 u0_24 u0_25 u0_26 u0_27 u0_28 u0_29 u0_30 : Value) (y1_s : Nat → Int32) : va_W := [(a0, .inr (9, [.ref a1, u0_1, u0_2, u0_3, u0_4, u0_5, u0_6, u0_7, u0_8, u0_9, u0_10, u0_11, u0_12, u0_13, u0_14, u0_15, u0_16, u0_17, u0_18, u0_19, u0_20, u0_21, u0_22, u0_23, u0_24, u0_25, u0_26, u0_27, u0_28, u0_29, u0_30])), (a1, .inl (g.2.1 0, 552, .inl y1_s))]
noncomputable def f_X9_isRiver (y1_s : Nat → Int32) (p1 : Int32) : Option (Int32) :=
  bv (fun (_ : Unit) => ((
    some 0
    ) : Option (Int32))) fun j22 =>
  (if p1 = (-1) then (
    j22 ()
  ) else (
    ar (152 + p1) 552 <|
    (if (y1_s (152 + p1).toNatClampNeg) ≤ 0 then (
      j22 ()
    ) else (
      some 1
    ))
  ))
set_option maxRecDepth 4000 in
theorem c_X9_isRiver (l : Launch) (g : GE) (a0 a1 : Nat) (sz : Nat) (u0_1 u0_2 u0_3 u0_4 u0_5 u0_6 u0_7 u0_8 u0_9 u0_10 u0_11 u0_12 u0_13 u0_14 u0_15 u0_16 u0_17 u0_18 u0_19 u0_20 u0_21 u0_22 u0_23 u0_24 u0_25 u0_26 u0_27 u0_28 u0_29 u0_30 : Value) (y1_s : Nat → Int32) (p1 : Int32) (r : Int32) (hf : f_X9_isRiver y1_s p1 = some r) : MI l g yX9_isRiver wsX9_isRiver 1 24 [.ref a0, .int p1] (w_X9_isRiver g a0 a1 u0_1 u0_2 u0_3 u0_4 u0_5 u0_6 u0_7 u0_8 u0_9 u0_10 u0_11 u0_12 u0_13 u0_14 u0_15 u0_16 u0_17 u0_18 u0_19 u0_20 u0_21 u0_22 u0_23 u0_24 u0_25 u0_26 u0_27 u0_28 u0_29 u0_30 y1_s) sz (some (.int r)) (w_X9_isRiver g a0 a1 u0_1 u0_2 u0_3 u0_4 u0_5 u0_6 u0_7 u0_8 u0_9 u0_10 u0_11 u0_12 u0_13 u0_14 u0_15 u0_16 u0_17 u0_18 u0_19 u0_20 u0_21 u0_22 u0_23 u0_24 u0_25 u0_26 u0_27 u0_28 u0_29 u0_30 y1_s) := by
  refine MI.start (cc := cX9_isRiver) (maxL := 2) (ret := (some .boolean)) rfl rfl (nle rfl) ?_
  intro p e s m args below meth c A ls Q hQ hexec hb hr hts hown hlocks hml hA hP hD hG hS hl
  unfold f_X9_isRiver at hf
  have hWX9 : ∀ w ∈ wsX90, w.before args s = true := fun w h => hts w (List.mem_cons_of_mem _ (List.mem_append_right _ h))
  have hS : va_S A s.heap s.heap [] := hS
  refine lv_iload_n (pc := 0) hexec hb dX9_isRiver_0 rfl (lv_at hl 1 rfl) ?_
  refine lv_iconst (pc := 1) hexec hb dX9_isRiver_1 ki_m1 ?_
  obtain ⟨j22, ej22, hf⟩ := bvf1 hf
  have hj22 : ∀ (u : Unit) (H : Heap) (locs : List Loc) (ls : Array Slot), j22 u = some r → va_P g.1 vwCl (w_X9_isRiver g a0 a1 u0_1 u0_2 u0_3 u0_4 u0_5 u0_6 u0_7 u0_8 u0_9 u0_10 u0_11 u0_12 u0_13 u0_14 u0_15 u0_16 u0_17 u0_18 u0_19 u0_20 u0_21 u0_22 u0_23 u0_24 u0_25 u0_26 u0_27 u0_28 u0_29 u0_30 y1_s) H → va_D A (w_X9_isRiver g a0 a1 u0_1 u0_2 u0_3 u0_4 u0_5 u0_6 u0_7 u0_8 u0_9 u0_10 u0_11 u0_12 u0_13 u0_14 u0_15 u0_16 u0_17 u0_18 u0_19 u0_20 u0_21 u0_22 u0_23 u0_24 u0_25 u0_26 u0_27 u0_28 u0_29 u0_30 y1_s) → va_S A s.heap H locs → lv_has ls 2 [] → W p l e (RM 1 24) s m args below meth c H locs 0 0 Q (F0 m 22 ls []) := by
    intro u H locs ls hf hP hD hS hl
    have hf := (ej22 u).symm.trans hf
    refine lv_iconst (pc := 22) hexec hb dX9_isRiver_22 ki_0 ?_
    cases hf
    exact ke_z hQ hexec hb hr (.inl rfl) hP hD hS dX9_isRiver_23 hlocks
  refine ki_eq (pc := 2) hexec hb dX9_isRiver_2 (tgt := 22) rfl hf (fun hc hf => ?_) (fun hc hf => ?_)
  · exact hj22 _ _ _ _ hf hP hD hS (lv_sub hl [] rfl)
  · refine lv_aload_n (pc := 5) hexec hb dX9_isRiver_5 rfl (lv_at hl 0 rfl) ?_
    refine kg_get (pc := 6) hexec hb (own := RX9) hWX9 hown hG hP 0 rfl rfl 0 (nle rfl) (hts _ (List.mem_cons_of_mem _ (List.mem_append_left _ (List.mem_of_getElem? (i := 0) rfl)))) rfl rfl dX9_isRiver_6 ?_
    refine lv_sipush (pc := 9) hexec hb dX9_isRiver_9 ks_152 ?_
    refine lv_iload_n (pc := 12) hexec hb dX9_isRiver_12 rfl (lv_at hl 1 rfl) ?_
    refine lv_iadd (pc := 13) hexec hb dX9_isRiver_13 ?_
    refine kr_iald (pc := 14) hexec hb hG hP 1 rfl hf dX9_isRiver_14 (fun hf => ?_)
    refine kb_le (pc := 15) hexec hb dX9_isRiver_15 (tgt := 22) rfl hf (fun hc hf => ?_) (fun hc hf => ?_)
    · exact hj22 _ _ _ _ hf hP hD hS (lv_sub hl [] rfl)
    · refine lv_iconst (pc := 18) hexec hb dX9_isRiver_18 ki_1 ?_
      refine lv_goto (pc := 19) hexec hb dX9_isRiver_19 (tgt := 23) rfl ?_
      cases hf
      exact ke_z hQ hexec hb hr (.inr rfl) hP hD hS dX9_isRiver_23 hlocks
abbrev w_X9_isCoast (g : GE) (a0 a1 : Nat) (u0_1 u0_2 u0_3 u0_4 u0_5 u0_6 u0_7 u0_8 u0_9 u0_10 u0_11 u0_12 u0_13 u0_14 u0_15 u0_16 u0_17 u0_18 u0_19 u0_20 u0_21 u0_22 u0_23 u0_24 u0_25 u0_26 u0_27 u0_28 u0_29 u0_30 : Value) (y1_s : Nat → Int32) : va_W := [(a0, .inr (9, [.ref a1, u0_1, u0_2, u0_3, u0_4, u0_5, u0_6, u0_7, u0_8, u0_9, u0_10, u0_11, u0_12, u0_13, u0_14, u0_15, u0_16, u0_17, u0_18, u0_19, u0_20, u0_21, u0_22, u0_23, u0_24, u0_25, u0_26, u0_27, u0_28, u0_29, u0_30])), (a1, .inl (g.2.1 0, 552, .inl y1_s))]
noncomputable def f_X9_isCoast (y1_s : Nat → Int32) (p1 : Int32) : Option (Int32) :=
  bd1 (f_X9_isLand y1_s p1) fun (r2 : Int32) =>
  (if r2 = 0 then (
    some 0
  ) else (
    bv (fun (v2 : Int32) (v3 : Int32) => ((
      (if 4 ≤ v3 then (
        some (.inr v2)
      ) else (
        bv (fun (t42 : Int32) => ((
          bv (v3 + 1) fun v3_1 =>
          some (.inl (t42, v3_1))
          ) : Option ((Int32 × Int32) ⊕ (Int32)))) fun j42 =>
        bv (fun (_ : Unit) => ((
          j42 1
          ) : Option ((Int32 × Int32) ⊕ (Int32)))) fun j37 =>
        (if v2 = 0 then (
          bd1 (f_X9_away y1_s p1 v3 1) fun (r28 : Int32) =>
          bd1 (f_X9_isLand y1_s r28) fun (r31 : Int32) =>
          (if r31 = 0 then (
            j37 ()
          ) else (
            j42 0
          ))
        ) else (
          j37 ()
        ))
      ))
      ) : Option ((Int32 × Int32) ⊕ (Int32)))) fun l14 =>
    bd1 (lq2 l14 0 0) fun (v2_1 : Int32) =>
    zb v2_1 (some v2_1)
  ))
set_option maxRecDepth 4000 in
theorem c_X9_isCoast (l : Launch) (g : GE) (a0 a1 : Nat) (sz : Nat) (u0_1 u0_2 u0_3 u0_4 u0_5 u0_6 u0_7 u0_8 u0_9 u0_10 u0_11 u0_12 u0_13 u0_14 u0_15 u0_16 u0_17 u0_18 u0_19 u0_20 u0_21 u0_22 u0_23 u0_24 u0_25 u0_26 u0_27 u0_28 u0_29 u0_30 : Value) (y1_s : Nat → Int32) (p1 : Int32) (r : Int32) (hf : f_X9_isCoast y1_s p1 = some r) : MI l g yX9_isCoast wsX9_isCoast 3 74 [.ref a0, .int p1] (w_X9_isCoast g a0 a1 u0_1 u0_2 u0_3 u0_4 u0_5 u0_6 u0_7 u0_8 u0_9 u0_10 u0_11 u0_12 u0_13 u0_14 u0_15 u0_16 u0_17 u0_18 u0_19 u0_20 u0_21 u0_22 u0_23 u0_24 u0_25 u0_26 u0_27 u0_28 u0_29 u0_30 y1_s) sz (some (.int r)) (w_X9_isCoast g a0 a1 u0_1 u0_2 u0_3 u0_4 u0_5 u0_6 u0_7 u0_8 u0_9 u0_10 u0_11 u0_12 u0_13 u0_14 u0_15 u0_16 u0_17 u0_18 u0_19 u0_20 u0_21 u0_22 u0_23 u0_24 u0_25 u0_26 u0_27 u0_28 u0_29 u0_30 y1_s) := by
  refine MI.start (cc := cX9_isCoast) (maxL := 4) (ret := (some .boolean)) rfl rfl (nle rfl) ?_
  intro p e s m args below meth c A ls Q hQ hexec hb hr hts hown hlocks hml hA hP hD hG hS hl
  unfold f_X9_isCoast at hf
  have hWX9 : ∀ w ∈ wsX90, w.before args s = true := fun w h => hts w (List.mem_cons_of_mem _ (List.mem_append_right _ h))
  have hS : va_S A s.heap s.heap [] := hS
  refine lv_aload_n (pc := 0) hexec hb dX9_isCoast_0 rfl (lv_at hl 0 rfl) ?_
  refine lv_iload_n (pc := 1) hexec hb dX9_isCoast_1 rfl (lv_at hl 1 rfl) ?_
  obtain ⟨r2, hc, hf⟩ := bd1_e hf
  refine kVp (pc := 2) (S := ⟨hexec, hb, hml, hown, hts⟩) hP hD hG hA hS [0, 1] [] [0, 1] (w2 := (w_X9_isCoast g a0 a1 u0_1 u0_2 u0_3 u0_4 u0_5 u0_6 u0_7 u0_8 u0_9 u0_10 u0_11 u0_12 u0_13 u0_14 u0_15 u0_16 u0_17 u0_18 u0_19 u0_20 u0_21 u0_22 u0_23 u0_24 u0_25 u0_26 u0_27 u0_28 u0_29 u0_30 y1_s)) rfl rfl rfl rfl rfl rfl (by decide) (c_X9_isLand l g a0 a1 _ u0_1 u0_2 u0_3 u0_4 u0_5 u0_6 u0_7 u0_8 u0_9 u0_10 u0_11 u0_12 u0_13 u0_14 u0_15 u0_16 u0_17 u0_18 u0_19 u0_20 u0_21 u0_22 u0_23 u0_24 u0_25 u0_26 u0_27 u0_28 u0_29 u0_30 y1_s p1 r2 hc) gX9_isCoast_X9_isLand rfl hv_X9_isLand ⟨nle rfl, nle rfl⟩ 9 0 rfl rfl rfl (rest := []) rfl rfl hl.1 (nle rfl) dX9_isCoast_2 (fun H locs hP hD hS => ?_)
  refine kb_ne (pc := 5) hexec hb dX9_isCoast_5 (tgt := 10) rfl hf (fun hc hf => ?_) (fun hc hf => ?_)
  · refine lv_iconst (pc := 10) hexec hb dX9_isCoast_10 ki_0 ?_
    refine lv_istore_n (pc := 11) hexec hb dX9_isCoast_11 rfl hl (nle rfl) rfl (fun ls (hl : lv_has ls 4 [(2, .int 0), (0, .ref a0), (1, .int p1)]) => ?_)
    refine lv_iconst (pc := 12) hexec hb dX9_isCoast_12 ki_0 ?_
    refine lv_istore_n (pc := 13) hexec hb dX9_isCoast_13 rfl hl (nle rfl) rfl (fun ls (hl : lv_has ls 4 [(3, .int 0), (2, .int 0), (0, .ref a0), (1, .int p1)]) => ?_)
    obtain ⟨l14, el14, hf⟩ := bvf2 hf
    obtain ⟨v2_1, hz, hf⟩ := bd1_e hf
    have hE14 : ∀ (H : Heap) (locs : List Loc) (ls : Array Slot), va_P g.1 vwCl (w_X9_isCoast g a0 a1 u0_1 u0_2 u0_3 u0_4 u0_5 u0_6 u0_7 u0_8 u0_9 u0_10 u0_11 u0_12 u0_13 u0_14 u0_15 u0_16 u0_17 u0_18 u0_19 u0_20 u0_21 u0_22 u0_23 u0_24 u0_25 u0_26 u0_27 u0_28 u0_29 u0_30 y1_s) H → va_D A (w_X9_isCoast g a0 a1 u0_1 u0_2 u0_3 u0_4 u0_5 u0_6 u0_7 u0_8 u0_9 u0_10 u0_11 u0_12 u0_13 u0_14 u0_15 u0_16 u0_17 u0_18 u0_19 u0_20 u0_21 u0_22 u0_23 u0_24 u0_25 u0_26 u0_27 u0_28 u0_29 u0_30 y1_s) → va_S A s.heap H locs → lv_has ls 4 [(2, .int v2_1)] → W p l e (RM 3 74) s m args below meth c H locs 0 0 Q (F0 m 49 ls []) := by
      intro H locs ls hP hD hS hl
      refine lv_iload_n (pc := 49) hexec hb dX9_isCoast_49 rfl (lv_at hl 0 rfl) ?_
      obtain ⟨hx, hf⟩ := zb_e hf
      cases hf
      exact ke_z hQ hexec hb hr hx hP hD hS dX9_isCoast_50 hlocks
    obtain ⟨n, hz⟩ := lq2_e hz
    have hL14 : ∀ (n : Nat) (v2 : Int32) (v3 : Int32) (H : Heap) (locs : List Loc) (ls : Array Slot), it2 l14 n v2 v3 = some v2_1 → va_P g.1 vwCl (w_X9_isCoast g a0 a1 u0_1 u0_2 u0_3 u0_4 u0_5 u0_6 u0_7 u0_8 u0_9 u0_10 u0_11 u0_12 u0_13 u0_14 u0_15 u0_16 u0_17 u0_18 u0_19 u0_20 u0_21 u0_22 u0_23 u0_24 u0_25 u0_26 u0_27 u0_28 u0_29 u0_30 y1_s) H → va_D A (w_X9_isCoast g a0 a1 u0_1 u0_2 u0_3 u0_4 u0_5 u0_6 u0_7 u0_8 u0_9 u0_10 u0_11 u0_12 u0_13 u0_14 u0_15 u0_16 u0_17 u0_18 u0_19 u0_20 u0_21 u0_22 u0_23 u0_24 u0_25 u0_26 u0_27 u0_28 u0_29 u0_30 y1_s) → va_S A s.heap H locs → lv_has ls 4 [(0, .ref a0), (1, .int p1), (2, .int v2), (3, .int v3)] → W p l e (RM 3 74) s m args below meth c H locs 0 0 Q (F0 m 14 ls []) := by
      intro n
      induction n with
      | zero =>
        intro v2 v3 H locs ls hf hP hD hS hl
        exact it2_0 hf
      | succ n14 ih14 =>
        intro v2 v3 H locs ls hf hP hD hS hl
        obtain ⟨q14, hf, hk14⟩ := it2_e hf
        have hf := (el14 v2 v3).symm.trans hf
        refine lv_iload_n (pc := 14) hexec hb dX9_isCoast_14 rfl (lv_at hl 3 rfl) ?_
        refine lv_iconst (pc := 15) hexec hb dX9_isCoast_15 ki_4 ?_
        refine ki_ge (pc := 16) hexec hb dX9_isCoast_16 (tgt := 49) rfl hf (fun hc hf => ?_) (fun hc hf => ?_)
        · cases sr2 hf hk14
          exact hE14 _ _ _ hP hD hS (lv_sub hl [2] rfl)
        · refine lv_iload_n (pc := 19) hexec hb dX9_isCoast_19 rfl (lv_at hl 2 rfl) ?_
          obtain ⟨j42, ej42, hf⟩ := bvf1 hf
          have hj42 : ∀ (t42 : Int32) (H : Heap) (locs : List Loc) (ls : Array Slot), j42 t42 = some q14 → va_P g.1 vwCl (w_X9_isCoast g a0 a1 u0_1 u0_2 u0_3 u0_4 u0_5 u0_6 u0_7 u0_8 u0_9 u0_10 u0_11 u0_12 u0_13 u0_14 u0_15 u0_16 u0_17 u0_18 u0_19 u0_20 u0_21 u0_22 u0_23 u0_24 u0_25 u0_26 u0_27 u0_28 u0_29 u0_30 y1_s) H → va_D A (w_X9_isCoast g a0 a1 u0_1 u0_2 u0_3 u0_4 u0_5 u0_6 u0_7 u0_8 u0_9 u0_10 u0_11 u0_12 u0_13 u0_14 u0_15 u0_16 u0_17 u0_18 u0_19 u0_20 u0_21 u0_22 u0_23 u0_24 u0_25 u0_26 u0_27 u0_28 u0_29 u0_30 y1_s) → va_S A s.heap H locs → lv_has ls 4 [(0, .ref a0), (1, .int p1), (3, .int v3)] → W p l e (RM 3 74) s m args below meth c H locs 0 0 Q (F0 m 42 ls [.int t42]) := by
            intro t42 H locs ls hf hP hD hS hl
            have hf := (ej42 t42).symm.trans hf
            refine lv_istore_n (pc := 42) hexec hb dX9_isCoast_42 rfl hl (nle rfl) rfl (fun ls (hl : lv_has ls 4 [(2, .int t42), (0, .ref a0), (1, .int p1), (3, .int v3)]) => ?_)
            obtain ⟨v3_1, ev3_1, hf⟩ := bv_e hf
            refine k_iinc (pc := 43) hexec hb dX9_isCoast_43 kq_1 hl (k := 3) rfl ev3_1 (nle rfl) rfl (fun ls (hl : lv_has ls 4 [(3, .int v3_1), (2, .int t42), (0, .ref a0), (1, .int p1)]) => ?_)
            refine lv_goto (pc := 46) hexec hb dX9_isCoast_46 (tgt := 14) rfl ?_
            exact ih14 _ _ _ _ _ (sl2 hf hk14) hP hD hS (lv_sub hl [2, 3, 1, 0] rfl)
          obtain ⟨j37, ej37, hf⟩ := bvf1 hf
          have hj37 : ∀ (u : Unit) (H : Heap) (locs : List Loc) (ls : Array Slot), j37 u = some q14 → va_P g.1 vwCl (w_X9_isCoast g a0 a1 u0_1 u0_2 u0_3 u0_4 u0_5 u0_6 u0_7 u0_8 u0_9 u0_10 u0_11 u0_12 u0_13 u0_14 u0_15 u0_16 u0_17 u0_18 u0_19 u0_20 u0_21 u0_22 u0_23 u0_24 u0_25 u0_26 u0_27 u0_28 u0_29 u0_30 y1_s) H → va_D A (w_X9_isCoast g a0 a1 u0_1 u0_2 u0_3 u0_4 u0_5 u0_6 u0_7 u0_8 u0_9 u0_10 u0_11 u0_12 u0_13 u0_14 u0_15 u0_16 u0_17 u0_18 u0_19 u0_20 u0_21 u0_22 u0_23 u0_24 u0_25 u0_26 u0_27 u0_28 u0_29 u0_30 y1_s) → va_S A s.heap H locs → lv_has ls 4 [(0, .ref a0), (1, .int p1), (3, .int v3)] → W p l e (RM 3 74) s m args below meth c H locs 0 0 Q (F0 m 37 ls []) := by
            intro u H locs ls hf hP hD hS hl
            have hf := (ej37 u).symm.trans hf
            refine lv_iconst (pc := 37) hexec hb dX9_isCoast_37 ki_1 ?_
            refine lv_goto (pc := 38) hexec hb dX9_isCoast_38 (tgt := 42) rfl ?_
            exact hj42 _ _ _ _ hf hP hD hS (lv_sub hl [0, 1, 2] rfl)
          refine kb_ne (pc := 20) hexec hb dX9_isCoast_20 (tgt := 37) rfl hf (fun hc hf => ?_) (fun hc hf => ?_)
          · exact hj37 _ _ _ _ hf hP hD hS (lv_sub hl [0, 1, 3] rfl)
          · refine lv_aload_n (pc := 23) hexec hb dX9_isCoast_23 rfl (lv_at hl 0 rfl) ?_
            refine lv_aload_n (pc := 24) hexec hb dX9_isCoast_24 rfl (lv_at hl 0 rfl) ?_
            refine lv_iload_n (pc := 25) hexec hb dX9_isCoast_25 rfl (lv_at hl 1 rfl) ?_
            refine lv_iload_n (pc := 26) hexec hb dX9_isCoast_26 rfl (lv_at hl 3 rfl) ?_
            refine lv_iconst (pc := 27) hexec hb dX9_isCoast_27 ki_1 ?_
            obtain ⟨r28, hc, hf⟩ := bd1_e hf
            refine kVp (pc := 28) (S := ⟨hexec, hb, hml, hown, hts⟩) hP hD hG hA hS [0, 1] [] [0, 1] (w2 := (w_X9_isCoast g a0 a1 u0_1 u0_2 u0_3 u0_4 u0_5 u0_6 u0_7 u0_8 u0_9 u0_10 u0_11 u0_12 u0_13 u0_14 u0_15 u0_16 u0_17 u0_18 u0_19 u0_20 u0_21 u0_22 u0_23 u0_24 u0_25 u0_26 u0_27 u0_28 u0_29 u0_30 y1_s)) rfl rfl rfl rfl rfl rfl (by decide) (c_X9_away l g a0 a1 _ u0_1 u0_2 u0_3 u0_4 u0_5 u0_6 u0_7 u0_8 u0_9 u0_10 u0_11 u0_12 u0_13 u0_14 u0_15 u0_16 u0_17 u0_18 u0_19 u0_20 u0_21 u0_22 u0_23 u0_24 u0_25 u0_26 u0_27 u0_28 u0_29 u0_30 y1_s p1 v3 1 r28 hc) gX9_isCoast_X9_away rfl hv_X9_away ⟨nle rfl, nle rfl⟩ 9 0 rfl rfl rfl (rest := [.ref a0]) rfl rfl hl.1 (nle rfl) dX9_isCoast_28 (fun H locs hP hD hS => ?_)
            obtain ⟨r31, hc, hf⟩ := bd1_e hf
            refine kVp (pc := 31) (S := ⟨hexec, hb, hml, hown, hts⟩) hP hD hG hA hS [0, 1] [] [0, 1] (w2 := (w_X9_isCoast g a0 a1 u0_1 u0_2 u0_3 u0_4 u0_5 u0_6 u0_7 u0_8 u0_9 u0_10 u0_11 u0_12 u0_13 u0_14 u0_15 u0_16 u0_17 u0_18 u0_19 u0_20 u0_21 u0_22 u0_23 u0_24 u0_25 u0_26 u0_27 u0_28 u0_29 u0_30 y1_s)) rfl rfl rfl rfl rfl rfl (by decide) (c_X9_isLand l g a0 a1 _ u0_1 u0_2 u0_3 u0_4 u0_5 u0_6 u0_7 u0_8 u0_9 u0_10 u0_11 u0_12 u0_13 u0_14 u0_15 u0_16 u0_17 u0_18 u0_19 u0_20 u0_21 u0_22 u0_23 u0_24 u0_25 u0_26 u0_27 u0_28 u0_29 u0_30 y1_s r28 r31 hc) gX9_isCoast_X9_isLand rfl hv_X9_isLand ⟨nle rfl, nle rfl⟩ 9 0 rfl rfl rfl (rest := []) rfl rfl hl.1 (nle rfl) dX9_isCoast_31 (fun H locs hP hD hS => ?_)
            refine kb_ne (pc := 34) hexec hb dX9_isCoast_34 (tgt := 41) rfl hf (fun hc hf => ?_) (fun hc hf => ?_)
            · refine lv_iconst (pc := 41) hexec hb dX9_isCoast_41 ki_0 ?_
              exact hj42 _ _ _ _ hf hP hD hS (lv_sub hl [0, 1, 3] rfl)
            · exact hj37 _ _ _ _ hf hP hD hS (lv_sub hl [0, 1, 3] rfl)
    exact hL14 n _ _ _ _ _ hz hP hD hS (lv_sub hl [2, 3, 1, 0] rfl)
  · refine lv_iconst (pc := 8) hexec hb dX9_isCoast_8 ki_0 ?_
    cases hf
    exact ke_z hQ hexec hb hr (.inl rfl) hP hD hS dX9_isCoast_9 hlocks
abbrev w_X9_depthOf (g : GE) (a0 a1 : Nat) (u0_1 u0_2 u0_3 u0_4 u0_5 u0_6 u0_7 u0_8 u0_9 u0_10 u0_11 u0_12 u0_13 u0_14 u0_15 u0_16 u0_17 u0_18 u0_19 u0_20 u0_21 u0_22 u0_23 u0_24 u0_25 u0_26 u0_27 u0_28 u0_29 u0_30 : Value) (y1_s : Nat → Int32) : va_W := [(a0, .inr (9, [.ref a1, u0_1, u0_2, u0_3, u0_4, u0_5, u0_6, u0_7, u0_8, u0_9, u0_10, u0_11, u0_12, u0_13, u0_14, u0_15, u0_16, u0_17, u0_18, u0_19, u0_20, u0_21, u0_22, u0_23, u0_24, u0_25, u0_26, u0_27, u0_28, u0_29, u0_30])), (a1, .inl (g.2.1 0, 552, .inl y1_s))]
noncomputable def f_X9_depthOf (y1_s : Nat → Int32) (p1 : Int32) : Option (Int32) :=
  ar 1 552 <|
  dv (y1_s (1 : Int32).toNatClampNeg) <|
  bv (p1 / (y1_s (1 : Int32).toNatClampNeg)) fun v2 =>
  ar 1 552 <|
  dv (y1_s (1 : Int32).toNatClampNeg) <|
  bv (p1 - p1 / (y1_s (1 : Int32).toNatClampNeg) * (y1_s (1 : Int32).toNatClampNeg)) fun v3 =>
  ar 0 552 <|
  ar 1 552 <|
  bv (if (if ((y1_s (1 : Int32).toNatClampNeg) - v3) < (v3 + 1) then ((y1_s (1 : Int32).toNatClampNeg) - v3) else (v3 + 1)) < (if ((y1_s (0 : Int32).toNatClampNeg) - v2) < (v2 + 1) then ((y1_s (0 : Int32).toNatClampNeg) - v2) else (v2 + 1)) then (if ((y1_s (1 : Int32).toNatClampNeg) - v3) < (v3 + 1) then ((y1_s (1 : Int32).toNatClampNeg) - v3) else (v3 + 1)) else (if ((y1_s (0 : Int32).toNatClampNeg) - v2) < (v2 + 1) then ((y1_s (0 : Int32).toNatClampNeg) - v2) else (v2 + 1))) fun v4 =>
  bv (fun (v4_1 : Int32) (v5 : Int32) => ((
    bd1 (f_X9_cells y1_s) fun (r57 : Int32) =>
    (if r57 ≤ v5 then (
      some (.inr v4_1)
    ) else (
      bd1 (f_X9_isLand y1_s v5) fun (r66 : Int32) =>
      bv (fun (v4_3 : Int32) => ((
        bv (v5 + 1) fun v5_1 =>
        some (.inl (v4_3, v5_1))
        ) : Option ((Int32 × Int32) ⊕ (Int32)))) fun j108 =>
      (if r66 = 0 then (
        ar 1 552 <|
        dv (y1_s (1 : Int32).toNatClampNeg) <|
        ar 1 552 <|
        dv (y1_s (1 : Int32).toNatClampNeg) <|
        bv (if ((if 0 ≤ ((v5 / (y1_s (1 : Int32).toNatClampNeg)) - v2) then ((v5 / (y1_s (1 : Int32).toNatClampNeg)) - v2) else 0 - ((v5 / (y1_s (1 : Int32).toNatClampNeg)) - v2)) + (if 0 ≤ ((v5 - v5 / (y1_s (1 : Int32).toNatClampNeg) * (y1_s (1 : Int32).toNatClampNeg)) - v3) then ((v5 - v5 / (y1_s (1 : Int32).toNatClampNeg) * (y1_s (1 : Int32).toNatClampNeg)) - v3) else 0 - ((v5 - v5 / (y1_s (1 : Int32).toNatClampNeg) * (y1_s (1 : Int32).toNatClampNeg)) - v3))) < v4_1 then ((if 0 ≤ ((v5 / (y1_s (1 : Int32).toNatClampNeg)) - v2) then ((v5 / (y1_s (1 : Int32).toNatClampNeg)) - v2) else 0 - ((v5 / (y1_s (1 : Int32).toNatClampNeg)) - v2)) + (if 0 ≤ ((v5 - v5 / (y1_s (1 : Int32).toNatClampNeg) * (y1_s (1 : Int32).toNatClampNeg)) - v3) then ((v5 - v5 / (y1_s (1 : Int32).toNatClampNeg) * (y1_s (1 : Int32).toNatClampNeg)) - v3) else 0 - ((v5 - v5 / (y1_s (1 : Int32).toNatClampNeg) * (y1_s (1 : Int32).toNatClampNeg)) - v3))) else v4_1) fun v4_4 =>
        j108 v4_4
      ) else (
        j108 v4_1
      ))
    ))
    ) : Option ((Int32 × Int32) ⊕ (Int32)))) fun l54 =>
  bd1 (lq2 l54 v4 0) fun (v4_2 : Int32) =>
  some v4_2
set_option maxRecDepth 4000 in
theorem c_X9_depthOf (l : Launch) (g : GE) (a0 a1 : Nat) (sz : Nat) (u0_1 u0_2 u0_3 u0_4 u0_5 u0_6 u0_7 u0_8 u0_9 u0_10 u0_11 u0_12 u0_13 u0_14 u0_15 u0_16 u0_17 u0_18 u0_19 u0_20 u0_21 u0_22 u0_23 u0_24 u0_25 u0_26 u0_27 u0_28 u0_29 u0_30 : Value) (y1_s : Nat → Int32) (p1 : Int32) (r : Int32) (hf : f_X9_depthOf y1_s p1 = some r) : MI l g yX9_depthOf wsX9_depthOf 2 45 [.ref a0, .int p1] (w_X9_depthOf g a0 a1 u0_1 u0_2 u0_3 u0_4 u0_5 u0_6 u0_7 u0_8 u0_9 u0_10 u0_11 u0_12 u0_13 u0_14 u0_15 u0_16 u0_17 u0_18 u0_19 u0_20 u0_21 u0_22 u0_23 u0_24 u0_25 u0_26 u0_27 u0_28 u0_29 u0_30 y1_s) sz (some (.int r)) (w_X9_depthOf g a0 a1 u0_1 u0_2 u0_3 u0_4 u0_5 u0_6 u0_7 u0_8 u0_9 u0_10 u0_11 u0_12 u0_13 u0_14 u0_15 u0_16 u0_17 u0_18 u0_19 u0_20 u0_21 u0_22 u0_23 u0_24 u0_25 u0_26 u0_27 u0_28 u0_29 u0_30 y1_s) := by
  refine MI.start (cc := cX9_depthOf) (maxL := 6) (ret := (some .int)) rfl rfl (nle rfl) ?_
  intro p e s m args below meth c A ls Q hQ hexec hb hr hts hown hlocks hml hA hP hD hG hS hl
  unfold f_X9_depthOf at hf
  have hWX9 : ∀ w ∈ wsX90, w.before args s = true := fun w h => hts w (List.mem_cons_of_mem _ (List.mem_append_right _ h))
  have hS : va_S A s.heap s.heap [] := hS
  refine lv_iload_n (pc := 0) hexec hb dX9_depthOf_0 rfl (lv_at hl 1 rfl) ?_
  refine lv_aload_n (pc := 1) hexec hb dX9_depthOf_1 rfl (lv_at hl 0 rfl) ?_
  refine kg_get (pc := 2) hexec hb (own := RX9) hWX9 hown hG hP 0 rfl rfl 0 (nle rfl) (hts _ (List.mem_cons_of_mem _ (List.mem_append_left _ (List.mem_of_getElem? (i := 0) rfl)))) rfl rfl dX9_depthOf_2 ?_
  refine lv_iconst (pc := 5) hexec hb dX9_depthOf_5 ki_1 ?_
  refine kr_iald (pc := 6) hexec hb hG hP 1 rfl hf dX9_depthOf_6 (fun hf => ?_)
  refine kd_idiv (pc := 7) hexec hb dX9_depthOf_7 hf (fun hf => ?_)
  obtain ⟨v2, ev2, hf⟩ := bv_e hf
  refine kn_i ev2 ?_
  refine lv_istore_n (pc := 8) hexec hb dX9_depthOf_8 rfl hl (nle rfl) rfl (fun ls (hl : lv_has ls 6 [(2, .int v2), (0, .ref a0), (1, .int p1)]) => ?_)
  refine lv_iload_n (pc := 9) hexec hb dX9_depthOf_9 rfl (lv_at hl 2 rfl) ?_
  refine lv_aload_n (pc := 10) hexec hb dX9_depthOf_10 rfl (lv_at hl 1 rfl) ?_
  refine kg_get (pc := 11) hexec hb (own := RX9) hWX9 hown hG hP 0 rfl rfl 0 (nle rfl) (hts _ (List.mem_cons_of_mem _ (List.mem_append_left _ (List.mem_of_getElem? (i := 0) rfl)))) rfl rfl dX9_depthOf_11 ?_
  refine lv_iconst (pc := 14) hexec hb dX9_depthOf_14 ki_1 ?_
  refine kr_iald (pc := 15) hexec hb hG hP 1 rfl hf dX9_depthOf_15 (fun hf => ?_)
  refine kd_irem (pc := 16) hexec hb dX9_depthOf_16 hf (fun hf => ?_)
  obtain ⟨v3, ev3, hf⟩ := bv_e hf
  refine kn_i ev3 ?_
  refine lv_istore_n (pc := 17) hexec hb dX9_depthOf_17 rfl hl (nle rfl) rfl (fun ls (hl : lv_has ls 6 [(3, .int v3), (2, .int v2), (0, .ref a0), (1, .int p1)]) => ?_)
  refine lv_iload_n (pc := 18) hexec hb dX9_depthOf_18 rfl (lv_at hl 1 rfl) ?_
  refine lv_iconst (pc := 19) hexec hb dX9_depthOf_19 ki_1 ?_
  refine lv_iadd (pc := 20) hexec hb dX9_depthOf_20 ?_
  refine lv_aload_n (pc := 21) hexec hb dX9_depthOf_21 rfl (lv_at hl 2 rfl) ?_
  refine kg_get (pc := 22) hexec hb (own := RX9) hWX9 hown hG hP 0 rfl rfl 0 (nle rfl) (hts _ (List.mem_cons_of_mem _ (List.mem_append_left _ (List.mem_of_getElem? (i := 0) rfl)))) rfl rfl dX9_depthOf_22 ?_
  refine lv_iconst (pc := 25) hexec hb dX9_depthOf_25 ki_0 ?_
  refine kr_iald (pc := 26) hexec hb hG hP 1 rfl hf dX9_depthOf_26 (fun hf => ?_)
  refine lv_iload_n (pc := 27) hexec hb dX9_depthOf_27 rfl (lv_at hl 1 rfl) ?_
  refine lv_isub (pc := 28) hexec hb dX9_depthOf_28 ?_
  refine va_mmin (pc := 29) hexec hb (hml.trans hl.1.symm) (own := RX9) hown (hts _ (List.mem_cons_of_mem _ (List.mem_append_left _ (List.mem_of_getElem? (i := 1) rfl)))) (hts _ (List.mem_cons_of_mem _ (List.mem_append_left _ (List.mem_of_getElem? (i := 2) rfl)))) (hts _ (List.mem_cons_of_mem _ (List.mem_append_left _ (List.mem_of_getElem? (i := 3) rfl)))) (hts _ (List.mem_cons_of_mem _ (List.mem_append_left _ (List.mem_of_getElem? (i := 4) rfl)))) (nle rfl) (nle rfl) (nle rfl) (nle rfl) dX9_depthOf_29 ?_
  refine lv_iload_n (pc := 32) hexec hb dX9_depthOf_32 rfl (lv_at hl 0 rfl) ?_
  refine lv_iconst (pc := 33) hexec hb dX9_depthOf_33 ki_1 ?_
  refine lv_iadd (pc := 34) hexec hb dX9_depthOf_34 ?_
  refine lv_aload_n (pc := 35) hexec hb dX9_depthOf_35 rfl (lv_at hl 2 rfl) ?_
  refine kg_get (pc := 36) hexec hb (own := RX9) hWX9 hown hG hP 0 rfl rfl 0 (nle rfl) (hts _ (List.mem_cons_of_mem _ (List.mem_append_left _ (List.mem_of_getElem? (i := 0) rfl)))) rfl rfl dX9_depthOf_36 ?_
  refine lv_iconst (pc := 39) hexec hb dX9_depthOf_39 ki_1 ?_
  refine kr_iald (pc := 40) hexec hb hG hP 1 rfl hf dX9_depthOf_40 (fun hf => ?_)
  refine lv_iload_n (pc := 41) hexec hb dX9_depthOf_41 rfl (lv_at hl 0 rfl) ?_
  refine lv_isub (pc := 42) hexec hb dX9_depthOf_42 ?_
  refine va_mmin (pc := 43) hexec hb (hml.trans hl.1.symm) (own := RX9) hown (hts _ (List.mem_cons_of_mem _ (List.mem_append_left _ (List.mem_of_getElem? (i := 1) rfl)))) (hts _ (List.mem_cons_of_mem _ (List.mem_append_left _ (List.mem_of_getElem? (i := 2) rfl)))) (hts _ (List.mem_cons_of_mem _ (List.mem_append_left _ (List.mem_of_getElem? (i := 3) rfl)))) (hts _ (List.mem_cons_of_mem _ (List.mem_append_left _ (List.mem_of_getElem? (i := 4) rfl)))) (nle rfl) (nle rfl) (nle rfl) (nle rfl) dX9_depthOf_43 ?_
  refine va_mmin (pc := 46) hexec hb (hml.trans hl.1.symm) (own := RX9) hown (hts _ (List.mem_cons_of_mem _ (List.mem_append_left _ (List.mem_of_getElem? (i := 1) rfl)))) (hts _ (List.mem_cons_of_mem _ (List.mem_append_left _ (List.mem_of_getElem? (i := 2) rfl)))) (hts _ (List.mem_cons_of_mem _ (List.mem_append_left _ (List.mem_of_getElem? (i := 3) rfl)))) (hts _ (List.mem_cons_of_mem _ (List.mem_append_left _ (List.mem_of_getElem? (i := 4) rfl)))) (nle rfl) (nle rfl) (nle rfl) (nle rfl) dX9_depthOf_46 ?_
  obtain ⟨v4, ev4, hf⟩ := bv_e hf
  refine kn_i ev4 ?_
  refine lv_istore (pc := 49) hexec hb dX9_depthOf_49 hl (nle rfl) rfl (fun ls (hl : lv_has ls 6 [(4, .int v4), (3, .int v3), (2, .int v2), (0, .ref a0), (1, .int p1)]) => ?_)
  refine lv_iconst (pc := 51) hexec hb dX9_depthOf_51 ki_0 ?_
  refine lv_istore (pc := 52) hexec hb dX9_depthOf_52 hl (nle rfl) rfl (fun ls (hl : lv_has ls 6 [(5, .int 0), (4, .int v4), (3, .int v3), (2, .int v2), (0, .ref a0), (1, .int p1)]) => ?_)
  obtain ⟨l54, el54, hf⟩ := bvf2 hf
  obtain ⟨v4_2, hz, hf⟩ := bd1_e hf
  have hE54 : ∀ (H : Heap) (locs : List Loc) (ls : Array Slot), va_P g.1 vwCl (w_X9_depthOf g a0 a1 u0_1 u0_2 u0_3 u0_4 u0_5 u0_6 u0_7 u0_8 u0_9 u0_10 u0_11 u0_12 u0_13 u0_14 u0_15 u0_16 u0_17 u0_18 u0_19 u0_20 u0_21 u0_22 u0_23 u0_24 u0_25 u0_26 u0_27 u0_28 u0_29 u0_30 y1_s) H → va_D A (w_X9_depthOf g a0 a1 u0_1 u0_2 u0_3 u0_4 u0_5 u0_6 u0_7 u0_8 u0_9 u0_10 u0_11 u0_12 u0_13 u0_14 u0_15 u0_16 u0_17 u0_18 u0_19 u0_20 u0_21 u0_22 u0_23 u0_24 u0_25 u0_26 u0_27 u0_28 u0_29 u0_30 y1_s) → va_S A s.heap H locs → lv_has ls 6 [(4, .int v4_2)] → W p l e (RM 2 45) s m args below meth c H locs 0 0 Q (F0 m 114 ls []) := by
    intro H locs ls hP hD hS hl
    refine lv_iload (pc := 114) hexec hb dX9_depthOf_114 (lv_at hl 0 rfl) ?_
    cases hf
    exact ke_i hQ hexec hb hr hP hD hS dX9_depthOf_116 hlocks
  obtain ⟨n, hz⟩ := lq2_e hz
  have hL54 : ∀ (n : Nat) (v4_1 : Int32) (v5 : Int32) (H : Heap) (locs : List Loc) (ls : Array Slot), it2 l54 n v4_1 v5 = some v4_2 → va_P g.1 vwCl (w_X9_depthOf g a0 a1 u0_1 u0_2 u0_3 u0_4 u0_5 u0_6 u0_7 u0_8 u0_9 u0_10 u0_11 u0_12 u0_13 u0_14 u0_15 u0_16 u0_17 u0_18 u0_19 u0_20 u0_21 u0_22 u0_23 u0_24 u0_25 u0_26 u0_27 u0_28 u0_29 u0_30 y1_s) H → va_D A (w_X9_depthOf g a0 a1 u0_1 u0_2 u0_3 u0_4 u0_5 u0_6 u0_7 u0_8 u0_9 u0_10 u0_11 u0_12 u0_13 u0_14 u0_15 u0_16 u0_17 u0_18 u0_19 u0_20 u0_21 u0_22 u0_23 u0_24 u0_25 u0_26 u0_27 u0_28 u0_29 u0_30 y1_s) → va_S A s.heap H locs → lv_has ls 6 [(0, .ref a0), (2, .int v2), (3, .int v3), (4, .int v4_1), (5, .int v5)] → W p l e (RM 2 45) s m args below meth c H locs 0 0 Q (F0 m 54 ls []) := by
    intro n
    induction n with
    | zero =>
      intro v4_1 v5 H locs ls hf hP hD hS hl
      exact it2_0 hf
    | succ n54 ih54 =>
      intro v4_1 v5 H locs ls hf hP hD hS hl
      obtain ⟨q54, hf, hk54⟩ := it2_e hf
      have hf := (el54 v4_1 v5).symm.trans hf
      refine lv_iload (pc := 54) hexec hb dX9_depthOf_54 (lv_at hl 4 rfl) ?_
      refine lv_aload_n (pc := 56) hexec hb dX9_depthOf_56 rfl (lv_at hl 0 rfl) ?_
      obtain ⟨r57, hc, hf⟩ := bd1_e hf
      refine kVp (pc := 57) (S := ⟨hexec, hb, hml, hown, hts⟩) hP hD hG hA hS [0, 1] [] [0, 1] (w2 := (w_X9_depthOf g a0 a1 u0_1 u0_2 u0_3 u0_4 u0_5 u0_6 u0_7 u0_8 u0_9 u0_10 u0_11 u0_12 u0_13 u0_14 u0_15 u0_16 u0_17 u0_18 u0_19 u0_20 u0_21 u0_22 u0_23 u0_24 u0_25 u0_26 u0_27 u0_28 u0_29 u0_30 y1_s)) rfl rfl rfl rfl rfl rfl (by decide) (c_X9_cells l g a0 a1 _ u0_1 u0_2 u0_3 u0_4 u0_5 u0_6 u0_7 u0_8 u0_9 u0_10 u0_11 u0_12 u0_13 u0_14 u0_15 u0_16 u0_17 u0_18 u0_19 u0_20 u0_21 u0_22 u0_23 u0_24 u0_25 u0_26 u0_27 u0_28 u0_29 u0_30 y1_s r57 hc) gX9_depthOf_X9_cells rfl hv_X9_cells ⟨nle rfl, nle rfl⟩ 9 0 rfl rfl rfl (rest := [.int v5]) rfl rfl hl.1 (nle rfl) dX9_depthOf_57 (fun H locs hP hD hS => ?_)
      refine ki_ge (pc := 60) hexec hb dX9_depthOf_60 (tgt := 114) rfl hf (fun hc hf => ?_) (fun hc hf => ?_)
      · cases sr2 hf hk54
        exact hE54 _ _ _ hP hD hS (lv_sub hl [3] rfl)
      · refine lv_aload_n (pc := 63) hexec hb dX9_depthOf_63 rfl (lv_at hl 0 rfl) ?_
        refine lv_iload (pc := 64) hexec hb dX9_depthOf_64 (lv_at hl 4 rfl) ?_
        obtain ⟨r66, hc, hf⟩ := bd1_e hf
        refine kVp (pc := 66) (S := ⟨hexec, hb, hml, hown, hts⟩) hP hD hG hA hS [0, 1] [] [0, 1] (w2 := (w_X9_depthOf g a0 a1 u0_1 u0_2 u0_3 u0_4 u0_5 u0_6 u0_7 u0_8 u0_9 u0_10 u0_11 u0_12 u0_13 u0_14 u0_15 u0_16 u0_17 u0_18 u0_19 u0_20 u0_21 u0_22 u0_23 u0_24 u0_25 u0_26 u0_27 u0_28 u0_29 u0_30 y1_s)) rfl rfl rfl rfl rfl rfl (by decide) (c_X9_isLand l g a0 a1 _ u0_1 u0_2 u0_3 u0_4 u0_5 u0_6 u0_7 u0_8 u0_9 u0_10 u0_11 u0_12 u0_13 u0_14 u0_15 u0_16 u0_17 u0_18 u0_19 u0_20 u0_21 u0_22 u0_23 u0_24 u0_25 u0_26 u0_27 u0_28 u0_29 u0_30 y1_s v5 r66 hc) gX9_depthOf_X9_isLand rfl hv_X9_isLand ⟨nle rfl, nle rfl⟩ 9 0 rfl rfl rfl (rest := []) rfl rfl hl.1 (nle rfl) dX9_depthOf_66 (fun H locs hP hD hS => ?_)
        obtain ⟨j108, ej108, hf⟩ := bvf1 hf
        have hj108 : ∀ (v4_3 : Int32) (H : Heap) (locs : List Loc) (ls : Array Slot), j108 v4_3 = some q54 → va_P g.1 vwCl (w_X9_depthOf g a0 a1 u0_1 u0_2 u0_3 u0_4 u0_5 u0_6 u0_7 u0_8 u0_9 u0_10 u0_11 u0_12 u0_13 u0_14 u0_15 u0_16 u0_17 u0_18 u0_19 u0_20 u0_21 u0_22 u0_23 u0_24 u0_25 u0_26 u0_27 u0_28 u0_29 u0_30 y1_s) H → va_D A (w_X9_depthOf g a0 a1 u0_1 u0_2 u0_3 u0_4 u0_5 u0_6 u0_7 u0_8 u0_9 u0_10 u0_11 u0_12 u0_13 u0_14 u0_15 u0_16 u0_17 u0_18 u0_19 u0_20 u0_21 u0_22 u0_23 u0_24 u0_25 u0_26 u0_27 u0_28 u0_29 u0_30 y1_s) → va_S A s.heap H locs → lv_has ls 6 [(0, .ref a0), (2, .int v2), (3, .int v3), (4, .int v4_3), (5, .int v5)] → W p l e (RM 2 45) s m args below meth c H locs 0 0 Q (F0 m 108 ls []) := by
          intro v4_3 H locs ls hf hP hD hS hl
          have hf := (ej108 v4_3).symm.trans hf
          obtain ⟨v5_1, ev5_1, hf⟩ := bv_e hf
          refine k_iinc (pc := 108) hexec hb dX9_depthOf_108 kq_1 hl (k := 4) rfl ev5_1 (nle rfl) rfl (fun ls (hl : lv_has ls 6 [(5, .int v5_1), (0, .ref a0), (2, .int v2), (3, .int v3), (4, .int v4_3)]) => ?_)
          refine lv_goto (pc := 111) hexec hb dX9_depthOf_111 (tgt := 54) rfl ?_
          exact ih54 _ _ _ _ _ (sl2 hf hk54) hP hD hS (lv_sub hl [1, 2, 3, 4, 0] rfl)
        refine kb_ne (pc := 69) hexec hb dX9_depthOf_69 (tgt := 108) rfl hf (fun hc hf => ?_) (fun hc hf => ?_)
        · exact hj108 _ _ _ _ hf hP hD hS (lv_sub hl [0, 1, 2, 3, 4] rfl)
        · refine lv_iload (pc := 72) hexec hb dX9_depthOf_72 (lv_at hl 3 rfl) ?_
          refine lv_iload (pc := 74) hexec hb dX9_depthOf_74 (lv_at hl 4 rfl) ?_
          refine lv_aload_n (pc := 76) hexec hb dX9_depthOf_76 rfl (lv_at hl 0 rfl) ?_
          refine kg_get (pc := 77) hexec hb (own := RX9) hWX9 hown hG hP 0 rfl rfl 0 (nle rfl) (hts _ (List.mem_cons_of_mem _ (List.mem_append_left _ (List.mem_of_getElem? (i := 0) rfl)))) rfl rfl dX9_depthOf_77 ?_
          refine lv_iconst (pc := 80) hexec hb dX9_depthOf_80 ki_1 ?_
          refine kr_iald (pc := 81) hexec hb hG hP 1 rfl hf dX9_depthOf_81 (fun hf => ?_)
          refine kd_idiv (pc := 82) hexec hb dX9_depthOf_82 hf (fun hf => ?_)
          refine lv_iload_n (pc := 83) hexec hb dX9_depthOf_83 rfl (lv_at hl 1 rfl) ?_
          refine lv_isub (pc := 84) hexec hb dX9_depthOf_84 ?_
          refine va_mabs (pc := 85) hexec hb (hml.trans hl.1.symm) (own := RX9) hown (hts _ (List.mem_cons_of_mem _ (List.mem_append_left _ (List.mem_of_getElem? (i := 5) rfl)))) (hts _ (List.mem_cons_of_mem _ (List.mem_append_left _ (List.mem_of_getElem? (i := 6) rfl)))) (hts _ (List.mem_cons_of_mem _ (List.mem_append_left _ (List.mem_of_getElem? (i := 3) rfl)))) (hts _ (List.mem_cons_of_mem _ (List.mem_append_left _ (List.mem_of_getElem? (i := 7) rfl)))) (nle rfl) (nle rfl) (nle rfl) (nle rfl) dX9_depthOf_85 ?_
          refine lv_iload (pc := 88) hexec hb dX9_depthOf_88 (lv_at hl 4 rfl) ?_
          refine lv_aload_n (pc := 90) hexec hb dX9_depthOf_90 rfl (lv_at hl 0 rfl) ?_
          refine kg_get (pc := 91) hexec hb (own := RX9) hWX9 hown hG hP 0 rfl rfl 0 (nle rfl) (hts _ (List.mem_cons_of_mem _ (List.mem_append_left _ (List.mem_of_getElem? (i := 0) rfl)))) rfl rfl dX9_depthOf_91 ?_
          refine lv_iconst (pc := 94) hexec hb dX9_depthOf_94 ki_1 ?_
          refine kr_iald (pc := 95) hexec hb hG hP 1 rfl hf dX9_depthOf_95 (fun hf => ?_)
          refine kd_irem (pc := 96) hexec hb dX9_depthOf_96 hf (fun hf => ?_)
          refine lv_iload_n (pc := 97) hexec hb dX9_depthOf_97 rfl (lv_at hl 2 rfl) ?_
          refine lv_isub (pc := 98) hexec hb dX9_depthOf_98 ?_
          refine va_mabs (pc := 99) hexec hb (hml.trans hl.1.symm) (own := RX9) hown (hts _ (List.mem_cons_of_mem _ (List.mem_append_left _ (List.mem_of_getElem? (i := 5) rfl)))) (hts _ (List.mem_cons_of_mem _ (List.mem_append_left _ (List.mem_of_getElem? (i := 6) rfl)))) (hts _ (List.mem_cons_of_mem _ (List.mem_append_left _ (List.mem_of_getElem? (i := 3) rfl)))) (hts _ (List.mem_cons_of_mem _ (List.mem_append_left _ (List.mem_of_getElem? (i := 7) rfl)))) (nle rfl) (nle rfl) (nle rfl) (nle rfl) dX9_depthOf_99 ?_
          refine lv_iadd (pc := 102) hexec hb dX9_depthOf_102 ?_
          refine va_mmin (pc := 103) hexec hb (hml.trans hl.1.symm) (own := RX9) hown (hts _ (List.mem_cons_of_mem _ (List.mem_append_left _ (List.mem_of_getElem? (i := 1) rfl)))) (hts _ (List.mem_cons_of_mem _ (List.mem_append_left _ (List.mem_of_getElem? (i := 2) rfl)))) (hts _ (List.mem_cons_of_mem _ (List.mem_append_left _ (List.mem_of_getElem? (i := 3) rfl)))) (hts _ (List.mem_cons_of_mem _ (List.mem_append_left _ (List.mem_of_getElem? (i := 4) rfl)))) (nle rfl) (nle rfl) (nle rfl) (nle rfl) dX9_depthOf_103 ?_
          obtain ⟨v4_4, ev4_4, hf⟩ := bv_e hf
          refine kn_i ev4_4 ?_
          refine lv_istore (pc := 106) hexec hb dX9_depthOf_106 hl (nle rfl) rfl (fun ls (hl : lv_has ls 6 [(4, .int v4_4), (0, .ref a0), (2, .int v2), (3, .int v3), (5, .int v5)]) => ?_)
          exact hj108 _ _ _ _ hf hP hD hS (lv_sub hl [1, 2, 3, 0, 4] rfl)
  exact hL54 n _ _ _ _ _ hz hP hD hS (lv_sub hl [4, 3, 2, 1, 0] rfl)
abbrev w_X9_of (g : GE) (a0 a1 : Nat) (u0_1 u0_2 u0_3 u0_4 u0_5 u0_6 u0_7 u0_8 u0_9 u0_10 u0_11 u0_12 u0_13 u0_14 u0_15 u0_16 u0_17 u0_18 u0_19 u0_20 u0_21 u0_22 u0_23 u0_24 u0_25 u0_26 u0_27 u0_28 u0_29 u0_30 : Value) (y1_s : Nat → Int32) : va_W := [(a0, .inr (9, [.ref a1, u0_1, u0_2, u0_3, u0_4, u0_5, u0_6, u0_7, u0_8, u0_9, u0_10, u0_11, u0_12, u0_13, u0_14, u0_15, u0_16, u0_17, u0_18, u0_19, u0_20, u0_21, u0_22, u0_23, u0_24, u0_25, u0_26, u0_27, u0_28, u0_29, u0_30])), (a1, .inl (g.2.1 0, 552, .inl y1_s))]
noncomputable def f_X9_of (y1_s : Nat → Int32) (p1 : Int32) (p2 : Int32) : Option (Int32) :=
  ar ((440 + (12 * p1)) + p2) 552 <|
  some (y1_s ((440 + (12 * p1)) + p2).toNatClampNeg)
set_option maxRecDepth 4000 in
theorem c_X9_of (l : Launch) (g : GE) (a0 a1 : Nat) (sz : Nat) (u0_1 u0_2 u0_3 u0_4 u0_5 u0_6 u0_7 u0_8 u0_9 u0_10 u0_11 u0_12 u0_13 u0_14 u0_15 u0_16 u0_17 u0_18 u0_19 u0_20 u0_21 u0_22 u0_23 u0_24 u0_25 u0_26 u0_27 u0_28 u0_29 u0_30 : Value) (y1_s : Nat → Int32) (p1 : Int32) (p2 : Int32) (r : Int32) (hf : f_X9_of y1_s p1 p2 = some r) : MI l g yX9_of wsX9_of 1 24 [.ref a0, .int p1, .int p2] (w_X9_of g a0 a1 u0_1 u0_2 u0_3 u0_4 u0_5 u0_6 u0_7 u0_8 u0_9 u0_10 u0_11 u0_12 u0_13 u0_14 u0_15 u0_16 u0_17 u0_18 u0_19 u0_20 u0_21 u0_22 u0_23 u0_24 u0_25 u0_26 u0_27 u0_28 u0_29 u0_30 y1_s) sz (some (.int r)) (w_X9_of g a0 a1 u0_1 u0_2 u0_3 u0_4 u0_5 u0_6 u0_7 u0_8 u0_9 u0_10 u0_11 u0_12 u0_13 u0_14 u0_15 u0_16 u0_17 u0_18 u0_19 u0_20 u0_21 u0_22 u0_23 u0_24 u0_25 u0_26 u0_27 u0_28 u0_29 u0_30 y1_s) := by
  refine MI.start (cc := cX9_of) (maxL := 3) (ret := (some .int)) rfl rfl (nle rfl) ?_
  intro p e s m args below meth c A ls Q hQ hexec hb hr hts hown hlocks hml hA hP hD hG hS hl
  unfold f_X9_of at hf
  have hWX9 : ∀ w ∈ wsX90, w.before args s = true := fun w h => hts w (List.mem_cons_of_mem _ (List.mem_append_right _ h))
  have hS : va_S A s.heap s.heap [] := hS
  refine lv_aload_n (pc := 0) hexec hb dX9_of_0 rfl (lv_at hl 0 rfl) ?_
  refine kg_get (pc := 1) hexec hb (own := RX9) hWX9 hown hG hP 0 rfl rfl 0 (nle rfl) (hts _ (List.mem_cons_of_mem _ (List.mem_append_left _ (List.mem_of_getElem? (i := 0) rfl)))) rfl rfl dX9_of_1 ?_
  refine lv_sipush (pc := 4) hexec hb dX9_of_4 ks_440 ?_
  refine lv_bipush (pc := 7) hexec hb dX9_of_7 kb_12 ?_
  refine lv_iload_n (pc := 9) hexec hb dX9_of_9 rfl (lv_at hl 1 rfl) ?_
  refine lv_imul (pc := 10) hexec hb dX9_of_10 ?_
  refine lv_iadd (pc := 11) hexec hb dX9_of_11 ?_
  refine lv_iload_n (pc := 12) hexec hb dX9_of_12 rfl (lv_at hl 2 rfl) ?_
  refine lv_iadd (pc := 13) hexec hb dX9_of_13 ?_
  refine kr_iald (pc := 14) hexec hb hG hP 1 rfl hf dX9_of_14 (fun hf => ?_)
  cases hf
  exact ke_i hQ hexec hb hr hP hD hS dX9_of_15 hlocks
abbrev w_X9_puts (g : GE) (a0 a1 : Nat) (u0_1 u0_2 u0_3 u0_4 u0_5 u0_6 u0_7 u0_8 u0_9 u0_10 u0_11 u0_12 u0_13 u0_14 u0_15 u0_16 u0_17 u0_18 u0_19 u0_20 u0_21 u0_22 u0_23 u0_24 u0_25 u0_26 u0_27 u0_28 u0_29 u0_30 : Value) (y1_s : Nat → Int32) : va_W := [(a0, .inr (9, [.ref a1, u0_1, u0_2, u0_3, u0_4, u0_5, u0_6, u0_7, u0_8, u0_9, u0_10, u0_11, u0_12, u0_13, u0_14, u0_15, u0_16, u0_17, u0_18, u0_19, u0_20, u0_21, u0_22, u0_23, u0_24, u0_25, u0_26, u0_27, u0_28, u0_29, u0_30])), (a1, .inl (g.2.1 0, 552, .inl y1_s))]
noncomputable def f_X9_puts (y1_s : Nat → Int32) (p1 : Int32) (p2 : Int32) (p3 : Int32) : Option ((Nat → Int32)) :=
  ar ((440 + (12 * p1)) + p2) 552 <| bv (upd y1_s ((440 + (12 * p1)) + p2).toNatClampNeg p3) fun y1_s_1 =>
  some y1_s_1
set_option maxRecDepth 4000 in
theorem c_X9_puts (l : Launch) (g : GE) (a0 a1 : Nat) (sz : Nat) (u0_1 u0_2 u0_3 u0_4 u0_5 u0_6 u0_7 u0_8 u0_9 u0_10 u0_11 u0_12 u0_13 u0_14 u0_15 u0_16 u0_17 u0_18 u0_19 u0_20 u0_21 u0_22 u0_23 u0_24 u0_25 u0_26 u0_27 u0_28 u0_29 u0_30 : Value) (y1_s : Nat → Int32) (p1 : Int32) (p2 : Int32) (p3 : Int32) (o_y1_s : Nat → Int32) (hf : f_X9_puts y1_s p1 p2 p3 = some o_y1_s) : MI l g yX9_puts wsX9_puts 1 24 [.ref a0, .int p1, .int p2, .int p3] (w_X9_puts g a0 a1 u0_1 u0_2 u0_3 u0_4 u0_5 u0_6 u0_7 u0_8 u0_9 u0_10 u0_11 u0_12 u0_13 u0_14 u0_15 u0_16 u0_17 u0_18 u0_19 u0_20 u0_21 u0_22 u0_23 u0_24 u0_25 u0_26 u0_27 u0_28 u0_29 u0_30 y1_s) sz none (w_X9_puts g a0 a1 u0_1 u0_2 u0_3 u0_4 u0_5 u0_6 u0_7 u0_8 u0_9 u0_10 u0_11 u0_12 u0_13 u0_14 u0_15 u0_16 u0_17 u0_18 u0_19 u0_20 u0_21 u0_22 u0_23 u0_24 u0_25 u0_26 u0_27 u0_28 u0_29 u0_30 o_y1_s) := by
  refine MI.start (cc := cX9_puts) (maxL := 4) (ret := none) rfl rfl (nle rfl) ?_
  intro p e s m args below meth c A ls Q hQ hexec hb hr hts hown hlocks hml hA hP hD hG hS hl
  unfold f_X9_puts at hf
  have hWX9 : ∀ w ∈ wsX90, w.before args s = true := fun w h => hts w (List.mem_cons_of_mem _ (List.mem_append_right _ h))
  have hS : va_S A s.heap s.heap [] := hS
  refine lv_aload_n (pc := 0) hexec hb dX9_puts_0 rfl (lv_at hl 0 rfl) ?_
  refine kg_get (pc := 1) hexec hb (own := RX9) hWX9 hown hG hP 0 rfl rfl 0 (nle rfl) (hts _ (List.mem_cons_of_mem _ (List.mem_append_left _ (List.mem_of_getElem? (i := 0) rfl)))) rfl rfl dX9_puts_1 ?_
  refine lv_sipush (pc := 4) hexec hb dX9_puts_4 ks_440 ?_
  refine lv_bipush (pc := 7) hexec hb dX9_puts_7 kb_12 ?_
  refine lv_iload_n (pc := 9) hexec hb dX9_puts_9 rfl (lv_at hl 1 rfl) ?_
  refine lv_imul (pc := 10) hexec hb dX9_puts_10 ?_
  refine lv_iadd (pc := 11) hexec hb dX9_puts_11 ?_
  refine lv_iload_n (pc := 12) hexec hb dX9_puts_12 rfl (lv_at hl 2 rfl) ?_
  refine lv_iadd (pc := 13) hexec hb dX9_puts_13 ?_
  refine lv_iload_n (pc := 14) hexec hb dX9_puts_14 rfl (lv_at hl 3 rfl) ?_
  refine kw_iast (pc := 15) hexec hb hG hP hD hS 1 rfl hf dX9_puts_15 (fun y1_s_1 H locs hf (hP : va_P g.1 vwCl (w_X9_puts g a0 a1 u0_1 u0_2 u0_3 u0_4 u0_5 u0_6 u0_7 u0_8 u0_9 u0_10 u0_11 u0_12 u0_13 u0_14 u0_15 u0_16 u0_17 u0_18 u0_19 u0_20 u0_21 u0_22 u0_23 u0_24 u0_25 u0_26 u0_27 u0_28 u0_29 u0_30 y1_s_1) H) (hD : va_D A (w_X9_puts g a0 a1 u0_1 u0_2 u0_3 u0_4 u0_5 u0_6 u0_7 u0_8 u0_9 u0_10 u0_11 u0_12 u0_13 u0_14 u0_15 u0_16 u0_17 u0_18 u0_19 u0_20 u0_21 u0_22 u0_23 u0_24 u0_25 u0_26 u0_27 u0_28 u0_29 u0_30 y1_s_1)) hS => ?_)
  cases hf
  exact ke_v hQ hexec hb hr hP hD hS dX9_puts_16 hlocks
abbrev w_X9_isHarbour (g : GE) (a0 a1 : Nat) (u0_1 u0_2 u0_3 u0_4 u0_5 u0_6 u0_7 u0_8 u0_9 u0_10 u0_11 u0_12 u0_13 u0_14 u0_15 u0_16 u0_17 u0_18 u0_19 u0_20 u0_21 u0_22 u0_23 u0_24 u0_25 u0_26 u0_27 u0_28 u0_29 u0_30 : Value) (y1_s : Nat → Int32) : va_W := [(a0, .inr (9, [.ref a1, u0_1, u0_2, u0_3, u0_4, u0_5, u0_6, u0_7, u0_8, u0_9, u0_10, u0_11, u0_12, u0_13, u0_14, u0_15, u0_16, u0_17, u0_18, u0_19, u0_20, u0_21, u0_22, u0_23, u0_24, u0_25, u0_26, u0_27, u0_28, u0_29, u0_30])), (a1, .inl (g.2.1 0, 552, .inl y1_s))]
noncomputable def f_X9_isHarbour (y1_s : Nat → Int32) (p1 : Int32) : Option (Int32) :=
  ar 2 552 <|
  bd1 (f_X9_isIn (p1.toInt64) 0 ((((y1_s (2 : Int32).toNatClampNeg) - 1)).toInt64)) fun (r12 : Int32) =>
  zb r12 (some r12)
set_option maxRecDepth 4000 in
theorem c_X9_isHarbour (l : Launch) (g : GE) (a0 a1 : Nat) (sz : Nat) (u0_1 u0_2 u0_3 u0_4 u0_5 u0_6 u0_7 u0_8 u0_9 u0_10 u0_11 u0_12 u0_13 u0_14 u0_15 u0_16 u0_17 u0_18 u0_19 u0_20 u0_21 u0_22 u0_23 u0_24 u0_25 u0_26 u0_27 u0_28 u0_29 u0_30 : Value) (y1_s : Nat → Int32) (p1 : Int32) (r : Int32) (hf : f_X9_isHarbour y1_s p1 = some r) : MI l g yX9_isHarbour wsX9_isHarbour 2 49 [.ref a0, .int p1] (w_X9_isHarbour g a0 a1 u0_1 u0_2 u0_3 u0_4 u0_5 u0_6 u0_7 u0_8 u0_9 u0_10 u0_11 u0_12 u0_13 u0_14 u0_15 u0_16 u0_17 u0_18 u0_19 u0_20 u0_21 u0_22 u0_23 u0_24 u0_25 u0_26 u0_27 u0_28 u0_29 u0_30 y1_s) sz (some (.int r)) (w_X9_isHarbour g a0 a1 u0_1 u0_2 u0_3 u0_4 u0_5 u0_6 u0_7 u0_8 u0_9 u0_10 u0_11 u0_12 u0_13 u0_14 u0_15 u0_16 u0_17 u0_18 u0_19 u0_20 u0_21 u0_22 u0_23 u0_24 u0_25 u0_26 u0_27 u0_28 u0_29 u0_30 y1_s) := by
  refine MI.start (cc := cX9_isHarbour) (maxL := 2) (ret := (some .boolean)) rfl rfl (nle rfl) ?_
  intro p e s m args below meth c A ls Q hQ hexec hb hr hts hown hlocks hml hA hP hD hG hS hl
  unfold f_X9_isHarbour at hf
  have hWX9 : ∀ w ∈ wsX90, w.before args s = true := fun w h => hts w (List.mem_cons_of_mem _ (List.mem_append_right _ h))
  have hS : va_S A s.heap s.heap [] := hS
  refine lv_iload_n (pc := 0) hexec hb dX9_isHarbour_0 rfl (lv_at hl 1 rfl) ?_
  refine lv_i2l (pc := 1) hexec hb dX9_isHarbour_1 rfl ?_
  refine lv_lconst (pc := 2) hexec hb dX9_isHarbour_2 kl_0 ?_
  refine lv_aload_n (pc := 3) hexec hb dX9_isHarbour_3 rfl (lv_at hl 0 rfl) ?_
  refine kg_get (pc := 4) hexec hb (own := RX9) hWX9 hown hG hP 0 rfl rfl 0 (nle rfl) (hts _ (List.mem_cons_of_mem _ (List.mem_append_left _ (List.mem_of_getElem? (i := 0) rfl)))) rfl rfl dX9_isHarbour_4 ?_
  refine lv_iconst (pc := 7) hexec hb dX9_isHarbour_7 ki_2 ?_
  refine kr_iald (pc := 8) hexec hb hG hP 1 rfl hf dX9_isHarbour_8 (fun hf => ?_)
  refine lv_iconst (pc := 9) hexec hb dX9_isHarbour_9 ki_1 ?_
  refine lv_isub (pc := 10) hexec hb dX9_isHarbour_10 ?_
  refine lv_i2l (pc := 11) hexec hb dX9_isHarbour_11 rfl ?_
  obtain ⟨r12, hc, hf⟩ := bd1_e hf
  refine kSp (pc := 12) (S := ⟨hexec, hb, hml, hown, hts⟩) hP hD hG hA hS [] [0, 1] [0, 1] (w2 := (w_X9_isHarbour g a0 a1 u0_1 u0_2 u0_3 u0_4 u0_5 u0_6 u0_7 u0_8 u0_9 u0_10 u0_11 u0_12 u0_13 u0_14 u0_15 u0_16 u0_17 u0_18 u0_19 u0_20 u0_21 u0_22 u0_23 u0_24 u0_25 u0_26 u0_27 u0_28 u0_29 u0_30 y1_s)) rfl rfl rfl rfl rfl rfl (by decide) (c_X9_isIn l g _ (p1.toInt64) 0 ((((y1_s (2 : Int32).toNatClampNeg) - 1)).toInt64) r12 hc) gX9_isHarbour_X9_isIn rfl hs_X9_isIn ⟨nle rfl, nle rfl⟩ (rest := []) rfl rfl hl.1 (nle rfl) dX9_isHarbour_12 (fun H locs hP hD hS => ?_)
  obtain ⟨hx, hf⟩ := zb_e hf
  cases hf
  exact ke_z hQ hexec hb hr hx hP hD hS dX9_isHarbour_15 hlocks
abbrev w_X9_isPlaced (g : GE) (a0 a1 : Nat) (u0_1 u0_2 u0_3 u0_4 u0_5 u0_6 u0_7 u0_8 u0_9 u0_10 u0_11 u0_12 u0_13 u0_14 u0_15 u0_16 u0_17 u0_18 u0_19 u0_20 u0_21 u0_22 u0_23 u0_24 u0_25 u0_26 u0_27 u0_28 u0_29 u0_30 : Value) (y1_s : Nat → Int32) : va_W := [(a0, .inr (9, [.ref a1, u0_1, u0_2, u0_3, u0_4, u0_5, u0_6, u0_7, u0_8, u0_9, u0_10, u0_11, u0_12, u0_13, u0_14, u0_15, u0_16, u0_17, u0_18, u0_19, u0_20, u0_21, u0_22, u0_23, u0_24, u0_25, u0_26, u0_27, u0_28, u0_29, u0_30])), (a1, .inl (g.2.1 0, 552, .inl y1_s))]
noncomputable def f_X9_isPlaced (y1_s : Nat → Int32) (p1 : Int32) : Option (Int32) :=
  bd1 (f_X9_of y1_s p1 2) fun (r3 : Int32) =>
  (if r3 = (-1) then (
    some 0
  ) else (
    some 1
  ))
set_option maxRecDepth 4000 in
theorem c_X9_isPlaced (l : Launch) (g : GE) (a0 a1 : Nat) (sz : Nat) (u0_1 u0_2 u0_3 u0_4 u0_5 u0_6 u0_7 u0_8 u0_9 u0_10 u0_11 u0_12 u0_13 u0_14 u0_15 u0_16 u0_17 u0_18 u0_19 u0_20 u0_21 u0_22 u0_23 u0_24 u0_25 u0_26 u0_27 u0_28 u0_29 u0_30 : Value) (y1_s : Nat → Int32) (p1 : Int32) (r : Int32) (hf : f_X9_isPlaced y1_s p1 = some r) : MI l g yX9_isPlaced wsX9_isPlaced 2 46 [.ref a0, .int p1] (w_X9_isPlaced g a0 a1 u0_1 u0_2 u0_3 u0_4 u0_5 u0_6 u0_7 u0_8 u0_9 u0_10 u0_11 u0_12 u0_13 u0_14 u0_15 u0_16 u0_17 u0_18 u0_19 u0_20 u0_21 u0_22 u0_23 u0_24 u0_25 u0_26 u0_27 u0_28 u0_29 u0_30 y1_s) sz (some (.int r)) (w_X9_isPlaced g a0 a1 u0_1 u0_2 u0_3 u0_4 u0_5 u0_6 u0_7 u0_8 u0_9 u0_10 u0_11 u0_12 u0_13 u0_14 u0_15 u0_16 u0_17 u0_18 u0_19 u0_20 u0_21 u0_22 u0_23 u0_24 u0_25 u0_26 u0_27 u0_28 u0_29 u0_30 y1_s) := by
  refine MI.start (cc := cX9_isPlaced) (maxL := 2) (ret := (some .boolean)) rfl rfl (nle rfl) ?_
  intro p e s m args below meth c A ls Q hQ hexec hb hr hts hown hlocks hml hA hP hD hG hS hl
  unfold f_X9_isPlaced at hf
  have hWX9 : ∀ w ∈ wsX90, w.before args s = true := fun w h => hts w (List.mem_cons_of_mem _ (List.mem_append_right _ h))
  have hS : va_S A s.heap s.heap [] := hS
  refine lv_aload_n (pc := 0) hexec hb dX9_isPlaced_0 rfl (lv_at hl 0 rfl) ?_
  refine lv_iload_n (pc := 1) hexec hb dX9_isPlaced_1 rfl (lv_at hl 1 rfl) ?_
  refine lv_iconst (pc := 2) hexec hb dX9_isPlaced_2 ki_2 ?_
  obtain ⟨r3, hc, hf⟩ := bd1_e hf
  refine kVp (pc := 3) (S := ⟨hexec, hb, hml, hown, hts⟩) hP hD hG hA hS [0, 1] [] [0, 1] (w2 := (w_X9_isPlaced g a0 a1 u0_1 u0_2 u0_3 u0_4 u0_5 u0_6 u0_7 u0_8 u0_9 u0_10 u0_11 u0_12 u0_13 u0_14 u0_15 u0_16 u0_17 u0_18 u0_19 u0_20 u0_21 u0_22 u0_23 u0_24 u0_25 u0_26 u0_27 u0_28 u0_29 u0_30 y1_s)) rfl rfl rfl rfl rfl rfl (by decide) (c_X9_of l g a0 a1 _ u0_1 u0_2 u0_3 u0_4 u0_5 u0_6 u0_7 u0_8 u0_9 u0_10 u0_11 u0_12 u0_13 u0_14 u0_15 u0_16 u0_17 u0_18 u0_19 u0_20 u0_21 u0_22 u0_23 u0_24 u0_25 u0_26 u0_27 u0_28 u0_29 u0_30 y1_s p1 2 r3 hc) gX9_isPlaced_X9_of rfl hv_X9_of ⟨nle rfl, nle rfl⟩ 9 0 rfl rfl rfl (rest := []) rfl rfl hl.1 (nle rfl) dX9_isPlaced_3 (fun H locs hP hD hS => ?_)
  refine lv_iconst (pc := 6) hexec hb dX9_isPlaced_6 ki_m1 ?_
  refine ki_eq (pc := 7) hexec hb dX9_isPlaced_7 (tgt := 14) rfl hf (fun hc hf => ?_) (fun hc hf => ?_)
  · refine lv_iconst (pc := 14) hexec hb dX9_isPlaced_14 ki_0 ?_
    cases hf
    exact ke_z hQ hexec hb hr (.inl rfl) hP hD hS dX9_isPlaced_15 hlocks
  · refine lv_iconst (pc := 10) hexec hb dX9_isPlaced_10 ki_1 ?_
    refine lv_goto (pc := 11) hexec hb dX9_isPlaced_11 (tgt := 15) rfl ?_
    cases hf
    exact ke_z hQ hexec hb hr (.inr rfl) hP hD hS dX9_isPlaced_15 hlocks
abbrev w_X9_harbourAt (g : GE) (a0 a1 : Nat) (u0_1 u0_2 u0_3 u0_4 u0_5 u0_6 u0_7 u0_8 u0_9 u0_10 u0_11 u0_12 u0_13 u0_14 u0_15 u0_16 u0_17 u0_18 u0_19 u0_20 u0_21 u0_22 u0_23 u0_24 u0_25 u0_26 u0_27 u0_28 u0_29 u0_30 : Value) (y1_s : Nat → Int32) : va_W := [(a0, .inr (9, [.ref a1, u0_1, u0_2, u0_3, u0_4, u0_5, u0_6, u0_7, u0_8, u0_9, u0_10, u0_11, u0_12, u0_13, u0_14, u0_15, u0_16, u0_17, u0_18, u0_19, u0_20, u0_21, u0_22, u0_23, u0_24, u0_25, u0_26, u0_27, u0_28, u0_29, u0_30])), (a1, .inl (g.2.1 0, 552, .inl y1_s))]
noncomputable def f_X9_harbourAt (y1_s : Nat → Int32) (p1 : Int32) (p2 : Int32) : Option (Int32) :=
  bv (fun (v3 : Int32) => ((
    ar 2 552 <|
    (if (y1_s (2 : Int32).toNatClampNeg) ≤ v3 then (
      mr (some (-1))
    ) else (
      bv (fun (_ : Unit) => ((
        bv (v3 + 1) fun v3_1 =>
        some (.inl v3_1)
        ) : Option ((Int32) ⊕ (Int32)))) fun j29 =>
      (if v3 = p2 then (
        j29 ()
      ) else (
        bd1 (f_X9_of y1_s v3 0) fun (r20 : Int32) =>
        (if r20 = p1 then (
          mr (some v3)
        ) else (
          j29 ()
        ))
      ))
    ))
    ) : Option ((Int32) ⊕ (Int32)))) fun l2 =>
  lq1 l2 0
set_option maxRecDepth 4000 in
theorem c_X9_harbourAt (l : Launch) (g : GE) (a0 a1 : Nat) (sz : Nat) (u0_1 u0_2 u0_3 u0_4 u0_5 u0_6 u0_7 u0_8 u0_9 u0_10 u0_11 u0_12 u0_13 u0_14 u0_15 u0_16 u0_17 u0_18 u0_19 u0_20 u0_21 u0_22 u0_23 u0_24 u0_25 u0_26 u0_27 u0_28 u0_29 u0_30 : Value) (y1_s : Nat → Int32) (p1 : Int32) (p2 : Int32) (r : Int32) (hf : f_X9_harbourAt y1_s p1 p2 = some r) : MI l g yX9_harbourAt wsX9_harbourAt 2 46 [.ref a0, .int p1, .int p2] (w_X9_harbourAt g a0 a1 u0_1 u0_2 u0_3 u0_4 u0_5 u0_6 u0_7 u0_8 u0_9 u0_10 u0_11 u0_12 u0_13 u0_14 u0_15 u0_16 u0_17 u0_18 u0_19 u0_20 u0_21 u0_22 u0_23 u0_24 u0_25 u0_26 u0_27 u0_28 u0_29 u0_30 y1_s) sz (some (.int r)) (w_X9_harbourAt g a0 a1 u0_1 u0_2 u0_3 u0_4 u0_5 u0_6 u0_7 u0_8 u0_9 u0_10 u0_11 u0_12 u0_13 u0_14 u0_15 u0_16 u0_17 u0_18 u0_19 u0_20 u0_21 u0_22 u0_23 u0_24 u0_25 u0_26 u0_27 u0_28 u0_29 u0_30 y1_s) := by
  refine MI.start (cc := cX9_harbourAt) (maxL := 4) (ret := (some .int)) rfl rfl (nle rfl) ?_
  intro p e s m args below meth c A ls Q hQ hexec hb hr hts hown hlocks hml hA hP hD hG hS hl
  unfold f_X9_harbourAt at hf
  have hWX9 : ∀ w ∈ wsX90, w.before args s = true := fun w h => hts w (List.mem_cons_of_mem _ (List.mem_append_right _ h))
  have hS : va_S A s.heap s.heap [] := hS
  refine lv_iconst (pc := 0) hexec hb dX9_harbourAt_0 ki_0 ?_
  refine lv_istore_n (pc := 1) hexec hb dX9_harbourAt_1 rfl hl (nle rfl) rfl (fun ls (hl : lv_has ls 4 [(3, .int 0), (0, .ref a0), (1, .int p1), (2, .int p2)]) => ?_)
  obtain ⟨l2, el2, hf⟩ := bvf1 hf
  obtain ⟨n, hz⟩ := lq1_e hf
  have hL2 : ∀ (n : Nat) (v3 : Int32) (H : Heap) (locs : List Loc) (ls : Array Slot), it1 l2 n v3 = some r → va_P g.1 vwCl (w_X9_harbourAt g a0 a1 u0_1 u0_2 u0_3 u0_4 u0_5 u0_6 u0_7 u0_8 u0_9 u0_10 u0_11 u0_12 u0_13 u0_14 u0_15 u0_16 u0_17 u0_18 u0_19 u0_20 u0_21 u0_22 u0_23 u0_24 u0_25 u0_26 u0_27 u0_28 u0_29 u0_30 y1_s) H → va_D A (w_X9_harbourAt g a0 a1 u0_1 u0_2 u0_3 u0_4 u0_5 u0_6 u0_7 u0_8 u0_9 u0_10 u0_11 u0_12 u0_13 u0_14 u0_15 u0_16 u0_17 u0_18 u0_19 u0_20 u0_21 u0_22 u0_23 u0_24 u0_25 u0_26 u0_27 u0_28 u0_29 u0_30 y1_s) → va_S A s.heap H locs → lv_has ls 4 [(0, .ref a0), (1, .int p1), (2, .int p2), (3, .int v3)] → W p l e (RM 2 46) s m args below meth c H locs 0 0 Q (F0 m 2 ls []) := by
    intro n
    induction n with
    | zero =>
      intro v3 H locs ls hf hP hD hS hl
      exact it1_0 hf
    | succ n2 ih2 =>
      intro v3 H locs ls hf hP hD hS hl
      obtain ⟨q2, hf, hk2⟩ := it1_e hf
      have hf := (el2 v3).symm.trans hf
      refine lv_iload_n (pc := 2) hexec hb dX9_harbourAt_2 rfl (lv_at hl 3 rfl) ?_
      refine lv_aload_n (pc := 3) hexec hb dX9_harbourAt_3 rfl (lv_at hl 0 rfl) ?_
      refine kg_get (pc := 4) hexec hb (own := RX9) hWX9 hown hG hP 0 rfl rfl 0 (nle rfl) (hts _ (List.mem_cons_of_mem _ (List.mem_append_left _ (List.mem_of_getElem? (i := 0) rfl)))) rfl rfl dX9_harbourAt_4 ?_
      refine lv_iconst (pc := 7) hexec hb dX9_harbourAt_7 ki_2 ?_
      refine kr_iald (pc := 8) hexec hb hG hP 1 rfl hf dX9_harbourAt_8 (fun hf => ?_)
      refine ki_ge (pc := 9) hexec hb dX9_harbourAt_9 (tgt := 35) rfl hf (fun hc hf => ?_) (fun hc hf => ?_)
      · have hf := mk1 hf hk2
        refine lv_iconst (pc := 35) hexec hb dX9_harbourAt_35 ki_m1 ?_
        cases hf
        exact ke_i hQ hexec hb hr hP hD hS dX9_harbourAt_36 hlocks
      · refine lv_iload_n (pc := 12) hexec hb dX9_harbourAt_12 rfl (lv_at hl 3 rfl) ?_
        refine lv_iload_n (pc := 13) hexec hb dX9_harbourAt_13 rfl (lv_at hl 2 rfl) ?_
        obtain ⟨j29, ej29, hf⟩ := bvf1 hf
        have hj29 : ∀ (u : Unit) (H : Heap) (locs : List Loc) (ls : Array Slot), j29 u = some q2 → va_P g.1 vwCl (w_X9_harbourAt g a0 a1 u0_1 u0_2 u0_3 u0_4 u0_5 u0_6 u0_7 u0_8 u0_9 u0_10 u0_11 u0_12 u0_13 u0_14 u0_15 u0_16 u0_17 u0_18 u0_19 u0_20 u0_21 u0_22 u0_23 u0_24 u0_25 u0_26 u0_27 u0_28 u0_29 u0_30 y1_s) H → va_D A (w_X9_harbourAt g a0 a1 u0_1 u0_2 u0_3 u0_4 u0_5 u0_6 u0_7 u0_8 u0_9 u0_10 u0_11 u0_12 u0_13 u0_14 u0_15 u0_16 u0_17 u0_18 u0_19 u0_20 u0_21 u0_22 u0_23 u0_24 u0_25 u0_26 u0_27 u0_28 u0_29 u0_30 y1_s) → va_S A s.heap H locs → lv_has ls 4 [(0, .ref a0), (1, .int p1), (2, .int p2), (3, .int v3)] → W p l e (RM 2 46) s m args below meth c H locs 0 0 Q (F0 m 29 ls []) := by
          intro u H locs ls hf hP hD hS hl
          have hf := (ej29 u).symm.trans hf
          obtain ⟨v3_1, ev3_1, hf⟩ := bv_e hf
          refine k_iinc (pc := 29) hexec hb dX9_harbourAt_29 kq_1 hl (k := 3) rfl ev3_1 (nle rfl) rfl (fun ls (hl : lv_has ls 4 [(3, .int v3_1), (0, .ref a0), (1, .int p1), (2, .int p2)]) => ?_)
          refine lv_goto (pc := 32) hexec hb dX9_harbourAt_32 (tgt := 2) rfl ?_
          exact ih2 _ _ _ _ (sl1 hf hk2) hP hD hS (lv_sub hl [1, 2, 3, 0] rfl)
        refine ki_eq (pc := 14) hexec hb dX9_harbourAt_14 (tgt := 29) rfl hf (fun hc hf => ?_) (fun hc hf => ?_)
        · exact hj29 _ _ _ _ hf hP hD hS (lv_sub hl [0, 1, 2, 3] rfl)
        · refine lv_aload_n (pc := 17) hexec hb dX9_harbourAt_17 rfl (lv_at hl 0 rfl) ?_
          refine lv_iload_n (pc := 18) hexec hb dX9_harbourAt_18 rfl (lv_at hl 3 rfl) ?_
          refine lv_iconst (pc := 19) hexec hb dX9_harbourAt_19 ki_0 ?_
          obtain ⟨r20, hc, hf⟩ := bd1_e hf
          refine kVp (pc := 20) (S := ⟨hexec, hb, hml, hown, hts⟩) hP hD hG hA hS [0, 1] [] [0, 1] (w2 := (w_X9_harbourAt g a0 a1 u0_1 u0_2 u0_3 u0_4 u0_5 u0_6 u0_7 u0_8 u0_9 u0_10 u0_11 u0_12 u0_13 u0_14 u0_15 u0_16 u0_17 u0_18 u0_19 u0_20 u0_21 u0_22 u0_23 u0_24 u0_25 u0_26 u0_27 u0_28 u0_29 u0_30 y1_s)) rfl rfl rfl rfl rfl rfl (by decide) (c_X9_of l g a0 a1 _ u0_1 u0_2 u0_3 u0_4 u0_5 u0_6 u0_7 u0_8 u0_9 u0_10 u0_11 u0_12 u0_13 u0_14 u0_15 u0_16 u0_17 u0_18 u0_19 u0_20 u0_21 u0_22 u0_23 u0_24 u0_25 u0_26 u0_27 u0_28 u0_29 u0_30 y1_s v3 0 r20 hc) gX9_harbourAt_X9_of rfl hv_X9_of ⟨nle rfl, nle rfl⟩ 9 0 rfl rfl rfl (rest := []) rfl rfl hl.1 (nle rfl) dX9_harbourAt_20 (fun H locs hP hD hS => ?_)
          refine lv_iload_n (pc := 23) hexec hb dX9_harbourAt_23 rfl (lv_at hl 1 rfl) ?_
          refine ki_ne (pc := 24) hexec hb dX9_harbourAt_24 (tgt := 29) rfl hf (fun hc hf => ?_) (fun hc hf => ?_)
          · exact hj29 _ _ _ _ hf hP hD hS (lv_sub hl [0, 1, 2, 3] rfl)
          · have hf := mk1 hf hk2
            refine lv_iload_n (pc := 27) hexec hb dX9_harbourAt_27 rfl (lv_at hl 3 rfl) ?_
            cases hf
            exact ke_i hQ hexec hb hr hP hD hS dX9_harbourAt_28 hlocks
  exact hL2 n _ _ _ _ hz hP hD hS (lv_sub hl [1, 2, 3, 0] rfl)
abbrev w_X9_letterIn (g : GE) (a0 a1 : Nat) (u0_1 u0_2 u0_3 u0_4 u0_5 u0_6 u0_7 u0_8 u0_9 u0_10 u0_11 u0_12 u0_13 u0_14 u0_15 u0_16 u0_17 u0_18 u0_19 u0_20 u0_21 u0_22 u0_23 u0_24 u0_25 u0_26 u0_27 u0_28 u0_29 u0_30 : Value) (y1_s : Nat → Int32) : va_W := [(a0, .inr (9, [.ref a1, u0_1, u0_2, u0_3, u0_4, u0_5, u0_6, u0_7, u0_8, u0_9, u0_10, u0_11, u0_12, u0_13, u0_14, u0_15, u0_16, u0_17, u0_18, u0_19, u0_20, u0_21, u0_22, u0_23, u0_24, u0_25, u0_26, u0_27, u0_28, u0_29, u0_30])), (a1, .inl (g.2.1 0, 552, .inl y1_s))]
noncomputable def f_X9_letterIn (y1_s : Nat → Int32) (p1 : Int32) (p2 : Int32) (p3 : Int32) : Option (Int32) :=
  bv (fun (v4 : Int32) => ((
    bd1 (f_X9_of y1_s p1 3) fun (r8 : Int32) =>
    (if r8 ≤ v4 then (
      mr (some (-1))
    ) else (
      (if p3 = (-1) then (
        mr (some (-1))
      ) else (
        bd1 (f_X9_of y1_s p1 0) fun (r23 : Int32) =>
        bd1 (f_X9_away y1_s r23 p2 (v4 + 1)) fun (r31 : Int32) =>
        (if r31 = p3 then (
          mr (bd1 (f_X9_of y1_s p1 (4 + v4)) fun (r44 : Int32) =>
          some r44)
        ) else (
          bv (v4 + 1) fun v4_1 =>
          some (.inl v4_1)
        ))
      ))
    ))
    ) : Option ((Int32) ⊕ (Int32)))) fun l3 =>
  lq1 l3 0
set_option maxRecDepth 4000 in
theorem c_X9_letterIn (l : Launch) (g : GE) (a0 a1 : Nat) (sz : Nat) (u0_1 u0_2 u0_3 u0_4 u0_5 u0_6 u0_7 u0_8 u0_9 u0_10 u0_11 u0_12 u0_13 u0_14 u0_15 u0_16 u0_17 u0_18 u0_19 u0_20 u0_21 u0_22 u0_23 u0_24 u0_25 u0_26 u0_27 u0_28 u0_29 u0_30 : Value) (y1_s : Nat → Int32) (p1 : Int32) (p2 : Int32) (p3 : Int32) (r : Int32) (hf : f_X9_letterIn y1_s p1 p2 p3 = some r) : MI l g yX9_letterIn wsX9_letterIn 3 74 [.ref a0, .int p1, .int p2, .int p3] (w_X9_letterIn g a0 a1 u0_1 u0_2 u0_3 u0_4 u0_5 u0_6 u0_7 u0_8 u0_9 u0_10 u0_11 u0_12 u0_13 u0_14 u0_15 u0_16 u0_17 u0_18 u0_19 u0_20 u0_21 u0_22 u0_23 u0_24 u0_25 u0_26 u0_27 u0_28 u0_29 u0_30 y1_s) sz (some (.int r)) (w_X9_letterIn g a0 a1 u0_1 u0_2 u0_3 u0_4 u0_5 u0_6 u0_7 u0_8 u0_9 u0_10 u0_11 u0_12 u0_13 u0_14 u0_15 u0_16 u0_17 u0_18 u0_19 u0_20 u0_21 u0_22 u0_23 u0_24 u0_25 u0_26 u0_27 u0_28 u0_29 u0_30 y1_s) := by
  refine MI.start (cc := cX9_letterIn) (maxL := 5) (ret := (some .int)) rfl rfl (nle rfl) ?_
  intro p e s m args below meth c A ls Q hQ hexec hb hr hts hown hlocks hml hA hP hD hG hS hl
  unfold f_X9_letterIn at hf
  have hWX9 : ∀ w ∈ wsX90, w.before args s = true := fun w h => hts w (List.mem_cons_of_mem _ (List.mem_append_right _ h))
  have hS : va_S A s.heap s.heap [] := hS
  refine lv_iconst (pc := 0) hexec hb dX9_letterIn_0 ki_0 ?_
  refine lv_istore (pc := 1) hexec hb dX9_letterIn_1 hl (nle rfl) rfl (fun ls (hl : lv_has ls 5 [(4, .int 0), (0, .ref a0), (1, .int p1), (2, .int p2), (3, .int p3)]) => ?_)
  obtain ⟨l3, el3, hf⟩ := bvf1 hf
  obtain ⟨n, hz⟩ := lq1_e hf
  have hL3 : ∀ (n : Nat) (v4 : Int32) (H : Heap) (locs : List Loc) (ls : Array Slot), it1 l3 n v4 = some r → va_P g.1 vwCl (w_X9_letterIn g a0 a1 u0_1 u0_2 u0_3 u0_4 u0_5 u0_6 u0_7 u0_8 u0_9 u0_10 u0_11 u0_12 u0_13 u0_14 u0_15 u0_16 u0_17 u0_18 u0_19 u0_20 u0_21 u0_22 u0_23 u0_24 u0_25 u0_26 u0_27 u0_28 u0_29 u0_30 y1_s) H → va_D A (w_X9_letterIn g a0 a1 u0_1 u0_2 u0_3 u0_4 u0_5 u0_6 u0_7 u0_8 u0_9 u0_10 u0_11 u0_12 u0_13 u0_14 u0_15 u0_16 u0_17 u0_18 u0_19 u0_20 u0_21 u0_22 u0_23 u0_24 u0_25 u0_26 u0_27 u0_28 u0_29 u0_30 y1_s) → va_S A s.heap H locs → lv_has ls 5 [(0, .ref a0), (1, .int p1), (2, .int p2), (3, .int p3), (4, .int v4)] → W p l e (RM 3 74) s m args below meth c H locs 0 0 Q (F0 m 3 ls []) := by
    intro n
    induction n with
    | zero =>
      intro v4 H locs ls hf hP hD hS hl
      exact it1_0 hf
    | succ n3 ih3 =>
      intro v4 H locs ls hf hP hD hS hl
      obtain ⟨q3, hf, hk3⟩ := it1_e hf
      have hf := (el3 v4).symm.trans hf
      refine lv_iload (pc := 3) hexec hb dX9_letterIn_3 (lv_at hl 4 rfl) ?_
      refine lv_aload_n (pc := 5) hexec hb dX9_letterIn_5 rfl (lv_at hl 0 rfl) ?_
      refine lv_iload_n (pc := 6) hexec hb dX9_letterIn_6 rfl (lv_at hl 1 rfl) ?_
      refine lv_iconst (pc := 7) hexec hb dX9_letterIn_7 ki_3 ?_
      obtain ⟨r8, hc, hf⟩ := bd1_e hf
      refine kVp (pc := 8) (S := ⟨hexec, hb, hml, hown, hts⟩) hP hD hG hA hS [0, 1] [] [0, 1] (w2 := (w_X9_letterIn g a0 a1 u0_1 u0_2 u0_3 u0_4 u0_5 u0_6 u0_7 u0_8 u0_9 u0_10 u0_11 u0_12 u0_13 u0_14 u0_15 u0_16 u0_17 u0_18 u0_19 u0_20 u0_21 u0_22 u0_23 u0_24 u0_25 u0_26 u0_27 u0_28 u0_29 u0_30 y1_s)) rfl rfl rfl rfl rfl rfl (by decide) (c_X9_of l g a0 a1 _ u0_1 u0_2 u0_3 u0_4 u0_5 u0_6 u0_7 u0_8 u0_9 u0_10 u0_11 u0_12 u0_13 u0_14 u0_15 u0_16 u0_17 u0_18 u0_19 u0_20 u0_21 u0_22 u0_23 u0_24 u0_25 u0_26 u0_27 u0_28 u0_29 u0_30 y1_s p1 3 r8 hc) gX9_letterIn_X9_of rfl hv_X9_of ⟨nle rfl, nle rfl⟩ 9 0 rfl rfl rfl (rest := [.int v4]) rfl rfl hl.1 (nle rfl) dX9_letterIn_8 (fun H locs hP hD hS => ?_)
      refine ki_ge (pc := 11) hexec hb dX9_letterIn_11 (tgt := 54) rfl hf (fun hc hf => ?_) (fun hc hf => ?_)
      · have hf := mk1 hf hk3
        refine lv_iconst (pc := 54) hexec hb dX9_letterIn_54 ki_m1 ?_
        cases hf
        exact ke_i hQ hexec hb hr hP hD hS dX9_letterIn_55 hlocks
      · refine lv_iload_n (pc := 14) hexec hb dX9_letterIn_14 rfl (lv_at hl 3 rfl) ?_
        refine lv_iconst (pc := 15) hexec hb dX9_letterIn_15 ki_m1 ?_
        refine ki_eq (pc := 16) hexec hb dX9_letterIn_16 (tgt := 54) rfl hf (fun hc hf => ?_) (fun hc hf => ?_)
        · have hf := mk1 hf hk3
          refine lv_iconst (pc := 54) hexec hb dX9_letterIn_54 ki_m1 ?_
          cases hf
          exact ke_i hQ hexec hb hr hP hD hS dX9_letterIn_55 hlocks
        · refine lv_aload_n (pc := 19) hexec hb dX9_letterIn_19 rfl (lv_at hl 0 rfl) ?_
          refine lv_aload_n (pc := 20) hexec hb dX9_letterIn_20 rfl (lv_at hl 0 rfl) ?_
          refine lv_iload_n (pc := 21) hexec hb dX9_letterIn_21 rfl (lv_at hl 1 rfl) ?_
          refine lv_iconst (pc := 22) hexec hb dX9_letterIn_22 ki_0 ?_
          obtain ⟨r23, hc, hf⟩ := bd1_e hf
          refine kVp (pc := 23) (S := ⟨hexec, hb, hml, hown, hts⟩) hP hD hG hA hS [0, 1] [] [0, 1] (w2 := (w_X9_letterIn g a0 a1 u0_1 u0_2 u0_3 u0_4 u0_5 u0_6 u0_7 u0_8 u0_9 u0_10 u0_11 u0_12 u0_13 u0_14 u0_15 u0_16 u0_17 u0_18 u0_19 u0_20 u0_21 u0_22 u0_23 u0_24 u0_25 u0_26 u0_27 u0_28 u0_29 u0_30 y1_s)) rfl rfl rfl rfl rfl rfl (by decide) (c_X9_of l g a0 a1 _ u0_1 u0_2 u0_3 u0_4 u0_5 u0_6 u0_7 u0_8 u0_9 u0_10 u0_11 u0_12 u0_13 u0_14 u0_15 u0_16 u0_17 u0_18 u0_19 u0_20 u0_21 u0_22 u0_23 u0_24 u0_25 u0_26 u0_27 u0_28 u0_29 u0_30 y1_s p1 0 r23 hc) gX9_letterIn_X9_of rfl hv_X9_of ⟨nle rfl, nle rfl⟩ 9 0 rfl rfl rfl (rest := [.ref a0]) rfl rfl hl.1 (nle rfl) dX9_letterIn_23 (fun H locs hP hD hS => ?_)
          refine lv_iload_n (pc := 26) hexec hb dX9_letterIn_26 rfl (lv_at hl 2 rfl) ?_
          refine lv_iload (pc := 27) hexec hb dX9_letterIn_27 (lv_at hl 4 rfl) ?_
          refine lv_iconst (pc := 29) hexec hb dX9_letterIn_29 ki_1 ?_
          refine lv_iadd (pc := 30) hexec hb dX9_letterIn_30 ?_
          obtain ⟨r31, hc, hf⟩ := bd1_e hf
          refine kVp (pc := 31) (S := ⟨hexec, hb, hml, hown, hts⟩) hP hD hG hA hS [0, 1] [] [0, 1] (w2 := (w_X9_letterIn g a0 a1 u0_1 u0_2 u0_3 u0_4 u0_5 u0_6 u0_7 u0_8 u0_9 u0_10 u0_11 u0_12 u0_13 u0_14 u0_15 u0_16 u0_17 u0_18 u0_19 u0_20 u0_21 u0_22 u0_23 u0_24 u0_25 u0_26 u0_27 u0_28 u0_29 u0_30 y1_s)) rfl rfl rfl rfl rfl rfl (by decide) (c_X9_away l g a0 a1 _ u0_1 u0_2 u0_3 u0_4 u0_5 u0_6 u0_7 u0_8 u0_9 u0_10 u0_11 u0_12 u0_13 u0_14 u0_15 u0_16 u0_17 u0_18 u0_19 u0_20 u0_21 u0_22 u0_23 u0_24 u0_25 u0_26 u0_27 u0_28 u0_29 u0_30 y1_s r23 p2 (v4 + 1) r31 hc) gX9_letterIn_X9_away rfl hv_X9_away ⟨nle rfl, nle rfl⟩ 9 0 rfl rfl rfl (rest := []) rfl rfl hl.1 (nle rfl) dX9_letterIn_31 (fun H locs hP hD hS => ?_)
          refine lv_iload_n (pc := 34) hexec hb dX9_letterIn_34 rfl (lv_at hl 3 rfl) ?_
          refine ki_ne (pc := 35) hexec hb dX9_letterIn_35 (tgt := 48) rfl hf (fun hc hf => ?_) (fun hc hf => ?_)
          · obtain ⟨v4_1, ev4_1, hf⟩ := bv_e hf
            refine k_iinc (pc := 48) hexec hb dX9_letterIn_48 kq_1 hl (k := 4) rfl ev4_1 (nle rfl) rfl (fun ls (hl : lv_has ls 5 [(4, .int v4_1), (0, .ref a0), (1, .int p1), (2, .int p2), (3, .int p3)]) => ?_)
            refine lv_goto (pc := 51) hexec hb dX9_letterIn_51 (tgt := 3) rfl ?_
            exact ih3 _ _ _ _ (sl1 hf hk3) hP hD hS (lv_sub hl [1, 2, 3, 4, 0] rfl)
          · have hf := mk1 hf hk3
            refine lv_aload_n (pc := 38) hexec hb dX9_letterIn_38 rfl (lv_at hl 0 rfl) ?_
            refine lv_iload_n (pc := 39) hexec hb dX9_letterIn_39 rfl (lv_at hl 1 rfl) ?_
            refine lv_iconst (pc := 40) hexec hb dX9_letterIn_40 ki_4 ?_
            refine lv_iload (pc := 41) hexec hb dX9_letterIn_41 (lv_at hl 4 rfl) ?_
            refine lv_iadd (pc := 43) hexec hb dX9_letterIn_43 ?_
            obtain ⟨r44, hc, hf⟩ := bd1_e hf
            refine kVp (pc := 44) (S := ⟨hexec, hb, hml, hown, hts⟩) hP hD hG hA hS [0, 1] [] [0, 1] (w2 := (w_X9_letterIn g a0 a1 u0_1 u0_2 u0_3 u0_4 u0_5 u0_6 u0_7 u0_8 u0_9 u0_10 u0_11 u0_12 u0_13 u0_14 u0_15 u0_16 u0_17 u0_18 u0_19 u0_20 u0_21 u0_22 u0_23 u0_24 u0_25 u0_26 u0_27 u0_28 u0_29 u0_30 y1_s)) rfl rfl rfl rfl rfl rfl (by decide) (c_X9_of l g a0 a1 _ u0_1 u0_2 u0_3 u0_4 u0_5 u0_6 u0_7 u0_8 u0_9 u0_10 u0_11 u0_12 u0_13 u0_14 u0_15 u0_16 u0_17 u0_18 u0_19 u0_20 u0_21 u0_22 u0_23 u0_24 u0_25 u0_26 u0_27 u0_28 u0_29 u0_30 y1_s p1 (4 + v4) r44 hc) gX9_letterIn_X9_of rfl hv_X9_of ⟨nle rfl, nle rfl⟩ 9 0 rfl rfl rfl (rest := []) rfl rfl hl.1 (nle rfl) dX9_letterIn_44 (fun H locs hP hD hS => ?_)
            cases hf
            exact ke_i hQ hexec hb hr hP hD hS dX9_letterIn_47 hlocks
  exact hL3 n _ _ _ _ hz hP hD hS (lv_sub hl [1, 2, 3, 4, 0] rfl)
abbrev w_X9_letterOf (g : GE) (a0 a1 : Nat) (u0_1 u0_2 u0_3 u0_4 u0_5 u0_6 u0_7 u0_8 u0_9 u0_10 u0_11 u0_12 u0_13 u0_14 u0_15 u0_16 u0_17 u0_18 u0_19 u0_20 u0_21 u0_22 u0_23 u0_24 u0_25 u0_26 u0_27 u0_28 u0_29 u0_30 : Value) (y1_s : Nat → Int32) : va_W := [(a0, .inr (9, [.ref a1, u0_1, u0_2, u0_3, u0_4, u0_5, u0_6, u0_7, u0_8, u0_9, u0_10, u0_11, u0_12, u0_13, u0_14, u0_15, u0_16, u0_17, u0_18, u0_19, u0_20, u0_21, u0_22, u0_23, u0_24, u0_25, u0_26, u0_27, u0_28, u0_29, u0_30])), (a1, .inl (g.2.1 0, 552, .inl y1_s))]
noncomputable def f_X9_letterOf (y1_s : Nat → Int32) (p1 : Int32) (p2 : Int32) : Option (Int32) :=
  bd1 (f_X9_isPlaced y1_s p1) fun (r2 : Int32) =>
  (if r2 = 0 then (
    some (-1)
  ) else (
    bd1 (f_X9_of y1_s p1 2) fun (r13 : Int32) =>
    bd1 (f_X9_letterIn y1_s p1 r13 p2) fun (r17 : Int32) =>
    some r17
  ))
set_option maxRecDepth 4000 in
theorem c_X9_letterOf (l : Launch) (g : GE) (a0 a1 : Nat) (sz : Nat) (u0_1 u0_2 u0_3 u0_4 u0_5 u0_6 u0_7 u0_8 u0_9 u0_10 u0_11 u0_12 u0_13 u0_14 u0_15 u0_16 u0_17 u0_18 u0_19 u0_20 u0_21 u0_22 u0_23 u0_24 u0_25 u0_26 u0_27 u0_28 u0_29 u0_30 : Value) (y1_s : Nat → Int32) (p1 : Int32) (p2 : Int32) (r : Int32) (hf : f_X9_letterOf y1_s p1 p2 = some r) : MI l g yX9_letterOf wsX9_letterOf 4 98 [.ref a0, .int p1, .int p2] (w_X9_letterOf g a0 a1 u0_1 u0_2 u0_3 u0_4 u0_5 u0_6 u0_7 u0_8 u0_9 u0_10 u0_11 u0_12 u0_13 u0_14 u0_15 u0_16 u0_17 u0_18 u0_19 u0_20 u0_21 u0_22 u0_23 u0_24 u0_25 u0_26 u0_27 u0_28 u0_29 u0_30 y1_s) sz (some (.int r)) (w_X9_letterOf g a0 a1 u0_1 u0_2 u0_3 u0_4 u0_5 u0_6 u0_7 u0_8 u0_9 u0_10 u0_11 u0_12 u0_13 u0_14 u0_15 u0_16 u0_17 u0_18 u0_19 u0_20 u0_21 u0_22 u0_23 u0_24 u0_25 u0_26 u0_27 u0_28 u0_29 u0_30 y1_s) := by
  refine MI.start (cc := cX9_letterOf) (maxL := 3) (ret := (some .int)) rfl rfl (nle rfl) ?_
  intro p e s m args below meth c A ls Q hQ hexec hb hr hts hown hlocks hml hA hP hD hG hS hl
  unfold f_X9_letterOf at hf
  have hWX9 : ∀ w ∈ wsX90, w.before args s = true := fun w h => hts w (List.mem_cons_of_mem _ (List.mem_append_right _ h))
  have hS : va_S A s.heap s.heap [] := hS
  refine lv_aload_n (pc := 0) hexec hb dX9_letterOf_0 rfl (lv_at hl 0 rfl) ?_
  refine lv_iload_n (pc := 1) hexec hb dX9_letterOf_1 rfl (lv_at hl 1 rfl) ?_
  obtain ⟨r2, hc, hf⟩ := bd1_e hf
  refine kVp (pc := 2) (S := ⟨hexec, hb, hml, hown, hts⟩) hP hD hG hA hS [0, 1] [] [0, 1] (w2 := (w_X9_letterOf g a0 a1 u0_1 u0_2 u0_3 u0_4 u0_5 u0_6 u0_7 u0_8 u0_9 u0_10 u0_11 u0_12 u0_13 u0_14 u0_15 u0_16 u0_17 u0_18 u0_19 u0_20 u0_21 u0_22 u0_23 u0_24 u0_25 u0_26 u0_27 u0_28 u0_29 u0_30 y1_s)) rfl rfl rfl rfl rfl rfl (by decide) (c_X9_isPlaced l g a0 a1 _ u0_1 u0_2 u0_3 u0_4 u0_5 u0_6 u0_7 u0_8 u0_9 u0_10 u0_11 u0_12 u0_13 u0_14 u0_15 u0_16 u0_17 u0_18 u0_19 u0_20 u0_21 u0_22 u0_23 u0_24 u0_25 u0_26 u0_27 u0_28 u0_29 u0_30 y1_s p1 r2 hc) gX9_letterOf_X9_isPlaced rfl hv_X9_isPlaced ⟨nle rfl, nle rfl⟩ 9 0 rfl rfl rfl (rest := []) rfl rfl hl.1 (nle rfl) dX9_letterOf_2 (fun H locs hP hD hS => ?_)
  refine kb_eq (pc := 5) hexec hb dX9_letterOf_5 (tgt := 23) rfl hf (fun hc hf => ?_) (fun hc hf => ?_)
  · refine lv_iconst (pc := 23) hexec hb dX9_letterOf_23 ki_m1 ?_
    cases hf
    exact ke_i hQ hexec hb hr hP hD hS dX9_letterOf_24 hlocks
  · refine lv_aload_n (pc := 8) hexec hb dX9_letterOf_8 rfl (lv_at hl 0 rfl) ?_
    refine lv_iload_n (pc := 9) hexec hb dX9_letterOf_9 rfl (lv_at hl 1 rfl) ?_
    refine lv_aload_n (pc := 10) hexec hb dX9_letterOf_10 rfl (lv_at hl 0 rfl) ?_
    refine lv_iload_n (pc := 11) hexec hb dX9_letterOf_11 rfl (lv_at hl 1 rfl) ?_
    refine lv_iconst (pc := 12) hexec hb dX9_letterOf_12 ki_2 ?_
    obtain ⟨r13, hc, hf⟩ := bd1_e hf
    refine kVp (pc := 13) (S := ⟨hexec, hb, hml, hown, hts⟩) hP hD hG hA hS [0, 1] [] [0, 1] (w2 := (w_X9_letterOf g a0 a1 u0_1 u0_2 u0_3 u0_4 u0_5 u0_6 u0_7 u0_8 u0_9 u0_10 u0_11 u0_12 u0_13 u0_14 u0_15 u0_16 u0_17 u0_18 u0_19 u0_20 u0_21 u0_22 u0_23 u0_24 u0_25 u0_26 u0_27 u0_28 u0_29 u0_30 y1_s)) rfl rfl rfl rfl rfl rfl (by decide) (c_X9_of l g a0 a1 _ u0_1 u0_2 u0_3 u0_4 u0_5 u0_6 u0_7 u0_8 u0_9 u0_10 u0_11 u0_12 u0_13 u0_14 u0_15 u0_16 u0_17 u0_18 u0_19 u0_20 u0_21 u0_22 u0_23 u0_24 u0_25 u0_26 u0_27 u0_28 u0_29 u0_30 y1_s p1 2 r13 hc) gX9_letterOf_X9_of rfl hv_X9_of ⟨nle rfl, nle rfl⟩ 9 0 rfl rfl rfl (rest := [.int p1, .ref a0]) rfl rfl hl.1 (nle rfl) dX9_letterOf_13 (fun H locs hP hD hS => ?_)
    refine lv_iload_n (pc := 16) hexec hb dX9_letterOf_16 rfl (lv_at hl 2 rfl) ?_
    obtain ⟨r17, hc, hf⟩ := bd1_e hf
    refine kVp (pc := 17) (S := ⟨hexec, hb, hml, hown, hts⟩) hP hD hG hA hS [0, 1] [] [0, 1] (w2 := (w_X9_letterOf g a0 a1 u0_1 u0_2 u0_3 u0_4 u0_5 u0_6 u0_7 u0_8 u0_9 u0_10 u0_11 u0_12 u0_13 u0_14 u0_15 u0_16 u0_17 u0_18 u0_19 u0_20 u0_21 u0_22 u0_23 u0_24 u0_25 u0_26 u0_27 u0_28 u0_29 u0_30 y1_s)) rfl rfl rfl rfl rfl rfl (by decide) (c_X9_letterIn l g a0 a1 _ u0_1 u0_2 u0_3 u0_4 u0_5 u0_6 u0_7 u0_8 u0_9 u0_10 u0_11 u0_12 u0_13 u0_14 u0_15 u0_16 u0_17 u0_18 u0_19 u0_20 u0_21 u0_22 u0_23 u0_24 u0_25 u0_26 u0_27 u0_28 u0_29 u0_30 y1_s p1 r13 p2 r17 hc) gX9_letterOf_X9_letterIn rfl hv_X9_letterIn ⟨nle rfl, nle rfl⟩ 9 0 rfl rfl rfl (rest := []) rfl rfl hl.1 (nle rfl) dX9_letterOf_17 (fun H locs hP hD hS => ?_)
    refine lv_goto (pc := 20) hexec hb dX9_letterOf_20 (tgt := 24) rfl ?_
    cases hf
    exact ke_i hQ hexec hb hr hP hD hS dX9_letterOf_24 hlocks
abbrev w_X9_namesIn (g : GE) (a0 a1 : Nat) (u0_1 u0_2 u0_3 u0_4 u0_5 u0_6 u0_7 u0_8 u0_9 u0_10 u0_11 u0_12 u0_13 u0_14 u0_15 u0_16 u0_17 u0_18 u0_19 u0_20 u0_21 u0_22 u0_23 u0_24 u0_25 u0_26 u0_27 u0_28 u0_29 u0_30 : Value) (y1_s : Nat → Int32) : va_W := [(a0, .inr (9, [.ref a1, u0_1, u0_2, u0_3, u0_4, u0_5, u0_6, u0_7, u0_8, u0_9, u0_10, u0_11, u0_12, u0_13, u0_14, u0_15, u0_16, u0_17, u0_18, u0_19, u0_20, u0_21, u0_22, u0_23, u0_24, u0_25, u0_26, u0_27, u0_28, u0_29, u0_30])), (a1, .inl (g.2.1 0, 552, .inl y1_s))]
noncomputable def f_X9_namesIn (y1_s : Nat → Int32) (p1 : Int32) : Option (Int32) :=
  bv (fun (v2 : Int32) (v3 : Int32) => ((
    ar 2 552 <|
    (if (y1_s (2 : Int32).toNatClampNeg) ≤ v3 then (
      some (.inr v2)
    ) else (
      bd1 (f_X9_letterOf y1_s v3 p1) fun (r18 : Int32) =>
      bv (fun (t32 : Int32) => ((
        bv (v2 ||| t32) fun v2_2 =>
        bv (v3 + 1) fun v3_1 =>
        some (.inl (v2_2, v3_1))
        ) : Option ((Int32 × Int32) ⊕ (Int32)))) fun j32 =>
      (if r18 = (-1) then (
        j32 0
      ) else (
        j32 (1 <<< (v3 &&& 31))
      ))
    ))
    ) : Option ((Int32 × Int32) ⊕ (Int32)))) fun l4 =>
  bd1 (lq2 l4 0 0) fun (v2_1 : Int32) =>
  some v2_1
set_option maxRecDepth 4000 in
theorem c_X9_namesIn (l : Launch) (g : GE) (a0 a1 : Nat) (sz : Nat) (u0_1 u0_2 u0_3 u0_4 u0_5 u0_6 u0_7 u0_8 u0_9 u0_10 u0_11 u0_12 u0_13 u0_14 u0_15 u0_16 u0_17 u0_18 u0_19 u0_20 u0_21 u0_22 u0_23 u0_24 u0_25 u0_26 u0_27 u0_28 u0_29 u0_30 : Value) (y1_s : Nat → Int32) (p1 : Int32) (r : Int32) (hf : f_X9_namesIn y1_s p1 = some r) : MI l g yX9_namesIn wsX9_namesIn 5 120 [.ref a0, .int p1] (w_X9_namesIn g a0 a1 u0_1 u0_2 u0_3 u0_4 u0_5 u0_6 u0_7 u0_8 u0_9 u0_10 u0_11 u0_12 u0_13 u0_14 u0_15 u0_16 u0_17 u0_18 u0_19 u0_20 u0_21 u0_22 u0_23 u0_24 u0_25 u0_26 u0_27 u0_28 u0_29 u0_30 y1_s) sz (some (.int r)) (w_X9_namesIn g a0 a1 u0_1 u0_2 u0_3 u0_4 u0_5 u0_6 u0_7 u0_8 u0_9 u0_10 u0_11 u0_12 u0_13 u0_14 u0_15 u0_16 u0_17 u0_18 u0_19 u0_20 u0_21 u0_22 u0_23 u0_24 u0_25 u0_26 u0_27 u0_28 u0_29 u0_30 y1_s) := by
  refine MI.start (cc := cX9_namesIn) (maxL := 4) (ret := (some .int)) rfl rfl (nle rfl) ?_
  intro p e s m args below meth c A ls Q hQ hexec hb hr hts hown hlocks hml hA hP hD hG hS hl
  unfold f_X9_namesIn at hf
  have hWX9 : ∀ w ∈ wsX90, w.before args s = true := fun w h => hts w (List.mem_cons_of_mem _ (List.mem_append_right _ h))
  have hS : va_S A s.heap s.heap [] := hS
  refine lv_iconst (pc := 0) hexec hb dX9_namesIn_0 ki_0 ?_
  refine lv_istore_n (pc := 1) hexec hb dX9_namesIn_1 rfl hl (nle rfl) rfl (fun ls (hl : lv_has ls 4 [(2, .int 0), (0, .ref a0), (1, .int p1)]) => ?_)
  refine lv_iconst (pc := 2) hexec hb dX9_namesIn_2 ki_0 ?_
  refine lv_istore_n (pc := 3) hexec hb dX9_namesIn_3 rfl hl (nle rfl) rfl (fun ls (hl : lv_has ls 4 [(3, .int 0), (2, .int 0), (0, .ref a0), (1, .int p1)]) => ?_)
  obtain ⟨l4, el4, hf⟩ := bvf2 hf
  obtain ⟨v2_1, hz, hf⟩ := bd1_e hf
  have hE4 : ∀ (H : Heap) (locs : List Loc) (ls : Array Slot), va_P g.1 vwCl (w_X9_namesIn g a0 a1 u0_1 u0_2 u0_3 u0_4 u0_5 u0_6 u0_7 u0_8 u0_9 u0_10 u0_11 u0_12 u0_13 u0_14 u0_15 u0_16 u0_17 u0_18 u0_19 u0_20 u0_21 u0_22 u0_23 u0_24 u0_25 u0_26 u0_27 u0_28 u0_29 u0_30 y1_s) H → va_D A (w_X9_namesIn g a0 a1 u0_1 u0_2 u0_3 u0_4 u0_5 u0_6 u0_7 u0_8 u0_9 u0_10 u0_11 u0_12 u0_13 u0_14 u0_15 u0_16 u0_17 u0_18 u0_19 u0_20 u0_21 u0_22 u0_23 u0_24 u0_25 u0_26 u0_27 u0_28 u0_29 u0_30 y1_s) → va_S A s.heap H locs → lv_has ls 4 [(2, .int v2_1)] → W p l e (RM 5 120) s m args below meth c H locs 0 0 Q (F0 m 40 ls []) := by
    intro H locs ls hP hD hS hl
    refine lv_iload_n (pc := 40) hexec hb dX9_namesIn_40 rfl (lv_at hl 0 rfl) ?_
    cases hf
    exact ke_i hQ hexec hb hr hP hD hS dX9_namesIn_41 hlocks
  obtain ⟨n, hz⟩ := lq2_e hz
  have hL4 : ∀ (n : Nat) (v2 : Int32) (v3 : Int32) (H : Heap) (locs : List Loc) (ls : Array Slot), it2 l4 n v2 v3 = some v2_1 → va_P g.1 vwCl (w_X9_namesIn g a0 a1 u0_1 u0_2 u0_3 u0_4 u0_5 u0_6 u0_7 u0_8 u0_9 u0_10 u0_11 u0_12 u0_13 u0_14 u0_15 u0_16 u0_17 u0_18 u0_19 u0_20 u0_21 u0_22 u0_23 u0_24 u0_25 u0_26 u0_27 u0_28 u0_29 u0_30 y1_s) H → va_D A (w_X9_namesIn g a0 a1 u0_1 u0_2 u0_3 u0_4 u0_5 u0_6 u0_7 u0_8 u0_9 u0_10 u0_11 u0_12 u0_13 u0_14 u0_15 u0_16 u0_17 u0_18 u0_19 u0_20 u0_21 u0_22 u0_23 u0_24 u0_25 u0_26 u0_27 u0_28 u0_29 u0_30 y1_s) → va_S A s.heap H locs → lv_has ls 4 [(0, .ref a0), (1, .int p1), (2, .int v2), (3, .int v3)] → W p l e (RM 5 120) s m args below meth c H locs 0 0 Q (F0 m 4 ls []) := by
    intro n
    induction n with
    | zero =>
      intro v2 v3 H locs ls hf hP hD hS hl
      exact it2_0 hf
    | succ n4 ih4 =>
      intro v2 v3 H locs ls hf hP hD hS hl
      obtain ⟨q4, hf, hk4⟩ := it2_e hf
      have hf := (el4 v2 v3).symm.trans hf
      refine lv_iload_n (pc := 4) hexec hb dX9_namesIn_4 rfl (lv_at hl 3 rfl) ?_
      refine lv_aload_n (pc := 5) hexec hb dX9_namesIn_5 rfl (lv_at hl 0 rfl) ?_
      refine kg_get (pc := 6) hexec hb (own := RX9) hWX9 hown hG hP 0 rfl rfl 0 (nle rfl) (hts _ (List.mem_cons_of_mem _ (List.mem_append_left _ (List.mem_append_left _ (List.mem_of_getElem? (i := 0) rfl))))) rfl rfl dX9_namesIn_6 ?_
      refine lv_iconst (pc := 9) hexec hb dX9_namesIn_9 ki_2 ?_
      refine kr_iald (pc := 10) hexec hb hG hP 1 rfl hf dX9_namesIn_10 (fun hf => ?_)
      refine ki_ge (pc := 11) hexec hb dX9_namesIn_11 (tgt := 40) rfl hf (fun hc hf => ?_) (fun hc hf => ?_)
      · cases sr2 hf hk4
        exact hE4 _ _ _ hP hD hS (lv_sub hl [2] rfl)
      · refine lv_iload_n (pc := 14) hexec hb dX9_namesIn_14 rfl (lv_at hl 2 rfl) ?_
        refine lv_aload_n (pc := 15) hexec hb dX9_namesIn_15 rfl (lv_at hl 0 rfl) ?_
        refine lv_iload_n (pc := 16) hexec hb dX9_namesIn_16 rfl (lv_at hl 3 rfl) ?_
        refine lv_iload_n (pc := 17) hexec hb dX9_namesIn_17 rfl (lv_at hl 1 rfl) ?_
        obtain ⟨r18, hc, hf⟩ := bd1_e hf
        refine kVp (pc := 18) (S := ⟨hexec, hb, hml, hown, hts⟩) hP hD hG hA hS [0, 1] [] [0, 1] (w2 := (w_X9_namesIn g a0 a1 u0_1 u0_2 u0_3 u0_4 u0_5 u0_6 u0_7 u0_8 u0_9 u0_10 u0_11 u0_12 u0_13 u0_14 u0_15 u0_16 u0_17 u0_18 u0_19 u0_20 u0_21 u0_22 u0_23 u0_24 u0_25 u0_26 u0_27 u0_28 u0_29 u0_30 y1_s)) rfl rfl rfl rfl rfl rfl (by decide) (c_X9_letterOf l g a0 a1 _ u0_1 u0_2 u0_3 u0_4 u0_5 u0_6 u0_7 u0_8 u0_9 u0_10 u0_11 u0_12 u0_13 u0_14 u0_15 u0_16 u0_17 u0_18 u0_19 u0_20 u0_21 u0_22 u0_23 u0_24 u0_25 u0_26 u0_27 u0_28 u0_29 u0_30 y1_s v3 p1 r18 hc) gX9_namesIn_X9_letterOf rfl hv_X9_letterOf ⟨nle rfl, nle rfl⟩ 9 0 rfl rfl rfl (rest := [.int v2]) rfl rfl hl.1 (nle rfl) dX9_namesIn_18 (fun H locs hP hD hS => ?_)
        refine lv_iconst (pc := 21) hexec hb dX9_namesIn_21 ki_m1 ?_
        obtain ⟨j32, ej32, hf⟩ := bvf1 hf
        have hj32 : ∀ (t32 : Int32) (H : Heap) (locs : List Loc) (ls : Array Slot), j32 t32 = some q4 → va_P g.1 vwCl (w_X9_namesIn g a0 a1 u0_1 u0_2 u0_3 u0_4 u0_5 u0_6 u0_7 u0_8 u0_9 u0_10 u0_11 u0_12 u0_13 u0_14 u0_15 u0_16 u0_17 u0_18 u0_19 u0_20 u0_21 u0_22 u0_23 u0_24 u0_25 u0_26 u0_27 u0_28 u0_29 u0_30 y1_s) H → va_D A (w_X9_namesIn g a0 a1 u0_1 u0_2 u0_3 u0_4 u0_5 u0_6 u0_7 u0_8 u0_9 u0_10 u0_11 u0_12 u0_13 u0_14 u0_15 u0_16 u0_17 u0_18 u0_19 u0_20 u0_21 u0_22 u0_23 u0_24 u0_25 u0_26 u0_27 u0_28 u0_29 u0_30 y1_s) → va_S A s.heap H locs → lv_has ls 4 [(0, .ref a0), (1, .int p1), (3, .int v3)] → W p l e (RM 5 120) s m args below meth c H locs 0 0 Q (F0 m 32 ls [.int t32, .int v2]) := by
          intro t32 H locs ls hf hP hD hS hl
          have hf := (ej32 t32).symm.trans hf
          refine lv_ior (pc := 32) hexec hb dX9_namesIn_32 ?_
          obtain ⟨v2_2, ev2_2, hf⟩ := bv_e hf
          refine kn_i ev2_2 ?_
          refine lv_istore_n (pc := 33) hexec hb dX9_namesIn_33 rfl hl (nle rfl) rfl (fun ls (hl : lv_has ls 4 [(2, .int v2_2), (0, .ref a0), (1, .int p1), (3, .int v3)]) => ?_)
          obtain ⟨v3_1, ev3_1, hf⟩ := bv_e hf
          refine k_iinc (pc := 34) hexec hb dX9_namesIn_34 kq_1 hl (k := 3) rfl ev3_1 (nle rfl) rfl (fun ls (hl : lv_has ls 4 [(3, .int v3_1), (2, .int v2_2), (0, .ref a0), (1, .int p1)]) => ?_)
          refine lv_goto (pc := 37) hexec hb dX9_namesIn_37 (tgt := 4) rfl ?_
          exact ih4 _ _ _ _ _ (sl2 hf hk4) hP hD hS (lv_sub hl [2, 3, 1, 0] rfl)
        refine ki_eq (pc := 22) hexec hb dX9_namesIn_22 (tgt := 31) rfl hf (fun hc hf => ?_) (fun hc hf => ?_)
        · refine lv_iconst (pc := 31) hexec hb dX9_namesIn_31 ki_0 ?_
          exact hj32 _ _ _ _ hf hP hD hS (lv_sub hl [0, 1, 3] rfl)
        · refine lv_iconst (pc := 25) hexec hb dX9_namesIn_25 ki_1 ?_
          refine lv_iload_n (pc := 26) hexec hb dX9_namesIn_26 rfl (lv_at hl 3 rfl) ?_
          refine lv_ishl (pc := 27) hexec hb dX9_namesIn_27 ?_
          refine lv_goto (pc := 28) hexec hb dX9_namesIn_28 (tgt := 32) rfl ?_
          exact hj32 _ _ _ _ hf hP hD hS (lv_sub hl [0, 1, 3] rfl)
  exact hL4 n _ _ _ _ _ hz hP hD hS (lv_sub hl [2, 3, 1, 0] rfl)
abbrev w_X9_letterAt (g : GE) (a0 a1 : Nat) (u0_1 u0_2 u0_3 u0_4 u0_5 u0_6 u0_7 u0_8 u0_9 u0_10 u0_11 u0_12 u0_13 u0_14 u0_15 u0_16 u0_17 u0_18 u0_19 u0_20 u0_21 u0_22 u0_23 u0_24 u0_25 u0_26 u0_27 u0_28 u0_29 u0_30 : Value) (y1_s : Nat → Int32) : va_W := [(a0, .inr (9, [.ref a1, u0_1, u0_2, u0_3, u0_4, u0_5, u0_6, u0_7, u0_8, u0_9, u0_10, u0_11, u0_12, u0_13, u0_14, u0_15, u0_16, u0_17, u0_18, u0_19, u0_20, u0_21, u0_22, u0_23, u0_24, u0_25, u0_26, u0_27, u0_28, u0_29, u0_30])), (a1, .inl (g.2.1 0, 552, .inl y1_s))]
noncomputable def f_X9_letterAt (y1_s : Nat → Int32) (p1 : Int32) : Option (Int32) :=
  bv (fun (v2 : Int32) (v3 : Int32) => ((
    ar 2 552 <|
    (if (y1_s (2 : Int32).toNatClampNeg) ≤ v3 then (
      some (.inr v2)
    ) else (
      bd1 (f_X9_letterOf y1_s v3 p1) fun (r18 : Int32) =>
      bv (if v2 < r18 then r18 else v2) fun v2_2 =>
      bv (v3 + 1) fun v3_1 =>
      some (.inl (v2_2, v3_1))
    ))
    ) : Option ((Int32 × Int32) ⊕ (Int32)))) fun l4 =>
  bd1 (lq2 l4 (-1) 0) fun (v2_1 : Int32) =>
  some v2_1
set_option maxRecDepth 4000 in
theorem c_X9_letterAt (l : Launch) (g : GE) (a0 a1 : Nat) (sz : Nat) (u0_1 u0_2 u0_3 u0_4 u0_5 u0_6 u0_7 u0_8 u0_9 u0_10 u0_11 u0_12 u0_13 u0_14 u0_15 u0_16 u0_17 u0_18 u0_19 u0_20 u0_21 u0_22 u0_23 u0_24 u0_25 u0_26 u0_27 u0_28 u0_29 u0_30 : Value) (y1_s : Nat → Int32) (p1 : Int32) (r : Int32) (hf : f_X9_letterAt y1_s p1 = some r) : MI l g yX9_letterAt wsX9_letterAt 5 120 [.ref a0, .int p1] (w_X9_letterAt g a0 a1 u0_1 u0_2 u0_3 u0_4 u0_5 u0_6 u0_7 u0_8 u0_9 u0_10 u0_11 u0_12 u0_13 u0_14 u0_15 u0_16 u0_17 u0_18 u0_19 u0_20 u0_21 u0_22 u0_23 u0_24 u0_25 u0_26 u0_27 u0_28 u0_29 u0_30 y1_s) sz (some (.int r)) (w_X9_letterAt g a0 a1 u0_1 u0_2 u0_3 u0_4 u0_5 u0_6 u0_7 u0_8 u0_9 u0_10 u0_11 u0_12 u0_13 u0_14 u0_15 u0_16 u0_17 u0_18 u0_19 u0_20 u0_21 u0_22 u0_23 u0_24 u0_25 u0_26 u0_27 u0_28 u0_29 u0_30 y1_s) := by
  refine MI.start (cc := cX9_letterAt) (maxL := 4) (ret := (some .int)) rfl rfl (nle rfl) ?_
  intro p e s m args below meth c A ls Q hQ hexec hb hr hts hown hlocks hml hA hP hD hG hS hl
  unfold f_X9_letterAt at hf
  have hWX9 : ∀ w ∈ wsX90, w.before args s = true := fun w h => hts w (List.mem_cons_of_mem _ (List.mem_append_right _ h))
  have hS : va_S A s.heap s.heap [] := hS
  refine lv_iconst (pc := 0) hexec hb dX9_letterAt_0 ki_m1 ?_
  refine lv_istore_n (pc := 1) hexec hb dX9_letterAt_1 rfl hl (nle rfl) rfl (fun ls (hl : lv_has ls 4 [(2, .int (-1)), (0, .ref a0), (1, .int p1)]) => ?_)
  refine lv_iconst (pc := 2) hexec hb dX9_letterAt_2 ki_0 ?_
  refine lv_istore_n (pc := 3) hexec hb dX9_letterAt_3 rfl hl (nle rfl) rfl (fun ls (hl : lv_has ls 4 [(3, .int 0), (2, .int (-1)), (0, .ref a0), (1, .int p1)]) => ?_)
  obtain ⟨l4, el4, hf⟩ := bvf2 hf
  obtain ⟨v2_1, hz, hf⟩ := bd1_e hf
  have hE4 : ∀ (H : Heap) (locs : List Loc) (ls : Array Slot), va_P g.1 vwCl (w_X9_letterAt g a0 a1 u0_1 u0_2 u0_3 u0_4 u0_5 u0_6 u0_7 u0_8 u0_9 u0_10 u0_11 u0_12 u0_13 u0_14 u0_15 u0_16 u0_17 u0_18 u0_19 u0_20 u0_21 u0_22 u0_23 u0_24 u0_25 u0_26 u0_27 u0_28 u0_29 u0_30 y1_s) H → va_D A (w_X9_letterAt g a0 a1 u0_1 u0_2 u0_3 u0_4 u0_5 u0_6 u0_7 u0_8 u0_9 u0_10 u0_11 u0_12 u0_13 u0_14 u0_15 u0_16 u0_17 u0_18 u0_19 u0_20 u0_21 u0_22 u0_23 u0_24 u0_25 u0_26 u0_27 u0_28 u0_29 u0_30 y1_s) → va_S A s.heap H locs → lv_has ls 4 [(2, .int v2_1)] → W p l e (RM 5 120) s m args below meth c H locs 0 0 Q (F0 m 31 ls []) := by
    intro H locs ls hP hD hS hl
    refine lv_iload_n (pc := 31) hexec hb dX9_letterAt_31 rfl (lv_at hl 0 rfl) ?_
    cases hf
    exact ke_i hQ hexec hb hr hP hD hS dX9_letterAt_32 hlocks
  obtain ⟨n, hz⟩ := lq2_e hz
  have hL4 : ∀ (n : Nat) (v2 : Int32) (v3 : Int32) (H : Heap) (locs : List Loc) (ls : Array Slot), it2 l4 n v2 v3 = some v2_1 → va_P g.1 vwCl (w_X9_letterAt g a0 a1 u0_1 u0_2 u0_3 u0_4 u0_5 u0_6 u0_7 u0_8 u0_9 u0_10 u0_11 u0_12 u0_13 u0_14 u0_15 u0_16 u0_17 u0_18 u0_19 u0_20 u0_21 u0_22 u0_23 u0_24 u0_25 u0_26 u0_27 u0_28 u0_29 u0_30 y1_s) H → va_D A (w_X9_letterAt g a0 a1 u0_1 u0_2 u0_3 u0_4 u0_5 u0_6 u0_7 u0_8 u0_9 u0_10 u0_11 u0_12 u0_13 u0_14 u0_15 u0_16 u0_17 u0_18 u0_19 u0_20 u0_21 u0_22 u0_23 u0_24 u0_25 u0_26 u0_27 u0_28 u0_29 u0_30 y1_s) → va_S A s.heap H locs → lv_has ls 4 [(0, .ref a0), (1, .int p1), (2, .int v2), (3, .int v3)] → W p l e (RM 5 120) s m args below meth c H locs 0 0 Q (F0 m 4 ls []) := by
    intro n
    induction n with
    | zero =>
      intro v2 v3 H locs ls hf hP hD hS hl
      exact it2_0 hf
    | succ n4 ih4 =>
      intro v2 v3 H locs ls hf hP hD hS hl
      obtain ⟨q4, hf, hk4⟩ := it2_e hf
      have hf := (el4 v2 v3).symm.trans hf
      refine lv_iload_n (pc := 4) hexec hb dX9_letterAt_4 rfl (lv_at hl 3 rfl) ?_
      refine lv_aload_n (pc := 5) hexec hb dX9_letterAt_5 rfl (lv_at hl 0 rfl) ?_
      refine kg_get (pc := 6) hexec hb (own := RX9) hWX9 hown hG hP 0 rfl rfl 0 (nle rfl) (hts _ (List.mem_cons_of_mem _ (List.mem_append_left _ (List.mem_append_left _ (List.mem_of_getElem? (i := 0) rfl))))) rfl rfl dX9_letterAt_6 ?_
      refine lv_iconst (pc := 9) hexec hb dX9_letterAt_9 ki_2 ?_
      refine kr_iald (pc := 10) hexec hb hG hP 1 rfl hf dX9_letterAt_10 (fun hf => ?_)
      refine ki_ge (pc := 11) hexec hb dX9_letterAt_11 (tgt := 31) rfl hf (fun hc hf => ?_) (fun hc hf => ?_)
      · cases sr2 hf hk4
        exact hE4 _ _ _ hP hD hS (lv_sub hl [2] rfl)
      · refine lv_iload_n (pc := 14) hexec hb dX9_letterAt_14 rfl (lv_at hl 2 rfl) ?_
        refine lv_aload_n (pc := 15) hexec hb dX9_letterAt_15 rfl (lv_at hl 0 rfl) ?_
        refine lv_iload_n (pc := 16) hexec hb dX9_letterAt_16 rfl (lv_at hl 3 rfl) ?_
        refine lv_iload_n (pc := 17) hexec hb dX9_letterAt_17 rfl (lv_at hl 1 rfl) ?_
        obtain ⟨r18, hc, hf⟩ := bd1_e hf
        refine kVp (pc := 18) (S := ⟨hexec, hb, hml, hown, hts⟩) hP hD hG hA hS [0, 1] [] [0, 1] (w2 := (w_X9_letterAt g a0 a1 u0_1 u0_2 u0_3 u0_4 u0_5 u0_6 u0_7 u0_8 u0_9 u0_10 u0_11 u0_12 u0_13 u0_14 u0_15 u0_16 u0_17 u0_18 u0_19 u0_20 u0_21 u0_22 u0_23 u0_24 u0_25 u0_26 u0_27 u0_28 u0_29 u0_30 y1_s)) rfl rfl rfl rfl rfl rfl (by decide) (c_X9_letterOf l g a0 a1 _ u0_1 u0_2 u0_3 u0_4 u0_5 u0_6 u0_7 u0_8 u0_9 u0_10 u0_11 u0_12 u0_13 u0_14 u0_15 u0_16 u0_17 u0_18 u0_19 u0_20 u0_21 u0_22 u0_23 u0_24 u0_25 u0_26 u0_27 u0_28 u0_29 u0_30 y1_s v3 p1 r18 hc) gX9_letterAt_X9_letterOf rfl hv_X9_letterOf ⟨nle rfl, nle rfl⟩ 9 0 rfl rfl rfl (rest := [.int v2]) rfl rfl hl.1 (nle rfl) dX9_letterAt_18 (fun H locs hP hD hS => ?_)
        refine va_mmax (pc := 21) hexec hb (hml.trans hl.1.symm) (own := RX9) hown (hts _ (List.mem_cons_of_mem _ (List.mem_append_left _ (List.mem_append_left _ (List.mem_of_getElem? (i := 1) rfl))))) (hts _ (List.mem_cons_of_mem _ (List.mem_append_left _ (List.mem_append_left _ (List.mem_of_getElem? (i := 2) rfl))))) (hts _ (List.mem_cons_of_mem _ (List.mem_append_left _ (List.mem_append_left _ (List.mem_of_getElem? (i := 3) rfl))))) (hts _ (List.mem_cons_of_mem _ (List.mem_append_left _ (List.mem_append_left _ (List.mem_of_getElem? (i := 4) rfl))))) (nle rfl) (nle rfl) (nle rfl) (nle rfl) dX9_letterAt_21 ?_
        obtain ⟨v2_2, ev2_2, hf⟩ := bv_e hf
        refine kn_i ev2_2 ?_
        refine lv_istore_n (pc := 24) hexec hb dX9_letterAt_24 rfl hl (nle rfl) rfl (fun ls (hl : lv_has ls 4 [(2, .int v2_2), (0, .ref a0), (1, .int p1), (3, .int v3)]) => ?_)
        obtain ⟨v3_1, ev3_1, hf⟩ := bv_e hf
        refine k_iinc (pc := 25) hexec hb dX9_letterAt_25 kq_1 hl (k := 3) rfl ev3_1 (nle rfl) rfl (fun ls (hl : lv_has ls 4 [(3, .int v3_1), (2, .int v2_2), (0, .ref a0), (1, .int p1)]) => ?_)
        refine lv_goto (pc := 28) hexec hb dX9_letterAt_28 (tgt := 4) rfl ?_
        exact ih4 _ _ _ _ _ (sl2 hf hk4) hP hD hS (lv_sub hl [2, 3, 1, 0] rfl)
  exact hL4 n _ _ _ _ _ hz hP hD hS (lv_sub hl [2, 3, 1, 0] rfl)
abbrev w_X9_chartReason (g : GE) (a0 a1 : Nat) (u0_1 u0_2 u0_3 u0_4 u0_5 u0_6 u0_7 u0_8 u0_9 u0_10 u0_11 u0_12 u0_13 u0_14 u0_15 u0_16 u0_17 u0_18 u0_19 u0_20 u0_21 u0_22 u0_23 u0_24 u0_25 u0_26 u0_27 u0_28 u0_29 u0_30 : Value) (y1_s : Nat → Int32) : va_W := [(a0, .inr (9, [.ref a1, u0_1, u0_2, u0_3, u0_4, u0_5, u0_6, u0_7, u0_8, u0_9, u0_10, u0_11, u0_12, u0_13, u0_14, u0_15, u0_16, u0_17, u0_18, u0_19, u0_20, u0_21, u0_22, u0_23, u0_24, u0_25, u0_26, u0_27, u0_28, u0_29, u0_30])), (a1, .inl (g.2.1 0, 552, .inl y1_s))]
noncomputable def f_X9_chartReason (y1_s : Nat → Int32) (p1 : Int32) (p2 : Int32) (p3 : Int32) : Option (Int32) :=
  bd1 (f_X9_of y1_s p1 0) fun (r3 : Int32) =>
  bd1 (f_X9_away y1_s r3 ((p2 + 2) - (p2 + 2) / 4 * 4) 1) fun (r18 : Int32) =>
  bd1 (f_X9_isLand y1_s r18) fun (r21 : Int32) =>
  (if r21 = 0 then (
    bv (fun (v5 : Int32) (v6 : Int32) => ((
      bd1 (f_X9_of y1_s p1 3) fun (r41 : Int32) =>
      (if r41 < v6 then (
        some (.inr v5)
      ) else (
        bd1 (f_X9_away y1_s r3 p2 v6) fun (r53 : Int32) =>
        bv (fun (t111 : Int32) => ((
          bv (if t111 < v5 then t111 else v5) fun v5_2 =>
          bv (v6 + 1) fun v6_1 =>
          some (.inl (v5_2, v6_1))
          ) : Option ((Int32 × Int32) ⊕ (Int32)))) fun j111 =>
        (if r53 = (-1) then (
          j111 2
        ) else (
          bd1 (f_X9_isLand y1_s r53) fun (r71 : Int32) =>
          (if r71 = 0 then (
            j111 3
          ) else (
            bd1 (f_X9_isRiver y1_s r53) fun (r84 : Int32) =>
            (if r84 = 0 then (
              bd1 (f_X9_harbourAt y1_s r53 p3) fun (r98 : Int32) =>
              (if r98 = (-1) then (
                j111 9
              ) else (
                j111 5
              ))
            ) else (
              j111 4
            ))
          ))
        ))
      ))
      ) : Option ((Int32 × Int32) ⊕ (Int32)))) fun l36 =>
    bd1 (lq2 l36 9 1) fun (v5_1 : Int32) =>
    (if v5_1 = 9 then (
      some 0
    ) else (
      some v5_1
    ))
  ) else (
    some 1
  ))
set_option maxRecDepth 4000 in
theorem c_X9_chartReason (l : Launch) (g : GE) (a0 a1 : Nat) (sz : Nat) (u0_1 u0_2 u0_3 u0_4 u0_5 u0_6 u0_7 u0_8 u0_9 u0_10 u0_11 u0_12 u0_13 u0_14 u0_15 u0_16 u0_17 u0_18 u0_19 u0_20 u0_21 u0_22 u0_23 u0_24 u0_25 u0_26 u0_27 u0_28 u0_29 u0_30 : Value) (y1_s : Nat → Int32) (p1 : Int32) (p2 : Int32) (p3 : Int32) (r : Int32) (hf : f_X9_chartReason y1_s p1 p2 p3 = some r) : MI l g yX9_chartReason wsX9_chartReason 3 74 [.ref a0, .int p1, .int p2, .int p3] (w_X9_chartReason g a0 a1 u0_1 u0_2 u0_3 u0_4 u0_5 u0_6 u0_7 u0_8 u0_9 u0_10 u0_11 u0_12 u0_13 u0_14 u0_15 u0_16 u0_17 u0_18 u0_19 u0_20 u0_21 u0_22 u0_23 u0_24 u0_25 u0_26 u0_27 u0_28 u0_29 u0_30 y1_s) sz (some (.int r)) (w_X9_chartReason g a0 a1 u0_1 u0_2 u0_3 u0_4 u0_5 u0_6 u0_7 u0_8 u0_9 u0_10 u0_11 u0_12 u0_13 u0_14 u0_15 u0_16 u0_17 u0_18 u0_19 u0_20 u0_21 u0_22 u0_23 u0_24 u0_25 u0_26 u0_27 u0_28 u0_29 u0_30 y1_s) := by
  refine MI.start (cc := cX9_chartReason) (maxL := 9) (ret := (some .int)) rfl rfl (nle rfl) ?_
  intro p e s m args below meth c A ls Q hQ hexec hb hr hts hown hlocks hml hA hP hD hG hS hl
  unfold f_X9_chartReason at hf
  have hWX9 : ∀ w ∈ wsX90, w.before args s = true := fun w h => hts w (List.mem_cons_of_mem _ (List.mem_append_right _ h))
  have hS : va_S A s.heap s.heap [] := hS
  refine lv_aload_n (pc := 0) hexec hb dX9_chartReason_0 rfl (lv_at hl 0 rfl) ?_
  refine lv_iload_n (pc := 1) hexec hb dX9_chartReason_1 rfl (lv_at hl 1 rfl) ?_
  refine lv_iconst (pc := 2) hexec hb dX9_chartReason_2 ki_0 ?_
  obtain ⟨r3, hc, hf⟩ := bd1_e hf
  refine kVp (pc := 3) (S := ⟨hexec, hb, hml, hown, hts⟩) hP hD hG hA hS [0, 1] [] [0, 1] (w2 := (w_X9_chartReason g a0 a1 u0_1 u0_2 u0_3 u0_4 u0_5 u0_6 u0_7 u0_8 u0_9 u0_10 u0_11 u0_12 u0_13 u0_14 u0_15 u0_16 u0_17 u0_18 u0_19 u0_20 u0_21 u0_22 u0_23 u0_24 u0_25 u0_26 u0_27 u0_28 u0_29 u0_30 y1_s)) rfl rfl rfl rfl rfl rfl (by decide) (c_X9_of l g a0 a1 _ u0_1 u0_2 u0_3 u0_4 u0_5 u0_6 u0_7 u0_8 u0_9 u0_10 u0_11 u0_12 u0_13 u0_14 u0_15 u0_16 u0_17 u0_18 u0_19 u0_20 u0_21 u0_22 u0_23 u0_24 u0_25 u0_26 u0_27 u0_28 u0_29 u0_30 y1_s p1 0 r3 hc) gX9_chartReason_X9_of rfl hv_X9_of ⟨nle rfl, nle rfl⟩ 9 0 rfl rfl rfl (rest := []) rfl rfl hl.1 (nle rfl) dX9_chartReason_3 (fun H locs hP hD hS => ?_)
  refine lv_istore (pc := 6) hexec hb dX9_chartReason_6 hl (nle rfl) rfl (fun ls (hl : lv_has ls 9 [(4, .int r3), (0, .ref a0), (1, .int p1), (2, .int p2), (3, .int p3)]) => ?_)
  refine lv_aload_n (pc := 8) hexec hb dX9_chartReason_8 rfl (lv_at hl 1 rfl) ?_
  refine lv_aload_n (pc := 9) hexec hb dX9_chartReason_9 rfl (lv_at hl 1 rfl) ?_
  refine lv_iload (pc := 10) hexec hb dX9_chartReason_10 (lv_at hl 0 rfl) ?_
  refine lv_iload_n (pc := 12) hexec hb dX9_chartReason_12 rfl (lv_at hl 3 rfl) ?_
  refine lv_iconst (pc := 13) hexec hb dX9_chartReason_13 ki_2 ?_
  refine lv_iadd (pc := 14) hexec hb dX9_chartReason_14 ?_
  refine lv_iconst (pc := 15) hexec hb dX9_chartReason_15 ki_4 ?_
  refine lv_irem (pc := 16) hexec hb dX9_chartReason_16 (by decide) ?_
  refine lv_iconst (pc := 17) hexec hb dX9_chartReason_17 ki_1 ?_
  obtain ⟨r18, hc, hf⟩ := bd1_e hf
  refine kVp (pc := 18) (S := ⟨hexec, hb, hml, hown, hts⟩) hP hD hG hA hS [0, 1] [] [0, 1] (w2 := (w_X9_chartReason g a0 a1 u0_1 u0_2 u0_3 u0_4 u0_5 u0_6 u0_7 u0_8 u0_9 u0_10 u0_11 u0_12 u0_13 u0_14 u0_15 u0_16 u0_17 u0_18 u0_19 u0_20 u0_21 u0_22 u0_23 u0_24 u0_25 u0_26 u0_27 u0_28 u0_29 u0_30 y1_s)) rfl rfl rfl rfl rfl rfl (by decide) (c_X9_away l g a0 a1 _ u0_1 u0_2 u0_3 u0_4 u0_5 u0_6 u0_7 u0_8 u0_9 u0_10 u0_11 u0_12 u0_13 u0_14 u0_15 u0_16 u0_17 u0_18 u0_19 u0_20 u0_21 u0_22 u0_23 u0_24 u0_25 u0_26 u0_27 u0_28 u0_29 u0_30 y1_s r3 ((p2 + 2) - (p2 + 2) / 4 * 4) 1 r18 hc) gX9_chartReason_X9_away rfl hv_X9_away ⟨nle rfl, nle rfl⟩ 9 0 rfl rfl rfl (rest := [.ref a0]) rfl rfl hl.1 (nle rfl) dX9_chartReason_18 (fun H locs hP hD hS => ?_)
  obtain ⟨r21, hc, hf⟩ := bd1_e hf
  refine kVp (pc := 21) (S := ⟨hexec, hb, hml, hown, hts⟩) hP hD hG hA hS [0, 1] [] [0, 1] (w2 := (w_X9_chartReason g a0 a1 u0_1 u0_2 u0_3 u0_4 u0_5 u0_6 u0_7 u0_8 u0_9 u0_10 u0_11 u0_12 u0_13 u0_14 u0_15 u0_16 u0_17 u0_18 u0_19 u0_20 u0_21 u0_22 u0_23 u0_24 u0_25 u0_26 u0_27 u0_28 u0_29 u0_30 y1_s)) rfl rfl rfl rfl rfl rfl (by decide) (c_X9_isLand l g a0 a1 _ u0_1 u0_2 u0_3 u0_4 u0_5 u0_6 u0_7 u0_8 u0_9 u0_10 u0_11 u0_12 u0_13 u0_14 u0_15 u0_16 u0_17 u0_18 u0_19 u0_20 u0_21 u0_22 u0_23 u0_24 u0_25 u0_26 u0_27 u0_28 u0_29 u0_30 y1_s r18 r21 hc) gX9_chartReason_X9_isLand rfl hv_X9_isLand ⟨nle rfl, nle rfl⟩ 9 0 rfl rfl rfl (rest := []) rfl rfl hl.1 (nle rfl) dX9_chartReason_21 (fun H locs hP hD hS => ?_)
  refine kb_eq (pc := 24) hexec hb dX9_chartReason_24 (tgt := 29) rfl hf (fun hc hf => ?_) (fun hc hf => ?_)
  · refine lv_bipush (pc := 29) hexec hb dX9_chartReason_29 kb_9 ?_
    refine lv_istore (pc := 31) hexec hb dX9_chartReason_31 hl (nle rfl) rfl (fun ls (hl : lv_has ls 9 [(5, .int 9), (4, .int r3), (0, .ref a0), (1, .int p1), (2, .int p2), (3, .int p3)]) => ?_)
    refine lv_iconst (pc := 33) hexec hb dX9_chartReason_33 ki_1 ?_
    refine lv_istore (pc := 34) hexec hb dX9_chartReason_34 hl (nle rfl) rfl (fun ls (hl : lv_has ls 9 [(6, .int 1), (5, .int 9), (4, .int r3), (0, .ref a0), (1, .int p1), (2, .int p2), (3, .int p3)]) => ?_)
    obtain ⟨l36, el36, hf⟩ := bvf2 hf
    obtain ⟨v5_1, hz, hf⟩ := bd1_e hf
    have hE36 : ∀ (H : Heap) (locs : List Loc) (ls : Array Slot), va_P g.1 vwCl (w_X9_chartReason g a0 a1 u0_1 u0_2 u0_3 u0_4 u0_5 u0_6 u0_7 u0_8 u0_9 u0_10 u0_11 u0_12 u0_13 u0_14 u0_15 u0_16 u0_17 u0_18 u0_19 u0_20 u0_21 u0_22 u0_23 u0_24 u0_25 u0_26 u0_27 u0_28 u0_29 u0_30 y1_s) H → va_D A (w_X9_chartReason g a0 a1 u0_1 u0_2 u0_3 u0_4 u0_5 u0_6 u0_7 u0_8 u0_9 u0_10 u0_11 u0_12 u0_13 u0_14 u0_15 u0_16 u0_17 u0_18 u0_19 u0_20 u0_21 u0_22 u0_23 u0_24 u0_25 u0_26 u0_27 u0_28 u0_29 u0_30 y1_s) → va_S A s.heap H locs → lv_has ls 9 [(5, .int v5_1)] → W p l e (RM 3 74) s m args below meth c H locs 0 0 Q (F0 m 128 ls []) := by
      intro H locs ls hP hD hS hl
      refine lv_iload (pc := 128) hexec hb dX9_chartReason_128 (lv_at hl 0 rfl) ?_
      refine lv_bipush (pc := 130) hexec hb dX9_chartReason_130 kb_9 ?_
      refine ki_ne (pc := 132) hexec hb dX9_chartReason_132 (tgt := 139) rfl hf (fun hc hf => ?_) (fun hc hf => ?_)
      · refine lv_iload (pc := 139) hexec hb dX9_chartReason_139 (lv_at hl 0 rfl) ?_
        cases hf
        exact ke_i hQ hexec hb hr hP hD hS dX9_chartReason_141 hlocks
      · refine lv_iconst (pc := 135) hexec hb dX9_chartReason_135 ki_0 ?_
        refine lv_goto (pc := 136) hexec hb dX9_chartReason_136 (tgt := 141) rfl ?_
        cases hf
        exact ke_i hQ hexec hb hr hP hD hS dX9_chartReason_141 hlocks
    obtain ⟨n, hz⟩ := lq2_e hz
    have hL36 : ∀ (n : Nat) (v5 : Int32) (v6 : Int32) (H : Heap) (locs : List Loc) (ls : Array Slot), it2 l36 n v5 v6 = some v5_1 → va_P g.1 vwCl (w_X9_chartReason g a0 a1 u0_1 u0_2 u0_3 u0_4 u0_5 u0_6 u0_7 u0_8 u0_9 u0_10 u0_11 u0_12 u0_13 u0_14 u0_15 u0_16 u0_17 u0_18 u0_19 u0_20 u0_21 u0_22 u0_23 u0_24 u0_25 u0_26 u0_27 u0_28 u0_29 u0_30 y1_s) H → va_D A (w_X9_chartReason g a0 a1 u0_1 u0_2 u0_3 u0_4 u0_5 u0_6 u0_7 u0_8 u0_9 u0_10 u0_11 u0_12 u0_13 u0_14 u0_15 u0_16 u0_17 u0_18 u0_19 u0_20 u0_21 u0_22 u0_23 u0_24 u0_25 u0_26 u0_27 u0_28 u0_29 u0_30 y1_s) → va_S A s.heap H locs → lv_has ls 9 [(0, .ref a0), (1, .int p1), (2, .int p2), (3, .int p3), (4, .int r3), (5, .int v5), (6, .int v6)] → W p l e (RM 3 74) s m args below meth c H locs 0 0 Q (F0 m 36 ls []) := by
      intro n
      induction n with
      | zero =>
        intro v5 v6 H locs ls hf hP hD hS hl
        exact it2_0 hf
      | succ n36 ih36 =>
        intro v5 v6 H locs ls hf hP hD hS hl
        obtain ⟨q36, hf, hk36⟩ := it2_e hf
        have hf := (el36 v5 v6).symm.trans hf
        refine lv_iload (pc := 36) hexec hb dX9_chartReason_36 (lv_at hl 6 rfl) ?_
        refine lv_aload_n (pc := 38) hexec hb dX9_chartReason_38 rfl (lv_at hl 0 rfl) ?_
        refine lv_iload_n (pc := 39) hexec hb dX9_chartReason_39 rfl (lv_at hl 1 rfl) ?_
        refine lv_iconst (pc := 40) hexec hb dX9_chartReason_40 ki_3 ?_
        obtain ⟨r41, hc, hf⟩ := bd1_e hf
        refine kVp (pc := 41) (S := ⟨hexec, hb, hml, hown, hts⟩) hP hD hG hA hS [0, 1] [] [0, 1] (w2 := (w_X9_chartReason g a0 a1 u0_1 u0_2 u0_3 u0_4 u0_5 u0_6 u0_7 u0_8 u0_9 u0_10 u0_11 u0_12 u0_13 u0_14 u0_15 u0_16 u0_17 u0_18 u0_19 u0_20 u0_21 u0_22 u0_23 u0_24 u0_25 u0_26 u0_27 u0_28 u0_29 u0_30 y1_s)) rfl rfl rfl rfl rfl rfl (by decide) (c_X9_of l g a0 a1 _ u0_1 u0_2 u0_3 u0_4 u0_5 u0_6 u0_7 u0_8 u0_9 u0_10 u0_11 u0_12 u0_13 u0_14 u0_15 u0_16 u0_17 u0_18 u0_19 u0_20 u0_21 u0_22 u0_23 u0_24 u0_25 u0_26 u0_27 u0_28 u0_29 u0_30 y1_s p1 3 r41 hc) gX9_chartReason_X9_of rfl hv_X9_of ⟨nle rfl, nle rfl⟩ 9 0 rfl rfl rfl (rest := [.int v6]) rfl rfl hl.1 (nle rfl) dX9_chartReason_41 (fun H locs hP hD hS => ?_)
        refine ki_gt (pc := 44) hexec hb dX9_chartReason_44 (tgt := 128) rfl hf (fun hc hf => ?_) (fun hc hf => ?_)
        · cases sr2 hf hk36
          exact hE36 _ _ _ hP hD hS (lv_sub hl [5] rfl)
        · refine lv_aload_n (pc := 47) hexec hb dX9_chartReason_47 rfl (lv_at hl 0 rfl) ?_
          refine lv_iload (pc := 48) hexec hb dX9_chartReason_48 (lv_at hl 4 rfl) ?_
          refine lv_iload_n (pc := 50) hexec hb dX9_chartReason_50 rfl (lv_at hl 2 rfl) ?_
          refine lv_iload (pc := 51) hexec hb dX9_chartReason_51 (lv_at hl 6 rfl) ?_
          obtain ⟨r53, hc, hf⟩ := bd1_e hf
          refine kVp (pc := 53) (S := ⟨hexec, hb, hml, hown, hts⟩) hP hD hG hA hS [0, 1] [] [0, 1] (w2 := (w_X9_chartReason g a0 a1 u0_1 u0_2 u0_3 u0_4 u0_5 u0_6 u0_7 u0_8 u0_9 u0_10 u0_11 u0_12 u0_13 u0_14 u0_15 u0_16 u0_17 u0_18 u0_19 u0_20 u0_21 u0_22 u0_23 u0_24 u0_25 u0_26 u0_27 u0_28 u0_29 u0_30 y1_s)) rfl rfl rfl rfl rfl rfl (by decide) (c_X9_away l g a0 a1 _ u0_1 u0_2 u0_3 u0_4 u0_5 u0_6 u0_7 u0_8 u0_9 u0_10 u0_11 u0_12 u0_13 u0_14 u0_15 u0_16 u0_17 u0_18 u0_19 u0_20 u0_21 u0_22 u0_23 u0_24 u0_25 u0_26 u0_27 u0_28 u0_29 u0_30 y1_s r3 p2 v6 r53 hc) gX9_chartReason_X9_away rfl hv_X9_away ⟨nle rfl, nle rfl⟩ 9 0 rfl rfl rfl (rest := []) rfl rfl hl.1 (nle rfl) dX9_chartReason_53 (fun H locs hP hD hS => ?_)
          refine lv_istore (pc := 56) hexec hb dX9_chartReason_56 hl (nle rfl) rfl (fun ls (hl : lv_has ls 9 [(7, .int r53), (0, .ref a0), (1, .int p1), (2, .int p2), (3, .int p3), (4, .int r3), (5, .int v5), (6, .int v6)]) => ?_)
          refine lv_iload (pc := 58) hexec hb dX9_chartReason_58 (lv_at hl 0 rfl) ?_
          refine lv_iconst (pc := 60) hexec hb dX9_chartReason_60 ki_m1 ?_
          obtain ⟨j111, ej111, hf⟩ := bvf1 hf
          have hj111 : ∀ (t111 : Int32) (H : Heap) (locs : List Loc) (ls : Array Slot), j111 t111 = some q36 → va_P g.1 vwCl (w_X9_chartReason g a0 a1 u0_1 u0_2 u0_3 u0_4 u0_5 u0_6 u0_7 u0_8 u0_9 u0_10 u0_11 u0_12 u0_13 u0_14 u0_15 u0_16 u0_17 u0_18 u0_19 u0_20 u0_21 u0_22 u0_23 u0_24 u0_25 u0_26 u0_27 u0_28 u0_29 u0_30 y1_s) H → va_D A (w_X9_chartReason g a0 a1 u0_1 u0_2 u0_3 u0_4 u0_5 u0_6 u0_7 u0_8 u0_9 u0_10 u0_11 u0_12 u0_13 u0_14 u0_15 u0_16 u0_17 u0_18 u0_19 u0_20 u0_21 u0_22 u0_23 u0_24 u0_25 u0_26 u0_27 u0_28 u0_29 u0_30 y1_s) → va_S A s.heap H locs → lv_has ls 9 [(0, .ref a0), (1, .int p1), (2, .int p2), (3, .int p3), (4, .int r3), (5, .int v5), (6, .int v6)] → W p l e (RM 3 74) s m args below meth c H locs 0 0 Q (F0 m 111 ls [.int t111]) := by
            intro t111 H locs ls hf hP hD hS hl
            have hf := (ej111 t111).symm.trans hf
            refine lv_istore (pc := 111) hexec hb dX9_chartReason_111 hl (nle rfl) rfl (fun ls (hl : lv_has ls 9 [(8, .int t111), (0, .ref a0), (1, .int p1), (2, .int p2), (3, .int p3), (4, .int r3), (5, .int v5), (6, .int v6)]) => ?_)
            refine lv_iload (pc := 113) hexec hb dX9_chartReason_113 (lv_at hl 6 rfl) ?_
            refine lv_iload (pc := 115) hexec hb dX9_chartReason_115 (lv_at hl 0 rfl) ?_
            refine va_mmin (pc := 117) hexec hb (hml.trans hl.1.symm) (own := RX9) hown (hts _ (List.mem_cons_of_mem _ (List.mem_append_left _ (List.mem_append_left _ (List.mem_of_getElem? (i := 0) rfl))))) (hts _ (List.mem_cons_of_mem _ (List.mem_append_left _ (List.mem_append_left _ (List.mem_of_getElem? (i := 1) rfl))))) (hts _ (List.mem_cons_of_mem _ (List.mem_append_left _ (List.mem_append_left _ (List.mem_of_getElem? (i := 2) rfl))))) (hts _ (List.mem_cons_of_mem _ (List.mem_append_left _ (List.mem_append_left _ (List.mem_of_getElem? (i := 3) rfl))))) (nle rfl) (nle rfl) (nle rfl) (nle rfl) dX9_chartReason_117 ?_
            obtain ⟨v5_2, ev5_2, hf⟩ := bv_e hf
            refine kn_i ev5_2 ?_
            refine lv_istore (pc := 120) hexec hb dX9_chartReason_120 hl (nle rfl) rfl (fun ls (hl : lv_has ls 9 [(5, .int v5_2), (8, .int t111), (0, .ref a0), (1, .int p1), (2, .int p2), (3, .int p3), (4, .int r3), (6, .int v6)]) => ?_)
            obtain ⟨v6_1, ev6_1, hf⟩ := bv_e hf
            refine k_iinc (pc := 122) hexec hb dX9_chartReason_122 kq_1 hl (k := 7) rfl ev6_1 (nle rfl) rfl (fun ls (hl : lv_has ls 9 [(6, .int v6_1), (5, .int v5_2), (8, .int t111), (0, .ref a0), (1, .int p1), (2, .int p2), (3, .int p3), (4, .int r3)]) => ?_)
            refine lv_goto (pc := 125) hexec hb dX9_chartReason_125 (tgt := 36) rfl ?_
            exact ih36 _ _ _ _ _ (sl2 hf hk36) hP hD hS (lv_sub hl [3, 4, 5, 6, 7, 1, 0] rfl)
          refine ki_ne (pc := 61) hexec hb dX9_chartReason_61 (tgt := 68) rfl hf (fun hc hf => ?_) (fun hc hf => ?_)
          · refine lv_aload_n (pc := 68) hexec hb dX9_chartReason_68 rfl (lv_at hl 1 rfl) ?_
            refine lv_iload (pc := 69) hexec hb dX9_chartReason_69 (lv_at hl 0 rfl) ?_
            obtain ⟨r71, hc, hf⟩ := bd1_e hf
            refine kVp (pc := 71) (S := ⟨hexec, hb, hml, hown, hts⟩) hP hD hG hA hS [0, 1] [] [0, 1] (w2 := (w_X9_chartReason g a0 a1 u0_1 u0_2 u0_3 u0_4 u0_5 u0_6 u0_7 u0_8 u0_9 u0_10 u0_11 u0_12 u0_13 u0_14 u0_15 u0_16 u0_17 u0_18 u0_19 u0_20 u0_21 u0_22 u0_23 u0_24 u0_25 u0_26 u0_27 u0_28 u0_29 u0_30 y1_s)) rfl rfl rfl rfl rfl rfl (by decide) (c_X9_isLand l g a0 a1 _ u0_1 u0_2 u0_3 u0_4 u0_5 u0_6 u0_7 u0_8 u0_9 u0_10 u0_11 u0_12 u0_13 u0_14 u0_15 u0_16 u0_17 u0_18 u0_19 u0_20 u0_21 u0_22 u0_23 u0_24 u0_25 u0_26 u0_27 u0_28 u0_29 u0_30 y1_s r53 r71 hc) gX9_chartReason_X9_isLand rfl hv_X9_isLand ⟨nle rfl, nle rfl⟩ 9 0 rfl rfl rfl (rest := []) rfl rfl hl.1 (nle rfl) dX9_chartReason_71 (fun H locs hP hD hS => ?_)
            refine kb_ne (pc := 74) hexec hb dX9_chartReason_74 (tgt := 81) rfl hf (fun hc hf => ?_) (fun hc hf => ?_)
            · refine lv_aload_n (pc := 81) hexec hb dX9_chartReason_81 rfl (lv_at hl 1 rfl) ?_
              refine lv_iload (pc := 82) hexec hb dX9_chartReason_82 (lv_at hl 0 rfl) ?_
              obtain ⟨r84, hc, hf⟩ := bd1_e hf
              refine kVp (pc := 84) (S := ⟨hexec, hb, hml, hown, hts⟩) hP hD hG hA hS [0, 1] [] [0, 1] (w2 := (w_X9_chartReason g a0 a1 u0_1 u0_2 u0_3 u0_4 u0_5 u0_6 u0_7 u0_8 u0_9 u0_10 u0_11 u0_12 u0_13 u0_14 u0_15 u0_16 u0_17 u0_18 u0_19 u0_20 u0_21 u0_22 u0_23 u0_24 u0_25 u0_26 u0_27 u0_28 u0_29 u0_30 y1_s)) rfl rfl rfl rfl rfl rfl (by decide) (c_X9_isRiver l g a0 a1 _ u0_1 u0_2 u0_3 u0_4 u0_5 u0_6 u0_7 u0_8 u0_9 u0_10 u0_11 u0_12 u0_13 u0_14 u0_15 u0_16 u0_17 u0_18 u0_19 u0_20 u0_21 u0_22 u0_23 u0_24 u0_25 u0_26 u0_27 u0_28 u0_29 u0_30 y1_s r53 r84 hc) gX9_chartReason_X9_isRiver rfl hv_X9_isRiver ⟨nle rfl, nle rfl⟩ 9 0 rfl rfl rfl (rest := []) rfl rfl hl.1 (nle rfl) dX9_chartReason_84 (fun H locs hP hD hS => ?_)
              refine kb_eq (pc := 87) hexec hb dX9_chartReason_87 (tgt := 94) rfl hf (fun hc hf => ?_) (fun hc hf => ?_)
              · refine lv_aload_n (pc := 94) hexec hb dX9_chartReason_94 rfl (lv_at hl 1 rfl) ?_
                refine lv_iload (pc := 95) hexec hb dX9_chartReason_95 (lv_at hl 0 rfl) ?_
                refine lv_iload_n (pc := 97) hexec hb dX9_chartReason_97 rfl (lv_at hl 4 rfl) ?_
                obtain ⟨r98, hc, hf⟩ := bd1_e hf
                refine kVp (pc := 98) (S := ⟨hexec, hb, hml, hown, hts⟩) hP hD hG hA hS [0, 1] [] [0, 1] (w2 := (w_X9_chartReason g a0 a1 u0_1 u0_2 u0_3 u0_4 u0_5 u0_6 u0_7 u0_8 u0_9 u0_10 u0_11 u0_12 u0_13 u0_14 u0_15 u0_16 u0_17 u0_18 u0_19 u0_20 u0_21 u0_22 u0_23 u0_24 u0_25 u0_26 u0_27 u0_28 u0_29 u0_30 y1_s)) rfl rfl rfl rfl rfl rfl (by decide) (c_X9_harbourAt l g a0 a1 _ u0_1 u0_2 u0_3 u0_4 u0_5 u0_6 u0_7 u0_8 u0_9 u0_10 u0_11 u0_12 u0_13 u0_14 u0_15 u0_16 u0_17 u0_18 u0_19 u0_20 u0_21 u0_22 u0_23 u0_24 u0_25 u0_26 u0_27 u0_28 u0_29 u0_30 y1_s r53 p3 r98 hc) gX9_chartReason_X9_harbourAt rfl hv_X9_harbourAt ⟨nle rfl, nle rfl⟩ 9 0 rfl rfl rfl (rest := []) rfl rfl hl.1 (nle rfl) dX9_chartReason_98 (fun H locs hP hD hS => ?_)
                refine lv_iconst (pc := 101) hexec hb dX9_chartReason_101 ki_m1 ?_
                refine ki_eq (pc := 102) hexec hb dX9_chartReason_102 (tgt := 109) rfl hf (fun hc hf => ?_) (fun hc hf => ?_)
                · refine lv_bipush (pc := 109) hexec hb dX9_chartReason_109 kb_9 ?_
                  exact hj111 _ _ _ _ hf hP hD hS (lv_sub hl [1, 2, 3, 4, 5, 6, 7] rfl)
                · refine lv_iconst (pc := 105) hexec hb dX9_chartReason_105 ki_5 ?_
                  refine lv_goto (pc := 106) hexec hb dX9_chartReason_106 (tgt := 111) rfl ?_
                  exact hj111 _ _ _ _ hf hP hD hS (lv_sub hl [1, 2, 3, 4, 5, 6, 7] rfl)
              · refine lv_iconst (pc := 90) hexec hb dX9_chartReason_90 ki_4 ?_
                refine lv_goto (pc := 91) hexec hb dX9_chartReason_91 (tgt := 111) rfl ?_
                exact hj111 _ _ _ _ hf hP hD hS (lv_sub hl [1, 2, 3, 4, 5, 6, 7] rfl)
            · refine lv_iconst (pc := 77) hexec hb dX9_chartReason_77 ki_3 ?_
              refine lv_goto (pc := 78) hexec hb dX9_chartReason_78 (tgt := 111) rfl ?_
              exact hj111 _ _ _ _ hf hP hD hS (lv_sub hl [1, 2, 3, 4, 5, 6, 7] rfl)
          · refine lv_iconst (pc := 64) hexec hb dX9_chartReason_64 ki_2 ?_
            refine lv_goto (pc := 65) hexec hb dX9_chartReason_65 (tgt := 111) rfl ?_
            exact hj111 _ _ _ _ hf hP hD hS (lv_sub hl [1, 2, 3, 4, 5, 6, 7] rfl)
    exact hL36 n _ _ _ _ _ hz hP hD hS (lv_sub hl [3, 4, 5, 6, 2, 1, 0] rfl)
  · refine lv_iconst (pc := 27) hexec hb dX9_chartReason_27 ki_1 ?_
    cases hf
    exact ke_i hQ hexec hb hr hP hD hS dX9_chartReason_28 hlocks
abbrev w_X9_areAgainst (g : GE) (a0 a1 : Nat) (u0_1 u0_2 u0_3 u0_4 u0_5 u0_6 u0_7 u0_8 u0_9 u0_10 u0_11 u0_12 u0_13 u0_14 u0_15 u0_16 u0_17 u0_18 u0_19 u0_20 u0_21 u0_22 u0_23 u0_24 u0_25 u0_26 u0_27 u0_28 u0_29 u0_30 : Value) (y1_s : Nat → Int32) : va_W := [(a0, .inr (9, [.ref a1, u0_1, u0_2, u0_3, u0_4, u0_5, u0_6, u0_7, u0_8, u0_9, u0_10, u0_11, u0_12, u0_13, u0_14, u0_15, u0_16, u0_17, u0_18, u0_19, u0_20, u0_21, u0_22, u0_23, u0_24, u0_25, u0_26, u0_27, u0_28, u0_29, u0_30])), (a1, .inl (g.2.1 0, 552, .inl y1_s))]
noncomputable def f_X9_areAgainst (y1_s : Nat → Int32) (p1 : Int32) (p2 : Int32) (p3 : Int32) (p4 : Int32) (p5 : Int32) (p6 : Int32) : Option (Int32) :=
  bv (fun (v7 : Int32) (v8 : Int32) => ((
    bd1 (f_X9_of y1_s p1 3) fun (r11 : Int32) =>
    (if r11 ≤ v8 then (
      some (.inr v7)
    ) else (
      bd1 (f_X9_of y1_s p1 0) fun (r26 : Int32) =>
      bd1 (f_X9_away y1_s r26 p2 (v8 + 1)) fun (r34 : Int32) =>
      bd1 (f_X9_letterIn y1_s p4 p5 r34) fun (r37 : Int32) =>
      bv (fun (t81 : Int32) => ((
        bv (v8 + 1) fun v8_1 =>
        some (.inl (t81, v8_1))
        ) : Option ((Int32 × Int32) ⊕ (Int32)))) fun j81 =>
      bv (fun (_ : Unit) => ((
        j81 1
        ) : Option ((Int32 × Int32) ⊕ (Int32)))) fun j76 =>
      (if v7 = 0 then (
        bv (fun (_ : Unit) => ((
          j81 0
          ) : Option ((Int32 × Int32) ⊕ (Int32)))) fun j80 =>
        (if r37 = (-1) then (
          j80 ()
        ) else (
          (if p3 = 0 then (
            (if p6 = 0 then (
              bd1 (f_X9_of y1_s p1 (4 + v8)) fun (r70 : Int32) =>
              (if r37 = r70 then (
                j80 ()
              ) else (
                j76 ()
              ))
            ) else (
              j76 ()
            ))
          ) else (
            j76 ()
          ))
        ))
      ) else (
        j76 ()
      ))
    ))
    ) : Option ((Int32 × Int32) ⊕ (Int32)))) fun l6 =>
  bd1 (lq2 l6 0 0) fun (v7_1 : Int32) =>
  zb v7_1 (some v7_1)
set_option maxRecDepth 4000 in
theorem c_X9_areAgainst (l : Launch) (g : GE) (a0 a1 : Nat) (sz : Nat) (u0_1 u0_2 u0_3 u0_4 u0_5 u0_6 u0_7 u0_8 u0_9 u0_10 u0_11 u0_12 u0_13 u0_14 u0_15 u0_16 u0_17 u0_18 u0_19 u0_20 u0_21 u0_22 u0_23 u0_24 u0_25 u0_26 u0_27 u0_28 u0_29 u0_30 : Value) (y1_s : Nat → Int32) (p1 : Int32) (p2 : Int32) (p3 : Int32) (p4 : Int32) (p5 : Int32) (p6 : Int32) (r : Int32) (hf : f_X9_areAgainst y1_s p1 p2 p3 p4 p5 p6 = some r) : MI l g yX9_areAgainst wsX9_areAgainst 4 98 [.ref a0, .int p1, .int p2, .int p3, .int p4, .int p5, .int p6] (w_X9_areAgainst g a0 a1 u0_1 u0_2 u0_3 u0_4 u0_5 u0_6 u0_7 u0_8 u0_9 u0_10 u0_11 u0_12 u0_13 u0_14 u0_15 u0_16 u0_17 u0_18 u0_19 u0_20 u0_21 u0_22 u0_23 u0_24 u0_25 u0_26 u0_27 u0_28 u0_29 u0_30 y1_s) sz (some (.int r)) (w_X9_areAgainst g a0 a1 u0_1 u0_2 u0_3 u0_4 u0_5 u0_6 u0_7 u0_8 u0_9 u0_10 u0_11 u0_12 u0_13 u0_14 u0_15 u0_16 u0_17 u0_18 u0_19 u0_20 u0_21 u0_22 u0_23 u0_24 u0_25 u0_26 u0_27 u0_28 u0_29 u0_30 y1_s) := by
  refine MI.start (cc := cX9_areAgainst) (maxL := 10) (ret := (some .boolean)) rfl rfl (nle rfl) ?_
  intro p e s m args below meth c A ls Q hQ hexec hb hr hts hown hlocks hml hA hP hD hG hS hl
  unfold f_X9_areAgainst at hf
  have hWX9 : ∀ w ∈ wsX90, w.before args s = true := fun w h => hts w (List.mem_cons_of_mem _ (List.mem_append_right _ h))
  have hS : va_S A s.heap s.heap [] := hS
  refine lv_iconst (pc := 0) hexec hb dX9_areAgainst_0 ki_0 ?_
  refine lv_istore (pc := 1) hexec hb dX9_areAgainst_1 hl (nle rfl) rfl (fun ls (hl : lv_has ls 10 [(7, .int 0), (0, .ref a0), (1, .int p1), (2, .int p2), (3, .int p3), (4, .int p4), (5, .int p5), (6, .int p6)]) => ?_)
  refine lv_iconst (pc := 3) hexec hb dX9_areAgainst_3 ki_0 ?_
  refine lv_istore (pc := 4) hexec hb dX9_areAgainst_4 hl (nle rfl) rfl (fun ls (hl : lv_has ls 10 [(8, .int 0), (7, .int 0), (0, .ref a0), (1, .int p1), (2, .int p2), (3, .int p3), (4, .int p4), (5, .int p5), (6, .int p6)]) => ?_)
  obtain ⟨l6, el6, hf⟩ := bvf2 hf
  obtain ⟨v7_1, hz, hf⟩ := bd1_e hf
  have hE6 : ∀ (H : Heap) (locs : List Loc) (ls : Array Slot), va_P g.1 vwCl (w_X9_areAgainst g a0 a1 u0_1 u0_2 u0_3 u0_4 u0_5 u0_6 u0_7 u0_8 u0_9 u0_10 u0_11 u0_12 u0_13 u0_14 u0_15 u0_16 u0_17 u0_18 u0_19 u0_20 u0_21 u0_22 u0_23 u0_24 u0_25 u0_26 u0_27 u0_28 u0_29 u0_30 y1_s) H → va_D A (w_X9_areAgainst g a0 a1 u0_1 u0_2 u0_3 u0_4 u0_5 u0_6 u0_7 u0_8 u0_9 u0_10 u0_11 u0_12 u0_13 u0_14 u0_15 u0_16 u0_17 u0_18 u0_19 u0_20 u0_21 u0_22 u0_23 u0_24 u0_25 u0_26 u0_27 u0_28 u0_29 u0_30 y1_s) → va_S A s.heap H locs → lv_has ls 10 [(7, .int v7_1)] → W p l e (RM 4 98) s m args below meth c H locs 0 0 Q (F0 m 89 ls []) := by
    intro H locs ls hP hD hS hl
    refine lv_iload (pc := 89) hexec hb dX9_areAgainst_89 (lv_at hl 0 rfl) ?_
    obtain ⟨hx, hf⟩ := zb_e hf
    cases hf
    exact ke_z hQ hexec hb hr hx hP hD hS dX9_areAgainst_91 hlocks
  obtain ⟨n, hz⟩ := lq2_e hz
  have hL6 : ∀ (n : Nat) (v7 : Int32) (v8 : Int32) (H : Heap) (locs : List Loc) (ls : Array Slot), it2 l6 n v7 v8 = some v7_1 → va_P g.1 vwCl (w_X9_areAgainst g a0 a1 u0_1 u0_2 u0_3 u0_4 u0_5 u0_6 u0_7 u0_8 u0_9 u0_10 u0_11 u0_12 u0_13 u0_14 u0_15 u0_16 u0_17 u0_18 u0_19 u0_20 u0_21 u0_22 u0_23 u0_24 u0_25 u0_26 u0_27 u0_28 u0_29 u0_30 y1_s) H → va_D A (w_X9_areAgainst g a0 a1 u0_1 u0_2 u0_3 u0_4 u0_5 u0_6 u0_7 u0_8 u0_9 u0_10 u0_11 u0_12 u0_13 u0_14 u0_15 u0_16 u0_17 u0_18 u0_19 u0_20 u0_21 u0_22 u0_23 u0_24 u0_25 u0_26 u0_27 u0_28 u0_29 u0_30 y1_s) → va_S A s.heap H locs → lv_has ls 10 [(0, .ref a0), (1, .int p1), (2, .int p2), (3, .int p3), (4, .int p4), (5, .int p5), (6, .int p6), (7, .int v7), (8, .int v8)] → W p l e (RM 4 98) s m args below meth c H locs 0 0 Q (F0 m 6 ls []) := by
    intro n
    induction n with
    | zero =>
      intro v7 v8 H locs ls hf hP hD hS hl
      exact it2_0 hf
    | succ n6 ih6 =>
      intro v7 v8 H locs ls hf hP hD hS hl
      obtain ⟨q6, hf, hk6⟩ := it2_e hf
      have hf := (el6 v7 v8).symm.trans hf
      refine lv_iload (pc := 6) hexec hb dX9_areAgainst_6 (lv_at hl 8 rfl) ?_
      refine lv_aload_n (pc := 8) hexec hb dX9_areAgainst_8 rfl (lv_at hl 0 rfl) ?_
      refine lv_iload_n (pc := 9) hexec hb dX9_areAgainst_9 rfl (lv_at hl 1 rfl) ?_
      refine lv_iconst (pc := 10) hexec hb dX9_areAgainst_10 ki_3 ?_
      obtain ⟨r11, hc, hf⟩ := bd1_e hf
      refine kVp (pc := 11) (S := ⟨hexec, hb, hml, hown, hts⟩) hP hD hG hA hS [0, 1] [] [0, 1] (w2 := (w_X9_areAgainst g a0 a1 u0_1 u0_2 u0_3 u0_4 u0_5 u0_6 u0_7 u0_8 u0_9 u0_10 u0_11 u0_12 u0_13 u0_14 u0_15 u0_16 u0_17 u0_18 u0_19 u0_20 u0_21 u0_22 u0_23 u0_24 u0_25 u0_26 u0_27 u0_28 u0_29 u0_30 y1_s)) rfl rfl rfl rfl rfl rfl (by decide) (c_X9_of l g a0 a1 _ u0_1 u0_2 u0_3 u0_4 u0_5 u0_6 u0_7 u0_8 u0_9 u0_10 u0_11 u0_12 u0_13 u0_14 u0_15 u0_16 u0_17 u0_18 u0_19 u0_20 u0_21 u0_22 u0_23 u0_24 u0_25 u0_26 u0_27 u0_28 u0_29 u0_30 y1_s p1 3 r11 hc) gX9_areAgainst_X9_of rfl hv_X9_of ⟨nle rfl, nle rfl⟩ 9 0 rfl rfl rfl (rest := [.int v8]) rfl rfl hl.1 (nle rfl) dX9_areAgainst_11 (fun H locs hP hD hS => ?_)
      refine ki_ge (pc := 14) hexec hb dX9_areAgainst_14 (tgt := 89) rfl hf (fun hc hf => ?_) (fun hc hf => ?_)
      · cases sr2 hf hk6
        exact hE6 _ _ _ hP hD hS (lv_sub hl [7] rfl)
      · refine lv_aload_n (pc := 17) hexec hb dX9_areAgainst_17 rfl (lv_at hl 0 rfl) ?_
        refine lv_iload (pc := 18) hexec hb dX9_areAgainst_18 (lv_at hl 4 rfl) ?_
        refine lv_iload (pc := 20) hexec hb dX9_areAgainst_20 (lv_at hl 5 rfl) ?_
        refine lv_aload_n (pc := 22) hexec hb dX9_areAgainst_22 rfl (lv_at hl 0 rfl) ?_
        refine lv_aload_n (pc := 23) hexec hb dX9_areAgainst_23 rfl (lv_at hl 0 rfl) ?_
        refine lv_iload_n (pc := 24) hexec hb dX9_areAgainst_24 rfl (lv_at hl 1 rfl) ?_
        refine lv_iconst (pc := 25) hexec hb dX9_areAgainst_25 ki_0 ?_
        obtain ⟨r26, hc, hf⟩ := bd1_e hf
        refine kVp (pc := 26) (S := ⟨hexec, hb, hml, hown, hts⟩) hP hD hG hA hS [0, 1] [] [0, 1] (w2 := (w_X9_areAgainst g a0 a1 u0_1 u0_2 u0_3 u0_4 u0_5 u0_6 u0_7 u0_8 u0_9 u0_10 u0_11 u0_12 u0_13 u0_14 u0_15 u0_16 u0_17 u0_18 u0_19 u0_20 u0_21 u0_22 u0_23 u0_24 u0_25 u0_26 u0_27 u0_28 u0_29 u0_30 y1_s)) rfl rfl rfl rfl rfl rfl (by decide) (c_X9_of l g a0 a1 _ u0_1 u0_2 u0_3 u0_4 u0_5 u0_6 u0_7 u0_8 u0_9 u0_10 u0_11 u0_12 u0_13 u0_14 u0_15 u0_16 u0_17 u0_18 u0_19 u0_20 u0_21 u0_22 u0_23 u0_24 u0_25 u0_26 u0_27 u0_28 u0_29 u0_30 y1_s p1 0 r26 hc) gX9_areAgainst_X9_of rfl hv_X9_of ⟨nle rfl, nle rfl⟩ 9 0 rfl rfl rfl (rest := [.ref a0, .int p5, .int p4, .ref a0]) rfl rfl hl.1 (nle rfl) dX9_areAgainst_26 (fun H locs hP hD hS => ?_)
        refine lv_iload_n (pc := 29) hexec hb dX9_areAgainst_29 rfl (lv_at hl 2 rfl) ?_
        refine lv_iload (pc := 30) hexec hb dX9_areAgainst_30 (lv_at hl 8 rfl) ?_
        refine lv_iconst (pc := 32) hexec hb dX9_areAgainst_32 ki_1 ?_
        refine lv_iadd (pc := 33) hexec hb dX9_areAgainst_33 ?_
        obtain ⟨r34, hc, hf⟩ := bd1_e hf
        refine kVp (pc := 34) (S := ⟨hexec, hb, hml, hown, hts⟩) hP hD hG hA hS [0, 1] [] [0, 1] (w2 := (w_X9_areAgainst g a0 a1 u0_1 u0_2 u0_3 u0_4 u0_5 u0_6 u0_7 u0_8 u0_9 u0_10 u0_11 u0_12 u0_13 u0_14 u0_15 u0_16 u0_17 u0_18 u0_19 u0_20 u0_21 u0_22 u0_23 u0_24 u0_25 u0_26 u0_27 u0_28 u0_29 u0_30 y1_s)) rfl rfl rfl rfl rfl rfl (by decide) (c_X9_away l g a0 a1 _ u0_1 u0_2 u0_3 u0_4 u0_5 u0_6 u0_7 u0_8 u0_9 u0_10 u0_11 u0_12 u0_13 u0_14 u0_15 u0_16 u0_17 u0_18 u0_19 u0_20 u0_21 u0_22 u0_23 u0_24 u0_25 u0_26 u0_27 u0_28 u0_29 u0_30 y1_s r26 p2 (v8 + 1) r34 hc) gX9_areAgainst_X9_away rfl hv_X9_away ⟨nle rfl, nle rfl⟩ 9 0 rfl rfl rfl (rest := [.int p5, .int p4, .ref a0]) rfl rfl hl.1 (nle rfl) dX9_areAgainst_34 (fun H locs hP hD hS => ?_)
        obtain ⟨r37, hc, hf⟩ := bd1_e hf
        refine kVp (pc := 37) (S := ⟨hexec, hb, hml, hown, hts⟩) hP hD hG hA hS [0, 1] [] [0, 1] (w2 := (w_X9_areAgainst g a0 a1 u0_1 u0_2 u0_3 u0_4 u0_5 u0_6 u0_7 u0_8 u0_9 u0_10 u0_11 u0_12 u0_13 u0_14 u0_15 u0_16 u0_17 u0_18 u0_19 u0_20 u0_21 u0_22 u0_23 u0_24 u0_25 u0_26 u0_27 u0_28 u0_29 u0_30 y1_s)) rfl rfl rfl rfl rfl rfl (by decide) (c_X9_letterIn l g a0 a1 _ u0_1 u0_2 u0_3 u0_4 u0_5 u0_6 u0_7 u0_8 u0_9 u0_10 u0_11 u0_12 u0_13 u0_14 u0_15 u0_16 u0_17 u0_18 u0_19 u0_20 u0_21 u0_22 u0_23 u0_24 u0_25 u0_26 u0_27 u0_28 u0_29 u0_30 y1_s p4 p5 r34 r37 hc) gX9_areAgainst_X9_letterIn rfl hv_X9_letterIn ⟨nle rfl, nle rfl⟩ 9 0 rfl rfl rfl (rest := []) rfl rfl hl.1 (nle rfl) dX9_areAgainst_37 (fun H locs hP hD hS => ?_)
        refine lv_istore (pc := 40) hexec hb dX9_areAgainst_40 hl (nle rfl) rfl (fun ls (hl : lv_has ls 10 [(9, .int r37), (0, .ref a0), (1, .int p1), (2, .int p2), (3, .int p3), (4, .int p4), (5, .int p5), (6, .int p6), (7, .int v7), (8, .int v8)]) => ?_)
        refine lv_iload (pc := 42) hexec hb dX9_areAgainst_42 (lv_at hl 8 rfl) ?_
        obtain ⟨j81, ej81, hf⟩ := bvf1 hf
        have hj81 : ∀ (t81 : Int32) (H : Heap) (locs : List Loc) (ls : Array Slot), j81 t81 = some q6 → va_P g.1 vwCl (w_X9_areAgainst g a0 a1 u0_1 u0_2 u0_3 u0_4 u0_5 u0_6 u0_7 u0_8 u0_9 u0_10 u0_11 u0_12 u0_13 u0_14 u0_15 u0_16 u0_17 u0_18 u0_19 u0_20 u0_21 u0_22 u0_23 u0_24 u0_25 u0_26 u0_27 u0_28 u0_29 u0_30 y1_s) H → va_D A (w_X9_areAgainst g a0 a1 u0_1 u0_2 u0_3 u0_4 u0_5 u0_6 u0_7 u0_8 u0_9 u0_10 u0_11 u0_12 u0_13 u0_14 u0_15 u0_16 u0_17 u0_18 u0_19 u0_20 u0_21 u0_22 u0_23 u0_24 u0_25 u0_26 u0_27 u0_28 u0_29 u0_30 y1_s) → va_S A s.heap H locs → lv_has ls 10 [(0, .ref a0), (1, .int p1), (2, .int p2), (3, .int p3), (4, .int p4), (5, .int p5), (6, .int p6), (8, .int v8)] → W p l e (RM 4 98) s m args below meth c H locs 0 0 Q (F0 m 81 ls [.int t81]) := by
          intro t81 H locs ls hf hP hD hS hl
          have hf := (ej81 t81).symm.trans hf
          refine lv_istore (pc := 81) hexec hb dX9_areAgainst_81 hl (nle rfl) rfl (fun ls (hl : lv_has ls 10 [(7, .int t81), (0, .ref a0), (1, .int p1), (2, .int p2), (3, .int p3), (4, .int p4), (5, .int p5), (6, .int p6), (8, .int v8)]) => ?_)
          obtain ⟨v8_1, ev8_1, hf⟩ := bv_e hf
          refine k_iinc (pc := 83) hexec hb dX9_areAgainst_83 kq_1 hl (k := 8) rfl ev8_1 (nle rfl) rfl (fun ls (hl : lv_has ls 10 [(8, .int v8_1), (7, .int t81), (0, .ref a0), (1, .int p1), (2, .int p2), (3, .int p3), (4, .int p4), (5, .int p5), (6, .int p6)]) => ?_)
          refine lv_goto (pc := 86) hexec hb dX9_areAgainst_86 (tgt := 6) rfl ?_
          exact ih6 _ _ _ _ _ (sl2 hf hk6) hP hD hS (lv_sub hl [2, 3, 4, 5, 6, 7, 8, 1, 0] rfl)
        obtain ⟨j76, ej76, hf⟩ := bvf1 hf
        have hj76 : ∀ (u : Unit) (H : Heap) (locs : List Loc) (ls : Array Slot), j76 u = some q6 → va_P g.1 vwCl (w_X9_areAgainst g a0 a1 u0_1 u0_2 u0_3 u0_4 u0_5 u0_6 u0_7 u0_8 u0_9 u0_10 u0_11 u0_12 u0_13 u0_14 u0_15 u0_16 u0_17 u0_18 u0_19 u0_20 u0_21 u0_22 u0_23 u0_24 u0_25 u0_26 u0_27 u0_28 u0_29 u0_30 y1_s) H → va_D A (w_X9_areAgainst g a0 a1 u0_1 u0_2 u0_3 u0_4 u0_5 u0_6 u0_7 u0_8 u0_9 u0_10 u0_11 u0_12 u0_13 u0_14 u0_15 u0_16 u0_17 u0_18 u0_19 u0_20 u0_21 u0_22 u0_23 u0_24 u0_25 u0_26 u0_27 u0_28 u0_29 u0_30 y1_s) → va_S A s.heap H locs → lv_has ls 10 [(0, .ref a0), (1, .int p1), (2, .int p2), (3, .int p3), (4, .int p4), (5, .int p5), (6, .int p6), (8, .int v8)] → W p l e (RM 4 98) s m args below meth c H locs 0 0 Q (F0 m 76 ls []) := by
          intro u H locs ls hf hP hD hS hl
          have hf := (ej76 u).symm.trans hf
          refine lv_iconst (pc := 76) hexec hb dX9_areAgainst_76 ki_1 ?_
          refine lv_goto (pc := 77) hexec hb dX9_areAgainst_77 (tgt := 81) rfl ?_
          exact hj81 _ _ _ _ hf hP hD hS (lv_sub hl [0, 1, 2, 3, 4, 5, 6, 7] rfl)
        refine kb_ne (pc := 44) hexec hb dX9_areAgainst_44 (tgt := 76) rfl hf (fun hc hf => ?_) (fun hc hf => ?_)
        · exact hj76 _ _ _ _ hf hP hD hS (lv_sub hl [1, 2, 3, 4, 5, 6, 7, 9] rfl)
        · refine lv_iload (pc := 47) hexec hb dX9_areAgainst_47 (lv_at hl 0 rfl) ?_
          refine lv_iconst (pc := 49) hexec hb dX9_areAgainst_49 ki_m1 ?_
          obtain ⟨j80, ej80, hf⟩ := bvf1 hf
          have hj80 : ∀ (u : Unit) (H : Heap) (locs : List Loc) (ls : Array Slot), j80 u = some q6 → va_P g.1 vwCl (w_X9_areAgainst g a0 a1 u0_1 u0_2 u0_3 u0_4 u0_5 u0_6 u0_7 u0_8 u0_9 u0_10 u0_11 u0_12 u0_13 u0_14 u0_15 u0_16 u0_17 u0_18 u0_19 u0_20 u0_21 u0_22 u0_23 u0_24 u0_25 u0_26 u0_27 u0_28 u0_29 u0_30 y1_s) H → va_D A (w_X9_areAgainst g a0 a1 u0_1 u0_2 u0_3 u0_4 u0_5 u0_6 u0_7 u0_8 u0_9 u0_10 u0_11 u0_12 u0_13 u0_14 u0_15 u0_16 u0_17 u0_18 u0_19 u0_20 u0_21 u0_22 u0_23 u0_24 u0_25 u0_26 u0_27 u0_28 u0_29 u0_30 y1_s) → va_S A s.heap H locs → lv_has ls 10 [(0, .ref a0), (1, .int p1), (2, .int p2), (3, .int p3), (4, .int p4), (5, .int p5), (6, .int p6), (8, .int v8)] → W p l e (RM 4 98) s m args below meth c H locs 0 0 Q (F0 m 80 ls []) := by
            intro u H locs ls hf hP hD hS hl
            have hf := (ej80 u).symm.trans hf
            refine lv_iconst (pc := 80) hexec hb dX9_areAgainst_80 ki_0 ?_
            exact hj81 _ _ _ _ hf hP hD hS (lv_sub hl [0, 1, 2, 3, 4, 5, 6, 7] rfl)
          refine ki_eq (pc := 50) hexec hb dX9_areAgainst_50 (tgt := 80) rfl hf (fun hc hf => ?_) (fun hc hf => ?_)
          · exact hj80 _ _ _ _ hf hP hD hS (lv_sub hl [1, 2, 3, 4, 5, 6, 7, 9] rfl)
          · refine lv_iload_n (pc := 53) hexec hb dX9_areAgainst_53 rfl (lv_at hl 4 rfl) ?_
            refine kb_ne (pc := 54) hexec hb dX9_areAgainst_54 (tgt := 76) rfl hf (fun hc hf => ?_) (fun hc hf => ?_)
            · exact hj76 _ _ _ _ hf hP hD hS (lv_sub hl [1, 2, 3, 4, 5, 6, 7, 9] rfl)
            · refine lv_iload (pc := 57) hexec hb dX9_areAgainst_57 (lv_at hl 7 rfl) ?_
              refine kb_ne (pc := 59) hexec hb dX9_areAgainst_59 (tgt := 76) rfl hf (fun hc hf => ?_) (fun hc hf => ?_)
              · exact hj76 _ _ _ _ hf hP hD hS (lv_sub hl [1, 2, 3, 4, 5, 6, 7, 9] rfl)
              · refine lv_iload (pc := 62) hexec hb dX9_areAgainst_62 (lv_at hl 0 rfl) ?_
                refine lv_aload_n (pc := 64) hexec hb dX9_areAgainst_64 rfl (lv_at hl 1 rfl) ?_
                refine lv_iload_n (pc := 65) hexec hb dX9_areAgainst_65 rfl (lv_at hl 2 rfl) ?_
                refine lv_iconst (pc := 66) hexec hb dX9_areAgainst_66 ki_4 ?_
                refine lv_iload (pc := 67) hexec hb dX9_areAgainst_67 (lv_at hl 9 rfl) ?_
                refine lv_iadd (pc := 69) hexec hb dX9_areAgainst_69 ?_
                obtain ⟨r70, hc, hf⟩ := bd1_e hf
                refine kVp (pc := 70) (S := ⟨hexec, hb, hml, hown, hts⟩) hP hD hG hA hS [0, 1] [] [0, 1] (w2 := (w_X9_areAgainst g a0 a1 u0_1 u0_2 u0_3 u0_4 u0_5 u0_6 u0_7 u0_8 u0_9 u0_10 u0_11 u0_12 u0_13 u0_14 u0_15 u0_16 u0_17 u0_18 u0_19 u0_20 u0_21 u0_22 u0_23 u0_24 u0_25 u0_26 u0_27 u0_28 u0_29 u0_30 y1_s)) rfl rfl rfl rfl rfl rfl (by decide) (c_X9_of l g a0 a1 _ u0_1 u0_2 u0_3 u0_4 u0_5 u0_6 u0_7 u0_8 u0_9 u0_10 u0_11 u0_12 u0_13 u0_14 u0_15 u0_16 u0_17 u0_18 u0_19 u0_20 u0_21 u0_22 u0_23 u0_24 u0_25 u0_26 u0_27 u0_28 u0_29 u0_30 y1_s p1 (4 + v8) r70 hc) gX9_areAgainst_X9_of rfl hv_X9_of ⟨nle rfl, nle rfl⟩ 9 0 rfl rfl rfl (rest := [.int r37]) rfl rfl hl.1 (nle rfl) dX9_areAgainst_70 (fun H locs hP hD hS => ?_)
                refine ki_eq (pc := 73) hexec hb dX9_areAgainst_73 (tgt := 80) rfl hf (fun hc hf => ?_) (fun hc hf => ?_)
                · exact hj80 _ _ _ _ hf hP hD hS (lv_sub hl [1, 2, 3, 4, 5, 6, 7, 9] rfl)
                · exact hj76 _ _ _ _ hf hP hD hS (lv_sub hl [1, 2, 3, 4, 5, 6, 7, 9] rfl)
  exact hL6 n _ _ _ _ _ hz hP hD hS (lv_sub hl [2, 3, 4, 5, 6, 7, 8, 1, 0] rfl)
abbrev w_X9_isRed (g : GE) (a0 a1 : Nat) (u0_1 u0_2 u0_3 u0_4 u0_5 u0_6 u0_7 u0_8 u0_9 u0_10 u0_11 u0_12 u0_13 u0_14 u0_15 u0_16 u0_17 u0_18 u0_19 u0_20 u0_21 u0_22 u0_23 u0_24 u0_25 u0_26 u0_27 u0_28 u0_29 u0_30 : Value) (y1_s : Nat → Int32) : va_W := [(a0, .inr (9, [.ref a1, u0_1, u0_2, u0_3, u0_4, u0_5, u0_6, u0_7, u0_8, u0_9, u0_10, u0_11, u0_12, u0_13, u0_14, u0_15, u0_16, u0_17, u0_18, u0_19, u0_20, u0_21, u0_22, u0_23, u0_24, u0_25, u0_26, u0_27, u0_28, u0_29, u0_30])), (a1, .inl (g.2.1 0, 552, .inl y1_s))]
noncomputable def f_X9_isRed (y1_s : Nat → Int32) (p1 : Int32) : Option (Int32) :=
  bd1 (f_X9_of y1_s p1 1) fun (r3 : Int32) =>
  (if r3 = 1 then (
    some 1
  ) else (
    some 0
  ))
set_option maxRecDepth 4000 in
theorem c_X9_isRed (l : Launch) (g : GE) (a0 a1 : Nat) (sz : Nat) (u0_1 u0_2 u0_3 u0_4 u0_5 u0_6 u0_7 u0_8 u0_9 u0_10 u0_11 u0_12 u0_13 u0_14 u0_15 u0_16 u0_17 u0_18 u0_19 u0_20 u0_21 u0_22 u0_23 u0_24 u0_25 u0_26 u0_27 u0_28 u0_29 u0_30 : Value) (y1_s : Nat → Int32) (p1 : Int32) (r : Int32) (hf : f_X9_isRed y1_s p1 = some r) : MI l g yX9_isRed wsX9_isRed 2 46 [.ref a0, .int p1] (w_X9_isRed g a0 a1 u0_1 u0_2 u0_3 u0_4 u0_5 u0_6 u0_7 u0_8 u0_9 u0_10 u0_11 u0_12 u0_13 u0_14 u0_15 u0_16 u0_17 u0_18 u0_19 u0_20 u0_21 u0_22 u0_23 u0_24 u0_25 u0_26 u0_27 u0_28 u0_29 u0_30 y1_s) sz (some (.int r)) (w_X9_isRed g a0 a1 u0_1 u0_2 u0_3 u0_4 u0_5 u0_6 u0_7 u0_8 u0_9 u0_10 u0_11 u0_12 u0_13 u0_14 u0_15 u0_16 u0_17 u0_18 u0_19 u0_20 u0_21 u0_22 u0_23 u0_24 u0_25 u0_26 u0_27 u0_28 u0_29 u0_30 y1_s) := by
  refine MI.start (cc := cX9_isRed) (maxL := 2) (ret := (some .boolean)) rfl rfl (nle rfl) ?_
  intro p e s m args below meth c A ls Q hQ hexec hb hr hts hown hlocks hml hA hP hD hG hS hl
  unfold f_X9_isRed at hf
  have hWX9 : ∀ w ∈ wsX90, w.before args s = true := fun w h => hts w (List.mem_cons_of_mem _ (List.mem_append_right _ h))
  have hS : va_S A s.heap s.heap [] := hS
  refine lv_aload_n (pc := 0) hexec hb dX9_isRed_0 rfl (lv_at hl 0 rfl) ?_
  refine lv_iload_n (pc := 1) hexec hb dX9_isRed_1 rfl (lv_at hl 1 rfl) ?_
  refine lv_iconst (pc := 2) hexec hb dX9_isRed_2 ki_1 ?_
  obtain ⟨r3, hc, hf⟩ := bd1_e hf
  refine kVp (pc := 3) (S := ⟨hexec, hb, hml, hown, hts⟩) hP hD hG hA hS [0, 1] [] [0, 1] (w2 := (w_X9_isRed g a0 a1 u0_1 u0_2 u0_3 u0_4 u0_5 u0_6 u0_7 u0_8 u0_9 u0_10 u0_11 u0_12 u0_13 u0_14 u0_15 u0_16 u0_17 u0_18 u0_19 u0_20 u0_21 u0_22 u0_23 u0_24 u0_25 u0_26 u0_27 u0_28 u0_29 u0_30 y1_s)) rfl rfl rfl rfl rfl rfl (by decide) (c_X9_of l g a0 a1 _ u0_1 u0_2 u0_3 u0_4 u0_5 u0_6 u0_7 u0_8 u0_9 u0_10 u0_11 u0_12 u0_13 u0_14 u0_15 u0_16 u0_17 u0_18 u0_19 u0_20 u0_21 u0_22 u0_23 u0_24 u0_25 u0_26 u0_27 u0_28 u0_29 u0_30 y1_s p1 1 r3 hc) gX9_isRed_X9_of rfl hv_X9_of ⟨nle rfl, nle rfl⟩ 9 0 rfl rfl rfl (rest := []) rfl rfl hl.1 (nle rfl) dX9_isRed_3 (fun H locs hP hD hS => ?_)
  refine lv_iconst (pc := 6) hexec hb dX9_isRed_6 ki_1 ?_
  refine ki_ne (pc := 7) hexec hb dX9_isRed_7 (tgt := 14) rfl hf (fun hc hf => ?_) (fun hc hf => ?_)
  · refine lv_iconst (pc := 14) hexec hb dX9_isRed_14 ki_0 ?_
    cases hf
    exact ke_z hQ hexec hb hr (.inl rfl) hP hD hS dX9_isRed_15 hlocks
  · refine lv_iconst (pc := 10) hexec hb dX9_isRed_10 ki_1 ?_
    refine lv_goto (pc := 11) hexec hb dX9_isRed_11 (tgt := 15) rfl ?_
    cases hf
    exact ke_z hQ hexec hb hr (.inr rfl) hP hD hS dX9_isRed_15 hlocks
abbrev w_X9_reason (g : GE) (a0 a1 : Nat) (u0_1 u0_2 u0_3 u0_4 u0_5 u0_6 u0_7 u0_8 u0_9 u0_10 u0_11 u0_12 u0_13 u0_14 u0_15 u0_16 u0_17 u0_18 u0_19 u0_20 u0_21 u0_22 u0_23 u0_24 u0_25 u0_26 u0_27 u0_28 u0_29 u0_30 : Value) (y1_s : Nat → Int32) : va_W := [(a0, .inr (9, [.ref a1, u0_1, u0_2, u0_3, u0_4, u0_5, u0_6, u0_7, u0_8, u0_9, u0_10, u0_11, u0_12, u0_13, u0_14, u0_15, u0_16, u0_17, u0_18, u0_19, u0_20, u0_21, u0_22, u0_23, u0_24, u0_25, u0_26, u0_27, u0_28, u0_29, u0_30])), (a1, .inl (g.2.1 0, 552, .inl y1_s))]
noncomputable def f_X9_reason (y1_s : Nat → Int32) (p1 : Int32) (p2 : Int32) : Option (Int32) :=
  bd1 (f_X9_chartReason y1_s p1 p2 (-1)) fun (r4 : Int32) =>
  bv (fun (v3 : Int32) (v4 : Int32) => ((
    ar 2 552 <|
    (if (y1_s (2 : Int32).toNatClampNeg) ≤ v4 then (
      some (.inr v3)
    ) else (
      (if v3 = 0 then (
        bv (fun (v3_2 : Int32) => ((
          bv (v4 + 1) fun v4_1 =>
          some (.inl (v3_2, v4_1))
          ) : Option ((Int32 × Int32) ⊕ (Int32)))) fun j73 =>
        (if v4 = p1 then (
          j73 v3
        ) else (
          bd1 (f_X9_isPlaced y1_s v4) fun (r35 : Int32) =>
          (if r35 = 0 then (
            j73 v3
          ) else (
            bd1 (f_X9_isRed y1_s p1) fun (r46 : Int32) =>
            bd1 (f_X9_of y1_s v4 2) fun (r55 : Int32) =>
            bd1 (f_X9_isRed y1_s v4) fun (r61 : Int32) =>
            bd1 (f_X9_areAgainst y1_s p1 p2 r46 v4 r55 r61) fun (r64 : Int32) =>
            (if r64 = 0 then (
              j73 v3
            ) else (
              j73 6
            ))
          ))
        ))
      ) else (
        some (.inr v3)
      ))
    ))
    ) : Option ((Int32 × Int32) ⊕ (Int32)))) fun l11 =>
  bd1 (lq2 l11 r4 0) fun (v3_1 : Int32) =>
  some v3_1
set_option maxRecDepth 4000 in
theorem c_X9_reason (l : Launch) (g : GE) (a0 a1 : Nat) (sz : Nat) (u0_1 u0_2 u0_3 u0_4 u0_5 u0_6 u0_7 u0_8 u0_9 u0_10 u0_11 u0_12 u0_13 u0_14 u0_15 u0_16 u0_17 u0_18 u0_19 u0_20 u0_21 u0_22 u0_23 u0_24 u0_25 u0_26 u0_27 u0_28 u0_29 u0_30 : Value) (y1_s : Nat → Int32) (p1 : Int32) (p2 : Int32) (r : Int32) (hf : f_X9_reason y1_s p1 p2 = some r) : MI l g yX9_reason wsX9_reason 5 127 [.ref a0, .int p1, .int p2] (w_X9_reason g a0 a1 u0_1 u0_2 u0_3 u0_4 u0_5 u0_6 u0_7 u0_8 u0_9 u0_10 u0_11 u0_12 u0_13 u0_14 u0_15 u0_16 u0_17 u0_18 u0_19 u0_20 u0_21 u0_22 u0_23 u0_24 u0_25 u0_26 u0_27 u0_28 u0_29 u0_30 y1_s) sz (some (.int r)) (w_X9_reason g a0 a1 u0_1 u0_2 u0_3 u0_4 u0_5 u0_6 u0_7 u0_8 u0_9 u0_10 u0_11 u0_12 u0_13 u0_14 u0_15 u0_16 u0_17 u0_18 u0_19 u0_20 u0_21 u0_22 u0_23 u0_24 u0_25 u0_26 u0_27 u0_28 u0_29 u0_30 y1_s) := by
  refine MI.start (cc := cX9_reason) (maxL := 5) (ret := (some .int)) rfl rfl (nle rfl) ?_
  intro p e s m args below meth c A ls Q hQ hexec hb hr hts hown hlocks hml hA hP hD hG hS hl
  unfold f_X9_reason at hf
  have hWX9 : ∀ w ∈ wsX90, w.before args s = true := fun w h => hts w (List.mem_cons_of_mem _ (List.mem_append_right _ h))
  have hS : va_S A s.heap s.heap [] := hS
  refine lv_aload_n (pc := 0) hexec hb dX9_reason_0 rfl (lv_at hl 0 rfl) ?_
  refine lv_iload_n (pc := 1) hexec hb dX9_reason_1 rfl (lv_at hl 1 rfl) ?_
  refine lv_iload_n (pc := 2) hexec hb dX9_reason_2 rfl (lv_at hl 2 rfl) ?_
  refine lv_iconst (pc := 3) hexec hb dX9_reason_3 ki_m1 ?_
  obtain ⟨r4, hc, hf⟩ := bd1_e hf
  refine kVp (pc := 4) (S := ⟨hexec, hb, hml, hown, hts⟩) hP hD hG hA hS [0, 1] [] [0, 1] (w2 := (w_X9_reason g a0 a1 u0_1 u0_2 u0_3 u0_4 u0_5 u0_6 u0_7 u0_8 u0_9 u0_10 u0_11 u0_12 u0_13 u0_14 u0_15 u0_16 u0_17 u0_18 u0_19 u0_20 u0_21 u0_22 u0_23 u0_24 u0_25 u0_26 u0_27 u0_28 u0_29 u0_30 y1_s)) rfl rfl rfl rfl rfl rfl (by decide) (c_X9_chartReason l g a0 a1 _ u0_1 u0_2 u0_3 u0_4 u0_5 u0_6 u0_7 u0_8 u0_9 u0_10 u0_11 u0_12 u0_13 u0_14 u0_15 u0_16 u0_17 u0_18 u0_19 u0_20 u0_21 u0_22 u0_23 u0_24 u0_25 u0_26 u0_27 u0_28 u0_29 u0_30 y1_s p1 p2 (-1) r4 hc) gX9_reason_X9_chartReason rfl hv_X9_chartReason ⟨nle rfl, nle rfl⟩ 9 0 rfl rfl rfl (rest := []) rfl rfl hl.1 (nle rfl) dX9_reason_4 (fun H locs hP hD hS => ?_)
  refine lv_istore_n (pc := 7) hexec hb dX9_reason_7 rfl hl (nle rfl) rfl (fun ls (hl : lv_has ls 5 [(3, .int r4), (0, .ref a0), (1, .int p1), (2, .int p2)]) => ?_)
  refine lv_iconst (pc := 8) hexec hb dX9_reason_8 ki_0 ?_
  refine lv_istore (pc := 9) hexec hb dX9_reason_9 hl (nle rfl) rfl (fun ls (hl : lv_has ls 5 [(4, .int 0), (3, .int r4), (0, .ref a0), (1, .int p1), (2, .int p2)]) => ?_)
  obtain ⟨l11, el11, hf⟩ := bvf2 hf
  obtain ⟨v3_1, hz, hf⟩ := bd1_e hf
  have hE11 : ∀ (H : Heap) (locs : List Loc) (ls : Array Slot), va_P g.1 vwCl (w_X9_reason g a0 a1 u0_1 u0_2 u0_3 u0_4 u0_5 u0_6 u0_7 u0_8 u0_9 u0_10 u0_11 u0_12 u0_13 u0_14 u0_15 u0_16 u0_17 u0_18 u0_19 u0_20 u0_21 u0_22 u0_23 u0_24 u0_25 u0_26 u0_27 u0_28 u0_29 u0_30 y1_s) H → va_D A (w_X9_reason g a0 a1 u0_1 u0_2 u0_3 u0_4 u0_5 u0_6 u0_7 u0_8 u0_9 u0_10 u0_11 u0_12 u0_13 u0_14 u0_15 u0_16 u0_17 u0_18 u0_19 u0_20 u0_21 u0_22 u0_23 u0_24 u0_25 u0_26 u0_27 u0_28 u0_29 u0_30 y1_s) → va_S A s.heap H locs → lv_has ls 5 [(3, .int v3_1)] → W p l e (RM 5 127) s m args below meth c H locs 0 0 Q (F0 m 79 ls []) := by
    intro H locs ls hP hD hS hl
    refine lv_iload_n (pc := 79) hexec hb dX9_reason_79 rfl (lv_at hl 0 rfl) ?_
    cases hf
    exact ke_i hQ hexec hb hr hP hD hS dX9_reason_80 hlocks
  obtain ⟨n, hz⟩ := lq2_e hz
  have hL11 : ∀ (n : Nat) (v3 : Int32) (v4 : Int32) (H : Heap) (locs : List Loc) (ls : Array Slot), it2 l11 n v3 v4 = some v3_1 → va_P g.1 vwCl (w_X9_reason g a0 a1 u0_1 u0_2 u0_3 u0_4 u0_5 u0_6 u0_7 u0_8 u0_9 u0_10 u0_11 u0_12 u0_13 u0_14 u0_15 u0_16 u0_17 u0_18 u0_19 u0_20 u0_21 u0_22 u0_23 u0_24 u0_25 u0_26 u0_27 u0_28 u0_29 u0_30 y1_s) H → va_D A (w_X9_reason g a0 a1 u0_1 u0_2 u0_3 u0_4 u0_5 u0_6 u0_7 u0_8 u0_9 u0_10 u0_11 u0_12 u0_13 u0_14 u0_15 u0_16 u0_17 u0_18 u0_19 u0_20 u0_21 u0_22 u0_23 u0_24 u0_25 u0_26 u0_27 u0_28 u0_29 u0_30 y1_s) → va_S A s.heap H locs → lv_has ls 5 [(0, .ref a0), (1, .int p1), (2, .int p2), (3, .int v3), (4, .int v4)] → W p l e (RM 5 127) s m args below meth c H locs 0 0 Q (F0 m 11 ls []) := by
    intro n
    induction n with
    | zero =>
      intro v3 v4 H locs ls hf hP hD hS hl
      exact it2_0 hf
    | succ n11 ih11 =>
      intro v3 v4 H locs ls hf hP hD hS hl
      obtain ⟨q11, hf, hk11⟩ := it2_e hf
      have hf := (el11 v3 v4).symm.trans hf
      refine lv_iload (pc := 11) hexec hb dX9_reason_11 (lv_at hl 4 rfl) ?_
      refine lv_aload_n (pc := 13) hexec hb dX9_reason_13 rfl (lv_at hl 0 rfl) ?_
      refine kg_get (pc := 14) hexec hb (own := RX9) hWX9 hown hG hP 0 rfl rfl 0 (nle rfl) (hts _ (List.mem_cons_of_mem _ (List.mem_append_left _ (List.mem_append_left _ (List.mem_of_getElem? (i := 0) rfl))))) rfl rfl dX9_reason_14 ?_
      refine lv_iconst (pc := 17) hexec hb dX9_reason_17 ki_2 ?_
      refine kr_iald (pc := 18) hexec hb hG hP 1 rfl hf dX9_reason_18 (fun hf => ?_)
      refine ki_ge (pc := 19) hexec hb dX9_reason_19 (tgt := 79) rfl hf (fun hc hf => ?_) (fun hc hf => ?_)
      · cases sr2 hf hk11
        exact hE11 _ _ _ hP hD hS (lv_sub hl [3] rfl)
      · refine lv_iload_n (pc := 22) hexec hb dX9_reason_22 rfl (lv_at hl 3 rfl) ?_
        refine kb_ne (pc := 23) hexec hb dX9_reason_23 (tgt := 79) rfl hf (fun hc hf => ?_) (fun hc hf => ?_)
        · cases sr2 hf hk11
          exact hE11 _ _ _ hP hD hS (lv_sub hl [3] rfl)
        · refine lv_iload (pc := 26) hexec hb dX9_reason_26 (lv_at hl 4 rfl) ?_
          refine lv_iload_n (pc := 28) hexec hb dX9_reason_28 rfl (lv_at hl 1 rfl) ?_
          obtain ⟨j73, ej73, hf⟩ := bvf1 hf
          have hj73 : ∀ (v3_2 : Int32) (H : Heap) (locs : List Loc) (ls : Array Slot), j73 v3_2 = some q11 → va_P g.1 vwCl (w_X9_reason g a0 a1 u0_1 u0_2 u0_3 u0_4 u0_5 u0_6 u0_7 u0_8 u0_9 u0_10 u0_11 u0_12 u0_13 u0_14 u0_15 u0_16 u0_17 u0_18 u0_19 u0_20 u0_21 u0_22 u0_23 u0_24 u0_25 u0_26 u0_27 u0_28 u0_29 u0_30 y1_s) H → va_D A (w_X9_reason g a0 a1 u0_1 u0_2 u0_3 u0_4 u0_5 u0_6 u0_7 u0_8 u0_9 u0_10 u0_11 u0_12 u0_13 u0_14 u0_15 u0_16 u0_17 u0_18 u0_19 u0_20 u0_21 u0_22 u0_23 u0_24 u0_25 u0_26 u0_27 u0_28 u0_29 u0_30 y1_s) → va_S A s.heap H locs → lv_has ls 5 [(0, .ref a0), (1, .int p1), (2, .int p2), (3, .int v3_2), (4, .int v4)] → W p l e (RM 5 127) s m args below meth c H locs 0 0 Q (F0 m 73 ls []) := by
            intro v3_2 H locs ls hf hP hD hS hl
            have hf := (ej73 v3_2).symm.trans hf
            obtain ⟨v4_1, ev4_1, hf⟩ := bv_e hf
            refine k_iinc (pc := 73) hexec hb dX9_reason_73 kq_1 hl (k := 4) rfl ev4_1 (nle rfl) rfl (fun ls (hl : lv_has ls 5 [(4, .int v4_1), (0, .ref a0), (1, .int p1), (2, .int p2), (3, .int v3_2)]) => ?_)
            refine lv_goto (pc := 76) hexec hb dX9_reason_76 (tgt := 11) rfl ?_
            exact ih11 _ _ _ _ _ (sl2 hf hk11) hP hD hS (lv_sub hl [1, 2, 3, 4, 0] rfl)
          refine ki_eq (pc := 29) hexec hb dX9_reason_29 (tgt := 73) rfl hf (fun hc hf => ?_) (fun hc hf => ?_)
          · exact hj73 _ _ _ _ hf hP hD hS (lv_sub hl [0, 1, 2, 3, 4] rfl)
          · refine lv_aload_n (pc := 32) hexec hb dX9_reason_32 rfl (lv_at hl 0 rfl) ?_
            refine lv_iload (pc := 33) hexec hb dX9_reason_33 (lv_at hl 4 rfl) ?_
            obtain ⟨r35, hc, hf⟩ := bd1_e hf
            refine kVp (pc := 35) (S := ⟨hexec, hb, hml, hown, hts⟩) hP hD hG hA hS [0, 1] [] [0, 1] (w2 := (w_X9_reason g a0 a1 u0_1 u0_2 u0_3 u0_4 u0_5 u0_6 u0_7 u0_8 u0_9 u0_10 u0_11 u0_12 u0_13 u0_14 u0_15 u0_16 u0_17 u0_18 u0_19 u0_20 u0_21 u0_22 u0_23 u0_24 u0_25 u0_26 u0_27 u0_28 u0_29 u0_30 y1_s)) rfl rfl rfl rfl rfl rfl (by decide) (c_X9_isPlaced l g a0 a1 _ u0_1 u0_2 u0_3 u0_4 u0_5 u0_6 u0_7 u0_8 u0_9 u0_10 u0_11 u0_12 u0_13 u0_14 u0_15 u0_16 u0_17 u0_18 u0_19 u0_20 u0_21 u0_22 u0_23 u0_24 u0_25 u0_26 u0_27 u0_28 u0_29 u0_30 y1_s v4 r35 hc) gX9_reason_X9_isPlaced rfl hv_X9_isPlaced ⟨nle rfl, nle rfl⟩ 9 0 rfl rfl rfl (rest := []) rfl rfl hl.1 (nle rfl) dX9_reason_35 (fun H locs hP hD hS => ?_)
            refine kb_eq (pc := 38) hexec hb dX9_reason_38 (tgt := 73) rfl hf (fun hc hf => ?_) (fun hc hf => ?_)
            · exact hj73 _ _ _ _ hf hP hD hS (lv_sub hl [0, 1, 2, 3, 4] rfl)
            · refine lv_aload_n (pc := 41) hexec hb dX9_reason_41 rfl (lv_at hl 0 rfl) ?_
              refine lv_iload_n (pc := 42) hexec hb dX9_reason_42 rfl (lv_at hl 1 rfl) ?_
              refine lv_iload_n (pc := 43) hexec hb dX9_reason_43 rfl (lv_at hl 2 rfl) ?_
              refine lv_aload_n (pc := 44) hexec hb dX9_reason_44 rfl (lv_at hl 0 rfl) ?_
              refine lv_iload_n (pc := 45) hexec hb dX9_reason_45 rfl (lv_at hl 1 rfl) ?_
              obtain ⟨r46, hc, hf⟩ := bd1_e hf
              refine kVp (pc := 46) (S := ⟨hexec, hb, hml, hown, hts⟩) hP hD hG hA hS [0, 1] [] [0, 1] (w2 := (w_X9_reason g a0 a1 u0_1 u0_2 u0_3 u0_4 u0_5 u0_6 u0_7 u0_8 u0_9 u0_10 u0_11 u0_12 u0_13 u0_14 u0_15 u0_16 u0_17 u0_18 u0_19 u0_20 u0_21 u0_22 u0_23 u0_24 u0_25 u0_26 u0_27 u0_28 u0_29 u0_30 y1_s)) rfl rfl rfl rfl rfl rfl (by decide) (c_X9_isRed l g a0 a1 _ u0_1 u0_2 u0_3 u0_4 u0_5 u0_6 u0_7 u0_8 u0_9 u0_10 u0_11 u0_12 u0_13 u0_14 u0_15 u0_16 u0_17 u0_18 u0_19 u0_20 u0_21 u0_22 u0_23 u0_24 u0_25 u0_26 u0_27 u0_28 u0_29 u0_30 y1_s p1 r46 hc) gX9_reason_X9_isRed rfl hv_X9_isRed ⟨nle rfl, nle rfl⟩ 9 0 rfl rfl rfl (rest := [.int p2, .int p1, .ref a0]) rfl rfl hl.1 (nle rfl) dX9_reason_46 (fun H locs hP hD hS => ?_)
              refine lv_iload (pc := 49) hexec hb dX9_reason_49 (lv_at hl 4 rfl) ?_
              refine lv_aload_n (pc := 51) hexec hb dX9_reason_51 rfl (lv_at hl 0 rfl) ?_
              refine lv_iload (pc := 52) hexec hb dX9_reason_52 (lv_at hl 4 rfl) ?_
              refine lv_iconst (pc := 54) hexec hb dX9_reason_54 ki_2 ?_
              obtain ⟨r55, hc, hf⟩ := bd1_e hf
              refine kVp (pc := 55) (S := ⟨hexec, hb, hml, hown, hts⟩) hP hD hG hA hS [0, 1] [] [0, 1] (w2 := (w_X9_reason g a0 a1 u0_1 u0_2 u0_3 u0_4 u0_5 u0_6 u0_7 u0_8 u0_9 u0_10 u0_11 u0_12 u0_13 u0_14 u0_15 u0_16 u0_17 u0_18 u0_19 u0_20 u0_21 u0_22 u0_23 u0_24 u0_25 u0_26 u0_27 u0_28 u0_29 u0_30 y1_s)) rfl rfl rfl rfl rfl rfl (by decide) (c_X9_of l g a0 a1 _ u0_1 u0_2 u0_3 u0_4 u0_5 u0_6 u0_7 u0_8 u0_9 u0_10 u0_11 u0_12 u0_13 u0_14 u0_15 u0_16 u0_17 u0_18 u0_19 u0_20 u0_21 u0_22 u0_23 u0_24 u0_25 u0_26 u0_27 u0_28 u0_29 u0_30 y1_s v4 2 r55 hc) gX9_reason_X9_of rfl hv_X9_of ⟨nle rfl, nle rfl⟩ 9 0 rfl rfl rfl (rest := [.int v4, .int r46, .int p2, .int p1, .ref a0]) rfl rfl hl.1 (nle rfl) dX9_reason_55 (fun H locs hP hD hS => ?_)
              refine lv_aload_n (pc := 58) hexec hb dX9_reason_58 rfl (lv_at hl 0 rfl) ?_
              refine lv_iload (pc := 59) hexec hb dX9_reason_59 (lv_at hl 4 rfl) ?_
              obtain ⟨r61, hc, hf⟩ := bd1_e hf
              refine kVp (pc := 61) (S := ⟨hexec, hb, hml, hown, hts⟩) hP hD hG hA hS [0, 1] [] [0, 1] (w2 := (w_X9_reason g a0 a1 u0_1 u0_2 u0_3 u0_4 u0_5 u0_6 u0_7 u0_8 u0_9 u0_10 u0_11 u0_12 u0_13 u0_14 u0_15 u0_16 u0_17 u0_18 u0_19 u0_20 u0_21 u0_22 u0_23 u0_24 u0_25 u0_26 u0_27 u0_28 u0_29 u0_30 y1_s)) rfl rfl rfl rfl rfl rfl (by decide) (c_X9_isRed l g a0 a1 _ u0_1 u0_2 u0_3 u0_4 u0_5 u0_6 u0_7 u0_8 u0_9 u0_10 u0_11 u0_12 u0_13 u0_14 u0_15 u0_16 u0_17 u0_18 u0_19 u0_20 u0_21 u0_22 u0_23 u0_24 u0_25 u0_26 u0_27 u0_28 u0_29 u0_30 y1_s v4 r61 hc) gX9_reason_X9_isRed rfl hv_X9_isRed ⟨nle rfl, nle rfl⟩ 9 0 rfl rfl rfl (rest := [.int r55, .int v4, .int r46, .int p2, .int p1, .ref a0]) rfl rfl hl.1 (nle rfl) dX9_reason_61 (fun H locs hP hD hS => ?_)
              obtain ⟨r64, hc, hf⟩ := bd1_e hf
              refine kVp (pc := 64) (S := ⟨hexec, hb, hml, hown, hts⟩) hP hD hG hA hS [0, 1] [] [0, 1] (w2 := (w_X9_reason g a0 a1 u0_1 u0_2 u0_3 u0_4 u0_5 u0_6 u0_7 u0_8 u0_9 u0_10 u0_11 u0_12 u0_13 u0_14 u0_15 u0_16 u0_17 u0_18 u0_19 u0_20 u0_21 u0_22 u0_23 u0_24 u0_25 u0_26 u0_27 u0_28 u0_29 u0_30 y1_s)) rfl rfl rfl rfl rfl rfl (by decide) (c_X9_areAgainst l g a0 a1 _ u0_1 u0_2 u0_3 u0_4 u0_5 u0_6 u0_7 u0_8 u0_9 u0_10 u0_11 u0_12 u0_13 u0_14 u0_15 u0_16 u0_17 u0_18 u0_19 u0_20 u0_21 u0_22 u0_23 u0_24 u0_25 u0_26 u0_27 u0_28 u0_29 u0_30 y1_s p1 p2 r46 v4 r55 r61 r64 hc) gX9_reason_X9_areAgainst rfl hv_X9_areAgainst ⟨nle rfl, nle rfl⟩ 9 0 rfl rfl rfl (rest := []) rfl rfl hl.1 (nle rfl) dX9_reason_64 (fun H locs hP hD hS => ?_)
              refine kb_eq (pc := 67) hexec hb dX9_reason_67 (tgt := 73) rfl hf (fun hc hf => ?_) (fun hc hf => ?_)
              · exact hj73 _ _ _ _ hf hP hD hS (lv_sub hl [0, 1, 2, 3, 4] rfl)
              · refine lv_bipush (pc := 70) hexec hb dX9_reason_70 kb_6 ?_
                refine lv_istore_n (pc := 72) hexec hb dX9_reason_72 rfl hl (nle rfl) rfl (fun ls (hl : lv_has ls 5 [(3, .int 6), (0, .ref a0), (1, .int p1), (2, .int p2), (4, .int v4)]) => ?_)
                exact hj73 _ _ _ _ hf hP hD hS (lv_sub hl [1, 2, 3, 0, 4] rfl)
  exact hL11 n _ _ _ _ _ hz hP hD hS (lv_sub hl [2, 3, 4, 1, 0] rfl)
abbrev w_X9_doCross (g : GE) (a0 a1 : Nat) (u0_1 u0_2 u0_3 u0_4 u0_5 u0_6 u0_7 u0_8 u0_9 u0_10 u0_11 u0_12 u0_13 u0_14 u0_15 u0_16 u0_17 u0_18 u0_19 u0_20 u0_21 u0_22 u0_23 u0_24 u0_25 u0_26 u0_27 u0_28 u0_29 u0_30 : Value) (y1_s : Nat → Int32) : va_W := [(a0, .inr (9, [.ref a1, u0_1, u0_2, u0_3, u0_4, u0_5, u0_6, u0_7, u0_8, u0_9, u0_10, u0_11, u0_12, u0_13, u0_14, u0_15, u0_16, u0_17, u0_18, u0_19, u0_20, u0_21, u0_22, u0_23, u0_24, u0_25, u0_26, u0_27, u0_28, u0_29, u0_30])), (a1, .inl (g.2.1 0, 552, .inl y1_s))]
noncomputable def f_X9_doCross (y1_s : Nat → Int32) (p1 : Int32) (p2 : Int32) : Option (Int32) :=
  bv (fun (v3 : Int32) (v4 : Int32) => ((
    bd1 (f_X9_of y1_s p1 3) fun (r10 : Int32) =>
    (if r10 ≤ v4 then (
      some (.inr v3)
    ) else (
      bd1 (f_X9_isPlaced y1_s p1) fun (r18 : Int32) =>
      (if r18 = 0 then (
        some (.inr v3)
      ) else (
        bv (fun (t62 : Int32) => ((
          bv (v4 + 1) fun v4_1 =>
          some (.inl (t62, v4_1))
          ) : Option ((Int32 × Int32) ⊕ (Int32)))) fun j62 =>
        bv (fun (_ : Unit) => ((
          j62 1
          ) : Option ((Int32 × Int32) ⊕ (Int32)))) fun j57 =>
        (if v3 = 0 then (
          bd1 (f_X9_of y1_s p1 0) fun (r34 : Int32) =>
          bd1 (f_X9_of y1_s p1 2) fun (r40 : Int32) =>
          bd1 (f_X9_away y1_s r34 r40 (v4 + 1)) fun (r47 : Int32) =>
          bd1 (f_X9_letterOf y1_s p2 r47) fun (r50 : Int32) =>
          (if r50 = (-1) then (
            j62 0
          ) else (
            j57 ()
          ))
        ) else (
          j57 ()
        ))
      ))
    ))
    ) : Option ((Int32 × Int32) ⊕ (Int32)))) fun l5 =>
  bd1 (lq2 l5 0 0) fun (v3_1 : Int32) =>
  zb v3_1 (some v3_1)
set_option maxRecDepth 4000 in
theorem c_X9_doCross (l : Launch) (g : GE) (a0 a1 : Nat) (sz : Nat) (u0_1 u0_2 u0_3 u0_4 u0_5 u0_6 u0_7 u0_8 u0_9 u0_10 u0_11 u0_12 u0_13 u0_14 u0_15 u0_16 u0_17 u0_18 u0_19 u0_20 u0_21 u0_22 u0_23 u0_24 u0_25 u0_26 u0_27 u0_28 u0_29 u0_30 : Value) (y1_s : Nat → Int32) (p1 : Int32) (p2 : Int32) (r : Int32) (hf : f_X9_doCross y1_s p1 p2 = some r) : MI l g yX9_doCross wsX9_doCross 5 120 [.ref a0, .int p1, .int p2] (w_X9_doCross g a0 a1 u0_1 u0_2 u0_3 u0_4 u0_5 u0_6 u0_7 u0_8 u0_9 u0_10 u0_11 u0_12 u0_13 u0_14 u0_15 u0_16 u0_17 u0_18 u0_19 u0_20 u0_21 u0_22 u0_23 u0_24 u0_25 u0_26 u0_27 u0_28 u0_29 u0_30 y1_s) sz (some (.int r)) (w_X9_doCross g a0 a1 u0_1 u0_2 u0_3 u0_4 u0_5 u0_6 u0_7 u0_8 u0_9 u0_10 u0_11 u0_12 u0_13 u0_14 u0_15 u0_16 u0_17 u0_18 u0_19 u0_20 u0_21 u0_22 u0_23 u0_24 u0_25 u0_26 u0_27 u0_28 u0_29 u0_30 y1_s) := by
  refine MI.start (cc := cX9_doCross) (maxL := 5) (ret := (some .boolean)) rfl rfl (nle rfl) ?_
  intro p e s m args below meth c A ls Q hQ hexec hb hr hts hown hlocks hml hA hP hD hG hS hl
  unfold f_X9_doCross at hf
  have hWX9 : ∀ w ∈ wsX90, w.before args s = true := fun w h => hts w (List.mem_cons_of_mem _ (List.mem_append_right _ h))
  have hS : va_S A s.heap s.heap [] := hS
  refine lv_iconst (pc := 0) hexec hb dX9_doCross_0 ki_0 ?_
  refine lv_istore_n (pc := 1) hexec hb dX9_doCross_1 rfl hl (nle rfl) rfl (fun ls (hl : lv_has ls 5 [(3, .int 0), (0, .ref a0), (1, .int p1), (2, .int p2)]) => ?_)
  refine lv_iconst (pc := 2) hexec hb dX9_doCross_2 ki_0 ?_
  refine lv_istore (pc := 3) hexec hb dX9_doCross_3 hl (nle rfl) rfl (fun ls (hl : lv_has ls 5 [(4, .int 0), (3, .int 0), (0, .ref a0), (1, .int p1), (2, .int p2)]) => ?_)
  obtain ⟨l5, el5, hf⟩ := bvf2 hf
  obtain ⟨v3_1, hz, hf⟩ := bd1_e hf
  have hE5 : ∀ (H : Heap) (locs : List Loc) (ls : Array Slot), va_P g.1 vwCl (w_X9_doCross g a0 a1 u0_1 u0_2 u0_3 u0_4 u0_5 u0_6 u0_7 u0_8 u0_9 u0_10 u0_11 u0_12 u0_13 u0_14 u0_15 u0_16 u0_17 u0_18 u0_19 u0_20 u0_21 u0_22 u0_23 u0_24 u0_25 u0_26 u0_27 u0_28 u0_29 u0_30 y1_s) H → va_D A (w_X9_doCross g a0 a1 u0_1 u0_2 u0_3 u0_4 u0_5 u0_6 u0_7 u0_8 u0_9 u0_10 u0_11 u0_12 u0_13 u0_14 u0_15 u0_16 u0_17 u0_18 u0_19 u0_20 u0_21 u0_22 u0_23 u0_24 u0_25 u0_26 u0_27 u0_28 u0_29 u0_30 y1_s) → va_S A s.heap H locs → lv_has ls 5 [(3, .int v3_1)] → W p l e (RM 5 120) s m args below meth c H locs 0 0 Q (F0 m 69 ls []) := by
    intro H locs ls hP hD hS hl
    refine lv_iload_n (pc := 69) hexec hb dX9_doCross_69 rfl (lv_at hl 0 rfl) ?_
    obtain ⟨hx, hf⟩ := zb_e hf
    cases hf
    exact ke_z hQ hexec hb hr hx hP hD hS dX9_doCross_70 hlocks
  obtain ⟨n, hz⟩ := lq2_e hz
  have hL5 : ∀ (n : Nat) (v3 : Int32) (v4 : Int32) (H : Heap) (locs : List Loc) (ls : Array Slot), it2 l5 n v3 v4 = some v3_1 → va_P g.1 vwCl (w_X9_doCross g a0 a1 u0_1 u0_2 u0_3 u0_4 u0_5 u0_6 u0_7 u0_8 u0_9 u0_10 u0_11 u0_12 u0_13 u0_14 u0_15 u0_16 u0_17 u0_18 u0_19 u0_20 u0_21 u0_22 u0_23 u0_24 u0_25 u0_26 u0_27 u0_28 u0_29 u0_30 y1_s) H → va_D A (w_X9_doCross g a0 a1 u0_1 u0_2 u0_3 u0_4 u0_5 u0_6 u0_7 u0_8 u0_9 u0_10 u0_11 u0_12 u0_13 u0_14 u0_15 u0_16 u0_17 u0_18 u0_19 u0_20 u0_21 u0_22 u0_23 u0_24 u0_25 u0_26 u0_27 u0_28 u0_29 u0_30 y1_s) → va_S A s.heap H locs → lv_has ls 5 [(0, .ref a0), (1, .int p1), (2, .int p2), (3, .int v3), (4, .int v4)] → W p l e (RM 5 120) s m args below meth c H locs 0 0 Q (F0 m 5 ls []) := by
    intro n
    induction n with
    | zero =>
      intro v3 v4 H locs ls hf hP hD hS hl
      exact it2_0 hf
    | succ n5 ih5 =>
      intro v3 v4 H locs ls hf hP hD hS hl
      obtain ⟨q5, hf, hk5⟩ := it2_e hf
      have hf := (el5 v3 v4).symm.trans hf
      refine lv_iload (pc := 5) hexec hb dX9_doCross_5 (lv_at hl 4 rfl) ?_
      refine lv_aload_n (pc := 7) hexec hb dX9_doCross_7 rfl (lv_at hl 0 rfl) ?_
      refine lv_iload_n (pc := 8) hexec hb dX9_doCross_8 rfl (lv_at hl 1 rfl) ?_
      refine lv_iconst (pc := 9) hexec hb dX9_doCross_9 ki_3 ?_
      obtain ⟨r10, hc, hf⟩ := bd1_e hf
      refine kVp (pc := 10) (S := ⟨hexec, hb, hml, hown, hts⟩) hP hD hG hA hS [0, 1] [] [0, 1] (w2 := (w_X9_doCross g a0 a1 u0_1 u0_2 u0_3 u0_4 u0_5 u0_6 u0_7 u0_8 u0_9 u0_10 u0_11 u0_12 u0_13 u0_14 u0_15 u0_16 u0_17 u0_18 u0_19 u0_20 u0_21 u0_22 u0_23 u0_24 u0_25 u0_26 u0_27 u0_28 u0_29 u0_30 y1_s)) rfl rfl rfl rfl rfl rfl (by decide) (c_X9_of l g a0 a1 _ u0_1 u0_2 u0_3 u0_4 u0_5 u0_6 u0_7 u0_8 u0_9 u0_10 u0_11 u0_12 u0_13 u0_14 u0_15 u0_16 u0_17 u0_18 u0_19 u0_20 u0_21 u0_22 u0_23 u0_24 u0_25 u0_26 u0_27 u0_28 u0_29 u0_30 y1_s p1 3 r10 hc) gX9_doCross_X9_of rfl hv_X9_of ⟨nle rfl, nle rfl⟩ 9 0 rfl rfl rfl (rest := [.int v4]) rfl rfl hl.1 (nle rfl) dX9_doCross_10 (fun H locs hP hD hS => ?_)
      refine ki_ge (pc := 13) hexec hb dX9_doCross_13 (tgt := 69) rfl hf (fun hc hf => ?_) (fun hc hf => ?_)
      · cases sr2 hf hk5
        exact hE5 _ _ _ hP hD hS (lv_sub hl [3] rfl)
      · refine lv_aload_n (pc := 16) hexec hb dX9_doCross_16 rfl (lv_at hl 0 rfl) ?_
        refine lv_iload_n (pc := 17) hexec hb dX9_doCross_17 rfl (lv_at hl 1 rfl) ?_
        obtain ⟨r18, hc, hf⟩ := bd1_e hf
        refine kVp (pc := 18) (S := ⟨hexec, hb, hml, hown, hts⟩) hP hD hG hA hS [0, 1] [] [0, 1] (w2 := (w_X9_doCross g a0 a1 u0_1 u0_2 u0_3 u0_4 u0_5 u0_6 u0_7 u0_8 u0_9 u0_10 u0_11 u0_12 u0_13 u0_14 u0_15 u0_16 u0_17 u0_18 u0_19 u0_20 u0_21 u0_22 u0_23 u0_24 u0_25 u0_26 u0_27 u0_28 u0_29 u0_30 y1_s)) rfl rfl rfl rfl rfl rfl (by decide) (c_X9_isPlaced l g a0 a1 _ u0_1 u0_2 u0_3 u0_4 u0_5 u0_6 u0_7 u0_8 u0_9 u0_10 u0_11 u0_12 u0_13 u0_14 u0_15 u0_16 u0_17 u0_18 u0_19 u0_20 u0_21 u0_22 u0_23 u0_24 u0_25 u0_26 u0_27 u0_28 u0_29 u0_30 y1_s p1 r18 hc) gX9_doCross_X9_isPlaced rfl hv_X9_isPlaced ⟨nle rfl, nle rfl⟩ 9 0 rfl rfl rfl (rest := []) rfl rfl hl.1 (nle rfl) dX9_doCross_18 (fun H locs hP hD hS => ?_)
        refine kb_eq (pc := 21) hexec hb dX9_doCross_21 (tgt := 69) rfl hf (fun hc hf => ?_) (fun hc hf => ?_)
        · cases sr2 hf hk5
          exact hE5 _ _ _ hP hD hS (lv_sub hl [3] rfl)
        · refine lv_iload_n (pc := 24) hexec hb dX9_doCross_24 rfl (lv_at hl 3 rfl) ?_
          obtain ⟨j62, ej62, hf⟩ := bvf1 hf
          have hj62 : ∀ (t62 : Int32) (H : Heap) (locs : List Loc) (ls : Array Slot), j62 t62 = some q5 → va_P g.1 vwCl (w_X9_doCross g a0 a1 u0_1 u0_2 u0_3 u0_4 u0_5 u0_6 u0_7 u0_8 u0_9 u0_10 u0_11 u0_12 u0_13 u0_14 u0_15 u0_16 u0_17 u0_18 u0_19 u0_20 u0_21 u0_22 u0_23 u0_24 u0_25 u0_26 u0_27 u0_28 u0_29 u0_30 y1_s) H → va_D A (w_X9_doCross g a0 a1 u0_1 u0_2 u0_3 u0_4 u0_5 u0_6 u0_7 u0_8 u0_9 u0_10 u0_11 u0_12 u0_13 u0_14 u0_15 u0_16 u0_17 u0_18 u0_19 u0_20 u0_21 u0_22 u0_23 u0_24 u0_25 u0_26 u0_27 u0_28 u0_29 u0_30 y1_s) → va_S A s.heap H locs → lv_has ls 5 [(0, .ref a0), (1, .int p1), (2, .int p2), (4, .int v4)] → W p l e (RM 5 120) s m args below meth c H locs 0 0 Q (F0 m 62 ls [.int t62]) := by
            intro t62 H locs ls hf hP hD hS hl
            have hf := (ej62 t62).symm.trans hf
            refine lv_istore_n (pc := 62) hexec hb dX9_doCross_62 rfl hl (nle rfl) rfl (fun ls (hl : lv_has ls 5 [(3, .int t62), (0, .ref a0), (1, .int p1), (2, .int p2), (4, .int v4)]) => ?_)
            obtain ⟨v4_1, ev4_1, hf⟩ := bv_e hf
            refine k_iinc (pc := 63) hexec hb dX9_doCross_63 kq_1 hl (k := 4) rfl ev4_1 (nle rfl) rfl (fun ls (hl : lv_has ls 5 [(4, .int v4_1), (3, .int t62), (0, .ref a0), (1, .int p1), (2, .int p2)]) => ?_)
            refine lv_goto (pc := 66) hexec hb dX9_doCross_66 (tgt := 5) rfl ?_
            exact ih5 _ _ _ _ _ (sl2 hf hk5) hP hD hS (lv_sub hl [2, 3, 4, 1, 0] rfl)
          obtain ⟨j57, ej57, hf⟩ := bvf1 hf
          have hj57 : ∀ (u : Unit) (H : Heap) (locs : List Loc) (ls : Array Slot), j57 u = some q5 → va_P g.1 vwCl (w_X9_doCross g a0 a1 u0_1 u0_2 u0_3 u0_4 u0_5 u0_6 u0_7 u0_8 u0_9 u0_10 u0_11 u0_12 u0_13 u0_14 u0_15 u0_16 u0_17 u0_18 u0_19 u0_20 u0_21 u0_22 u0_23 u0_24 u0_25 u0_26 u0_27 u0_28 u0_29 u0_30 y1_s) H → va_D A (w_X9_doCross g a0 a1 u0_1 u0_2 u0_3 u0_4 u0_5 u0_6 u0_7 u0_8 u0_9 u0_10 u0_11 u0_12 u0_13 u0_14 u0_15 u0_16 u0_17 u0_18 u0_19 u0_20 u0_21 u0_22 u0_23 u0_24 u0_25 u0_26 u0_27 u0_28 u0_29 u0_30 y1_s) → va_S A s.heap H locs → lv_has ls 5 [(0, .ref a0), (1, .int p1), (2, .int p2), (4, .int v4)] → W p l e (RM 5 120) s m args below meth c H locs 0 0 Q (F0 m 57 ls []) := by
            intro u H locs ls hf hP hD hS hl
            have hf := (ej57 u).symm.trans hf
            refine lv_iconst (pc := 57) hexec hb dX9_doCross_57 ki_1 ?_
            refine lv_goto (pc := 58) hexec hb dX9_doCross_58 (tgt := 62) rfl ?_
            exact hj62 _ _ _ _ hf hP hD hS (lv_sub hl [0, 1, 2, 3] rfl)
          refine kb_ne (pc := 25) hexec hb dX9_doCross_25 (tgt := 57) rfl hf (fun hc hf => ?_) (fun hc hf => ?_)
          · exact hj57 _ _ _ _ hf hP hD hS (lv_sub hl [0, 1, 2, 4] rfl)
          · refine lv_aload_n (pc := 28) hexec hb dX9_doCross_28 rfl (lv_at hl 0 rfl) ?_
            refine lv_iload_n (pc := 29) hexec hb dX9_doCross_29 rfl (lv_at hl 2 rfl) ?_
            refine lv_aload_n (pc := 30) hexec hb dX9_doCross_30 rfl (lv_at hl 0 rfl) ?_
            refine lv_aload_n (pc := 31) hexec hb dX9_doCross_31 rfl (lv_at hl 0 rfl) ?_
            refine lv_iload_n (pc := 32) hexec hb dX9_doCross_32 rfl (lv_at hl 1 rfl) ?_
            refine lv_iconst (pc := 33) hexec hb dX9_doCross_33 ki_0 ?_
            obtain ⟨r34, hc, hf⟩ := bd1_e hf
            refine kVp (pc := 34) (S := ⟨hexec, hb, hml, hown, hts⟩) hP hD hG hA hS [0, 1] [] [0, 1] (w2 := (w_X9_doCross g a0 a1 u0_1 u0_2 u0_3 u0_4 u0_5 u0_6 u0_7 u0_8 u0_9 u0_10 u0_11 u0_12 u0_13 u0_14 u0_15 u0_16 u0_17 u0_18 u0_19 u0_20 u0_21 u0_22 u0_23 u0_24 u0_25 u0_26 u0_27 u0_28 u0_29 u0_30 y1_s)) rfl rfl rfl rfl rfl rfl (by decide) (c_X9_of l g a0 a1 _ u0_1 u0_2 u0_3 u0_4 u0_5 u0_6 u0_7 u0_8 u0_9 u0_10 u0_11 u0_12 u0_13 u0_14 u0_15 u0_16 u0_17 u0_18 u0_19 u0_20 u0_21 u0_22 u0_23 u0_24 u0_25 u0_26 u0_27 u0_28 u0_29 u0_30 y1_s p1 0 r34 hc) gX9_doCross_X9_of rfl hv_X9_of ⟨nle rfl, nle rfl⟩ 9 0 rfl rfl rfl (rest := [.ref a0, .int p2, .ref a0]) rfl rfl hl.1 (nle rfl) dX9_doCross_34 (fun H locs hP hD hS => ?_)
            refine lv_aload_n (pc := 37) hexec hb dX9_doCross_37 rfl (lv_at hl 0 rfl) ?_
            refine lv_iload_n (pc := 38) hexec hb dX9_doCross_38 rfl (lv_at hl 1 rfl) ?_
            refine lv_iconst (pc := 39) hexec hb dX9_doCross_39 ki_2 ?_
            obtain ⟨r40, hc, hf⟩ := bd1_e hf
            refine kVp (pc := 40) (S := ⟨hexec, hb, hml, hown, hts⟩) hP hD hG hA hS [0, 1] [] [0, 1] (w2 := (w_X9_doCross g a0 a1 u0_1 u0_2 u0_3 u0_4 u0_5 u0_6 u0_7 u0_8 u0_9 u0_10 u0_11 u0_12 u0_13 u0_14 u0_15 u0_16 u0_17 u0_18 u0_19 u0_20 u0_21 u0_22 u0_23 u0_24 u0_25 u0_26 u0_27 u0_28 u0_29 u0_30 y1_s)) rfl rfl rfl rfl rfl rfl (by decide) (c_X9_of l g a0 a1 _ u0_1 u0_2 u0_3 u0_4 u0_5 u0_6 u0_7 u0_8 u0_9 u0_10 u0_11 u0_12 u0_13 u0_14 u0_15 u0_16 u0_17 u0_18 u0_19 u0_20 u0_21 u0_22 u0_23 u0_24 u0_25 u0_26 u0_27 u0_28 u0_29 u0_30 y1_s p1 2 r40 hc) gX9_doCross_X9_of rfl hv_X9_of ⟨nle rfl, nle rfl⟩ 9 0 rfl rfl rfl (rest := [.int r34, .ref a0, .int p2, .ref a0]) rfl rfl hl.1 (nle rfl) dX9_doCross_40 (fun H locs hP hD hS => ?_)
            refine lv_iload (pc := 43) hexec hb dX9_doCross_43 (lv_at hl 4 rfl) ?_
            refine lv_iconst (pc := 45) hexec hb dX9_doCross_45 ki_1 ?_
            refine lv_iadd (pc := 46) hexec hb dX9_doCross_46 ?_
            obtain ⟨r47, hc, hf⟩ := bd1_e hf
            refine kVp (pc := 47) (S := ⟨hexec, hb, hml, hown, hts⟩) hP hD hG hA hS [0, 1] [] [0, 1] (w2 := (w_X9_doCross g a0 a1 u0_1 u0_2 u0_3 u0_4 u0_5 u0_6 u0_7 u0_8 u0_9 u0_10 u0_11 u0_12 u0_13 u0_14 u0_15 u0_16 u0_17 u0_18 u0_19 u0_20 u0_21 u0_22 u0_23 u0_24 u0_25 u0_26 u0_27 u0_28 u0_29 u0_30 y1_s)) rfl rfl rfl rfl rfl rfl (by decide) (c_X9_away l g a0 a1 _ u0_1 u0_2 u0_3 u0_4 u0_5 u0_6 u0_7 u0_8 u0_9 u0_10 u0_11 u0_12 u0_13 u0_14 u0_15 u0_16 u0_17 u0_18 u0_19 u0_20 u0_21 u0_22 u0_23 u0_24 u0_25 u0_26 u0_27 u0_28 u0_29 u0_30 y1_s r34 r40 (v4 + 1) r47 hc) gX9_doCross_X9_away rfl hv_X9_away ⟨nle rfl, nle rfl⟩ 9 0 rfl rfl rfl (rest := [.int p2, .ref a0]) rfl rfl hl.1 (nle rfl) dX9_doCross_47 (fun H locs hP hD hS => ?_)
            obtain ⟨r50, hc, hf⟩ := bd1_e hf
            refine kVp (pc := 50) (S := ⟨hexec, hb, hml, hown, hts⟩) hP hD hG hA hS [0, 1] [] [0, 1] (w2 := (w_X9_doCross g a0 a1 u0_1 u0_2 u0_3 u0_4 u0_5 u0_6 u0_7 u0_8 u0_9 u0_10 u0_11 u0_12 u0_13 u0_14 u0_15 u0_16 u0_17 u0_18 u0_19 u0_20 u0_21 u0_22 u0_23 u0_24 u0_25 u0_26 u0_27 u0_28 u0_29 u0_30 y1_s)) rfl rfl rfl rfl rfl rfl (by decide) (c_X9_letterOf l g a0 a1 _ u0_1 u0_2 u0_3 u0_4 u0_5 u0_6 u0_7 u0_8 u0_9 u0_10 u0_11 u0_12 u0_13 u0_14 u0_15 u0_16 u0_17 u0_18 u0_19 u0_20 u0_21 u0_22 u0_23 u0_24 u0_25 u0_26 u0_27 u0_28 u0_29 u0_30 y1_s p2 r47 r50 hc) gX9_doCross_X9_letterOf rfl hv_X9_letterOf ⟨nle rfl, nle rfl⟩ 9 0 rfl rfl rfl (rest := []) rfl rfl hl.1 (nle rfl) dX9_doCross_50 (fun H locs hP hD hS => ?_)
            refine lv_iconst (pc := 53) hexec hb dX9_doCross_53 ki_m1 ?_
            refine ki_eq (pc := 54) hexec hb dX9_doCross_54 (tgt := 61) rfl hf (fun hc hf => ?_) (fun hc hf => ?_)
            · refine lv_iconst (pc := 61) hexec hb dX9_doCross_61 ki_0 ?_
              exact hj62 _ _ _ _ hf hP hD hS (lv_sub hl [0, 1, 2, 4] rfl)
            · exact hj57 _ _ _ _ hf hP hD hS (lv_sub hl [0, 1, 2, 4] rfl)
  exact hL5 n _ _ _ _ _ hz hP hD hS (lv_sub hl [2, 3, 4, 1, 0] rfl)
abbrev w_X9_crossedBy (g : GE) (a0 a1 : Nat) (u0_1 u0_2 u0_3 u0_4 u0_5 u0_6 u0_7 u0_8 u0_9 u0_10 u0_11 u0_12 u0_13 u0_14 u0_15 u0_16 u0_17 u0_18 u0_19 u0_20 u0_21 u0_22 u0_23 u0_24 u0_25 u0_26 u0_27 u0_28 u0_29 u0_30 : Value) (y1_s : Nat → Int32) : va_W := [(a0, .inr (9, [.ref a1, u0_1, u0_2, u0_3, u0_4, u0_5, u0_6, u0_7, u0_8, u0_9, u0_10, u0_11, u0_12, u0_13, u0_14, u0_15, u0_16, u0_17, u0_18, u0_19, u0_20, u0_21, u0_22, u0_23, u0_24, u0_25, u0_26, u0_27, u0_28, u0_29, u0_30])), (a1, .inl (g.2.1 0, 552, .inl y1_s))]
noncomputable def f_X9_crossedBy (y1_s : Nat → Int32) (p1 : Int32) : Option (Int32) :=
  bv (fun (v2 : Int32) (v3 : Int32) => ((
    ar 2 552 <|
    (if (y1_s (2 : Int32).toNatClampNeg) ≤ v3 then (
      some (.inr v2)
    ) else (
      bv (fun (t36 : Int32) => ((
        bv (v2 ||| t36) fun v2_2 =>
        bv (v3 + 1) fun v3_1 =>
        some (.inl (v2_2, v3_1))
        ) : Option ((Int32 × Int32) ⊕ (Int32)))) fun j36 =>
      bv (fun (_ : Unit) => ((
        j36 0
        ) : Option ((Int32 × Int32) ⊕ (Int32)))) fun j35 =>
      (if v3 = p1 then (
        j35 ()
      ) else (
        bd1 (f_X9_doCross y1_s p1 v3) fun (r23 : Int32) =>
        (if r23 = 0 then (
          j35 ()
        ) else (
          j36 (1 <<< (v3 &&& 31))
        ))
      ))
    ))
    ) : Option ((Int32 × Int32) ⊕ (Int32)))) fun l4 =>
  bd1 (lq2 l4 0 0) fun (v2_1 : Int32) =>
  some v2_1
set_option maxRecDepth 4000 in
theorem c_X9_crossedBy (l : Launch) (g : GE) (a0 a1 : Nat) (sz : Nat) (u0_1 u0_2 u0_3 u0_4 u0_5 u0_6 u0_7 u0_8 u0_9 u0_10 u0_11 u0_12 u0_13 u0_14 u0_15 u0_16 u0_17 u0_18 u0_19 u0_20 u0_21 u0_22 u0_23 u0_24 u0_25 u0_26 u0_27 u0_28 u0_29 u0_30 : Value) (y1_s : Nat → Int32) (p1 : Int32) (r : Int32) (hf : f_X9_crossedBy y1_s p1 = some r) : MI l g yX9_crossedBy wsX9_crossedBy 6 144 [.ref a0, .int p1] (w_X9_crossedBy g a0 a1 u0_1 u0_2 u0_3 u0_4 u0_5 u0_6 u0_7 u0_8 u0_9 u0_10 u0_11 u0_12 u0_13 u0_14 u0_15 u0_16 u0_17 u0_18 u0_19 u0_20 u0_21 u0_22 u0_23 u0_24 u0_25 u0_26 u0_27 u0_28 u0_29 u0_30 y1_s) sz (some (.int r)) (w_X9_crossedBy g a0 a1 u0_1 u0_2 u0_3 u0_4 u0_5 u0_6 u0_7 u0_8 u0_9 u0_10 u0_11 u0_12 u0_13 u0_14 u0_15 u0_16 u0_17 u0_18 u0_19 u0_20 u0_21 u0_22 u0_23 u0_24 u0_25 u0_26 u0_27 u0_28 u0_29 u0_30 y1_s) := by
  refine MI.start (cc := cX9_crossedBy) (maxL := 4) (ret := (some .int)) rfl rfl (nle rfl) ?_
  intro p e s m args below meth c A ls Q hQ hexec hb hr hts hown hlocks hml hA hP hD hG hS hl
  unfold f_X9_crossedBy at hf
  have hWX9 : ∀ w ∈ wsX90, w.before args s = true := fun w h => hts w (List.mem_cons_of_mem _ (List.mem_append_right _ h))
  have hS : va_S A s.heap s.heap [] := hS
  refine lv_iconst (pc := 0) hexec hb dX9_crossedBy_0 ki_0 ?_
  refine lv_istore_n (pc := 1) hexec hb dX9_crossedBy_1 rfl hl (nle rfl) rfl (fun ls (hl : lv_has ls 4 [(2, .int 0), (0, .ref a0), (1, .int p1)]) => ?_)
  refine lv_iconst (pc := 2) hexec hb dX9_crossedBy_2 ki_0 ?_
  refine lv_istore_n (pc := 3) hexec hb dX9_crossedBy_3 rfl hl (nle rfl) rfl (fun ls (hl : lv_has ls 4 [(3, .int 0), (2, .int 0), (0, .ref a0), (1, .int p1)]) => ?_)
  obtain ⟨l4, el4, hf⟩ := bvf2 hf
  obtain ⟨v2_1, hz, hf⟩ := bd1_e hf
  have hE4 : ∀ (H : Heap) (locs : List Loc) (ls : Array Slot), va_P g.1 vwCl (w_X9_crossedBy g a0 a1 u0_1 u0_2 u0_3 u0_4 u0_5 u0_6 u0_7 u0_8 u0_9 u0_10 u0_11 u0_12 u0_13 u0_14 u0_15 u0_16 u0_17 u0_18 u0_19 u0_20 u0_21 u0_22 u0_23 u0_24 u0_25 u0_26 u0_27 u0_28 u0_29 u0_30 y1_s) H → va_D A (w_X9_crossedBy g a0 a1 u0_1 u0_2 u0_3 u0_4 u0_5 u0_6 u0_7 u0_8 u0_9 u0_10 u0_11 u0_12 u0_13 u0_14 u0_15 u0_16 u0_17 u0_18 u0_19 u0_20 u0_21 u0_22 u0_23 u0_24 u0_25 u0_26 u0_27 u0_28 u0_29 u0_30 y1_s) → va_S A s.heap H locs → lv_has ls 4 [(2, .int v2_1)] → W p l e (RM 6 144) s m args below meth c H locs 0 0 Q (F0 m 44 ls []) := by
    intro H locs ls hP hD hS hl
    refine lv_iload_n (pc := 44) hexec hb dX9_crossedBy_44 rfl (lv_at hl 0 rfl) ?_
    cases hf
    exact ke_i hQ hexec hb hr hP hD hS dX9_crossedBy_45 hlocks
  obtain ⟨n, hz⟩ := lq2_e hz
  have hL4 : ∀ (n : Nat) (v2 : Int32) (v3 : Int32) (H : Heap) (locs : List Loc) (ls : Array Slot), it2 l4 n v2 v3 = some v2_1 → va_P g.1 vwCl (w_X9_crossedBy g a0 a1 u0_1 u0_2 u0_3 u0_4 u0_5 u0_6 u0_7 u0_8 u0_9 u0_10 u0_11 u0_12 u0_13 u0_14 u0_15 u0_16 u0_17 u0_18 u0_19 u0_20 u0_21 u0_22 u0_23 u0_24 u0_25 u0_26 u0_27 u0_28 u0_29 u0_30 y1_s) H → va_D A (w_X9_crossedBy g a0 a1 u0_1 u0_2 u0_3 u0_4 u0_5 u0_6 u0_7 u0_8 u0_9 u0_10 u0_11 u0_12 u0_13 u0_14 u0_15 u0_16 u0_17 u0_18 u0_19 u0_20 u0_21 u0_22 u0_23 u0_24 u0_25 u0_26 u0_27 u0_28 u0_29 u0_30 y1_s) → va_S A s.heap H locs → lv_has ls 4 [(0, .ref a0), (1, .int p1), (2, .int v2), (3, .int v3)] → W p l e (RM 6 144) s m args below meth c H locs 0 0 Q (F0 m 4 ls []) := by
    intro n
    induction n with
    | zero =>
      intro v2 v3 H locs ls hf hP hD hS hl
      exact it2_0 hf
    | succ n4 ih4 =>
      intro v2 v3 H locs ls hf hP hD hS hl
      obtain ⟨q4, hf, hk4⟩ := it2_e hf
      have hf := (el4 v2 v3).symm.trans hf
      refine lv_iload_n (pc := 4) hexec hb dX9_crossedBy_4 rfl (lv_at hl 3 rfl) ?_
      refine lv_aload_n (pc := 5) hexec hb dX9_crossedBy_5 rfl (lv_at hl 0 rfl) ?_
      refine kg_get (pc := 6) hexec hb (own := RX9) hWX9 hown hG hP 0 rfl rfl 0 (nle rfl) (hts _ (List.mem_cons_of_mem _ (List.mem_append_left _ (List.mem_append_left _ (List.mem_of_getElem? (i := 0) rfl))))) rfl rfl dX9_crossedBy_6 ?_
      refine lv_iconst (pc := 9) hexec hb dX9_crossedBy_9 ki_2 ?_
      refine kr_iald (pc := 10) hexec hb hG hP 1 rfl hf dX9_crossedBy_10 (fun hf => ?_)
      refine ki_ge (pc := 11) hexec hb dX9_crossedBy_11 (tgt := 44) rfl hf (fun hc hf => ?_) (fun hc hf => ?_)
      · cases sr2 hf hk4
        exact hE4 _ _ _ hP hD hS (lv_sub hl [2] rfl)
      · refine lv_iload_n (pc := 14) hexec hb dX9_crossedBy_14 rfl (lv_at hl 2 rfl) ?_
        refine lv_iload_n (pc := 15) hexec hb dX9_crossedBy_15 rfl (lv_at hl 3 rfl) ?_
        refine lv_iload_n (pc := 16) hexec hb dX9_crossedBy_16 rfl (lv_at hl 1 rfl) ?_
        obtain ⟨j36, ej36, hf⟩ := bvf1 hf
        have hj36 : ∀ (t36 : Int32) (H : Heap) (locs : List Loc) (ls : Array Slot), j36 t36 = some q4 → va_P g.1 vwCl (w_X9_crossedBy g a0 a1 u0_1 u0_2 u0_3 u0_4 u0_5 u0_6 u0_7 u0_8 u0_9 u0_10 u0_11 u0_12 u0_13 u0_14 u0_15 u0_16 u0_17 u0_18 u0_19 u0_20 u0_21 u0_22 u0_23 u0_24 u0_25 u0_26 u0_27 u0_28 u0_29 u0_30 y1_s) H → va_D A (w_X9_crossedBy g a0 a1 u0_1 u0_2 u0_3 u0_4 u0_5 u0_6 u0_7 u0_8 u0_9 u0_10 u0_11 u0_12 u0_13 u0_14 u0_15 u0_16 u0_17 u0_18 u0_19 u0_20 u0_21 u0_22 u0_23 u0_24 u0_25 u0_26 u0_27 u0_28 u0_29 u0_30 y1_s) → va_S A s.heap H locs → lv_has ls 4 [(0, .ref a0), (1, .int p1), (3, .int v3)] → W p l e (RM 6 144) s m args below meth c H locs 0 0 Q (F0 m 36 ls [.int t36, .int v2]) := by
          intro t36 H locs ls hf hP hD hS hl
          have hf := (ej36 t36).symm.trans hf
          refine lv_ior (pc := 36) hexec hb dX9_crossedBy_36 ?_
          obtain ⟨v2_2, ev2_2, hf⟩ := bv_e hf
          refine kn_i ev2_2 ?_
          refine lv_istore_n (pc := 37) hexec hb dX9_crossedBy_37 rfl hl (nle rfl) rfl (fun ls (hl : lv_has ls 4 [(2, .int v2_2), (0, .ref a0), (1, .int p1), (3, .int v3)]) => ?_)
          obtain ⟨v3_1, ev3_1, hf⟩ := bv_e hf
          refine k_iinc (pc := 38) hexec hb dX9_crossedBy_38 kq_1 hl (k := 3) rfl ev3_1 (nle rfl) rfl (fun ls (hl : lv_has ls 4 [(3, .int v3_1), (2, .int v2_2), (0, .ref a0), (1, .int p1)]) => ?_)
          refine lv_goto (pc := 41) hexec hb dX9_crossedBy_41 (tgt := 4) rfl ?_
          exact ih4 _ _ _ _ _ (sl2 hf hk4) hP hD hS (lv_sub hl [2, 3, 1, 0] rfl)
        obtain ⟨j35, ej35, hf⟩ := bvf1 hf
        have hj35 : ∀ (u : Unit) (H : Heap) (locs : List Loc) (ls : Array Slot), j35 u = some q4 → va_P g.1 vwCl (w_X9_crossedBy g a0 a1 u0_1 u0_2 u0_3 u0_4 u0_5 u0_6 u0_7 u0_8 u0_9 u0_10 u0_11 u0_12 u0_13 u0_14 u0_15 u0_16 u0_17 u0_18 u0_19 u0_20 u0_21 u0_22 u0_23 u0_24 u0_25 u0_26 u0_27 u0_28 u0_29 u0_30 y1_s) H → va_D A (w_X9_crossedBy g a0 a1 u0_1 u0_2 u0_3 u0_4 u0_5 u0_6 u0_7 u0_8 u0_9 u0_10 u0_11 u0_12 u0_13 u0_14 u0_15 u0_16 u0_17 u0_18 u0_19 u0_20 u0_21 u0_22 u0_23 u0_24 u0_25 u0_26 u0_27 u0_28 u0_29 u0_30 y1_s) → va_S A s.heap H locs → lv_has ls 4 [(0, .ref a0), (1, .int p1), (3, .int v3)] → W p l e (RM 6 144) s m args below meth c H locs 0 0 Q (F0 m 35 ls [.int v2]) := by
          intro u H locs ls hf hP hD hS hl
          have hf := (ej35 u).symm.trans hf
          refine lv_iconst (pc := 35) hexec hb dX9_crossedBy_35 ki_0 ?_
          exact hj36 _ _ _ _ hf hP hD hS (lv_sub hl [0, 1, 2] rfl)
        refine ki_eq (pc := 17) hexec hb dX9_crossedBy_17 (tgt := 35) rfl hf (fun hc hf => ?_) (fun hc hf => ?_)
        · exact hj35 _ _ _ _ hf hP hD hS (lv_sub hl [0, 1, 3] rfl)
        · refine lv_aload_n (pc := 20) hexec hb dX9_crossedBy_20 rfl (lv_at hl 0 rfl) ?_
          refine lv_iload_n (pc := 21) hexec hb dX9_crossedBy_21 rfl (lv_at hl 1 rfl) ?_
          refine lv_iload_n (pc := 22) hexec hb dX9_crossedBy_22 rfl (lv_at hl 3 rfl) ?_
          obtain ⟨r23, hc, hf⟩ := bd1_e hf
          refine kVp (pc := 23) (S := ⟨hexec, hb, hml, hown, hts⟩) hP hD hG hA hS [0, 1] [] [0, 1] (w2 := (w_X9_crossedBy g a0 a1 u0_1 u0_2 u0_3 u0_4 u0_5 u0_6 u0_7 u0_8 u0_9 u0_10 u0_11 u0_12 u0_13 u0_14 u0_15 u0_16 u0_17 u0_18 u0_19 u0_20 u0_21 u0_22 u0_23 u0_24 u0_25 u0_26 u0_27 u0_28 u0_29 u0_30 y1_s)) rfl rfl rfl rfl rfl rfl (by decide) (c_X9_doCross l g a0 a1 _ u0_1 u0_2 u0_3 u0_4 u0_5 u0_6 u0_7 u0_8 u0_9 u0_10 u0_11 u0_12 u0_13 u0_14 u0_15 u0_16 u0_17 u0_18 u0_19 u0_20 u0_21 u0_22 u0_23 u0_24 u0_25 u0_26 u0_27 u0_28 u0_29 u0_30 y1_s p1 v3 r23 hc) gX9_crossedBy_X9_doCross rfl hv_X9_doCross ⟨nle rfl, nle rfl⟩ 9 0 rfl rfl rfl (rest := [.int v2]) rfl rfl hl.1 (nle rfl) dX9_crossedBy_23 (fun H locs hP hD hS => ?_)
          refine kb_eq (pc := 26) hexec hb dX9_crossedBy_26 (tgt := 35) rfl hf (fun hc hf => ?_) (fun hc hf => ?_)
          · exact hj35 _ _ _ _ hf hP hD hS (lv_sub hl [0, 1, 3] rfl)
          · refine lv_iconst (pc := 29) hexec hb dX9_crossedBy_29 ki_1 ?_
            refine lv_iload_n (pc := 30) hexec hb dX9_crossedBy_30 rfl (lv_at hl 3 rfl) ?_
            refine lv_ishl (pc := 31) hexec hb dX9_crossedBy_31 ?_
            refine lv_goto (pc := 32) hexec hb dX9_crossedBy_32 (tgt := 36) rfl ?_
            exact hj36 _ _ _ _ hf hP hD hS (lv_sub hl [0, 1, 3] rfl)
  exact hL4 n _ _ _ _ _ hz hP hD hS (lv_sub hl [2, 3, 1, 0] rfl)
abbrev w_X9_lifts (g : GE) (a0 a1 : Nat) (u0_1 u0_2 u0_3 u0_4 u0_5 u0_6 u0_7 u0_8 u0_9 u0_10 u0_11 u0_12 u0_13 u0_14 u0_15 u0_16 u0_17 u0_18 u0_19 u0_20 u0_21 u0_22 u0_23 u0_24 u0_25 u0_26 u0_27 u0_28 u0_29 u0_30 : Value) (y1_s : Nat → Int32) : va_W := [(a0, .inr (9, [.ref a1, u0_1, u0_2, u0_3, u0_4, u0_5, u0_6, u0_7, u0_8, u0_9, u0_10, u0_11, u0_12, u0_13, u0_14, u0_15, u0_16, u0_17, u0_18, u0_19, u0_20, u0_21, u0_22, u0_23, u0_24, u0_25, u0_26, u0_27, u0_28, u0_29, u0_30])), (a1, .inl (g.2.1 0, 552, .inl y1_s))]
noncomputable def f_X9_lifts (y1_s : Nat → Int32) (p1 : Int32) : Option (Int32 × (Nat → Int32)) :=
  bv (fun (v2 : Int32) (y1_s_1 : Nat → Int32) => ((
    ar 2 552 <|
    (if (y1_s_1 (2 : Int32).toNatClampNeg) ≤ v2 then (
      some (.inr y1_s_1)
    ) else (
      bv (fun (y1_s_3 : Nat → Int32) => ((
        bv (v2 + 1) fun v2_1 =>
        some (.inl (v2_1, y1_s_3))
        ) : Option ((Int32 × (Nat → Int32)) ⊕ ((Nat → Int32))))) fun j28 =>
      (if ((p1 >>> (v2 &&& 31)) &&& 1) = 1 then (
        bd1 (f_X9_puts y1_s_1 v2 2 (-1)) fun (y1_s_4 : Nat → Int32) =>
        j28 y1_s_4
      ) else (
        j28 y1_s_1
      ))
    ))
    ) : Option ((Int32 × (Nat → Int32)) ⊕ ((Nat → Int32))))) fun l2 =>
  bd1 (lq2 l2 0 y1_s) fun (y1_s_2 : Nat → Int32) =>
  bd1 (f_X9_ones p1) fun (r35 : Int32) =>
  some (r35, y1_s_2)
set_option maxRecDepth 4000 in
theorem c_X9_lifts (l : Launch) (g : GE) (a0 a1 : Nat) (sz : Nat) (u0_1 u0_2 u0_3 u0_4 u0_5 u0_6 u0_7 u0_8 u0_9 u0_10 u0_11 u0_12 u0_13 u0_14 u0_15 u0_16 u0_17 u0_18 u0_19 u0_20 u0_21 u0_22 u0_23 u0_24 u0_25 u0_26 u0_27 u0_28 u0_29 u0_30 : Value) (y1_s : Nat → Int32) (p1 : Int32) (r : Int32) (o_y1_s : Nat → Int32) (hf : f_X9_lifts y1_s p1 = some (r, o_y1_s)) : MI l g yX9_lifts wsX9_lifts 2 47 [.ref a0, .int p1] (w_X9_lifts g a0 a1 u0_1 u0_2 u0_3 u0_4 u0_5 u0_6 u0_7 u0_8 u0_9 u0_10 u0_11 u0_12 u0_13 u0_14 u0_15 u0_16 u0_17 u0_18 u0_19 u0_20 u0_21 u0_22 u0_23 u0_24 u0_25 u0_26 u0_27 u0_28 u0_29 u0_30 y1_s) sz (some (.int r)) (w_X9_lifts g a0 a1 u0_1 u0_2 u0_3 u0_4 u0_5 u0_6 u0_7 u0_8 u0_9 u0_10 u0_11 u0_12 u0_13 u0_14 u0_15 u0_16 u0_17 u0_18 u0_19 u0_20 u0_21 u0_22 u0_23 u0_24 u0_25 u0_26 u0_27 u0_28 u0_29 u0_30 o_y1_s) := by
  refine MI.start (cc := cX9_lifts) (maxL := 3) (ret := (some .int)) rfl rfl (nle rfl) ?_
  intro p e s m args below meth c A ls Q hQ hexec hb hr hts hown hlocks hml hA hP hD hG hS hl
  unfold f_X9_lifts at hf
  have hWX9 : ∀ w ∈ wsX90, w.before args s = true := fun w h => hts w (List.mem_cons_of_mem _ (List.mem_append_right _ h))
  have hS : va_S A s.heap s.heap [] := hS
  refine lv_iconst (pc := 0) hexec hb dX9_lifts_0 ki_0 ?_
  refine lv_istore_n (pc := 1) hexec hb dX9_lifts_1 rfl hl (nle rfl) rfl (fun ls (hl : lv_has ls 3 [(2, .int 0), (0, .ref a0), (1, .int p1)]) => ?_)
  obtain ⟨l2, el2, hf⟩ := bvf2 hf
  obtain ⟨y1_s_2, hz, hf⟩ := bd1_e hf
  have hE2 : ∀ (H : Heap) (locs : List Loc) (ls : Array Slot), va_P g.1 vwCl (w_X9_lifts g a0 a1 u0_1 u0_2 u0_3 u0_4 u0_5 u0_6 u0_7 u0_8 u0_9 u0_10 u0_11 u0_12 u0_13 u0_14 u0_15 u0_16 u0_17 u0_18 u0_19 u0_20 u0_21 u0_22 u0_23 u0_24 u0_25 u0_26 u0_27 u0_28 u0_29 u0_30 y1_s_2) H → va_D A (w_X9_lifts g a0 a1 u0_1 u0_2 u0_3 u0_4 u0_5 u0_6 u0_7 u0_8 u0_9 u0_10 u0_11 u0_12 u0_13 u0_14 u0_15 u0_16 u0_17 u0_18 u0_19 u0_20 u0_21 u0_22 u0_23 u0_24 u0_25 u0_26 u0_27 u0_28 u0_29 u0_30 y1_s_2) → va_S A s.heap H locs → lv_has ls 3 [(1, .int p1)] → W p l e (RM 2 47) s m args below meth c H locs 0 0 Q (F0 m 34 ls []) := by
    intro H locs ls hP hD hS hl
    refine lv_iload_n (pc := 34) hexec hb dX9_lifts_34 rfl (lv_at hl 0 rfl) ?_
    obtain ⟨r35, hc, hf⟩ := bd1_e hf
    refine kSp (pc := 35) (S := ⟨hexec, hb, hml, hown, hts⟩) hP hD hG hA hS [] [0, 1] [0, 1] (w2 := (w_X9_lifts g a0 a1 u0_1 u0_2 u0_3 u0_4 u0_5 u0_6 u0_7 u0_8 u0_9 u0_10 u0_11 u0_12 u0_13 u0_14 u0_15 u0_16 u0_17 u0_18 u0_19 u0_20 u0_21 u0_22 u0_23 u0_24 u0_25 u0_26 u0_27 u0_28 u0_29 u0_30 y1_s_2)) rfl rfl rfl rfl rfl rfl (by decide) (c_X9_ones l g _ p1 r35 hc) gX9_lifts_X9_ones rfl hs_X9_ones ⟨nle rfl, nle rfl⟩ (rest := []) rfl rfl hl.1 (nle rfl) dX9_lifts_35 (fun H locs hP hD hS => ?_)
    cases hf
    exact ke_i hQ hexec hb hr hP hD hS dX9_lifts_38 hlocks
  obtain ⟨n, hz⟩ := lq2_e hz
  have hL2 : ∀ (n : Nat) (v2 : Int32) (y1_s_1 : Nat → Int32) (H : Heap) (locs : List Loc) (ls : Array Slot), it2 l2 n v2 y1_s_1 = some y1_s_2 → va_P g.1 vwCl (w_X9_lifts g a0 a1 u0_1 u0_2 u0_3 u0_4 u0_5 u0_6 u0_7 u0_8 u0_9 u0_10 u0_11 u0_12 u0_13 u0_14 u0_15 u0_16 u0_17 u0_18 u0_19 u0_20 u0_21 u0_22 u0_23 u0_24 u0_25 u0_26 u0_27 u0_28 u0_29 u0_30 y1_s_1) H → va_D A (w_X9_lifts g a0 a1 u0_1 u0_2 u0_3 u0_4 u0_5 u0_6 u0_7 u0_8 u0_9 u0_10 u0_11 u0_12 u0_13 u0_14 u0_15 u0_16 u0_17 u0_18 u0_19 u0_20 u0_21 u0_22 u0_23 u0_24 u0_25 u0_26 u0_27 u0_28 u0_29 u0_30 y1_s_1) → va_S A s.heap H locs → lv_has ls 3 [(0, .ref a0), (1, .int p1), (2, .int v2)] → W p l e (RM 2 47) s m args below meth c H locs 0 0 Q (F0 m 2 ls []) := by
    intro n
    induction n with
    | zero =>
      intro v2 y1_s_1 H locs ls hf hP hD hS hl
      exact it2_0 hf
    | succ n2 ih2 =>
      intro v2 y1_s_1 H locs ls hf hP hD hS hl
      obtain ⟨q2, hf, hk2⟩ := it2_e hf
      have hf := (el2 v2 y1_s_1).symm.trans hf
      refine lv_iload_n (pc := 2) hexec hb dX9_lifts_2 rfl (lv_at hl 2 rfl) ?_
      refine lv_aload_n (pc := 3) hexec hb dX9_lifts_3 rfl (lv_at hl 0 rfl) ?_
      refine kg_get (pc := 4) hexec hb (own := RX9) hWX9 hown hG hP 0 rfl rfl 0 (nle rfl) (hts _ (List.mem_cons_of_mem _ (List.mem_append_left _ (List.mem_of_getElem? (i := 0) rfl)))) rfl rfl dX9_lifts_4 ?_
      refine lv_iconst (pc := 7) hexec hb dX9_lifts_7 ki_2 ?_
      refine kr_iald (pc := 8) hexec hb hG hP 1 rfl hf dX9_lifts_8 (fun hf => ?_)
      refine ki_ge (pc := 9) hexec hb dX9_lifts_9 (tgt := 34) rfl hf (fun hc hf => ?_) (fun hc hf => ?_)
      · cases sr2 hf hk2
        exact hE2 _ _ _ hP hD hS (lv_sub hl [1] rfl)
      · refine lv_iload_n (pc := 12) hexec hb dX9_lifts_12 rfl (lv_at hl 1 rfl) ?_
        refine lv_iload_n (pc := 13) hexec hb dX9_lifts_13 rfl (lv_at hl 2 rfl) ?_
        refine lv_ishr (pc := 14) hexec hb dX9_lifts_14 ?_
        refine lv_iconst (pc := 15) hexec hb dX9_lifts_15 ki_1 ?_
        refine lv_iand (pc := 16) hexec hb dX9_lifts_16 ?_
        refine lv_iconst (pc := 17) hexec hb dX9_lifts_17 ki_1 ?_
        obtain ⟨j28, ej28, hf⟩ := bvf1 hf
        have hj28 : ∀ (y1_s_3 : Nat → Int32) (H : Heap) (locs : List Loc) (ls : Array Slot), j28 y1_s_3 = some q2 → va_P g.1 vwCl (w_X9_lifts g a0 a1 u0_1 u0_2 u0_3 u0_4 u0_5 u0_6 u0_7 u0_8 u0_9 u0_10 u0_11 u0_12 u0_13 u0_14 u0_15 u0_16 u0_17 u0_18 u0_19 u0_20 u0_21 u0_22 u0_23 u0_24 u0_25 u0_26 u0_27 u0_28 u0_29 u0_30 y1_s_3) H → va_D A (w_X9_lifts g a0 a1 u0_1 u0_2 u0_3 u0_4 u0_5 u0_6 u0_7 u0_8 u0_9 u0_10 u0_11 u0_12 u0_13 u0_14 u0_15 u0_16 u0_17 u0_18 u0_19 u0_20 u0_21 u0_22 u0_23 u0_24 u0_25 u0_26 u0_27 u0_28 u0_29 u0_30 y1_s_3) → va_S A s.heap H locs → lv_has ls 3 [(0, .ref a0), (1, .int p1), (2, .int v2)] → W p l e (RM 2 47) s m args below meth c H locs 0 0 Q (F0 m 28 ls []) := by
          intro y1_s_3 H locs ls hf hP hD hS hl
          have hf := (ej28 y1_s_3).symm.trans hf
          obtain ⟨v2_1, ev2_1, hf⟩ := bv_e hf
          refine k_iinc (pc := 28) hexec hb dX9_lifts_28 kq_1 hl (k := 2) rfl ev2_1 (nle rfl) rfl (fun ls (hl : lv_has ls 3 [(2, .int v2_1), (0, .ref a0), (1, .int p1)]) => ?_)
          refine lv_goto (pc := 31) hexec hb dX9_lifts_31 (tgt := 2) rfl ?_
          exact ih2 _ _ _ _ _ (sl2 hf hk2) hP hD hS (lv_sub hl [1, 2, 0] rfl)
        refine ki_ne (pc := 18) hexec hb dX9_lifts_18 (tgt := 28) rfl hf (fun hc hf => ?_) (fun hc hf => ?_)
        · exact hj28 _ _ _ _ hf hP hD hS (lv_sub hl [0, 1, 2] rfl)
        · refine lv_aload_n (pc := 21) hexec hb dX9_lifts_21 rfl (lv_at hl 0 rfl) ?_
          refine lv_iload_n (pc := 22) hexec hb dX9_lifts_22 rfl (lv_at hl 2 rfl) ?_
          refine lv_iconst (pc := 23) hexec hb dX9_lifts_23 ki_2 ?_
          refine lv_iconst (pc := 24) hexec hb dX9_lifts_24 ki_m1 ?_
          obtain ⟨y1_s_4, hc, hf⟩ := bd1_e hf
          refine kVp (pc := 25) (S := ⟨hexec, hb, hml, hown, hts⟩) hP hD hG hA hS [0, 1] [] [0, 1] (w2 := (w_X9_lifts g a0 a1 u0_1 u0_2 u0_3 u0_4 u0_5 u0_6 u0_7 u0_8 u0_9 u0_10 u0_11 u0_12 u0_13 u0_14 u0_15 u0_16 u0_17 u0_18 u0_19 u0_20 u0_21 u0_22 u0_23 u0_24 u0_25 u0_26 u0_27 u0_28 u0_29 u0_30 y1_s_4)) rfl rfl rfl rfl rfl rfl (by decide) (c_X9_puts l g a0 a1 _ u0_1 u0_2 u0_3 u0_4 u0_5 u0_6 u0_7 u0_8 u0_9 u0_10 u0_11 u0_12 u0_13 u0_14 u0_15 u0_16 u0_17 u0_18 u0_19 u0_20 u0_21 u0_22 u0_23 u0_24 u0_25 u0_26 u0_27 u0_28 u0_29 u0_30 y1_s_1 v2 2 (-1) y1_s_4 hc) gX9_lifts_X9_puts rfl hv_X9_puts ⟨nle rfl, nle rfl⟩ 9 0 rfl rfl rfl (rest := []) rfl rfl hl.1 (nle rfl) dX9_lifts_25 (fun H locs hP hD hS => ?_)
          exact hj28 _ _ _ _ hf hP hD hS (lv_sub hl [0, 1, 2] rfl)
  exact hL2 n _ _ _ _ _ hz hP hD hS (lv_sub hl [1, 2, 0] rfl)
abbrev w_X9_canBegin (g : GE) (a0 a1 : Nat) (u0_1 u0_2 u0_3 u0_4 u0_5 u0_6 u0_7 u0_8 u0_9 u0_10 u0_11 u0_12 u0_13 u0_14 u0_15 u0_16 u0_17 u0_18 u0_19 u0_20 u0_21 u0_22 u0_23 u0_24 u0_25 u0_26 u0_27 u0_28 u0_29 u0_30 : Value) (y1_s : Nat → Int32) : va_W := [(a0, .inr (9, [.ref a1, u0_1, u0_2, u0_3, u0_4, u0_5, u0_6, u0_7, u0_8, u0_9, u0_10, u0_11, u0_12, u0_13, u0_14, u0_15, u0_16, u0_17, u0_18, u0_19, u0_20, u0_21, u0_22, u0_23, u0_24, u0_25, u0_26, u0_27, u0_28, u0_29, u0_30])), (a1, .inl (g.2.1 0, 552, .inl y1_s))]
noncomputable def f_X9_canBegin (y1_s : Nat → Int32) (p1 : Int32) : Option (Int32) :=
  bd1 (f_X9_isLand y1_s p1) fun (r2 : Int32) =>
  bv (fun (_ : Unit) => ((
    some 0
    ) : Option (Int32))) fun j30 =>
  (if r2 = 0 then (
    j30 ()
  ) else (
    bd1 (f_X9_isRiver y1_s p1) fun (r10 : Int32) =>
    (if r10 = 0 then (
      bd1 (f_X9_harbourAt y1_s p1 (-1)) fun (r19 : Int32) =>
      (if r19 = (-1) then (
        some 1
      ) else (
        j30 ()
      ))
    ) else (
      j30 ()
    ))
  ))
set_option maxRecDepth 4000 in
theorem c_X9_canBegin (l : Launch) (g : GE) (a0 a1 : Nat) (sz : Nat) (u0_1 u0_2 u0_3 u0_4 u0_5 u0_6 u0_7 u0_8 u0_9 u0_10 u0_11 u0_12 u0_13 u0_14 u0_15 u0_16 u0_17 u0_18 u0_19 u0_20 u0_21 u0_22 u0_23 u0_24 u0_25 u0_26 u0_27 u0_28 u0_29 u0_30 : Value) (y1_s : Nat → Int32) (p1 : Int32) (r : Int32) (hf : f_X9_canBegin y1_s p1 = some r) : MI l g yX9_canBegin wsX9_canBegin 3 69 [.ref a0, .int p1] (w_X9_canBegin g a0 a1 u0_1 u0_2 u0_3 u0_4 u0_5 u0_6 u0_7 u0_8 u0_9 u0_10 u0_11 u0_12 u0_13 u0_14 u0_15 u0_16 u0_17 u0_18 u0_19 u0_20 u0_21 u0_22 u0_23 u0_24 u0_25 u0_26 u0_27 u0_28 u0_29 u0_30 y1_s) sz (some (.int r)) (w_X9_canBegin g a0 a1 u0_1 u0_2 u0_3 u0_4 u0_5 u0_6 u0_7 u0_8 u0_9 u0_10 u0_11 u0_12 u0_13 u0_14 u0_15 u0_16 u0_17 u0_18 u0_19 u0_20 u0_21 u0_22 u0_23 u0_24 u0_25 u0_26 u0_27 u0_28 u0_29 u0_30 y1_s) := by
  refine MI.start (cc := cX9_canBegin) (maxL := 2) (ret := (some .boolean)) rfl rfl (nle rfl) ?_
  intro p e s m args below meth c A ls Q hQ hexec hb hr hts hown hlocks hml hA hP hD hG hS hl
  unfold f_X9_canBegin at hf
  have hWX9 : ∀ w ∈ wsX90, w.before args s = true := fun w h => hts w (List.mem_cons_of_mem _ (List.mem_append_right _ h))
  have hS : va_S A s.heap s.heap [] := hS
  refine lv_aload_n (pc := 0) hexec hb dX9_canBegin_0 rfl (lv_at hl 0 rfl) ?_
  refine lv_iload_n (pc := 1) hexec hb dX9_canBegin_1 rfl (lv_at hl 1 rfl) ?_
  obtain ⟨r2, hc, hf⟩ := bd1_e hf
  refine kVp (pc := 2) (S := ⟨hexec, hb, hml, hown, hts⟩) hP hD hG hA hS [0, 1] [] [0, 1] (w2 := (w_X9_canBegin g a0 a1 u0_1 u0_2 u0_3 u0_4 u0_5 u0_6 u0_7 u0_8 u0_9 u0_10 u0_11 u0_12 u0_13 u0_14 u0_15 u0_16 u0_17 u0_18 u0_19 u0_20 u0_21 u0_22 u0_23 u0_24 u0_25 u0_26 u0_27 u0_28 u0_29 u0_30 y1_s)) rfl rfl rfl rfl rfl rfl (by decide) (c_X9_isLand l g a0 a1 _ u0_1 u0_2 u0_3 u0_4 u0_5 u0_6 u0_7 u0_8 u0_9 u0_10 u0_11 u0_12 u0_13 u0_14 u0_15 u0_16 u0_17 u0_18 u0_19 u0_20 u0_21 u0_22 u0_23 u0_24 u0_25 u0_26 u0_27 u0_28 u0_29 u0_30 y1_s p1 r2 hc) gX9_canBegin_X9_isLand rfl hv_X9_isLand ⟨nle rfl, nle rfl⟩ 9 0 rfl rfl rfl (rest := []) rfl rfl hl.1 (nle rfl) dX9_canBegin_2 (fun H locs hP hD hS => ?_)
  obtain ⟨j30, ej30, hf⟩ := bvf1 hf
  have hj30 : ∀ (u : Unit) (H : Heap) (locs : List Loc) (ls : Array Slot), j30 u = some r → va_P g.1 vwCl (w_X9_canBegin g a0 a1 u0_1 u0_2 u0_3 u0_4 u0_5 u0_6 u0_7 u0_8 u0_9 u0_10 u0_11 u0_12 u0_13 u0_14 u0_15 u0_16 u0_17 u0_18 u0_19 u0_20 u0_21 u0_22 u0_23 u0_24 u0_25 u0_26 u0_27 u0_28 u0_29 u0_30 y1_s) H → va_D A (w_X9_canBegin g a0 a1 u0_1 u0_2 u0_3 u0_4 u0_5 u0_6 u0_7 u0_8 u0_9 u0_10 u0_11 u0_12 u0_13 u0_14 u0_15 u0_16 u0_17 u0_18 u0_19 u0_20 u0_21 u0_22 u0_23 u0_24 u0_25 u0_26 u0_27 u0_28 u0_29 u0_30 y1_s) → va_S A s.heap H locs → lv_has ls 2 [] → W p l e (RM 3 69) s m args below meth c H locs 0 0 Q (F0 m 30 ls []) := by
    intro u H locs ls hf hP hD hS hl
    have hf := (ej30 u).symm.trans hf
    refine lv_iconst (pc := 30) hexec hb dX9_canBegin_30 ki_0 ?_
    cases hf
    exact ke_z hQ hexec hb hr (.inl rfl) hP hD hS dX9_canBegin_31 hlocks
  refine kb_eq (pc := 5) hexec hb dX9_canBegin_5 (tgt := 30) rfl hf (fun hc hf => ?_) (fun hc hf => ?_)
  · exact hj30 _ _ _ _ hf hP hD hS (lv_sub hl [] rfl)
  · refine lv_aload_n (pc := 8) hexec hb dX9_canBegin_8 rfl (lv_at hl 0 rfl) ?_
    refine lv_iload_n (pc := 9) hexec hb dX9_canBegin_9 rfl (lv_at hl 1 rfl) ?_
    obtain ⟨r10, hc, hf⟩ := bd1_e hf
    refine kVp (pc := 10) (S := ⟨hexec, hb, hml, hown, hts⟩) hP hD hG hA hS [0, 1] [] [0, 1] (w2 := (w_X9_canBegin g a0 a1 u0_1 u0_2 u0_3 u0_4 u0_5 u0_6 u0_7 u0_8 u0_9 u0_10 u0_11 u0_12 u0_13 u0_14 u0_15 u0_16 u0_17 u0_18 u0_19 u0_20 u0_21 u0_22 u0_23 u0_24 u0_25 u0_26 u0_27 u0_28 u0_29 u0_30 y1_s)) rfl rfl rfl rfl rfl rfl (by decide) (c_X9_isRiver l g a0 a1 _ u0_1 u0_2 u0_3 u0_4 u0_5 u0_6 u0_7 u0_8 u0_9 u0_10 u0_11 u0_12 u0_13 u0_14 u0_15 u0_16 u0_17 u0_18 u0_19 u0_20 u0_21 u0_22 u0_23 u0_24 u0_25 u0_26 u0_27 u0_28 u0_29 u0_30 y1_s p1 r10 hc) gX9_canBegin_X9_isRiver rfl hv_X9_isRiver ⟨nle rfl, nle rfl⟩ 9 0 rfl rfl rfl (rest := []) rfl rfl hl.1 (nle rfl) dX9_canBegin_10 (fun H locs hP hD hS => ?_)
    refine kb_ne (pc := 13) hexec hb dX9_canBegin_13 (tgt := 30) rfl hf (fun hc hf => ?_) (fun hc hf => ?_)
    · exact hj30 _ _ _ _ hf hP hD hS (lv_sub hl [] rfl)
    · refine lv_aload_n (pc := 16) hexec hb dX9_canBegin_16 rfl (lv_at hl 0 rfl) ?_
      refine lv_iload_n (pc := 17) hexec hb dX9_canBegin_17 rfl (lv_at hl 1 rfl) ?_
      refine lv_iconst (pc := 18) hexec hb dX9_canBegin_18 ki_m1 ?_
      obtain ⟨r19, hc, hf⟩ := bd1_e hf
      refine kVp (pc := 19) (S := ⟨hexec, hb, hml, hown, hts⟩) hP hD hG hA hS [0, 1] [] [0, 1] (w2 := (w_X9_canBegin g a0 a1 u0_1 u0_2 u0_3 u0_4 u0_5 u0_6 u0_7 u0_8 u0_9 u0_10 u0_11 u0_12 u0_13 u0_14 u0_15 u0_16 u0_17 u0_18 u0_19 u0_20 u0_21 u0_22 u0_23 u0_24 u0_25 u0_26 u0_27 u0_28 u0_29 u0_30 y1_s)) rfl rfl rfl rfl rfl rfl (by decide) (c_X9_harbourAt l g a0 a1 _ u0_1 u0_2 u0_3 u0_4 u0_5 u0_6 u0_7 u0_8 u0_9 u0_10 u0_11 u0_12 u0_13 u0_14 u0_15 u0_16 u0_17 u0_18 u0_19 u0_20 u0_21 u0_22 u0_23 u0_24 u0_25 u0_26 u0_27 u0_28 u0_29 u0_30 y1_s p1 (-1) r19 hc) gX9_canBegin_X9_harbourAt rfl hv_X9_harbourAt ⟨nle rfl, nle rfl⟩ 9 0 rfl rfl rfl (rest := []) rfl rfl hl.1 (nle rfl) dX9_canBegin_19 (fun H locs hP hD hS => ?_)
      refine lv_iconst (pc := 22) hexec hb dX9_canBegin_22 ki_m1 ?_
      refine ki_ne (pc := 23) hexec hb dX9_canBegin_23 (tgt := 30) rfl hf (fun hc hf => ?_) (fun hc hf => ?_)
      · exact hj30 _ _ _ _ hf hP hD hS (lv_sub hl [] rfl)
      · refine lv_iconst (pc := 26) hexec hb dX9_canBegin_26 ki_1 ?_
        refine lv_goto (pc := 27) hexec hb dX9_canBegin_27 (tgt := 31) rfl ?_
        cases hf
        exact ke_z hQ hexec hb hr (.inr rfl) hP hD hS dX9_canBegin_31 hlocks
abbrev w_X9_isEnd (g : GE) (a0 a1 : Nat) (u0_1 u0_2 u0_3 u0_4 u0_5 u0_6 u0_7 u0_8 u0_9 u0_10 u0_11 u0_12 u0_13 u0_14 u0_15 u0_16 u0_17 u0_18 u0_19 u0_20 u0_21 u0_22 u0_23 u0_24 u0_25 u0_26 u0_27 u0_28 u0_29 u0_30 : Value) (y1_s : Nat → Int32) : va_W := [(a0, .inr (9, [.ref a1, u0_1, u0_2, u0_3, u0_4, u0_5, u0_6, u0_7, u0_8, u0_9, u0_10, u0_11, u0_12, u0_13, u0_14, u0_15, u0_16, u0_17, u0_18, u0_19, u0_20, u0_21, u0_22, u0_23, u0_24, u0_25, u0_26, u0_27, u0_28, u0_29, u0_30])), (a1, .inl (g.2.1 0, 552, .inl y1_s))]
noncomputable def f_X9_isEnd (y1_s : Nat → Int32) (p1 : Int32) : Option (Int32) :=
  bd1 (f_X9_isCoast y1_s p1) fun (r2 : Int32) =>
  bv (fun (v2 : Int32) (v3 : Int32) => ((
    (if 4 ≤ v3 then (
      some (.inr v2)
    ) else (
      bv (fun (t36 : Int32) => ((
        bv (v3 + 1) fun v3_1 =>
        some (.inl (t36, v3_1))
        ) : Option ((Int32 × Int32) ⊕ (Int32)))) fun j36 =>
      bv (fun (_ : Unit) => ((
        j36 1
        ) : Option ((Int32 × Int32) ⊕ (Int32)))) fun j31 =>
      (if v2 = 0 then (
        bd1 (f_X9_away y1_s p1 v3 1) fun (r22 : Int32) =>
        bd1 (f_X9_isRiver y1_s r22) fun (r25 : Int32) =>
        (if r25 = 0 then (
          j36 0
        ) else (
          j31 ()
        ))
      ) else (
        j31 ()
      ))
    ))
    ) : Option ((Int32 × Int32) ⊕ (Int32)))) fun l8 =>
  bd1 (lq2 l8 r2 0) fun (v2_1 : Int32) =>
  zb v2_1 (some v2_1)
set_option maxRecDepth 4000 in
theorem c_X9_isEnd (l : Launch) (g : GE) (a0 a1 : Nat) (sz : Nat) (u0_1 u0_2 u0_3 u0_4 u0_5 u0_6 u0_7 u0_8 u0_9 u0_10 u0_11 u0_12 u0_13 u0_14 u0_15 u0_16 u0_17 u0_18 u0_19 u0_20 u0_21 u0_22 u0_23 u0_24 u0_25 u0_26 u0_27 u0_28 u0_29 u0_30 : Value) (y1_s : Nat → Int32) (p1 : Int32) (r : Int32) (hf : f_X9_isEnd y1_s p1 = some r) : MI l g yX9_isEnd wsX9_isEnd 4 97 [.ref a0, .int p1] (w_X9_isEnd g a0 a1 u0_1 u0_2 u0_3 u0_4 u0_5 u0_6 u0_7 u0_8 u0_9 u0_10 u0_11 u0_12 u0_13 u0_14 u0_15 u0_16 u0_17 u0_18 u0_19 u0_20 u0_21 u0_22 u0_23 u0_24 u0_25 u0_26 u0_27 u0_28 u0_29 u0_30 y1_s) sz (some (.int r)) (w_X9_isEnd g a0 a1 u0_1 u0_2 u0_3 u0_4 u0_5 u0_6 u0_7 u0_8 u0_9 u0_10 u0_11 u0_12 u0_13 u0_14 u0_15 u0_16 u0_17 u0_18 u0_19 u0_20 u0_21 u0_22 u0_23 u0_24 u0_25 u0_26 u0_27 u0_28 u0_29 u0_30 y1_s) := by
  refine MI.start (cc := cX9_isEnd) (maxL := 4) (ret := (some .boolean)) rfl rfl (nle rfl) ?_
  intro p e s m args below meth c A ls Q hQ hexec hb hr hts hown hlocks hml hA hP hD hG hS hl
  unfold f_X9_isEnd at hf
  have hWX9 : ∀ w ∈ wsX90, w.before args s = true := fun w h => hts w (List.mem_cons_of_mem _ (List.mem_append_right _ h))
  have hS : va_S A s.heap s.heap [] := hS
  refine lv_aload_n (pc := 0) hexec hb dX9_isEnd_0 rfl (lv_at hl 0 rfl) ?_
  refine lv_iload_n (pc := 1) hexec hb dX9_isEnd_1 rfl (lv_at hl 1 rfl) ?_
  obtain ⟨r2, hc, hf⟩ := bd1_e hf
  refine kVp (pc := 2) (S := ⟨hexec, hb, hml, hown, hts⟩) hP hD hG hA hS [0, 1] [] [0, 1] (w2 := (w_X9_isEnd g a0 a1 u0_1 u0_2 u0_3 u0_4 u0_5 u0_6 u0_7 u0_8 u0_9 u0_10 u0_11 u0_12 u0_13 u0_14 u0_15 u0_16 u0_17 u0_18 u0_19 u0_20 u0_21 u0_22 u0_23 u0_24 u0_25 u0_26 u0_27 u0_28 u0_29 u0_30 y1_s)) rfl rfl rfl rfl rfl rfl (by decide) (c_X9_isCoast l g a0 a1 _ u0_1 u0_2 u0_3 u0_4 u0_5 u0_6 u0_7 u0_8 u0_9 u0_10 u0_11 u0_12 u0_13 u0_14 u0_15 u0_16 u0_17 u0_18 u0_19 u0_20 u0_21 u0_22 u0_23 u0_24 u0_25 u0_26 u0_27 u0_28 u0_29 u0_30 y1_s p1 r2 hc) gX9_isEnd_X9_isCoast rfl hv_X9_isCoast ⟨nle rfl, nle rfl⟩ 9 0 rfl rfl rfl (rest := []) rfl rfl hl.1 (nle rfl) dX9_isEnd_2 (fun H locs hP hD hS => ?_)
  refine lv_istore_n (pc := 5) hexec hb dX9_isEnd_5 rfl hl (nle rfl) rfl (fun ls (hl : lv_has ls 4 [(2, .int r2), (0, .ref a0), (1, .int p1)]) => ?_)
  refine lv_iconst (pc := 6) hexec hb dX9_isEnd_6 ki_0 ?_
  refine lv_istore_n (pc := 7) hexec hb dX9_isEnd_7 rfl hl (nle rfl) rfl (fun ls (hl : lv_has ls 4 [(3, .int 0), (2, .int r2), (0, .ref a0), (1, .int p1)]) => ?_)
  obtain ⟨l8, el8, hf⟩ := bvf2 hf
  obtain ⟨v2_1, hz, hf⟩ := bd1_e hf
  have hE8 : ∀ (H : Heap) (locs : List Loc) (ls : Array Slot), va_P g.1 vwCl (w_X9_isEnd g a0 a1 u0_1 u0_2 u0_3 u0_4 u0_5 u0_6 u0_7 u0_8 u0_9 u0_10 u0_11 u0_12 u0_13 u0_14 u0_15 u0_16 u0_17 u0_18 u0_19 u0_20 u0_21 u0_22 u0_23 u0_24 u0_25 u0_26 u0_27 u0_28 u0_29 u0_30 y1_s) H → va_D A (w_X9_isEnd g a0 a1 u0_1 u0_2 u0_3 u0_4 u0_5 u0_6 u0_7 u0_8 u0_9 u0_10 u0_11 u0_12 u0_13 u0_14 u0_15 u0_16 u0_17 u0_18 u0_19 u0_20 u0_21 u0_22 u0_23 u0_24 u0_25 u0_26 u0_27 u0_28 u0_29 u0_30 y1_s) → va_S A s.heap H locs → lv_has ls 4 [(2, .int v2_1)] → W p l e (RM 4 97) s m args below meth c H locs 0 0 Q (F0 m 43 ls []) := by
    intro H locs ls hP hD hS hl
    refine lv_iload_n (pc := 43) hexec hb dX9_isEnd_43 rfl (lv_at hl 0 rfl) ?_
    obtain ⟨hx, hf⟩ := zb_e hf
    cases hf
    exact ke_z hQ hexec hb hr hx hP hD hS dX9_isEnd_44 hlocks
  obtain ⟨n, hz⟩ := lq2_e hz
  have hL8 : ∀ (n : Nat) (v2 : Int32) (v3 : Int32) (H : Heap) (locs : List Loc) (ls : Array Slot), it2 l8 n v2 v3 = some v2_1 → va_P g.1 vwCl (w_X9_isEnd g a0 a1 u0_1 u0_2 u0_3 u0_4 u0_5 u0_6 u0_7 u0_8 u0_9 u0_10 u0_11 u0_12 u0_13 u0_14 u0_15 u0_16 u0_17 u0_18 u0_19 u0_20 u0_21 u0_22 u0_23 u0_24 u0_25 u0_26 u0_27 u0_28 u0_29 u0_30 y1_s) H → va_D A (w_X9_isEnd g a0 a1 u0_1 u0_2 u0_3 u0_4 u0_5 u0_6 u0_7 u0_8 u0_9 u0_10 u0_11 u0_12 u0_13 u0_14 u0_15 u0_16 u0_17 u0_18 u0_19 u0_20 u0_21 u0_22 u0_23 u0_24 u0_25 u0_26 u0_27 u0_28 u0_29 u0_30 y1_s) → va_S A s.heap H locs → lv_has ls 4 [(0, .ref a0), (1, .int p1), (2, .int v2), (3, .int v3)] → W p l e (RM 4 97) s m args below meth c H locs 0 0 Q (F0 m 8 ls []) := by
    intro n
    induction n with
    | zero =>
      intro v2 v3 H locs ls hf hP hD hS hl
      exact it2_0 hf
    | succ n8 ih8 =>
      intro v2 v3 H locs ls hf hP hD hS hl
      obtain ⟨q8, hf, hk8⟩ := it2_e hf
      have hf := (el8 v2 v3).symm.trans hf
      refine lv_iload_n (pc := 8) hexec hb dX9_isEnd_8 rfl (lv_at hl 3 rfl) ?_
      refine lv_iconst (pc := 9) hexec hb dX9_isEnd_9 ki_4 ?_
      refine ki_ge (pc := 10) hexec hb dX9_isEnd_10 (tgt := 43) rfl hf (fun hc hf => ?_) (fun hc hf => ?_)
      · cases sr2 hf hk8
        exact hE8 _ _ _ hP hD hS (lv_sub hl [2] rfl)
      · refine lv_iload_n (pc := 13) hexec hb dX9_isEnd_13 rfl (lv_at hl 2 rfl) ?_
        obtain ⟨j36, ej36, hf⟩ := bvf1 hf
        have hj36 : ∀ (t36 : Int32) (H : Heap) (locs : List Loc) (ls : Array Slot), j36 t36 = some q8 → va_P g.1 vwCl (w_X9_isEnd g a0 a1 u0_1 u0_2 u0_3 u0_4 u0_5 u0_6 u0_7 u0_8 u0_9 u0_10 u0_11 u0_12 u0_13 u0_14 u0_15 u0_16 u0_17 u0_18 u0_19 u0_20 u0_21 u0_22 u0_23 u0_24 u0_25 u0_26 u0_27 u0_28 u0_29 u0_30 y1_s) H → va_D A (w_X9_isEnd g a0 a1 u0_1 u0_2 u0_3 u0_4 u0_5 u0_6 u0_7 u0_8 u0_9 u0_10 u0_11 u0_12 u0_13 u0_14 u0_15 u0_16 u0_17 u0_18 u0_19 u0_20 u0_21 u0_22 u0_23 u0_24 u0_25 u0_26 u0_27 u0_28 u0_29 u0_30 y1_s) → va_S A s.heap H locs → lv_has ls 4 [(0, .ref a0), (1, .int p1), (3, .int v3)] → W p l e (RM 4 97) s m args below meth c H locs 0 0 Q (F0 m 36 ls [.int t36]) := by
          intro t36 H locs ls hf hP hD hS hl
          have hf := (ej36 t36).symm.trans hf
          refine lv_istore_n (pc := 36) hexec hb dX9_isEnd_36 rfl hl (nle rfl) rfl (fun ls (hl : lv_has ls 4 [(2, .int t36), (0, .ref a0), (1, .int p1), (3, .int v3)]) => ?_)
          obtain ⟨v3_1, ev3_1, hf⟩ := bv_e hf
          refine k_iinc (pc := 37) hexec hb dX9_isEnd_37 kq_1 hl (k := 3) rfl ev3_1 (nle rfl) rfl (fun ls (hl : lv_has ls 4 [(3, .int v3_1), (2, .int t36), (0, .ref a0), (1, .int p1)]) => ?_)
          refine lv_goto (pc := 40) hexec hb dX9_isEnd_40 (tgt := 8) rfl ?_
          exact ih8 _ _ _ _ _ (sl2 hf hk8) hP hD hS (lv_sub hl [2, 3, 1, 0] rfl)
        obtain ⟨j31, ej31, hf⟩ := bvf1 hf
        have hj31 : ∀ (u : Unit) (H : Heap) (locs : List Loc) (ls : Array Slot), j31 u = some q8 → va_P g.1 vwCl (w_X9_isEnd g a0 a1 u0_1 u0_2 u0_3 u0_4 u0_5 u0_6 u0_7 u0_8 u0_9 u0_10 u0_11 u0_12 u0_13 u0_14 u0_15 u0_16 u0_17 u0_18 u0_19 u0_20 u0_21 u0_22 u0_23 u0_24 u0_25 u0_26 u0_27 u0_28 u0_29 u0_30 y1_s) H → va_D A (w_X9_isEnd g a0 a1 u0_1 u0_2 u0_3 u0_4 u0_5 u0_6 u0_7 u0_8 u0_9 u0_10 u0_11 u0_12 u0_13 u0_14 u0_15 u0_16 u0_17 u0_18 u0_19 u0_20 u0_21 u0_22 u0_23 u0_24 u0_25 u0_26 u0_27 u0_28 u0_29 u0_30 y1_s) → va_S A s.heap H locs → lv_has ls 4 [(0, .ref a0), (1, .int p1), (3, .int v3)] → W p l e (RM 4 97) s m args below meth c H locs 0 0 Q (F0 m 31 ls []) := by
          intro u H locs ls hf hP hD hS hl
          have hf := (ej31 u).symm.trans hf
          refine lv_iconst (pc := 31) hexec hb dX9_isEnd_31 ki_1 ?_
          refine lv_goto (pc := 32) hexec hb dX9_isEnd_32 (tgt := 36) rfl ?_
          exact hj36 _ _ _ _ hf hP hD hS (lv_sub hl [0, 1, 2] rfl)
        refine kb_ne (pc := 14) hexec hb dX9_isEnd_14 (tgt := 31) rfl hf (fun hc hf => ?_) (fun hc hf => ?_)
        · exact hj31 _ _ _ _ hf hP hD hS (lv_sub hl [0, 1, 3] rfl)
        · refine lv_aload_n (pc := 17) hexec hb dX9_isEnd_17 rfl (lv_at hl 0 rfl) ?_
          refine lv_aload_n (pc := 18) hexec hb dX9_isEnd_18 rfl (lv_at hl 0 rfl) ?_
          refine lv_iload_n (pc := 19) hexec hb dX9_isEnd_19 rfl (lv_at hl 1 rfl) ?_
          refine lv_iload_n (pc := 20) hexec hb dX9_isEnd_20 rfl (lv_at hl 3 rfl) ?_
          refine lv_iconst (pc := 21) hexec hb dX9_isEnd_21 ki_1 ?_
          obtain ⟨r22, hc, hf⟩ := bd1_e hf
          refine kVp (pc := 22) (S := ⟨hexec, hb, hml, hown, hts⟩) hP hD hG hA hS [0, 1] [] [0, 1] (w2 := (w_X9_isEnd g a0 a1 u0_1 u0_2 u0_3 u0_4 u0_5 u0_6 u0_7 u0_8 u0_9 u0_10 u0_11 u0_12 u0_13 u0_14 u0_15 u0_16 u0_17 u0_18 u0_19 u0_20 u0_21 u0_22 u0_23 u0_24 u0_25 u0_26 u0_27 u0_28 u0_29 u0_30 y1_s)) rfl rfl rfl rfl rfl rfl (by decide) (c_X9_away l g a0 a1 _ u0_1 u0_2 u0_3 u0_4 u0_5 u0_6 u0_7 u0_8 u0_9 u0_10 u0_11 u0_12 u0_13 u0_14 u0_15 u0_16 u0_17 u0_18 u0_19 u0_20 u0_21 u0_22 u0_23 u0_24 u0_25 u0_26 u0_27 u0_28 u0_29 u0_30 y1_s p1 v3 1 r22 hc) gX9_isEnd_X9_away rfl hv_X9_away ⟨nle rfl, nle rfl⟩ 9 0 rfl rfl rfl (rest := [.ref a0]) rfl rfl hl.1 (nle rfl) dX9_isEnd_22 (fun H locs hP hD hS => ?_)
          obtain ⟨r25, hc, hf⟩ := bd1_e hf
          refine kVp (pc := 25) (S := ⟨hexec, hb, hml, hown, hts⟩) hP hD hG hA hS [0, 1] [] [0, 1] (w2 := (w_X9_isEnd g a0 a1 u0_1 u0_2 u0_3 u0_4 u0_5 u0_6 u0_7 u0_8 u0_9 u0_10 u0_11 u0_12 u0_13 u0_14 u0_15 u0_16 u0_17 u0_18 u0_19 u0_20 u0_21 u0_22 u0_23 u0_24 u0_25 u0_26 u0_27 u0_28 u0_29 u0_30 y1_s)) rfl rfl rfl rfl rfl rfl (by decide) (c_X9_isRiver l g a0 a1 _ u0_1 u0_2 u0_3 u0_4 u0_5 u0_6 u0_7 u0_8 u0_9 u0_10 u0_11 u0_12 u0_13 u0_14 u0_15 u0_16 u0_17 u0_18 u0_19 u0_20 u0_21 u0_22 u0_23 u0_24 u0_25 u0_26 u0_27 u0_28 u0_29 u0_30 y1_s r22 r25 hc) gX9_isEnd_X9_isRiver rfl hv_X9_isRiver ⟨nle rfl, nle rfl⟩ 9 0 rfl rfl rfl (rest := []) rfl rfl hl.1 (nle rfl) dX9_isEnd_25 (fun H locs hP hD hS => ?_)
          refine kb_eq (pc := 28) hexec hb dX9_isEnd_28 (tgt := 35) rfl hf (fun hc hf => ?_) (fun hc hf => ?_)
          · refine lv_iconst (pc := 35) hexec hb dX9_isEnd_35 ki_0 ?_
            exact hj36 _ _ _ _ hf hP hD hS (lv_sub hl [0, 1, 3] rfl)
          · exact hj31 _ _ _ _ hf hP hD hS (lv_sub hl [0, 1, 3] rfl)
  exact hL8 n _ _ _ _ _ hz hP hD hS (lv_sub hl [2, 3, 1, 0] rfl)
abbrev w_X9_costOf (g : GE) (a0 a1 : Nat) (u0_1 u0_2 u0_3 u0_4 u0_5 u0_6 u0_7 u0_8 u0_9 u0_10 u0_11 u0_12 u0_13 u0_14 u0_15 u0_16 u0_17 u0_18 u0_19 u0_20 u0_21 u0_22 u0_23 u0_24 u0_25 u0_26 u0_27 u0_28 u0_29 u0_30 : Value) (y1_s : Nat → Int32) : va_W := [(a0, .inr (9, [.ref a1, u0_1, u0_2, u0_3, u0_4, u0_5, u0_6, u0_7, u0_8, u0_9, u0_10, u0_11, u0_12, u0_13, u0_14, u0_15, u0_16, u0_17, u0_18, u0_19, u0_20, u0_21, u0_22, u0_23, u0_24, u0_25, u0_26, u0_27, u0_28, u0_29, u0_30])), (a1, .inl (g.2.1 0, 552, .inl y1_s))]
noncomputable def f_X9_costOf (y1_s : Nat → Int32) (p1 : Int32) : Option (Int32) :=
  bd1 (f_X9_namesIn y1_s p1) fun (r2 : Int32) =>
  (if r2 = 0 then (
    some 1
  ) else (
    some 11
  ))
set_option maxRecDepth 4000 in
theorem c_X9_costOf (l : Launch) (g : GE) (a0 a1 : Nat) (sz : Nat) (u0_1 u0_2 u0_3 u0_4 u0_5 u0_6 u0_7 u0_8 u0_9 u0_10 u0_11 u0_12 u0_13 u0_14 u0_15 u0_16 u0_17 u0_18 u0_19 u0_20 u0_21 u0_22 u0_23 u0_24 u0_25 u0_26 u0_27 u0_28 u0_29 u0_30 : Value) (y1_s : Nat → Int32) (p1 : Int32) (r : Int32) (hf : f_X9_costOf y1_s p1 = some r) : MI l g yX9_costOf wsX9_costOf 6 143 [.ref a0, .int p1] (w_X9_costOf g a0 a1 u0_1 u0_2 u0_3 u0_4 u0_5 u0_6 u0_7 u0_8 u0_9 u0_10 u0_11 u0_12 u0_13 u0_14 u0_15 u0_16 u0_17 u0_18 u0_19 u0_20 u0_21 u0_22 u0_23 u0_24 u0_25 u0_26 u0_27 u0_28 u0_29 u0_30 y1_s) sz (some (.int r)) (w_X9_costOf g a0 a1 u0_1 u0_2 u0_3 u0_4 u0_5 u0_6 u0_7 u0_8 u0_9 u0_10 u0_11 u0_12 u0_13 u0_14 u0_15 u0_16 u0_17 u0_18 u0_19 u0_20 u0_21 u0_22 u0_23 u0_24 u0_25 u0_26 u0_27 u0_28 u0_29 u0_30 y1_s) := by
  refine MI.start (cc := cX9_costOf) (maxL := 2) (ret := (some .int)) rfl rfl (nle rfl) ?_
  intro p e s m args below meth c A ls Q hQ hexec hb hr hts hown hlocks hml hA hP hD hG hS hl
  unfold f_X9_costOf at hf
  have hWX9 : ∀ w ∈ wsX90, w.before args s = true := fun w h => hts w (List.mem_cons_of_mem _ (List.mem_append_right _ h))
  have hS : va_S A s.heap s.heap [] := hS
  refine lv_aload_n (pc := 0) hexec hb dX9_costOf_0 rfl (lv_at hl 0 rfl) ?_
  refine lv_iload_n (pc := 1) hexec hb dX9_costOf_1 rfl (lv_at hl 1 rfl) ?_
  obtain ⟨r2, hc, hf⟩ := bd1_e hf
  refine kVp (pc := 2) (S := ⟨hexec, hb, hml, hown, hts⟩) hP hD hG hA hS [0, 1] [] [0, 1] (w2 := (w_X9_costOf g a0 a1 u0_1 u0_2 u0_3 u0_4 u0_5 u0_6 u0_7 u0_8 u0_9 u0_10 u0_11 u0_12 u0_13 u0_14 u0_15 u0_16 u0_17 u0_18 u0_19 u0_20 u0_21 u0_22 u0_23 u0_24 u0_25 u0_26 u0_27 u0_28 u0_29 u0_30 y1_s)) rfl rfl rfl rfl rfl rfl (by decide) (c_X9_namesIn l g a0 a1 _ u0_1 u0_2 u0_3 u0_4 u0_5 u0_6 u0_7 u0_8 u0_9 u0_10 u0_11 u0_12 u0_13 u0_14 u0_15 u0_16 u0_17 u0_18 u0_19 u0_20 u0_21 u0_22 u0_23 u0_24 u0_25 u0_26 u0_27 u0_28 u0_29 u0_30 y1_s p1 r2 hc) gX9_costOf_X9_namesIn rfl hv_X9_namesIn ⟨nle rfl, nle rfl⟩ 9 0 rfl rfl rfl (rest := []) rfl rfl hl.1 (nle rfl) dX9_costOf_2 (fun H locs hP hD hS => ?_)
  refine kb_ne (pc := 5) hexec hb dX9_costOf_5 (tgt := 12) rfl hf (fun hc hf => ?_) (fun hc hf => ?_)
  · refine lv_bipush (pc := 12) hexec hb dX9_costOf_12 kb_11 ?_
    cases hf
    exact ke_i hQ hexec hb hr hP hD hS dX9_costOf_14 hlocks
  · refine lv_iconst (pc := 8) hexec hb dX9_costOf_8 ki_1 ?_
    refine lv_goto (pc := 9) hexec hb dX9_costOf_9 (tgt := 14) rfl ?_
    cases hf
    exact ke_i hQ hexec hb hr hP hD hS dX9_costOf_14 hlocks
abbrev w_X9_laysSums (g : GE) (a0 a1 a2 : Nat) (u0_1 u0_2 u0_3 u0_4 u0_5 u0_6 u0_7 u0_9 u0_10 u0_11 u0_12 u0_13 u0_14 u0_15 u0_16 u0_17 u0_18 u0_19 u0_20 u0_21 u0_22 u0_23 u0_24 u0_25 u0_26 u0_27 u0_28 u0_29 u0_30 : Value) (y1_s : Nat → Int32) (y2_sums : Nat → Int32) : va_W := [(a0, .inr (9, [.ref a1, u0_1, u0_2, u0_3, u0_4, u0_5, u0_6, u0_7, .ref a2, u0_9, u0_10, u0_11, u0_12, u0_13, u0_14, u0_15, u0_16, u0_17, u0_18, u0_19, u0_20, u0_21, u0_22, u0_23, u0_24, u0_25, u0_26, u0_27, u0_28, u0_29, u0_30])), (a1, .inl (g.2.1 0, 552, .inl y1_s)), (a2, .inl (g.2.1 0, 144, .inl y2_sums))]
noncomputable def f_X9_laysSums (y1_s : Nat → Int32) (y2_sums : Nat → Int32)  : Option ((Nat → Int32)) :=
  bv (fun (v1 : Int32) (y2_sums_1 : Nat → Int32) => ((
    bd1 (f_X9_cells y1_s) fun (r4 : Int32) =>
    (if r4 ≤ v1 then (
      some (.inr y2_sums_1)
    ) else (
      bd1 (f_X9_canBegin y1_s v1) fun (r17 : Int32) =>
      bv (fun (t41 : Int32) => ((
        ar v1 144 <| bv (upd y2_sums_1 v1.toNatClampNeg t41) fun y2_sums_3 =>
        bv (v1 + 1) fun v1_1 =>
        some (.inl (v1_1, y2_sums_3))
        ) : Option ((Int32 × (Nat → Int32)) ⊕ ((Nat → Int32))))) fun j41 =>
      bv (fun (_ : Unit) => ((
        j41 1000000
        ) : Option ((Int32 × (Nat → Int32)) ⊕ ((Nat → Int32))))) fun j39 =>
      (if r17 = 0 then (
        j39 ()
      ) else (
        bd1 (f_X9_isEnd y1_s v1) fun (r25 : Int32) =>
        (if r25 = 0 then (
          j39 ()
        ) else (
          bd1 (f_X9_costOf y1_s v1) fun (r33 : Int32) =>
          j41 r33
        ))
      ))
    ))
    ) : Option ((Int32 × (Nat → Int32)) ⊕ ((Nat → Int32))))) fun l2 =>
  bd1 (lq2 l2 0 y2_sums) fun (y2_sums_2 : Nat → Int32) =>
  bv (fun (v1_2 : Int32) (y2_sums_4 : Nat → Int32) => ((
    (if v1_2 = 0 then (
      some (.inr y2_sums_4)
    ) else (
      bv (fun (v1_3 : Int32) (v2 : Int32) (y2_sums_6 : Nat → Int32) => ((
        bd1 (f_X9_cells y1_s) fun (r60 : Int32) =>
        (if r60 ≤ v2 then (
          some (.inr (v1_3, y2_sums_6))
        ) else (
          bd1 (f_X9_canBegin y1_s v2) fun (r68 : Int32) =>
          bv (fun (v1_5 : Int32) (y2_sums_8 : Nat → Int32) => ((
            bv (v2 + 1) fun v2_1 =>
            some (.inl (v1_5, v2_1, y2_sums_8))
            ) : Option ((Int32 × Int32 × (Nat → Int32)) ⊕ (Int32 × (Nat → Int32))))) fun j193 =>
          (if r68 = 0 then (
            j193 v1_3 y2_sums_6
          ) else (
            bd1 (f_X9_isEnd y1_s v2) fun (r76 : Int32) =>
            (if r76 = 0 then (
              bv (fun (v3 : Int32) (v4 : Int32) => ((
                (if 4 ≤ v4 then (
                  some (.inr v3)
                ) else (
                  bd1 (f_X9_away y1_s v2 v4 1) fun (r102 : Int32) =>
                  bv (fun (t128 : Int32) => ((
                    bv (v4 + 1) fun v4_1 =>
                    some (.inl (t128, v4_1))
                    ) : Option ((Int32 × Int32) ⊕ (Int32)))) fun j128 =>
                  (if r102 = (-1) then (
                    j128 v3
                  ) else (
                    ar r102 144 <|
                    j128 (if (y2_sums_6 r102.toNatClampNeg) < v3 then (y2_sums_6 r102.toNatClampNeg) else v3)
                  ))
                ))
                ) : Option ((Int32 × Int32) ⊕ (Int32)))) fun l91 =>
              bd1 (lq2 l91 1000000 0) fun (v3_1 : Int32) =>
              bv (fun (t153 : Int32) => ((
                bv (fun (t175 : Int32) => ((
                  ar v2 144 <|
                  ar v2 144 <| bv (upd y2_sums_6 v2.toNatClampNeg (if (y2_sums_6 v2.toNatClampNeg) < t153 then (y2_sums_6 v2.toNatClampNeg) else t153)) fun y2_sums_9 =>
                  j193 t175 y2_sums_9
                  ) : Option ((Int32 × Int32 × (Nat → Int32)) ⊕ (Int32 × (Nat → Int32))))) fun j175 =>
                bv (fun (_ : Unit) => ((
                  j175 1
                  ) : Option ((Int32 × Int32 × (Nat → Int32)) ⊕ (Int32 × (Nat → Int32))))) fun j170 =>
                (if v1_3 = 0 then (
                  ar v2 144 <|
                  (if (y2_sums_6 v2.toNatClampNeg) ≤ t153 then (
                    j175 0
                  ) else (
                    j170 ()
                  ))
                ) else (
                  j170 ()
                ))
                ) : Option ((Int32 × Int32 × (Nat → Int32)) ⊕ (Int32 × (Nat → Int32))))) fun j153 =>
              (if v3_1 = 1000000 then (
                j153 1000000
              ) else (
                bd1 (f_X9_costOf y1_s v2) fun (r149 : Int32) =>
                j153 (v3_1 + r149)
              ))
            ) else (
              j193 v1_3 y2_sums_6
            ))
          ))
        ))
        ) : Option ((Int32 × Int32 × (Nat → Int32)) ⊕ (Int32 × (Nat → Int32))))) fun l58 =>
      bd2 (lq3 l58 0 0 y2_sums_4) fun (v1_4 : Int32) (y2_sums_7 : Nat → Int32) =>
      some (.inl (v1_4, y2_sums_7))
    ))
    ) : Option ((Int32 × (Nat → Int32)) ⊕ ((Nat → Int32))))) fun l50 =>
  bd1 (lq2 l50 1 y2_sums_2) fun (y2_sums_5 : Nat → Int32) =>
  some y2_sums_5
set_option maxRecDepth 4000 in
theorem c_X9_laysSums (l : Launch) (g : GE) (a0 a1 a2 : Nat) (sz : Nat) (u0_1 u0_2 u0_3 u0_4 u0_5 u0_6 u0_7 u0_9 u0_10 u0_11 u0_12 u0_13 u0_14 u0_15 u0_16 u0_17 u0_18 u0_19 u0_20 u0_21 u0_22 u0_23 u0_24 u0_25 u0_26 u0_27 u0_28 u0_29 u0_30 : Value) (y1_s : Nat → Int32) (y2_sums : Nat → Int32)  (o_y2_sums : Nat → Int32) (hf : f_X9_laysSums y1_s y2_sums = some o_y2_sums) : MI l g yX9_laysSums wsX9_laysSums 7 164 [.ref a0] (w_X9_laysSums g a0 a1 a2 u0_1 u0_2 u0_3 u0_4 u0_5 u0_6 u0_7 u0_9 u0_10 u0_11 u0_12 u0_13 u0_14 u0_15 u0_16 u0_17 u0_18 u0_19 u0_20 u0_21 u0_22 u0_23 u0_24 u0_25 u0_26 u0_27 u0_28 u0_29 u0_30 y1_s y2_sums) sz none (w_X9_laysSums g a0 a1 a2 u0_1 u0_2 u0_3 u0_4 u0_5 u0_6 u0_7 u0_9 u0_10 u0_11 u0_12 u0_13 u0_14 u0_15 u0_16 u0_17 u0_18 u0_19 u0_20 u0_21 u0_22 u0_23 u0_24 u0_25 u0_26 u0_27 u0_28 u0_29 u0_30 y1_s o_y2_sums) := by
  refine MI.start (cc := cX9_laysSums) (maxL := 6) (ret := none) rfl rfl (nle rfl) ?_
  intro p e s m args below meth c A ls Q hQ hexec hb hr hts hown hlocks hml hA hP hD hG hS hl
  unfold f_X9_laysSums at hf
  have hWX9 : ∀ w ∈ wsX90, w.before args s = true := fun w h => hts w (List.mem_cons_of_mem _ (List.mem_append_right _ h))
  have hS : va_S A s.heap s.heap [] := hS
  refine lv_iconst (pc := 0) hexec hb dX9_laysSums_0 ki_0 ?_
  refine lv_istore_n (pc := 1) hexec hb dX9_laysSums_1 rfl hl (nle rfl) rfl (fun ls (hl : lv_has ls 6 [(1, .int 0), (0, .ref a0)]) => ?_)
  obtain ⟨l2, el2, hf⟩ := bvf2 hf
  obtain ⟨y2_sums_2, hz, hf⟩ := bd1_e hf
  have hE2 : ∀ (H : Heap) (locs : List Loc) (ls : Array Slot), va_P g.1 vwCl (w_X9_laysSums g a0 a1 a2 u0_1 u0_2 u0_3 u0_4 u0_5 u0_6 u0_7 u0_9 u0_10 u0_11 u0_12 u0_13 u0_14 u0_15 u0_16 u0_17 u0_18 u0_19 u0_20 u0_21 u0_22 u0_23 u0_24 u0_25 u0_26 u0_27 u0_28 u0_29 u0_30 y1_s y2_sums_2) H → va_D A (w_X9_laysSums g a0 a1 a2 u0_1 u0_2 u0_3 u0_4 u0_5 u0_6 u0_7 u0_9 u0_10 u0_11 u0_12 u0_13 u0_14 u0_15 u0_16 u0_17 u0_18 u0_19 u0_20 u0_21 u0_22 u0_23 u0_24 u0_25 u0_26 u0_27 u0_28 u0_29 u0_30 y1_s y2_sums_2) → va_S A s.heap H locs → lv_has ls 6 [(0, .ref a0)] → W p l e (RM 7 164) s m args below meth c H locs 0 0 Q (F0 m 48 ls []) := by
    intro H locs ls hP hD hS hl
    refine lv_iconst (pc := 48) hexec hb dX9_laysSums_48 ki_1 ?_
    refine lv_istore_n (pc := 49) hexec hb dX9_laysSums_49 rfl hl (nle rfl) rfl (fun ls (hl : lv_has ls 6 [(1, .int 1), (0, .ref a0)]) => ?_)
    obtain ⟨l50, el50, hf⟩ := bvf2 hf
    obtain ⟨y2_sums_5, hz, hf⟩ := bd1_e hf
    have hE50 : ∀ (H : Heap) (locs : List Loc) (ls : Array Slot), va_P g.1 vwCl (w_X9_laysSums g a0 a1 a2 u0_1 u0_2 u0_3 u0_4 u0_5 u0_6 u0_7 u0_9 u0_10 u0_11 u0_12 u0_13 u0_14 u0_15 u0_16 u0_17 u0_18 u0_19 u0_20 u0_21 u0_22 u0_23 u0_24 u0_25 u0_26 u0_27 u0_28 u0_29 u0_30 y1_s y2_sums_5) H → va_D A (w_X9_laysSums g a0 a1 a2 u0_1 u0_2 u0_3 u0_4 u0_5 u0_6 u0_7 u0_9 u0_10 u0_11 u0_12 u0_13 u0_14 u0_15 u0_16 u0_17 u0_18 u0_19 u0_20 u0_21 u0_22 u0_23 u0_24 u0_25 u0_26 u0_27 u0_28 u0_29 u0_30 y1_s y2_sums_5) → va_S A s.heap H locs → lv_has ls 6 [] → W p l e (RM 7 164) s m args below meth c H locs 0 0 Q (F0 m 202 ls []) := by
      intro H locs ls hP hD hS hl
      cases hf
      exact ke_v hQ hexec hb hr hP hD hS dX9_laysSums_202 hlocks
    obtain ⟨n, hz⟩ := lq2_e hz
    have hL50 : ∀ (n : Nat) (v1_2 : Int32) (y2_sums_4 : Nat → Int32) (H : Heap) (locs : List Loc) (ls : Array Slot), it2 l50 n v1_2 y2_sums_4 = some y2_sums_5 → va_P g.1 vwCl (w_X9_laysSums g a0 a1 a2 u0_1 u0_2 u0_3 u0_4 u0_5 u0_6 u0_7 u0_9 u0_10 u0_11 u0_12 u0_13 u0_14 u0_15 u0_16 u0_17 u0_18 u0_19 u0_20 u0_21 u0_22 u0_23 u0_24 u0_25 u0_26 u0_27 u0_28 u0_29 u0_30 y1_s y2_sums_4) H → va_D A (w_X9_laysSums g a0 a1 a2 u0_1 u0_2 u0_3 u0_4 u0_5 u0_6 u0_7 u0_9 u0_10 u0_11 u0_12 u0_13 u0_14 u0_15 u0_16 u0_17 u0_18 u0_19 u0_20 u0_21 u0_22 u0_23 u0_24 u0_25 u0_26 u0_27 u0_28 u0_29 u0_30 y1_s y2_sums_4) → va_S A s.heap H locs → lv_has ls 6 [(0, .ref a0), (1, .int v1_2)] → W p l e (RM 7 164) s m args below meth c H locs 0 0 Q (F0 m 50 ls []) := by
      intro n
      induction n with
      | zero =>
        intro v1_2 y2_sums_4 H locs ls hf hP hD hS hl
        exact it2_0 hf
      | succ n50 ih50 =>
        intro v1_2 y2_sums_4 H locs ls hf hP hD hS hl
        obtain ⟨q50, hf, hk50⟩ := it2_e hf
        have hf := (el50 v1_2 y2_sums_4).symm.trans hf
        refine lv_iload_n (pc := 50) hexec hb dX9_laysSums_50 rfl (lv_at hl 1 rfl) ?_
        refine kb_eq (pc := 51) hexec hb dX9_laysSums_51 (tgt := 202) rfl hf (fun hc hf => ?_) (fun hc hf => ?_)
        · cases sr2 hf hk50
          exact hE50 _ _ _ hP hD hS (lv_sub hl [] rfl)
        · refine lv_iconst (pc := 54) hexec hb dX9_laysSums_54 ki_0 ?_
          refine lv_istore_n (pc := 55) hexec hb dX9_laysSums_55 rfl hl (nle rfl) rfl (fun ls (hl : lv_has ls 6 [(1, .int 0), (0, .ref a0)]) => ?_)
          refine lv_iconst (pc := 56) hexec hb dX9_laysSums_56 ki_0 ?_
          refine lv_istore_n (pc := 57) hexec hb dX9_laysSums_57 rfl hl (nle rfl) rfl (fun ls (hl : lv_has ls 6 [(2, .int 0), (1, .int 0), (0, .ref a0)]) => ?_)
          obtain ⟨l58, el58, hf⟩ := bvf3 hf
          obtain ⟨v1_4, y2_sums_7, hz, hf⟩ := bd2_e hf
          have hE58 : ∀ (H : Heap) (locs : List Loc) (ls : Array Slot), va_P g.1 vwCl (w_X9_laysSums g a0 a1 a2 u0_1 u0_2 u0_3 u0_4 u0_5 u0_6 u0_7 u0_9 u0_10 u0_11 u0_12 u0_13 u0_14 u0_15 u0_16 u0_17 u0_18 u0_19 u0_20 u0_21 u0_22 u0_23 u0_24 u0_25 u0_26 u0_27 u0_28 u0_29 u0_30 y1_s y2_sums_7) H → va_D A (w_X9_laysSums g a0 a1 a2 u0_1 u0_2 u0_3 u0_4 u0_5 u0_6 u0_7 u0_9 u0_10 u0_11 u0_12 u0_13 u0_14 u0_15 u0_16 u0_17 u0_18 u0_19 u0_20 u0_21 u0_22 u0_23 u0_24 u0_25 u0_26 u0_27 u0_28 u0_29 u0_30 y1_s y2_sums_7) → va_S A s.heap H locs → lv_has ls 6 [(0, .ref a0), (1, .int v1_4)] → W p l e (RM 7 164) s m args below meth c H locs 0 0 Q (F0 m 199 ls []) := by
            intro H locs ls hP hD hS hl
            refine lv_goto (pc := 199) hexec hb dX9_laysSums_199 (tgt := 50) rfl ?_
            exact ih50 _ _ _ _ _ (sl2 hf hk50) hP hD hS (lv_sub hl [0, 1] rfl)
          obtain ⟨n, hz⟩ := lq3_e hz
          have hL58 : ∀ (n : Nat) (v1_3 : Int32) (v2 : Int32) (y2_sums_6 : Nat → Int32) (H : Heap) (locs : List Loc) (ls : Array Slot), it3 l58 n v1_3 v2 y2_sums_6 = some (v1_4, y2_sums_7) → va_P g.1 vwCl (w_X9_laysSums g a0 a1 a2 u0_1 u0_2 u0_3 u0_4 u0_5 u0_6 u0_7 u0_9 u0_10 u0_11 u0_12 u0_13 u0_14 u0_15 u0_16 u0_17 u0_18 u0_19 u0_20 u0_21 u0_22 u0_23 u0_24 u0_25 u0_26 u0_27 u0_28 u0_29 u0_30 y1_s y2_sums_6) H → va_D A (w_X9_laysSums g a0 a1 a2 u0_1 u0_2 u0_3 u0_4 u0_5 u0_6 u0_7 u0_9 u0_10 u0_11 u0_12 u0_13 u0_14 u0_15 u0_16 u0_17 u0_18 u0_19 u0_20 u0_21 u0_22 u0_23 u0_24 u0_25 u0_26 u0_27 u0_28 u0_29 u0_30 y1_s y2_sums_6) → va_S A s.heap H locs → lv_has ls 6 [(0, .ref a0), (1, .int v1_3), (2, .int v2)] → W p l e (RM 7 164) s m args below meth c H locs 0 0 Q (F0 m 58 ls []) := by
            intro n
            induction n with
            | zero =>
              intro v1_3 v2 y2_sums_6 H locs ls hf hP hD hS hl
              exact it3_0 hf
            | succ n58 ih58 =>
              intro v1_3 v2 y2_sums_6 H locs ls hf hP hD hS hl
              obtain ⟨q58, hf, hk58⟩ := it3_e hf
              have hf := (el58 v1_3 v2 y2_sums_6).symm.trans hf
              refine lv_iload_n (pc := 58) hexec hb dX9_laysSums_58 rfl (lv_at hl 2 rfl) ?_
              refine lv_aload_n (pc := 59) hexec hb dX9_laysSums_59 rfl (lv_at hl 0 rfl) ?_
              obtain ⟨r60, hc, hf⟩ := bd1_e hf
              refine kVp (pc := 60) (S := ⟨hexec, hb, hml, hown, hts⟩) hP hD hG hA hS [0, 1] [2] [1, 2, 0] (w2 := (w_X9_laysSums g a0 a1 a2 u0_1 u0_2 u0_3 u0_4 u0_5 u0_6 u0_7 u0_9 u0_10 u0_11 u0_12 u0_13 u0_14 u0_15 u0_16 u0_17 u0_18 u0_19 u0_20 u0_21 u0_22 u0_23 u0_24 u0_25 u0_26 u0_27 u0_28 u0_29 u0_30 y1_s y2_sums_6)) rfl rfl rfl rfl rfl rfl (by decide) (c_X9_cells l g a0 a1 _ u0_1 u0_2 u0_3 u0_4 u0_5 u0_6 u0_7 (.ref a2) u0_9 u0_10 u0_11 u0_12 u0_13 u0_14 u0_15 u0_16 u0_17 u0_18 u0_19 u0_20 u0_21 u0_22 u0_23 u0_24 u0_25 u0_26 u0_27 u0_28 u0_29 u0_30 y1_s r60 hc) gX9_laysSums_X9_cells rfl hv_X9_cells ⟨nle rfl, nle rfl⟩ 9 0 rfl rfl rfl (rest := [.int v2]) rfl rfl hl.1 (nle rfl) dX9_laysSums_60 (fun H locs hP hD hS => ?_)
              refine ki_ge (pc := 63) hexec hb dX9_laysSums_63 (tgt := 199) rfl hf (fun hc hf => ?_) (fun hc hf => ?_)
              · cases sr3 hf hk58
                exact hE58 _ _ _ hP hD hS (lv_sub hl [0, 1] rfl)
              · refine lv_aload_n (pc := 66) hexec hb dX9_laysSums_66 rfl (lv_at hl 0 rfl) ?_
                refine lv_iload_n (pc := 67) hexec hb dX9_laysSums_67 rfl (lv_at hl 2 rfl) ?_
                obtain ⟨r68, hc, hf⟩ := bd1_e hf
                refine kVp (pc := 68) (S := ⟨hexec, hb, hml, hown, hts⟩) hP hD hG hA hS [0, 1] [2] [1, 2, 0] (w2 := (w_X9_laysSums g a0 a1 a2 u0_1 u0_2 u0_3 u0_4 u0_5 u0_6 u0_7 u0_9 u0_10 u0_11 u0_12 u0_13 u0_14 u0_15 u0_16 u0_17 u0_18 u0_19 u0_20 u0_21 u0_22 u0_23 u0_24 u0_25 u0_26 u0_27 u0_28 u0_29 u0_30 y1_s y2_sums_6)) rfl rfl rfl rfl rfl rfl (by decide) (c_X9_canBegin l g a0 a1 _ u0_1 u0_2 u0_3 u0_4 u0_5 u0_6 u0_7 (.ref a2) u0_9 u0_10 u0_11 u0_12 u0_13 u0_14 u0_15 u0_16 u0_17 u0_18 u0_19 u0_20 u0_21 u0_22 u0_23 u0_24 u0_25 u0_26 u0_27 u0_28 u0_29 u0_30 y1_s v2 r68 hc) gX9_laysSums_X9_canBegin rfl hv_X9_canBegin ⟨nle rfl, nle rfl⟩ 9 0 rfl rfl rfl (rest := []) rfl rfl hl.1 (nle rfl) dX9_laysSums_68 (fun H locs hP hD hS => ?_)
                obtain ⟨j193, ej193, hf⟩ := bvf2 hf
                have hj193 : ∀ (v1_5 : Int32) (y2_sums_8 : Nat → Int32) (H : Heap) (locs : List Loc) (ls : Array Slot), j193 v1_5 y2_sums_8 = some q58 → va_P g.1 vwCl (w_X9_laysSums g a0 a1 a2 u0_1 u0_2 u0_3 u0_4 u0_5 u0_6 u0_7 u0_9 u0_10 u0_11 u0_12 u0_13 u0_14 u0_15 u0_16 u0_17 u0_18 u0_19 u0_20 u0_21 u0_22 u0_23 u0_24 u0_25 u0_26 u0_27 u0_28 u0_29 u0_30 y1_s y2_sums_8) H → va_D A (w_X9_laysSums g a0 a1 a2 u0_1 u0_2 u0_3 u0_4 u0_5 u0_6 u0_7 u0_9 u0_10 u0_11 u0_12 u0_13 u0_14 u0_15 u0_16 u0_17 u0_18 u0_19 u0_20 u0_21 u0_22 u0_23 u0_24 u0_25 u0_26 u0_27 u0_28 u0_29 u0_30 y1_s y2_sums_8) → va_S A s.heap H locs → lv_has ls 6 [(0, .ref a0), (1, .int v1_5), (2, .int v2)] → W p l e (RM 7 164) s m args below meth c H locs 0 0 Q (F0 m 193 ls []) := by
                  intro v1_5 y2_sums_8 H locs ls hf hP hD hS hl
                  have hf := (ej193 v1_5 y2_sums_8).symm.trans hf
                  obtain ⟨v2_1, ev2_1, hf⟩ := bv_e hf
                  refine k_iinc (pc := 193) hexec hb dX9_laysSums_193 kq_1 hl (k := 2) rfl ev2_1 (nle rfl) rfl (fun ls (hl : lv_has ls 6 [(2, .int v2_1), (0, .ref a0), (1, .int v1_5)]) => ?_)
                  refine lv_goto (pc := 196) hexec hb dX9_laysSums_196 (tgt := 58) rfl ?_
                  exact ih58 _ _ _ _ _ _ (sl3 hf hk58) hP hD hS (lv_sub hl [1, 2, 0] rfl)
                refine kb_eq (pc := 71) hexec hb dX9_laysSums_71 (tgt := 193) rfl hf (fun hc hf => ?_) (fun hc hf => ?_)
                · exact hj193 _ _ _ _ _ hf hP hD hS (lv_sub hl [0, 1, 2] rfl)
                · refine lv_aload_n (pc := 74) hexec hb dX9_laysSums_74 rfl (lv_at hl 0 rfl) ?_
                  refine lv_iload_n (pc := 75) hexec hb dX9_laysSums_75 rfl (lv_at hl 2 rfl) ?_
                  obtain ⟨r76, hc, hf⟩ := bd1_e hf
                  refine kVp (pc := 76) (S := ⟨hexec, hb, hml, hown, hts⟩) hP hD hG hA hS [0, 1] [2] [1, 2, 0] (w2 := (w_X9_laysSums g a0 a1 a2 u0_1 u0_2 u0_3 u0_4 u0_5 u0_6 u0_7 u0_9 u0_10 u0_11 u0_12 u0_13 u0_14 u0_15 u0_16 u0_17 u0_18 u0_19 u0_20 u0_21 u0_22 u0_23 u0_24 u0_25 u0_26 u0_27 u0_28 u0_29 u0_30 y1_s y2_sums_6)) rfl rfl rfl rfl rfl rfl (by decide) (c_X9_isEnd l g a0 a1 _ u0_1 u0_2 u0_3 u0_4 u0_5 u0_6 u0_7 (.ref a2) u0_9 u0_10 u0_11 u0_12 u0_13 u0_14 u0_15 u0_16 u0_17 u0_18 u0_19 u0_20 u0_21 u0_22 u0_23 u0_24 u0_25 u0_26 u0_27 u0_28 u0_29 u0_30 y1_s v2 r76 hc) gX9_laysSums_X9_isEnd rfl hv_X9_isEnd ⟨nle rfl, nle rfl⟩ 9 0 rfl rfl rfl (rest := []) rfl rfl hl.1 (nle rfl) dX9_laysSums_76 (fun H locs hP hD hS => ?_)
                  refine kb_eq (pc := 79) hexec hb dX9_laysSums_79 (tgt := 85) rfl hf (fun hc hf => ?_) (fun hc hf => ?_)
                  · refine lv_ldc (pc := 85) hexec hb (own := RX9) hown (hts _ (List.mem_cons_of_mem _ (List.mem_append_left _ (List.mem_append_left _ (List.mem_of_getElem? (i := 1) rfl))))) dX9_laysSums_85 ?_
                    refine lv_istore_n (pc := 87) hexec hb dX9_laysSums_87 rfl hl (nle rfl) rfl (fun ls (hl : lv_has ls 6 [(3, .int 1000000), (0, .ref a0), (1, .int v1_3), (2, .int v2)]) => ?_)
                    refine lv_iconst (pc := 88) hexec hb dX9_laysSums_88 ki_0 ?_
                    refine lv_istore (pc := 89) hexec hb dX9_laysSums_89 hl (nle rfl) rfl (fun ls (hl : lv_has ls 6 [(4, .int 0), (3, .int 1000000), (0, .ref a0), (1, .int v1_3), (2, .int v2)]) => ?_)
                    obtain ⟨l91, el91, hf⟩ := bvf2 hf
                    obtain ⟨v3_1, hz, hf⟩ := bd1_e hf
                    have hE91 : ∀ (H : Heap) (locs : List Loc) (ls : Array Slot), va_P g.1 vwCl (w_X9_laysSums g a0 a1 a2 u0_1 u0_2 u0_3 u0_4 u0_5 u0_6 u0_7 u0_9 u0_10 u0_11 u0_12 u0_13 u0_14 u0_15 u0_16 u0_17 u0_18 u0_19 u0_20 u0_21 u0_22 u0_23 u0_24 u0_25 u0_26 u0_27 u0_28 u0_29 u0_30 y1_s y2_sums_6) H → va_D A (w_X9_laysSums g a0 a1 a2 u0_1 u0_2 u0_3 u0_4 u0_5 u0_6 u0_7 u0_9 u0_10 u0_11 u0_12 u0_13 u0_14 u0_15 u0_16 u0_17 u0_18 u0_19 u0_20 u0_21 u0_22 u0_23 u0_24 u0_25 u0_26 u0_27 u0_28 u0_29 u0_30 y1_s y2_sums_6) → va_S A s.heap H locs → lv_has ls 6 [(0, .ref a0), (1, .int v1_3), (2, .int v2), (3, .int v3_1)] → W p l e (RM 7 164) s m args below meth c H locs 0 0 Q (F0 m 135 ls []) := by
                      intro H locs ls hP hD hS hl
                      refine lv_iload_n (pc := 135) hexec hb dX9_laysSums_135 rfl (lv_at hl 3 rfl) ?_
                      refine lv_ldc (pc := 136) hexec hb (own := RX9) hown (hts _ (List.mem_cons_of_mem _ (List.mem_append_left _ (List.mem_append_left _ (List.mem_of_getElem? (i := 1) rfl))))) dX9_laysSums_136 ?_
                      obtain ⟨j153, ej153, hf⟩ := bvf1 hf
                      have hj153 : ∀ (t153 : Int32) (H : Heap) (locs : List Loc) (ls : Array Slot), j153 t153 = some q58 → va_P g.1 vwCl (w_X9_laysSums g a0 a1 a2 u0_1 u0_2 u0_3 u0_4 u0_5 u0_6 u0_7 u0_9 u0_10 u0_11 u0_12 u0_13 u0_14 u0_15 u0_16 u0_17 u0_18 u0_19 u0_20 u0_21 u0_22 u0_23 u0_24 u0_25 u0_26 u0_27 u0_28 u0_29 u0_30 y1_s y2_sums_6) H → va_D A (w_X9_laysSums g a0 a1 a2 u0_1 u0_2 u0_3 u0_4 u0_5 u0_6 u0_7 u0_9 u0_10 u0_11 u0_12 u0_13 u0_14 u0_15 u0_16 u0_17 u0_18 u0_19 u0_20 u0_21 u0_22 u0_23 u0_24 u0_25 u0_26 u0_27 u0_28 u0_29 u0_30 y1_s y2_sums_6) → va_S A s.heap H locs → lv_has ls 6 [(0, .ref a0), (1, .int v1_3), (2, .int v2)] → W p l e (RM 7 164) s m args below meth c H locs 0 0 Q (F0 m 153 ls [.int t153]) := by
                        intro t153 H locs ls hf hP hD hS hl
                        have hf := (ej153 t153).symm.trans hf
                        refine lv_istore (pc := 153) hexec hb dX9_laysSums_153 hl (nle rfl) rfl (fun ls (hl : lv_has ls 6 [(4, .int t153), (0, .ref a0), (1, .int v1_3), (2, .int v2)]) => ?_)
                        refine lv_iload_n (pc := 155) hexec hb dX9_laysSums_155 rfl (lv_at hl 2 rfl) ?_
                        obtain ⟨j175, ej175, hf⟩ := bvf1 hf
                        have hj175 : ∀ (t175 : Int32) (H : Heap) (locs : List Loc) (ls : Array Slot), j175 t175 = some q58 → va_P g.1 vwCl (w_X9_laysSums g a0 a1 a2 u0_1 u0_2 u0_3 u0_4 u0_5 u0_6 u0_7 u0_9 u0_10 u0_11 u0_12 u0_13 u0_14 u0_15 u0_16 u0_17 u0_18 u0_19 u0_20 u0_21 u0_22 u0_23 u0_24 u0_25 u0_26 u0_27 u0_28 u0_29 u0_30 y1_s y2_sums_6) H → va_D A (w_X9_laysSums g a0 a1 a2 u0_1 u0_2 u0_3 u0_4 u0_5 u0_6 u0_7 u0_9 u0_10 u0_11 u0_12 u0_13 u0_14 u0_15 u0_16 u0_17 u0_18 u0_19 u0_20 u0_21 u0_22 u0_23 u0_24 u0_25 u0_26 u0_27 u0_28 u0_29 u0_30 y1_s y2_sums_6) → va_S A s.heap H locs → lv_has ls 6 [(0, .ref a0), (2, .int v2), (4, .int t153)] → W p l e (RM 7 164) s m args below meth c H locs 0 0 Q (F0 m 175 ls [.int t175]) := by
                          intro t175 H locs ls hf hP hD hS hl
                          have hf := (ej175 t175).symm.trans hf
                          refine lv_istore_n (pc := 175) hexec hb dX9_laysSums_175 rfl hl (nle rfl) rfl (fun ls (hl : lv_has ls 6 [(1, .int t175), (0, .ref a0), (2, .int v2), (4, .int t153)]) => ?_)
                          refine lv_aload_n (pc := 176) hexec hb dX9_laysSums_176 rfl (lv_at hl 1 rfl) ?_
                          refine kg_get (pc := 177) hexec hb (own := RX9) hWX9 hown hG hP 0 rfl rfl 8 (nle rfl) (hts _ (List.mem_cons_of_mem _ (List.mem_append_left _ (List.mem_append_left _ (List.mem_of_getElem? (i := 0) rfl))))) rfl rfl dX9_laysSums_177 ?_
                          refine lv_iload_n (pc := 180) hexec hb dX9_laysSums_180 rfl (lv_at hl 2 rfl) ?_
                          refine lv_iload (pc := 181) hexec hb dX9_laysSums_181 (lv_at hl 3 rfl) ?_
                          refine lv_aload_n (pc := 183) hexec hb dX9_laysSums_183 rfl (lv_at hl 1 rfl) ?_
                          refine kg_get (pc := 184) hexec hb (own := RX9) hWX9 hown hG hP 0 rfl rfl 8 (nle rfl) (hts _ (List.mem_cons_of_mem _ (List.mem_append_left _ (List.mem_append_left _ (List.mem_of_getElem? (i := 0) rfl))))) rfl rfl dX9_laysSums_184 ?_
                          refine lv_iload_n (pc := 187) hexec hb dX9_laysSums_187 rfl (lv_at hl 2 rfl) ?_
                          refine kr_iald (pc := 188) hexec hb hG hP 2 rfl hf dX9_laysSums_188 (fun hf => ?_)
                          refine va_mmin (pc := 189) hexec hb (hml.trans hl.1.symm) (own := RX9) hown (hts _ (List.mem_cons_of_mem _ (List.mem_append_left _ (List.mem_append_left _ (List.mem_of_getElem? (i := 2) rfl))))) (hts _ (List.mem_cons_of_mem _ (List.mem_append_left _ (List.mem_append_left _ (List.mem_of_getElem? (i := 3) rfl))))) (hts _ (List.mem_cons_of_mem _ (List.mem_append_left _ (List.mem_append_left _ (List.mem_of_getElem? (i := 4) rfl))))) (hts _ (List.mem_cons_of_mem _ (List.mem_append_left _ (List.mem_append_left _ (List.mem_of_getElem? (i := 5) rfl))))) (nle rfl) (nle rfl) (nle rfl) (nle rfl) dX9_laysSums_189 ?_
                          refine kw_iast (pc := 192) hexec hb hG hP hD hS 2 rfl hf dX9_laysSums_192 (fun y2_sums_9 H locs hf (hP : va_P g.1 vwCl (w_X9_laysSums g a0 a1 a2 u0_1 u0_2 u0_3 u0_4 u0_5 u0_6 u0_7 u0_9 u0_10 u0_11 u0_12 u0_13 u0_14 u0_15 u0_16 u0_17 u0_18 u0_19 u0_20 u0_21 u0_22 u0_23 u0_24 u0_25 u0_26 u0_27 u0_28 u0_29 u0_30 y1_s y2_sums_9) H) (hD : va_D A (w_X9_laysSums g a0 a1 a2 u0_1 u0_2 u0_3 u0_4 u0_5 u0_6 u0_7 u0_9 u0_10 u0_11 u0_12 u0_13 u0_14 u0_15 u0_16 u0_17 u0_18 u0_19 u0_20 u0_21 u0_22 u0_23 u0_24 u0_25 u0_26 u0_27 u0_28 u0_29 u0_30 y1_s y2_sums_9)) hS => ?_)
                          exact hj193 _ _ _ _ _ hf hP hD hS (lv_sub hl [1, 0, 2] rfl)
                        obtain ⟨j170, ej170, hf⟩ := bvf1 hf
                        have hj170 : ∀ (u : Unit) (H : Heap) (locs : List Loc) (ls : Array Slot), j170 u = some q58 → va_P g.1 vwCl (w_X9_laysSums g a0 a1 a2 u0_1 u0_2 u0_3 u0_4 u0_5 u0_6 u0_7 u0_9 u0_10 u0_11 u0_12 u0_13 u0_14 u0_15 u0_16 u0_17 u0_18 u0_19 u0_20 u0_21 u0_22 u0_23 u0_24 u0_25 u0_26 u0_27 u0_28 u0_29 u0_30 y1_s y2_sums_6) H → va_D A (w_X9_laysSums g a0 a1 a2 u0_1 u0_2 u0_3 u0_4 u0_5 u0_6 u0_7 u0_9 u0_10 u0_11 u0_12 u0_13 u0_14 u0_15 u0_16 u0_17 u0_18 u0_19 u0_20 u0_21 u0_22 u0_23 u0_24 u0_25 u0_26 u0_27 u0_28 u0_29 u0_30 y1_s y2_sums_6) → va_S A s.heap H locs → lv_has ls 6 [(0, .ref a0), (2, .int v2), (4, .int t153)] → W p l e (RM 7 164) s m args below meth c H locs 0 0 Q (F0 m 170 ls []) := by
                          intro u H locs ls hf hP hD hS hl
                          have hf := (ej170 u).symm.trans hf
                          refine lv_iconst (pc := 170) hexec hb dX9_laysSums_170 ki_1 ?_
                          refine lv_goto (pc := 171) hexec hb dX9_laysSums_171 (tgt := 175) rfl ?_
                          exact hj175 _ _ _ _ hf hP hD hS (lv_sub hl [0, 1, 2] rfl)
                        refine kb_ne (pc := 156) hexec hb dX9_laysSums_156 (tgt := 170) rfl hf (fun hc hf => ?_) (fun hc hf => ?_)
                        · exact hj170 _ _ _ _ hf hP hD hS (lv_sub hl [1, 3, 0] rfl)
                        · refine lv_iload (pc := 159) hexec hb dX9_laysSums_159 (lv_at hl 0 rfl) ?_
                          refine lv_aload_n (pc := 161) hexec hb dX9_laysSums_161 rfl (lv_at hl 1 rfl) ?_
                          refine kg_get (pc := 162) hexec hb (own := RX9) hWX9 hown hG hP 0 rfl rfl 8 (nle rfl) (hts _ (List.mem_cons_of_mem _ (List.mem_append_left _ (List.mem_append_left _ (List.mem_of_getElem? (i := 0) rfl))))) rfl rfl dX9_laysSums_162 ?_
                          refine lv_iload_n (pc := 165) hexec hb dX9_laysSums_165 rfl (lv_at hl 3 rfl) ?_
                          refine kr_iald (pc := 166) hexec hb hG hP 2 rfl hf dX9_laysSums_166 (fun hf => ?_)
                          refine ki_ge (pc := 167) hexec hb dX9_laysSums_167 (tgt := 174) rfl hf (fun hc hf => ?_) (fun hc hf => ?_)
                          · refine lv_iconst (pc := 174) hexec hb dX9_laysSums_174 ki_0 ?_
                            exact hj175 _ _ _ _ hf hP hD hS (lv_sub hl [1, 3, 0] rfl)
                          · exact hj170 _ _ _ _ hf hP hD hS (lv_sub hl [1, 3, 0] rfl)
                      refine ki_ne (pc := 138) hexec hb dX9_laysSums_138 (tgt := 146) rfl hf (fun hc hf => ?_) (fun hc hf => ?_)
                      · refine lv_iload_n (pc := 146) hexec hb dX9_laysSums_146 rfl (lv_at hl 3 rfl) ?_
                        refine lv_aload_n (pc := 147) hexec hb dX9_laysSums_147 rfl (lv_at hl 0 rfl) ?_
                        refine lv_iload_n (pc := 148) hexec hb dX9_laysSums_148 rfl (lv_at hl 2 rfl) ?_
                        obtain ⟨r149, hc, hf⟩ := bd1_e hf
                        refine kVp (pc := 149) (S := ⟨hexec, hb, hml, hown, hts⟩) hP hD hG hA hS [0, 1] [2] [1, 2, 0] (w2 := (w_X9_laysSums g a0 a1 a2 u0_1 u0_2 u0_3 u0_4 u0_5 u0_6 u0_7 u0_9 u0_10 u0_11 u0_12 u0_13 u0_14 u0_15 u0_16 u0_17 u0_18 u0_19 u0_20 u0_21 u0_22 u0_23 u0_24 u0_25 u0_26 u0_27 u0_28 u0_29 u0_30 y1_s y2_sums_6)) rfl rfl rfl rfl rfl rfl (by decide) (c_X9_costOf l g a0 a1 _ u0_1 u0_2 u0_3 u0_4 u0_5 u0_6 u0_7 (.ref a2) u0_9 u0_10 u0_11 u0_12 u0_13 u0_14 u0_15 u0_16 u0_17 u0_18 u0_19 u0_20 u0_21 u0_22 u0_23 u0_24 u0_25 u0_26 u0_27 u0_28 u0_29 u0_30 y1_s v2 r149 hc) gX9_laysSums_X9_costOf rfl hv_X9_costOf ⟨nle rfl, nle rfl⟩ 9 0 rfl rfl rfl (rest := [.int v3_1]) rfl rfl hl.1 (nle rfl) dX9_laysSums_149 (fun H locs hP hD hS => ?_)
                        refine lv_iadd (pc := 152) hexec hb dX9_laysSums_152 ?_
                        exact hj153 _ _ _ _ hf hP hD hS (lv_sub hl [0, 1, 2] rfl)
                      · refine lv_ldc (pc := 141) hexec hb (own := RX9) hown (hts _ (List.mem_cons_of_mem _ (List.mem_append_left _ (List.mem_append_left _ (List.mem_of_getElem? (i := 1) rfl))))) dX9_laysSums_141 ?_
                        refine lv_goto (pc := 143) hexec hb dX9_laysSums_143 (tgt := 153) rfl ?_
                        exact hj153 _ _ _ _ hf hP hD hS (lv_sub hl [0, 1, 2] rfl)
                    obtain ⟨n, hz⟩ := lq2_e hz
                    have hL91 : ∀ (n : Nat) (v3 : Int32) (v4 : Int32) (H : Heap) (locs : List Loc) (ls : Array Slot), it2 l91 n v3 v4 = some v3_1 → va_P g.1 vwCl (w_X9_laysSums g a0 a1 a2 u0_1 u0_2 u0_3 u0_4 u0_5 u0_6 u0_7 u0_9 u0_10 u0_11 u0_12 u0_13 u0_14 u0_15 u0_16 u0_17 u0_18 u0_19 u0_20 u0_21 u0_22 u0_23 u0_24 u0_25 u0_26 u0_27 u0_28 u0_29 u0_30 y1_s y2_sums_6) H → va_D A (w_X9_laysSums g a0 a1 a2 u0_1 u0_2 u0_3 u0_4 u0_5 u0_6 u0_7 u0_9 u0_10 u0_11 u0_12 u0_13 u0_14 u0_15 u0_16 u0_17 u0_18 u0_19 u0_20 u0_21 u0_22 u0_23 u0_24 u0_25 u0_26 u0_27 u0_28 u0_29 u0_30 y1_s y2_sums_6) → va_S A s.heap H locs → lv_has ls 6 [(0, .ref a0), (1, .int v1_3), (2, .int v2), (3, .int v3), (4, .int v4)] → W p l e (RM 7 164) s m args below meth c H locs 0 0 Q (F0 m 91 ls []) := by
                      intro n
                      induction n with
                      | zero =>
                        intro v3 v4 H locs ls hf hP hD hS hl
                        exact it2_0 hf
                      | succ n91 ih91 =>
                        intro v3 v4 H locs ls hf hP hD hS hl
                        obtain ⟨q91, hf, hk91⟩ := it2_e hf
                        have hf := (el91 v3 v4).symm.trans hf
                        refine lv_iload (pc := 91) hexec hb dX9_laysSums_91 (lv_at hl 4 rfl) ?_
                        refine lv_iconst (pc := 93) hexec hb dX9_laysSums_93 ki_4 ?_
                        refine ki_ge (pc := 94) hexec hb dX9_laysSums_94 (tgt := 135) rfl hf (fun hc hf => ?_) (fun hc hf => ?_)
                        · cases sr2 hf hk91
                          exact hE91 _ _ _ hP hD hS (lv_sub hl [0, 1, 2, 3] rfl)
                        · refine lv_aload_n (pc := 97) hexec hb dX9_laysSums_97 rfl (lv_at hl 0 rfl) ?_
                          refine lv_iload_n (pc := 98) hexec hb dX9_laysSums_98 rfl (lv_at hl 2 rfl) ?_
                          refine lv_iload (pc := 99) hexec hb dX9_laysSums_99 (lv_at hl 4 rfl) ?_
                          refine lv_iconst (pc := 101) hexec hb dX9_laysSums_101 ki_1 ?_
                          obtain ⟨r102, hc, hf⟩ := bd1_e hf
                          refine kVp (pc := 102) (S := ⟨hexec, hb, hml, hown, hts⟩) hP hD hG hA hS [0, 1] [2] [1, 2, 0] (w2 := (w_X9_laysSums g a0 a1 a2 u0_1 u0_2 u0_3 u0_4 u0_5 u0_6 u0_7 u0_9 u0_10 u0_11 u0_12 u0_13 u0_14 u0_15 u0_16 u0_17 u0_18 u0_19 u0_20 u0_21 u0_22 u0_23 u0_24 u0_25 u0_26 u0_27 u0_28 u0_29 u0_30 y1_s y2_sums_6)) rfl rfl rfl rfl rfl rfl (by decide) (c_X9_away l g a0 a1 _ u0_1 u0_2 u0_3 u0_4 u0_5 u0_6 u0_7 (.ref a2) u0_9 u0_10 u0_11 u0_12 u0_13 u0_14 u0_15 u0_16 u0_17 u0_18 u0_19 u0_20 u0_21 u0_22 u0_23 u0_24 u0_25 u0_26 u0_27 u0_28 u0_29 u0_30 y1_s v2 v4 1 r102 hc) gX9_laysSums_X9_away rfl hv_X9_away ⟨nle rfl, nle rfl⟩ 9 0 rfl rfl rfl (rest := []) rfl rfl hl.1 (nle rfl) dX9_laysSums_102 (fun H locs hP hD hS => ?_)
                          refine lv_istore (pc := 105) hexec hb dX9_laysSums_105 hl (nle rfl) rfl (fun ls (hl : lv_has ls 6 [(5, .int r102), (0, .ref a0), (1, .int v1_3), (2, .int v2), (3, .int v3), (4, .int v4)]) => ?_)
                          refine lv_iload (pc := 107) hexec hb dX9_laysSums_107 (lv_at hl 0 rfl) ?_
                          refine lv_iconst (pc := 109) hexec hb dX9_laysSums_109 ki_m1 ?_
                          obtain ⟨j128, ej128, hf⟩ := bvf1 hf
                          have hj128 : ∀ (t128 : Int32) (H : Heap) (locs : List Loc) (ls : Array Slot), j128 t128 = some q91 → va_P g.1 vwCl (w_X9_laysSums g a0 a1 a2 u0_1 u0_2 u0_3 u0_4 u0_5 u0_6 u0_7 u0_9 u0_10 u0_11 u0_12 u0_13 u0_14 u0_15 u0_16 u0_17 u0_18 u0_19 u0_20 u0_21 u0_22 u0_23 u0_24 u0_25 u0_26 u0_27 u0_28 u0_29 u0_30 y1_s y2_sums_6) H → va_D A (w_X9_laysSums g a0 a1 a2 u0_1 u0_2 u0_3 u0_4 u0_5 u0_6 u0_7 u0_9 u0_10 u0_11 u0_12 u0_13 u0_14 u0_15 u0_16 u0_17 u0_18 u0_19 u0_20 u0_21 u0_22 u0_23 u0_24 u0_25 u0_26 u0_27 u0_28 u0_29 u0_30 y1_s y2_sums_6) → va_S A s.heap H locs → lv_has ls 6 [(0, .ref a0), (1, .int v1_3), (2, .int v2), (4, .int v4)] → W p l e (RM 7 164) s m args below meth c H locs 0 0 Q (F0 m 128 ls [.int t128]) := by
                            intro t128 H locs ls hf hP hD hS hl
                            have hf := (ej128 t128).symm.trans hf
                            refine lv_istore_n (pc := 128) hexec hb dX9_laysSums_128 rfl hl (nle rfl) rfl (fun ls (hl : lv_has ls 6 [(3, .int t128), (0, .ref a0), (1, .int v1_3), (2, .int v2), (4, .int v4)]) => ?_)
                            obtain ⟨v4_1, ev4_1, hf⟩ := bv_e hf
                            refine k_iinc (pc := 129) hexec hb dX9_laysSums_129 kq_1 hl (k := 4) rfl ev4_1 (nle rfl) rfl (fun ls (hl : lv_has ls 6 [(4, .int v4_1), (3, .int t128), (0, .ref a0), (1, .int v1_3), (2, .int v2)]) => ?_)
                            refine lv_goto (pc := 132) hexec hb dX9_laysSums_132 (tgt := 91) rfl ?_
                            exact ih91 _ _ _ _ _ (sl2 hf hk91) hP hD hS (lv_sub hl [2, 3, 4, 1, 0] rfl)
                          refine ki_ne (pc := 110) hexec hb dX9_laysSums_110 (tgt := 117) rfl hf (fun hc hf => ?_) (fun hc hf => ?_)
                          · refine lv_iload_n (pc := 117) hexec hb dX9_laysSums_117 rfl (lv_at hl 4 rfl) ?_
                            refine lv_aload_n (pc := 118) hexec hb dX9_laysSums_118 rfl (lv_at hl 1 rfl) ?_
                            refine kg_get (pc := 119) hexec hb (own := RX9) hWX9 hown hG hP 0 rfl rfl 8 (nle rfl) (hts _ (List.mem_cons_of_mem _ (List.mem_append_left _ (List.mem_append_left _ (List.mem_of_getElem? (i := 0) rfl))))) rfl rfl dX9_laysSums_119 ?_
                            refine lv_iload (pc := 122) hexec hb dX9_laysSums_122 (lv_at hl 0 rfl) ?_
                            refine kr_iald (pc := 124) hexec hb hG hP 2 rfl hf dX9_laysSums_124 (fun hf => ?_)
                            refine va_mmin (pc := 125) hexec hb (hml.trans hl.1.symm) (own := RX9) hown (hts _ (List.mem_cons_of_mem _ (List.mem_append_left _ (List.mem_append_left _ (List.mem_of_getElem? (i := 2) rfl))))) (hts _ (List.mem_cons_of_mem _ (List.mem_append_left _ (List.mem_append_left _ (List.mem_of_getElem? (i := 3) rfl))))) (hts _ (List.mem_cons_of_mem _ (List.mem_append_left _ (List.mem_append_left _ (List.mem_of_getElem? (i := 4) rfl))))) (hts _ (List.mem_cons_of_mem _ (List.mem_append_left _ (List.mem_append_left _ (List.mem_of_getElem? (i := 5) rfl))))) (nle rfl) (nle rfl) (nle rfl) (nle rfl) dX9_laysSums_125 ?_
                            exact hj128 _ _ _ _ hf hP hD hS (lv_sub hl [1, 2, 3, 5] rfl)
                          · refine lv_iload_n (pc := 113) hexec hb dX9_laysSums_113 rfl (lv_at hl 4 rfl) ?_
                            refine lv_goto (pc := 114) hexec hb dX9_laysSums_114 (tgt := 128) rfl ?_
                            exact hj128 _ _ _ _ hf hP hD hS (lv_sub hl [1, 2, 3, 5] rfl)
                    exact hL91 n _ _ _ _ _ hz hP hD hS (lv_sub hl [2, 3, 4, 1, 0] rfl)
                  · refine lv_goto (pc := 82) hexec hb dX9_laysSums_82 (tgt := 193) rfl ?_
                    exact hj193 _ _ _ _ _ hf hP hD hS (lv_sub hl [0, 1, 2] rfl)
          exact hL58 n _ _ _ _ _ _ hz hP hD hS (lv_sub hl [2, 1, 0] rfl)
    exact hL50 n _ _ _ _ _ hz hP hD hS (lv_sub hl [1, 0] rfl)
  obtain ⟨n, hz⟩ := lq2_e hz
  have hL2 : ∀ (n : Nat) (v1 : Int32) (y2_sums_1 : Nat → Int32) (H : Heap) (locs : List Loc) (ls : Array Slot), it2 l2 n v1 y2_sums_1 = some y2_sums_2 → va_P g.1 vwCl (w_X9_laysSums g a0 a1 a2 u0_1 u0_2 u0_3 u0_4 u0_5 u0_6 u0_7 u0_9 u0_10 u0_11 u0_12 u0_13 u0_14 u0_15 u0_16 u0_17 u0_18 u0_19 u0_20 u0_21 u0_22 u0_23 u0_24 u0_25 u0_26 u0_27 u0_28 u0_29 u0_30 y1_s y2_sums_1) H → va_D A (w_X9_laysSums g a0 a1 a2 u0_1 u0_2 u0_3 u0_4 u0_5 u0_6 u0_7 u0_9 u0_10 u0_11 u0_12 u0_13 u0_14 u0_15 u0_16 u0_17 u0_18 u0_19 u0_20 u0_21 u0_22 u0_23 u0_24 u0_25 u0_26 u0_27 u0_28 u0_29 u0_30 y1_s y2_sums_1) → va_S A s.heap H locs → lv_has ls 6 [(0, .ref a0), (1, .int v1)] → W p l e (RM 7 164) s m args below meth c H locs 0 0 Q (F0 m 2 ls []) := by
    intro n
    induction n with
    | zero =>
      intro v1 y2_sums_1 H locs ls hf hP hD hS hl
      exact it2_0 hf
    | succ n2 ih2 =>
      intro v1 y2_sums_1 H locs ls hf hP hD hS hl
      obtain ⟨q2, hf, hk2⟩ := it2_e hf
      have hf := (el2 v1 y2_sums_1).symm.trans hf
      refine lv_iload_n (pc := 2) hexec hb dX9_laysSums_2 rfl (lv_at hl 1 rfl) ?_
      refine lv_aload_n (pc := 3) hexec hb dX9_laysSums_3 rfl (lv_at hl 0 rfl) ?_
      obtain ⟨r4, hc, hf⟩ := bd1_e hf
      refine kVp (pc := 4) (S := ⟨hexec, hb, hml, hown, hts⟩) hP hD hG hA hS [0, 1] [2] [1, 2, 0] (w2 := (w_X9_laysSums g a0 a1 a2 u0_1 u0_2 u0_3 u0_4 u0_5 u0_6 u0_7 u0_9 u0_10 u0_11 u0_12 u0_13 u0_14 u0_15 u0_16 u0_17 u0_18 u0_19 u0_20 u0_21 u0_22 u0_23 u0_24 u0_25 u0_26 u0_27 u0_28 u0_29 u0_30 y1_s y2_sums_1)) rfl rfl rfl rfl rfl rfl (by decide) (c_X9_cells l g a0 a1 _ u0_1 u0_2 u0_3 u0_4 u0_5 u0_6 u0_7 (.ref a2) u0_9 u0_10 u0_11 u0_12 u0_13 u0_14 u0_15 u0_16 u0_17 u0_18 u0_19 u0_20 u0_21 u0_22 u0_23 u0_24 u0_25 u0_26 u0_27 u0_28 u0_29 u0_30 y1_s r4 hc) gX9_laysSums_X9_cells rfl hv_X9_cells ⟨nle rfl, nle rfl⟩ 9 0 rfl rfl rfl (rest := [.int v1]) rfl rfl hl.1 (nle rfl) dX9_laysSums_4 (fun H locs hP hD hS => ?_)
      refine ki_ge (pc := 7) hexec hb dX9_laysSums_7 (tgt := 48) rfl hf (fun hc hf => ?_) (fun hc hf => ?_)
      · cases sr2 hf hk2
        exact hE2 _ _ _ hP hD hS (lv_sub hl [0] rfl)
      · refine lv_aload_n (pc := 10) hexec hb dX9_laysSums_10 rfl (lv_at hl 0 rfl) ?_
        refine kg_get (pc := 11) hexec hb (own := RX9) hWX9 hown hG hP 0 rfl rfl 8 (nle rfl) (hts _ (List.mem_cons_of_mem _ (List.mem_append_left _ (List.mem_append_left _ (List.mem_of_getElem? (i := 0) rfl))))) rfl rfl dX9_laysSums_11 ?_
        refine lv_iload_n (pc := 14) hexec hb dX9_laysSums_14 rfl (lv_at hl 1 rfl) ?_
        refine lv_aload_n (pc := 15) hexec hb dX9_laysSums_15 rfl (lv_at hl 0 rfl) ?_
        refine lv_iload_n (pc := 16) hexec hb dX9_laysSums_16 rfl (lv_at hl 1 rfl) ?_
        obtain ⟨r17, hc, hf⟩ := bd1_e hf
        refine kVp (pc := 17) (S := ⟨hexec, hb, hml, hown, hts⟩) hP hD hG hA hS [0, 1] [2] [1, 2, 0] (w2 := (w_X9_laysSums g a0 a1 a2 u0_1 u0_2 u0_3 u0_4 u0_5 u0_6 u0_7 u0_9 u0_10 u0_11 u0_12 u0_13 u0_14 u0_15 u0_16 u0_17 u0_18 u0_19 u0_20 u0_21 u0_22 u0_23 u0_24 u0_25 u0_26 u0_27 u0_28 u0_29 u0_30 y1_s y2_sums_1)) rfl rfl rfl rfl rfl rfl (by decide) (c_X9_canBegin l g a0 a1 _ u0_1 u0_2 u0_3 u0_4 u0_5 u0_6 u0_7 (.ref a2) u0_9 u0_10 u0_11 u0_12 u0_13 u0_14 u0_15 u0_16 u0_17 u0_18 u0_19 u0_20 u0_21 u0_22 u0_23 u0_24 u0_25 u0_26 u0_27 u0_28 u0_29 u0_30 y1_s v1 r17 hc) gX9_laysSums_X9_canBegin rfl hv_X9_canBegin ⟨nle rfl, nle rfl⟩ 9 0 rfl rfl rfl (rest := [.int v1, .ref a2]) rfl rfl hl.1 (nle rfl) dX9_laysSums_17 (fun H locs hP hD hS => ?_)
        obtain ⟨j41, ej41, hf⟩ := bvf1 hf
        have hj41 : ∀ (t41 : Int32) (H : Heap) (locs : List Loc) (ls : Array Slot), j41 t41 = some q2 → va_P g.1 vwCl (w_X9_laysSums g a0 a1 a2 u0_1 u0_2 u0_3 u0_4 u0_5 u0_6 u0_7 u0_9 u0_10 u0_11 u0_12 u0_13 u0_14 u0_15 u0_16 u0_17 u0_18 u0_19 u0_20 u0_21 u0_22 u0_23 u0_24 u0_25 u0_26 u0_27 u0_28 u0_29 u0_30 y1_s y2_sums_1) H → va_D A (w_X9_laysSums g a0 a1 a2 u0_1 u0_2 u0_3 u0_4 u0_5 u0_6 u0_7 u0_9 u0_10 u0_11 u0_12 u0_13 u0_14 u0_15 u0_16 u0_17 u0_18 u0_19 u0_20 u0_21 u0_22 u0_23 u0_24 u0_25 u0_26 u0_27 u0_28 u0_29 u0_30 y1_s y2_sums_1) → va_S A s.heap H locs → lv_has ls 6 [(0, .ref a0), (1, .int v1)] → W p l e (RM 7 164) s m args below meth c H locs 0 0 Q (F0 m 41 ls [.int t41, .int v1, .ref a2]) := by
          intro t41 H locs ls hf hP hD hS hl
          have hf := (ej41 t41).symm.trans hf
          refine kw_iast (pc := 41) hexec hb hG hP hD hS 2 rfl hf dX9_laysSums_41 (fun y2_sums_3 H locs hf (hP : va_P g.1 vwCl (w_X9_laysSums g a0 a1 a2 u0_1 u0_2 u0_3 u0_4 u0_5 u0_6 u0_7 u0_9 u0_10 u0_11 u0_12 u0_13 u0_14 u0_15 u0_16 u0_17 u0_18 u0_19 u0_20 u0_21 u0_22 u0_23 u0_24 u0_25 u0_26 u0_27 u0_28 u0_29 u0_30 y1_s y2_sums_3) H) (hD : va_D A (w_X9_laysSums g a0 a1 a2 u0_1 u0_2 u0_3 u0_4 u0_5 u0_6 u0_7 u0_9 u0_10 u0_11 u0_12 u0_13 u0_14 u0_15 u0_16 u0_17 u0_18 u0_19 u0_20 u0_21 u0_22 u0_23 u0_24 u0_25 u0_26 u0_27 u0_28 u0_29 u0_30 y1_s y2_sums_3)) hS => ?_)
          obtain ⟨v1_1, ev1_1, hf⟩ := bv_e hf
          refine k_iinc (pc := 42) hexec hb dX9_laysSums_42 kq_1 hl (k := 1) rfl ev1_1 (nle rfl) rfl (fun ls (hl : lv_has ls 6 [(1, .int v1_1), (0, .ref a0)]) => ?_)
          refine lv_goto (pc := 45) hexec hb dX9_laysSums_45 (tgt := 2) rfl ?_
          exact ih2 _ _ _ _ _ (sl2 hf hk2) hP hD hS (lv_sub hl [1, 0] rfl)
        obtain ⟨j39, ej39, hf⟩ := bvf1 hf
        have hj39 : ∀ (u : Unit) (H : Heap) (locs : List Loc) (ls : Array Slot), j39 u = some q2 → va_P g.1 vwCl (w_X9_laysSums g a0 a1 a2 u0_1 u0_2 u0_3 u0_4 u0_5 u0_6 u0_7 u0_9 u0_10 u0_11 u0_12 u0_13 u0_14 u0_15 u0_16 u0_17 u0_18 u0_19 u0_20 u0_21 u0_22 u0_23 u0_24 u0_25 u0_26 u0_27 u0_28 u0_29 u0_30 y1_s y2_sums_1) H → va_D A (w_X9_laysSums g a0 a1 a2 u0_1 u0_2 u0_3 u0_4 u0_5 u0_6 u0_7 u0_9 u0_10 u0_11 u0_12 u0_13 u0_14 u0_15 u0_16 u0_17 u0_18 u0_19 u0_20 u0_21 u0_22 u0_23 u0_24 u0_25 u0_26 u0_27 u0_28 u0_29 u0_30 y1_s y2_sums_1) → va_S A s.heap H locs → lv_has ls 6 [(0, .ref a0), (1, .int v1)] → W p l e (RM 7 164) s m args below meth c H locs 0 0 Q (F0 m 39 ls [.int v1, .ref a2]) := by
          intro u H locs ls hf hP hD hS hl
          have hf := (ej39 u).symm.trans hf
          refine lv_ldc (pc := 39) hexec hb (own := RX9) hown (hts _ (List.mem_cons_of_mem _ (List.mem_append_left _ (List.mem_append_left _ (List.mem_of_getElem? (i := 1) rfl))))) dX9_laysSums_39 ?_
          exact hj41 _ _ _ _ hf hP hD hS (lv_sub hl [0, 1] rfl)
        refine kb_eq (pc := 20) hexec hb dX9_laysSums_20 (tgt := 39) rfl hf (fun hc hf => ?_) (fun hc hf => ?_)
        · exact hj39 _ _ _ _ hf hP hD hS (lv_sub hl [0, 1] rfl)
        · refine lv_aload_n (pc := 23) hexec hb dX9_laysSums_23 rfl (lv_at hl 0 rfl) ?_
          refine lv_iload_n (pc := 24) hexec hb dX9_laysSums_24 rfl (lv_at hl 1 rfl) ?_
          obtain ⟨r25, hc, hf⟩ := bd1_e hf
          refine kVp (pc := 25) (S := ⟨hexec, hb, hml, hown, hts⟩) hP hD hG hA hS [0, 1] [2] [1, 2, 0] (w2 := (w_X9_laysSums g a0 a1 a2 u0_1 u0_2 u0_3 u0_4 u0_5 u0_6 u0_7 u0_9 u0_10 u0_11 u0_12 u0_13 u0_14 u0_15 u0_16 u0_17 u0_18 u0_19 u0_20 u0_21 u0_22 u0_23 u0_24 u0_25 u0_26 u0_27 u0_28 u0_29 u0_30 y1_s y2_sums_1)) rfl rfl rfl rfl rfl rfl (by decide) (c_X9_isEnd l g a0 a1 _ u0_1 u0_2 u0_3 u0_4 u0_5 u0_6 u0_7 (.ref a2) u0_9 u0_10 u0_11 u0_12 u0_13 u0_14 u0_15 u0_16 u0_17 u0_18 u0_19 u0_20 u0_21 u0_22 u0_23 u0_24 u0_25 u0_26 u0_27 u0_28 u0_29 u0_30 y1_s v1 r25 hc) gX9_laysSums_X9_isEnd rfl hv_X9_isEnd ⟨nle rfl, nle rfl⟩ 9 0 rfl rfl rfl (rest := [.int v1, .ref a2]) rfl rfl hl.1 (nle rfl) dX9_laysSums_25 (fun H locs hP hD hS => ?_)
          refine kb_eq (pc := 28) hexec hb dX9_laysSums_28 (tgt := 39) rfl hf (fun hc hf => ?_) (fun hc hf => ?_)
          · exact hj39 _ _ _ _ hf hP hD hS (lv_sub hl [0, 1] rfl)
          · refine lv_aload_n (pc := 31) hexec hb dX9_laysSums_31 rfl (lv_at hl 0 rfl) ?_
            refine lv_iload_n (pc := 32) hexec hb dX9_laysSums_32 rfl (lv_at hl 1 rfl) ?_
            obtain ⟨r33, hc, hf⟩ := bd1_e hf
            refine kVp (pc := 33) (S := ⟨hexec, hb, hml, hown, hts⟩) hP hD hG hA hS [0, 1] [2] [1, 2, 0] (w2 := (w_X9_laysSums g a0 a1 a2 u0_1 u0_2 u0_3 u0_4 u0_5 u0_6 u0_7 u0_9 u0_10 u0_11 u0_12 u0_13 u0_14 u0_15 u0_16 u0_17 u0_18 u0_19 u0_20 u0_21 u0_22 u0_23 u0_24 u0_25 u0_26 u0_27 u0_28 u0_29 u0_30 y1_s y2_sums_1)) rfl rfl rfl rfl rfl rfl (by decide) (c_X9_costOf l g a0 a1 _ u0_1 u0_2 u0_3 u0_4 u0_5 u0_6 u0_7 (.ref a2) u0_9 u0_10 u0_11 u0_12 u0_13 u0_14 u0_15 u0_16 u0_17 u0_18 u0_19 u0_20 u0_21 u0_22 u0_23 u0_24 u0_25 u0_26 u0_27 u0_28 u0_29 u0_30 y1_s v1 r33 hc) gX9_laysSums_X9_costOf rfl hv_X9_costOf ⟨nle rfl, nle rfl⟩ 9 0 rfl rfl rfl (rest := [.int v1, .ref a2]) rfl rfl hl.1 (nle rfl) dX9_laysSums_33 (fun H locs hP hD hS => ?_)
            refine lv_goto (pc := 36) hexec hb dX9_laysSums_36 (tgt := 41) rfl ?_
            exact hj41 _ _ _ _ hf hP hD hS (lv_sub hl [0, 1] rfl)
  exact hL2 n _ _ _ _ _ hz hP hD hS (lv_sub hl [1, 0] rfl)
abbrev w_X9_stepFrom (g : GE) (a0 a1 a2 : Nat) (u0_1 u0_2 u0_3 u0_4 u0_5 u0_6 u0_7 u0_9 u0_10 u0_11 u0_12 u0_13 u0_14 u0_15 u0_16 u0_17 u0_18 u0_19 u0_20 u0_21 u0_22 u0_23 u0_24 u0_25 u0_26 u0_27 u0_28 u0_29 u0_30 : Value) (y1_s : Nat → Int32) (y2_sums : Nat → Int32) : va_W := [(a0, .inr (9, [.ref a1, u0_1, u0_2, u0_3, u0_4, u0_5, u0_6, u0_7, .ref a2, u0_9, u0_10, u0_11, u0_12, u0_13, u0_14, u0_15, u0_16, u0_17, u0_18, u0_19, u0_20, u0_21, u0_22, u0_23, u0_24, u0_25, u0_26, u0_27, u0_28, u0_29, u0_30])), (a1, .inl (g.2.1 0, 552, .inl y1_s)), (a2, .inl (g.2.1 0, 144, .inl y2_sums))]
noncomputable def f_X9_stepFrom (y1_s : Nat → Int32) (y2_sums : Nat → Int32) (p1 : Int32) : Option (Int32) :=
  ar p1 144 <|
  bd1 (f_X9_costOf y1_s p1) fun (r8 : Int32) =>
  bv ((y2_sums p1.toNatClampNeg) - r8) fun v2 =>
  bv (fun (v3 : Int32) => ((
    (if 4 ≤ v3 then (
      mr (some (-1))
    ) else (
      bd1 (f_X9_away y1_s p1 v3 1) fun (r24 : Int32) =>
      bv (fun (_ : Unit) => ((
        bv (v3 + 1) fun v3_1 =>
        some (.inl v3_1)
        ) : Option ((Int32) ⊕ (Int32)))) fun j49 =>
      (if r24 = (-1) then (
        j49 ()
      ) else (
        ar r24 144 <|
        (if (y2_sums r24.toNatClampNeg) = v2 then (
          mr (some r24)
        ) else (
          j49 ()
        ))
      ))
    ))
    ) : Option ((Int32) ⊕ (Int32)))) fun l15 =>
  lq1 l15 0
set_option maxRecDepth 4000 in
theorem c_X9_stepFrom (l : Launch) (g : GE) (a0 a1 a2 : Nat) (sz : Nat) (u0_1 u0_2 u0_3 u0_4 u0_5 u0_6 u0_7 u0_9 u0_10 u0_11 u0_12 u0_13 u0_14 u0_15 u0_16 u0_17 u0_18 u0_19 u0_20 u0_21 u0_22 u0_23 u0_24 u0_25 u0_26 u0_27 u0_28 u0_29 u0_30 : Value) (y1_s : Nat → Int32) (y2_sums : Nat → Int32) (p1 : Int32) (r : Int32) (hf : f_X9_stepFrom y1_s y2_sums p1 = some r) : MI l g yX9_stepFrom wsX9_stepFrom 7 164 [.ref a0, .int p1] (w_X9_stepFrom g a0 a1 a2 u0_1 u0_2 u0_3 u0_4 u0_5 u0_6 u0_7 u0_9 u0_10 u0_11 u0_12 u0_13 u0_14 u0_15 u0_16 u0_17 u0_18 u0_19 u0_20 u0_21 u0_22 u0_23 u0_24 u0_25 u0_26 u0_27 u0_28 u0_29 u0_30 y1_s y2_sums) sz (some (.int r)) (w_X9_stepFrom g a0 a1 a2 u0_1 u0_2 u0_3 u0_4 u0_5 u0_6 u0_7 u0_9 u0_10 u0_11 u0_12 u0_13 u0_14 u0_15 u0_16 u0_17 u0_18 u0_19 u0_20 u0_21 u0_22 u0_23 u0_24 u0_25 u0_26 u0_27 u0_28 u0_29 u0_30 y1_s y2_sums) := by
  refine MI.start (cc := cX9_stepFrom) (maxL := 5) (ret := (some .int)) rfl rfl (nle rfl) ?_
  intro p e s m args below meth c A ls Q hQ hexec hb hr hts hown hlocks hml hA hP hD hG hS hl
  unfold f_X9_stepFrom at hf
  have hWX9 : ∀ w ∈ wsX90, w.before args s = true := fun w h => hts w (List.mem_cons_of_mem _ (List.mem_append_right _ h))
  have hS : va_S A s.heap s.heap [] := hS
  refine lv_aload_n (pc := 0) hexec hb dX9_stepFrom_0 rfl (lv_at hl 0 rfl) ?_
  refine kg_get (pc := 1) hexec hb (own := RX9) hWX9 hown hG hP 0 rfl rfl 8 (nle rfl) (hts _ (List.mem_cons_of_mem _ (List.mem_append_left _ (List.mem_append_left _ (List.mem_of_getElem? (i := 0) rfl))))) rfl rfl dX9_stepFrom_1 ?_
  refine lv_iload_n (pc := 4) hexec hb dX9_stepFrom_4 rfl (lv_at hl 1 rfl) ?_
  refine kr_iald (pc := 5) hexec hb hG hP 2 rfl hf dX9_stepFrom_5 (fun hf => ?_)
  refine lv_aload_n (pc := 6) hexec hb dX9_stepFrom_6 rfl (lv_at hl 0 rfl) ?_
  refine lv_iload_n (pc := 7) hexec hb dX9_stepFrom_7 rfl (lv_at hl 1 rfl) ?_
  obtain ⟨r8, hc, hf⟩ := bd1_e hf
  refine kVp (pc := 8) (S := ⟨hexec, hb, hml, hown, hts⟩) hP hD hG hA hS [0, 1] [2] [1, 2, 0] (w2 := (w_X9_stepFrom g a0 a1 a2 u0_1 u0_2 u0_3 u0_4 u0_5 u0_6 u0_7 u0_9 u0_10 u0_11 u0_12 u0_13 u0_14 u0_15 u0_16 u0_17 u0_18 u0_19 u0_20 u0_21 u0_22 u0_23 u0_24 u0_25 u0_26 u0_27 u0_28 u0_29 u0_30 y1_s y2_sums)) rfl rfl rfl rfl rfl rfl (by decide) (c_X9_costOf l g a0 a1 _ u0_1 u0_2 u0_3 u0_4 u0_5 u0_6 u0_7 (.ref a2) u0_9 u0_10 u0_11 u0_12 u0_13 u0_14 u0_15 u0_16 u0_17 u0_18 u0_19 u0_20 u0_21 u0_22 u0_23 u0_24 u0_25 u0_26 u0_27 u0_28 u0_29 u0_30 y1_s p1 r8 hc) gX9_stepFrom_X9_costOf rfl hv_X9_costOf ⟨nle rfl, nle rfl⟩ 9 0 rfl rfl rfl (rest := [.int (y2_sums p1.toNatClampNeg)]) rfl rfl hl.1 (nle rfl) dX9_stepFrom_8 (fun H locs hP hD hS => ?_)
  refine lv_isub (pc := 11) hexec hb dX9_stepFrom_11 ?_
  obtain ⟨v2, ev2, hf⟩ := bv_e hf
  refine kn_i ev2 ?_
  refine lv_istore_n (pc := 12) hexec hb dX9_stepFrom_12 rfl hl (nle rfl) rfl (fun ls (hl : lv_has ls 5 [(2, .int v2), (0, .ref a0), (1, .int p1)]) => ?_)
  refine lv_iconst (pc := 13) hexec hb dX9_stepFrom_13 ki_0 ?_
  refine lv_istore_n (pc := 14) hexec hb dX9_stepFrom_14 rfl hl (nle rfl) rfl (fun ls (hl : lv_has ls 5 [(3, .int 0), (2, .int v2), (0, .ref a0), (1, .int p1)]) => ?_)
  obtain ⟨l15, el15, hf⟩ := bvf1 hf
  obtain ⟨n, hz⟩ := lq1_e hf
  have hL15 : ∀ (n : Nat) (v3 : Int32) (H : Heap) (locs : List Loc) (ls : Array Slot), it1 l15 n v3 = some r → va_P g.1 vwCl (w_X9_stepFrom g a0 a1 a2 u0_1 u0_2 u0_3 u0_4 u0_5 u0_6 u0_7 u0_9 u0_10 u0_11 u0_12 u0_13 u0_14 u0_15 u0_16 u0_17 u0_18 u0_19 u0_20 u0_21 u0_22 u0_23 u0_24 u0_25 u0_26 u0_27 u0_28 u0_29 u0_30 y1_s y2_sums) H → va_D A (w_X9_stepFrom g a0 a1 a2 u0_1 u0_2 u0_3 u0_4 u0_5 u0_6 u0_7 u0_9 u0_10 u0_11 u0_12 u0_13 u0_14 u0_15 u0_16 u0_17 u0_18 u0_19 u0_20 u0_21 u0_22 u0_23 u0_24 u0_25 u0_26 u0_27 u0_28 u0_29 u0_30 y1_s y2_sums) → va_S A s.heap H locs → lv_has ls 5 [(0, .ref a0), (1, .int p1), (2, .int v2), (3, .int v3)] → W p l e (RM 7 164) s m args below meth c H locs 0 0 Q (F0 m 15 ls []) := by
    intro n
    induction n with
    | zero =>
      intro v3 H locs ls hf hP hD hS hl
      exact it1_0 hf
    | succ n15 ih15 =>
      intro v3 H locs ls hf hP hD hS hl
      obtain ⟨q15, hf, hk15⟩ := it1_e hf
      have hf := (el15 v3).symm.trans hf
      refine lv_iload_n (pc := 15) hexec hb dX9_stepFrom_15 rfl (lv_at hl 3 rfl) ?_
      refine lv_iconst (pc := 16) hexec hb dX9_stepFrom_16 ki_4 ?_
      refine ki_ge (pc := 17) hexec hb dX9_stepFrom_17 (tgt := 55) rfl hf (fun hc hf => ?_) (fun hc hf => ?_)
      · have hf := mk1 hf hk15
        refine lv_iconst (pc := 55) hexec hb dX9_stepFrom_55 ki_m1 ?_
        cases hf
        exact ke_i hQ hexec hb hr hP hD hS dX9_stepFrom_56 hlocks
      · refine lv_aload_n (pc := 20) hexec hb dX9_stepFrom_20 rfl (lv_at hl 0 rfl) ?_
        refine lv_iload_n (pc := 21) hexec hb dX9_stepFrom_21 rfl (lv_at hl 1 rfl) ?_
        refine lv_iload_n (pc := 22) hexec hb dX9_stepFrom_22 rfl (lv_at hl 3 rfl) ?_
        refine lv_iconst (pc := 23) hexec hb dX9_stepFrom_23 ki_1 ?_
        obtain ⟨r24, hc, hf⟩ := bd1_e hf
        refine kVp (pc := 24) (S := ⟨hexec, hb, hml, hown, hts⟩) hP hD hG hA hS [0, 1] [2] [1, 2, 0] (w2 := (w_X9_stepFrom g a0 a1 a2 u0_1 u0_2 u0_3 u0_4 u0_5 u0_6 u0_7 u0_9 u0_10 u0_11 u0_12 u0_13 u0_14 u0_15 u0_16 u0_17 u0_18 u0_19 u0_20 u0_21 u0_22 u0_23 u0_24 u0_25 u0_26 u0_27 u0_28 u0_29 u0_30 y1_s y2_sums)) rfl rfl rfl rfl rfl rfl (by decide) (c_X9_away l g a0 a1 _ u0_1 u0_2 u0_3 u0_4 u0_5 u0_6 u0_7 (.ref a2) u0_9 u0_10 u0_11 u0_12 u0_13 u0_14 u0_15 u0_16 u0_17 u0_18 u0_19 u0_20 u0_21 u0_22 u0_23 u0_24 u0_25 u0_26 u0_27 u0_28 u0_29 u0_30 y1_s p1 v3 1 r24 hc) gX9_stepFrom_X9_away rfl hv_X9_away ⟨nle rfl, nle rfl⟩ 9 0 rfl rfl rfl (rest := []) rfl rfl hl.1 (nle rfl) dX9_stepFrom_24 (fun H locs hP hD hS => ?_)
        refine lv_istore (pc := 27) hexec hb dX9_stepFrom_27 hl (nle rfl) rfl (fun ls (hl : lv_has ls 5 [(4, .int r24), (0, .ref a0), (1, .int p1), (2, .int v2), (3, .int v3)]) => ?_)
        refine lv_iload (pc := 29) hexec hb dX9_stepFrom_29 (lv_at hl 0 rfl) ?_
        refine lv_iconst (pc := 31) hexec hb dX9_stepFrom_31 ki_m1 ?_
        obtain ⟨j49, ej49, hf⟩ := bvf1 hf
        have hj49 : ∀ (u : Unit) (H : Heap) (locs : List Loc) (ls : Array Slot), j49 u = some q15 → va_P g.1 vwCl (w_X9_stepFrom g a0 a1 a2 u0_1 u0_2 u0_3 u0_4 u0_5 u0_6 u0_7 u0_9 u0_10 u0_11 u0_12 u0_13 u0_14 u0_15 u0_16 u0_17 u0_18 u0_19 u0_20 u0_21 u0_22 u0_23 u0_24 u0_25 u0_26 u0_27 u0_28 u0_29 u0_30 y1_s y2_sums) H → va_D A (w_X9_stepFrom g a0 a1 a2 u0_1 u0_2 u0_3 u0_4 u0_5 u0_6 u0_7 u0_9 u0_10 u0_11 u0_12 u0_13 u0_14 u0_15 u0_16 u0_17 u0_18 u0_19 u0_20 u0_21 u0_22 u0_23 u0_24 u0_25 u0_26 u0_27 u0_28 u0_29 u0_30 y1_s y2_sums) → va_S A s.heap H locs → lv_has ls 5 [(0, .ref a0), (1, .int p1), (2, .int v2), (3, .int v3)] → W p l e (RM 7 164) s m args below meth c H locs 0 0 Q (F0 m 49 ls []) := by
          intro u H locs ls hf hP hD hS hl
          have hf := (ej49 u).symm.trans hf
          obtain ⟨v3_1, ev3_1, hf⟩ := bv_e hf
          refine k_iinc (pc := 49) hexec hb dX9_stepFrom_49 kq_1 hl (k := 3) rfl ev3_1 (nle rfl) rfl (fun ls (hl : lv_has ls 5 [(3, .int v3_1), (0, .ref a0), (1, .int p1), (2, .int v2)]) => ?_)
          refine lv_goto (pc := 52) hexec hb dX9_stepFrom_52 (tgt := 15) rfl ?_
          exact ih15 _ _ _ _ (sl1 hf hk15) hP hD hS (lv_sub hl [1, 2, 3, 0] rfl)
        refine ki_eq (pc := 32) hexec hb dX9_stepFrom_32 (tgt := 49) rfl hf (fun hc hf => ?_) (fun hc hf => ?_)
        · exact hj49 _ _ _ _ hf hP hD hS (lv_sub hl [1, 2, 3, 4] rfl)
        · refine lv_aload_n (pc := 35) hexec hb dX9_stepFrom_35 rfl (lv_at hl 1 rfl) ?_
          refine kg_get (pc := 36) hexec hb (own := RX9) hWX9 hown hG hP 0 rfl rfl 8 (nle rfl) (hts _ (List.mem_cons_of_mem _ (List.mem_append_left _ (List.mem_append_left _ (List.mem_of_getElem? (i := 0) rfl))))) rfl rfl dX9_stepFrom_36 ?_
          refine lv_iload (pc := 39) hexec hb dX9_stepFrom_39 (lv_at hl 0 rfl) ?_
          refine kr_iald (pc := 41) hexec hb hG hP 2 rfl hf dX9_stepFrom_41 (fun hf => ?_)
          refine lv_iload_n (pc := 42) hexec hb dX9_stepFrom_42 rfl (lv_at hl 3 rfl) ?_
          refine ki_ne (pc := 43) hexec hb dX9_stepFrom_43 (tgt := 49) rfl hf (fun hc hf => ?_) (fun hc hf => ?_)
          · exact hj49 _ _ _ _ hf hP hD hS (lv_sub hl [1, 2, 3, 4] rfl)
          · have hf := mk1 hf hk15
            refine lv_iload (pc := 46) hexec hb dX9_stepFrom_46 (lv_at hl 0 rfl) ?_
            cases hf
            exact ke_i hQ hexec hb hr hP hD hS dX9_stepFrom_48 hlocks
  exact hL15 n _ _ _ _ hz hP hD hS (lv_sub hl [2, 3, 1, 0] rfl)
abbrev w_X9_laysFlow (g : GE) (a0 a1 a2 a3 : Nat) (u0_1 u0_2 u0_3 u0_4 u0_5 u0_6 u0_7 u0_11 u0_12 u0_13 u0_14 u0_15 u0_16 u0_17 u0_18 u0_19 u0_20 u0_21 u0_22 u0_23 u0_24 u0_25 u0_26 u0_27 u0_28 u0_29 u0_30 : Value) (x0_flowLong : Int32) (y1_flow : Nat → Int32) (y2_s : Nat → Int32) (y3_sums : Nat → Int32) : va_W := [(a0, .inr (9, [.ref a2, u0_1, u0_2, u0_3, u0_4, u0_5, u0_6, u0_7, .ref a3, .ref a1, .int x0_flowLong, u0_11, u0_12, u0_13, u0_14, u0_15, u0_16, u0_17, u0_18, u0_19, u0_20, u0_21, u0_22, u0_23, u0_24, u0_25, u0_26, u0_27, u0_28, u0_29, u0_30])), (a1, .inl (g.2.1 0, 144, .inl y1_flow)), (a2, .inl (g.2.1 0, 552, .inl y2_s)), (a3, .inl (g.2.1 0, 144, .inl y3_sums))]
noncomputable def f_X9_laysFlow (x0_flowLong : Int32) (y1_flow : Nat → Int32) (y2_s : Nat → Int32) (y3_sums : Nat → Int32) (p1 : Int32) : Option (Int32 × Int32 × (Nat → Int32)) :=
  ar p1 144 <|
  (if (y3_sums p1.toNatClampNeg) = 1000000 then (
    some (0, 0, y1_flow)
  ) else (
    bv (fun (v2 : Int32) (x0_flowLong_1 : Int32) (y1_flow_1 : Nat → Int32) => ((
      (if v2 = (-1) then (
        some (.inr (x0_flowLong_1, y1_flow_1))
      ) else (
        ar x0_flowLong_1 144 <| bv (upd y1_flow_1 x0_flowLong_1.toNatClampNeg v2) fun y1_flow_3 =>
        bv (x0_flowLong_1 + 1) fun x0_flowLong_3 =>
        bd1 (f_X9_isEnd y2_s v2) fun (r47 : Int32) =>
        bv (fun (t62 : Int32) => ((
          some (.inl (t62, x0_flowLong_3, y1_flow_3))
          ) : Option ((Int32 × Int32 × (Nat → Int32)) ⊕ (Int32 × (Nat → Int32))))) fun j62 =>
        (if r47 = 0 then (
          bd1 (f_X9_stepFrom y2_s y3_sums v2) fun (r59 : Int32) =>
          j62 r59
        ) else (
          j62 (-1)
        ))
      ))
      ) : Option ((Int32 × Int32 × (Nat → Int32)) ⊕ (Int32 × (Nat → Int32))))) fun l20 =>
    bd2 (lq3 l20 p1 0 y1_flow) fun (x0_flowLong_2 : Int32) (y1_flow_2 : Nat → Int32) =>
    some (1, x0_flowLong_2, y1_flow_2)
  ))
set_option maxRecDepth 4000 in
theorem c_X9_laysFlow (l : Launch) (g : GE) (a0 a1 a2 a3 : Nat) (sz : Nat) (u0_1 u0_2 u0_3 u0_4 u0_5 u0_6 u0_7 u0_11 u0_12 u0_13 u0_14 u0_15 u0_16 u0_17 u0_18 u0_19 u0_20 u0_21 u0_22 u0_23 u0_24 u0_25 u0_26 u0_27 u0_28 u0_29 u0_30 : Value) (x0_flowLong : Int32) (y1_flow : Nat → Int32) (y2_s : Nat → Int32) (y3_sums : Nat → Int32) (p1 : Int32) (r : Int32) (o_x0_flowLong : Int32) (o_y1_flow : Nat → Int32) (hf : f_X9_laysFlow x0_flowLong y1_flow y2_s y3_sums p1 = some (r, o_x0_flowLong, o_y1_flow)) : MI l g yX9_laysFlow wsX9_laysFlow 8 188 [.ref a0, .int p1] (w_X9_laysFlow g a0 a1 a2 a3 u0_1 u0_2 u0_3 u0_4 u0_5 u0_6 u0_7 u0_11 u0_12 u0_13 u0_14 u0_15 u0_16 u0_17 u0_18 u0_19 u0_20 u0_21 u0_22 u0_23 u0_24 u0_25 u0_26 u0_27 u0_28 u0_29 u0_30 x0_flowLong y1_flow y2_s y3_sums) sz (some (.int r)) (w_X9_laysFlow g a0 a1 a2 a3 u0_1 u0_2 u0_3 u0_4 u0_5 u0_6 u0_7 u0_11 u0_12 u0_13 u0_14 u0_15 u0_16 u0_17 u0_18 u0_19 u0_20 u0_21 u0_22 u0_23 u0_24 u0_25 u0_26 u0_27 u0_28 u0_29 u0_30 o_x0_flowLong o_y1_flow y2_s y3_sums) := by
  refine MI.start (cc := cX9_laysFlow) (maxL := 3) (ret := (some .boolean)) rfl rfl (nle rfl) ?_
  intro p e s m args below meth c A ls Q hQ hexec hb hr hts hown hlocks hml hA hP hD hG hS hl
  unfold f_X9_laysFlow at hf
  have hWX9 : ∀ w ∈ wsX90, w.before args s = true := fun w h => hts w (List.mem_cons_of_mem _ (List.mem_append_right _ h))
  have hS : va_S A s.heap s.heap [] := hS
  refine lv_aload_n (pc := 0) hexec hb dX9_laysFlow_0 rfl (lv_at hl 0 rfl) ?_
  refine lv_iconst (pc := 1) hexec hb dX9_laysFlow_1 ki_0 ?_
  refine kp_put (pc := 2) hexec hb (own := RX9) hWX9 tyX9 tyX9_ok nmX9 hown hG hP hD hS 0 rfl rfl 10 (nle rfl) (hts _ (List.mem_cons_of_mem _ (List.mem_append_left _ (List.mem_append_left _ (List.mem_of_getElem? (i := 0) rfl))))) rfl rfl rfl rfl (nle rfl) dX9_laysFlow_2 (fun H locs (hP : va_P g.1 vwCl (w_X9_laysFlow g a0 a1 a2 a3 u0_1 u0_2 u0_3 u0_4 u0_5 u0_6 u0_7 u0_11 u0_12 u0_13 u0_14 u0_15 u0_16 u0_17 u0_18 u0_19 u0_20 u0_21 u0_22 u0_23 u0_24 u0_25 u0_26 u0_27 u0_28 u0_29 u0_30 0 y1_flow y2_s y3_sums) H) (hD : va_D A (w_X9_laysFlow g a0 a1 a2 a3 u0_1 u0_2 u0_3 u0_4 u0_5 u0_6 u0_7 u0_11 u0_12 u0_13 u0_14 u0_15 u0_16 u0_17 u0_18 u0_19 u0_20 u0_21 u0_22 u0_23 u0_24 u0_25 u0_26 u0_27 u0_28 u0_29 u0_30 0 y1_flow y2_s y3_sums)) hS => ?_)
  refine lv_aload_n (pc := 5) hexec hb dX9_laysFlow_5 rfl (lv_at hl 0 rfl) ?_
  refine kg_get (pc := 6) hexec hb (own := RX9) hWX9 hown hG hP 0 rfl rfl 8 (nle rfl) (hts _ (List.mem_cons_of_mem _ (List.mem_append_left _ (List.mem_append_left _ (List.mem_of_getElem? (i := 1) rfl))))) rfl rfl dX9_laysFlow_6 ?_
  refine lv_iload_n (pc := 9) hexec hb dX9_laysFlow_9 rfl (lv_at hl 1 rfl) ?_
  refine kr_iald (pc := 10) hexec hb hG hP 3 rfl hf dX9_laysFlow_10 (fun hf => ?_)
  refine lv_ldc (pc := 11) hexec hb (own := RX9) hown (hts _ (List.mem_cons_of_mem _ (List.mem_append_left _ (List.mem_append_left _ (List.mem_of_getElem? (i := 2) rfl))))) dX9_laysFlow_11 ?_
  refine ki_ne (pc := 13) hexec hb dX9_laysFlow_13 (tgt := 18) rfl hf (fun hc hf => ?_) (fun hc hf => ?_)
  · refine lv_iload_n (pc := 18) hexec hb dX9_laysFlow_18 rfl (lv_at hl 1 rfl) ?_
    refine lv_istore_n (pc := 19) hexec hb dX9_laysFlow_19 rfl hl (nle rfl) rfl (fun ls (hl : lv_has ls 3 [(2, .int p1), (0, .ref a0), (1, .int p1)]) => ?_)
    obtain ⟨l20, el20, hf⟩ := bvf3 hf
    obtain ⟨x0_flowLong_2, y1_flow_2, hz, hf⟩ := bd2_e hf
    have hE20 : ∀ (H : Heap) (locs : List Loc) (ls : Array Slot), va_P g.1 vwCl (w_X9_laysFlow g a0 a1 a2 a3 u0_1 u0_2 u0_3 u0_4 u0_5 u0_6 u0_7 u0_11 u0_12 u0_13 u0_14 u0_15 u0_16 u0_17 u0_18 u0_19 u0_20 u0_21 u0_22 u0_23 u0_24 u0_25 u0_26 u0_27 u0_28 u0_29 u0_30 x0_flowLong_2 y1_flow_2 y2_s y3_sums) H → va_D A (w_X9_laysFlow g a0 a1 a2 a3 u0_1 u0_2 u0_3 u0_4 u0_5 u0_6 u0_7 u0_11 u0_12 u0_13 u0_14 u0_15 u0_16 u0_17 u0_18 u0_19 u0_20 u0_21 u0_22 u0_23 u0_24 u0_25 u0_26 u0_27 u0_28 u0_29 u0_30 x0_flowLong_2 y1_flow_2 y2_s y3_sums) → va_S A s.heap H locs → lv_has ls 3 [] → W p l e (RM 8 188) s m args below meth c H locs 0 0 Q (F0 m 66 ls []) := by
      intro H locs ls hP hD hS hl
      refine lv_iconst (pc := 66) hexec hb dX9_laysFlow_66 ki_1 ?_
      cases hf
      exact ke_z hQ hexec hb hr (.inr rfl) hP hD hS dX9_laysFlow_67 hlocks
    obtain ⟨n, hz⟩ := lq3_e hz
    have hL20 : ∀ (n : Nat) (v2 : Int32) (x0_flowLong_1 : Int32) (y1_flow_1 : Nat → Int32) (H : Heap) (locs : List Loc) (ls : Array Slot), it3 l20 n v2 x0_flowLong_1 y1_flow_1 = some (x0_flowLong_2, y1_flow_2) → va_P g.1 vwCl (w_X9_laysFlow g a0 a1 a2 a3 u0_1 u0_2 u0_3 u0_4 u0_5 u0_6 u0_7 u0_11 u0_12 u0_13 u0_14 u0_15 u0_16 u0_17 u0_18 u0_19 u0_20 u0_21 u0_22 u0_23 u0_24 u0_25 u0_26 u0_27 u0_28 u0_29 u0_30 x0_flowLong_1 y1_flow_1 y2_s y3_sums) H → va_D A (w_X9_laysFlow g a0 a1 a2 a3 u0_1 u0_2 u0_3 u0_4 u0_5 u0_6 u0_7 u0_11 u0_12 u0_13 u0_14 u0_15 u0_16 u0_17 u0_18 u0_19 u0_20 u0_21 u0_22 u0_23 u0_24 u0_25 u0_26 u0_27 u0_28 u0_29 u0_30 x0_flowLong_1 y1_flow_1 y2_s y3_sums) → va_S A s.heap H locs → lv_has ls 3 [(0, .ref a0), (2, .int v2)] → W p l e (RM 8 188) s m args below meth c H locs 0 0 Q (F0 m 20 ls []) := by
      intro n
      induction n with
      | zero =>
        intro v2 x0_flowLong_1 y1_flow_1 H locs ls hf hP hD hS hl
        exact it3_0 hf
      | succ n20 ih20 =>
        intro v2 x0_flowLong_1 y1_flow_1 H locs ls hf hP hD hS hl
        obtain ⟨q20, hf, hk20⟩ := it3_e hf
        have hf := (el20 v2 x0_flowLong_1 y1_flow_1).symm.trans hf
        refine lv_iload_n (pc := 20) hexec hb dX9_laysFlow_20 rfl (lv_at hl 1 rfl) ?_
        refine lv_iconst (pc := 21) hexec hb dX9_laysFlow_21 ki_m1 ?_
        refine ki_eq (pc := 22) hexec hb dX9_laysFlow_22 (tgt := 66) rfl hf (fun hc hf => ?_) (fun hc hf => ?_)
        · cases sr3 hf hk20
          exact hE20 _ _ _ hP hD hS (lv_sub hl [] rfl)
        · refine lv_aload_n (pc := 25) hexec hb dX9_laysFlow_25 rfl (lv_at hl 0 rfl) ?_
          refine kg_get (pc := 26) hexec hb (own := RX9) hWX9 hown hG hP 0 rfl rfl 9 (nle rfl) (hts _ (List.mem_cons_of_mem _ (List.mem_append_left _ (List.mem_append_left _ (List.mem_of_getElem? (i := 3) rfl))))) rfl rfl dX9_laysFlow_26 ?_
          refine lv_aload_n (pc := 29) hexec hb dX9_laysFlow_29 rfl (lv_at hl 0 rfl) ?_
          refine kg_get (pc := 30) hexec hb (own := RX9) hWX9 hown hG hP 0 rfl rfl 10 (nle rfl) (hts _ (List.mem_cons_of_mem _ (List.mem_append_left _ (List.mem_append_left _ (List.mem_of_getElem? (i := 0) rfl))))) rfl rfl dX9_laysFlow_30 ?_
          refine lv_iload_n (pc := 33) hexec hb dX9_laysFlow_33 rfl (lv_at hl 1 rfl) ?_
          refine kw_iast (pc := 34) hexec hb hG hP hD hS 1 rfl hf dX9_laysFlow_34 (fun y1_flow_3 H locs hf (hP : va_P g.1 vwCl (w_X9_laysFlow g a0 a1 a2 a3 u0_1 u0_2 u0_3 u0_4 u0_5 u0_6 u0_7 u0_11 u0_12 u0_13 u0_14 u0_15 u0_16 u0_17 u0_18 u0_19 u0_20 u0_21 u0_22 u0_23 u0_24 u0_25 u0_26 u0_27 u0_28 u0_29 u0_30 x0_flowLong_1 y1_flow_3 y2_s y3_sums) H) (hD : va_D A (w_X9_laysFlow g a0 a1 a2 a3 u0_1 u0_2 u0_3 u0_4 u0_5 u0_6 u0_7 u0_11 u0_12 u0_13 u0_14 u0_15 u0_16 u0_17 u0_18 u0_19 u0_20 u0_21 u0_22 u0_23 u0_24 u0_25 u0_26 u0_27 u0_28 u0_29 u0_30 x0_flowLong_1 y1_flow_3 y2_s y3_sums)) hS => ?_)
          refine lv_aload_n (pc := 35) hexec hb dX9_laysFlow_35 rfl (lv_at hl 0 rfl) ?_
          refine lv_dup (pc := 36) hexec hb dX9_laysFlow_36 rfl ?_
          refine kg_get (pc := 37) hexec hb (own := RX9) hWX9 hown hG hP 0 rfl rfl 10 (nle rfl) (hts _ (List.mem_cons_of_mem _ (List.mem_append_left _ (List.mem_append_left _ (List.mem_of_getElem? (i := 0) rfl))))) rfl rfl dX9_laysFlow_37 ?_
          refine lv_iconst (pc := 40) hexec hb dX9_laysFlow_40 ki_1 ?_
          refine lv_iadd (pc := 41) hexec hb dX9_laysFlow_41 ?_
          obtain ⟨x0_flowLong_3, ex0_flowLong_3, hf⟩ := bv_e hf
          refine kn_i ex0_flowLong_3 ?_
          refine kp_put (pc := 42) hexec hb (own := RX9) hWX9 tyX9 tyX9_ok nmX9 hown hG hP hD hS 0 rfl rfl 10 (nle rfl) (hts _ (List.mem_cons_of_mem _ (List.mem_append_left _ (List.mem_append_left _ (List.mem_of_getElem? (i := 0) rfl))))) rfl rfl rfl rfl (nle rfl) dX9_laysFlow_42 (fun H locs (hP : va_P g.1 vwCl (w_X9_laysFlow g a0 a1 a2 a3 u0_1 u0_2 u0_3 u0_4 u0_5 u0_6 u0_7 u0_11 u0_12 u0_13 u0_14 u0_15 u0_16 u0_17 u0_18 u0_19 u0_20 u0_21 u0_22 u0_23 u0_24 u0_25 u0_26 u0_27 u0_28 u0_29 u0_30 x0_flowLong_3 y1_flow_3 y2_s y3_sums) H) (hD : va_D A (w_X9_laysFlow g a0 a1 a2 a3 u0_1 u0_2 u0_3 u0_4 u0_5 u0_6 u0_7 u0_11 u0_12 u0_13 u0_14 u0_15 u0_16 u0_17 u0_18 u0_19 u0_20 u0_21 u0_22 u0_23 u0_24 u0_25 u0_26 u0_27 u0_28 u0_29 u0_30 x0_flowLong_3 y1_flow_3 y2_s y3_sums)) hS => ?_)
          refine lv_aload_n (pc := 45) hexec hb dX9_laysFlow_45 rfl (lv_at hl 0 rfl) ?_
          refine lv_iload_n (pc := 46) hexec hb dX9_laysFlow_46 rfl (lv_at hl 1 rfl) ?_
          obtain ⟨r47, hc, hf⟩ := bd1_e hf
          refine kVp (pc := 47) (S := ⟨hexec, hb, hml, hown, hts⟩) hP hD hG hA hS [0, 2] [1, 3] [2, 0, 3, 1] (w2 := (w_X9_laysFlow g a0 a1 a2 a3 u0_1 u0_2 u0_3 u0_4 u0_5 u0_6 u0_7 u0_11 u0_12 u0_13 u0_14 u0_15 u0_16 u0_17 u0_18 u0_19 u0_20 u0_21 u0_22 u0_23 u0_24 u0_25 u0_26 u0_27 u0_28 u0_29 u0_30 x0_flowLong_3 y1_flow_3 y2_s y3_sums)) rfl rfl rfl rfl rfl rfl (by decide) (c_X9_isEnd l g a0 a2 _ u0_1 u0_2 u0_3 u0_4 u0_5 u0_6 u0_7 (.ref a3) (.ref a1) (.int x0_flowLong_3) u0_11 u0_12 u0_13 u0_14 u0_15 u0_16 u0_17 u0_18 u0_19 u0_20 u0_21 u0_22 u0_23 u0_24 u0_25 u0_26 u0_27 u0_28 u0_29 u0_30 y2_s v2 r47 hc) gX9_laysFlow_X9_isEnd rfl hv_X9_isEnd ⟨nle rfl, nle rfl⟩ 9 0 rfl rfl rfl (rest := []) rfl rfl hl.1 (nle rfl) dX9_laysFlow_47 (fun H locs hP hD hS => ?_)
          obtain ⟨j62, ej62, hf⟩ := bvf1 hf
          have hj62 : ∀ (t62 : Int32) (H : Heap) (locs : List Loc) (ls : Array Slot), j62 t62 = some q20 → va_P g.1 vwCl (w_X9_laysFlow g a0 a1 a2 a3 u0_1 u0_2 u0_3 u0_4 u0_5 u0_6 u0_7 u0_11 u0_12 u0_13 u0_14 u0_15 u0_16 u0_17 u0_18 u0_19 u0_20 u0_21 u0_22 u0_23 u0_24 u0_25 u0_26 u0_27 u0_28 u0_29 u0_30 x0_flowLong_3 y1_flow_3 y2_s y3_sums) H → va_D A (w_X9_laysFlow g a0 a1 a2 a3 u0_1 u0_2 u0_3 u0_4 u0_5 u0_6 u0_7 u0_11 u0_12 u0_13 u0_14 u0_15 u0_16 u0_17 u0_18 u0_19 u0_20 u0_21 u0_22 u0_23 u0_24 u0_25 u0_26 u0_27 u0_28 u0_29 u0_30 x0_flowLong_3 y1_flow_3 y2_s y3_sums) → va_S A s.heap H locs → lv_has ls 3 [(0, .ref a0)] → W p l e (RM 8 188) s m args below meth c H locs 0 0 Q (F0 m 62 ls [.int t62]) := by
            intro t62 H locs ls hf hP hD hS hl
            have hf := (ej62 t62).symm.trans hf
            refine lv_istore_n (pc := 62) hexec hb dX9_laysFlow_62 rfl hl (nle rfl) rfl (fun ls (hl : lv_has ls 3 [(2, .int t62), (0, .ref a0)]) => ?_)
            refine lv_goto (pc := 63) hexec hb dX9_laysFlow_63 (tgt := 20) rfl ?_
            exact ih20 _ _ _ _ _ _ (sl3 hf hk20) hP hD hS (lv_sub hl [1, 0] rfl)
          refine kb_eq (pc := 50) hexec hb dX9_laysFlow_50 (tgt := 57) rfl hf (fun hc hf => ?_) (fun hc hf => ?_)
          · refine lv_aload_n (pc := 57) hexec hb dX9_laysFlow_57 rfl (lv_at hl 0 rfl) ?_
            refine lv_iload_n (pc := 58) hexec hb dX9_laysFlow_58 rfl (lv_at hl 1 rfl) ?_
            obtain ⟨r59, hc, hf⟩ := bd1_e hf
            refine kVp (pc := 59) (S := ⟨hexec, hb, hml, hown, hts⟩) hP hD hG hA hS [0, 2, 3] [1] [1, 0, 2, 3] (w2 := (w_X9_laysFlow g a0 a1 a2 a3 u0_1 u0_2 u0_3 u0_4 u0_5 u0_6 u0_7 u0_11 u0_12 u0_13 u0_14 u0_15 u0_16 u0_17 u0_18 u0_19 u0_20 u0_21 u0_22 u0_23 u0_24 u0_25 u0_26 u0_27 u0_28 u0_29 u0_30 x0_flowLong_3 y1_flow_3 y2_s y3_sums)) rfl rfl rfl rfl rfl rfl (by decide) (c_X9_stepFrom l g a0 a2 a3 _ u0_1 u0_2 u0_3 u0_4 u0_5 u0_6 u0_7 (.ref a1) (.int x0_flowLong_3) u0_11 u0_12 u0_13 u0_14 u0_15 u0_16 u0_17 u0_18 u0_19 u0_20 u0_21 u0_22 u0_23 u0_24 u0_25 u0_26 u0_27 u0_28 u0_29 u0_30 y2_s y3_sums v2 r59 hc) gX9_laysFlow_X9_stepFrom rfl hv_X9_stepFrom ⟨nle rfl, nle rfl⟩ 9 0 rfl rfl rfl (rest := []) rfl rfl hl.1 (nle rfl) dX9_laysFlow_59 (fun H locs hP hD hS => ?_)
            exact hj62 _ _ _ _ hf hP hD hS (lv_sub hl [0] rfl)
          · refine lv_iconst (pc := 53) hexec hb dX9_laysFlow_53 ki_m1 ?_
            refine lv_goto (pc := 54) hexec hb dX9_laysFlow_54 (tgt := 62) rfl ?_
            exact hj62 _ _ _ _ hf hP hD hS (lv_sub hl [0] rfl)
    exact hL20 n _ _ _ _ _ _ hz hP hD hS (lv_sub hl [1, 0] rfl)
  · refine lv_iconst (pc := 16) hexec hb dX9_laysFlow_16 ki_0 ?_
    cases hf
    exact ke_z hQ hexec hb hr (.inl rfl) hP hD hS dX9_laysFlow_17 hlocks
abbrev w_X9_findsFlow (g : GE) (a0 a1 a2 a3 : Nat) (u0_1 u0_2 u0_3 u0_4 u0_5 u0_6 u0_7 u0_11 u0_12 u0_13 u0_14 u0_15 u0_16 u0_17 u0_18 u0_19 u0_20 u0_21 u0_22 u0_23 u0_24 u0_25 u0_26 u0_27 u0_28 u0_29 u0_30 : Value) (x0_flowLong : Int32) (y1_flow : Nat → Int32) (y2_s : Nat → Int32) (y3_sums : Nat → Int32) : va_W := [(a0, .inr (9, [.ref a2, u0_1, u0_2, u0_3, u0_4, u0_5, u0_6, u0_7, .ref a3, .ref a1, .int x0_flowLong, u0_11, u0_12, u0_13, u0_14, u0_15, u0_16, u0_17, u0_18, u0_19, u0_20, u0_21, u0_22, u0_23, u0_24, u0_25, u0_26, u0_27, u0_28, u0_29, u0_30])), (a1, .inl (g.2.1 0, 144, .inl y1_flow)), (a2, .inl (g.2.1 0, 552, .inl y2_s)), (a3, .inl (g.2.1 0, 144, .inl y3_sums))]
noncomputable def f_X9_findsFlow (x0_flowLong : Int32) (y1_flow : Nat → Int32) (y2_s : Nat → Int32) (y3_sums : Nat → Int32) (p1 : Int32) : Option (Int32 × Int32 × (Nat → Int32) × (Nat → Int32)) :=
  bd1 (f_X9_laysSums y2_s y3_sums) fun (y3_sums_1 : Nat → Int32) =>
  bd3 (f_X9_laysFlow x0_flowLong y1_flow y2_s y3_sums_1 p1) fun (r6 : Int32) (x0_flowLong_1 : Int32) (y1_flow_1 : Nat → Int32) =>
  zb r6 (some (r6, x0_flowLong_1, y1_flow_1, y3_sums_1))
set_option maxRecDepth 4000 in
theorem c_X9_findsFlow (l : Launch) (g : GE) (a0 a1 a2 a3 : Nat) (sz : Nat) (u0_1 u0_2 u0_3 u0_4 u0_5 u0_6 u0_7 u0_11 u0_12 u0_13 u0_14 u0_15 u0_16 u0_17 u0_18 u0_19 u0_20 u0_21 u0_22 u0_23 u0_24 u0_25 u0_26 u0_27 u0_28 u0_29 u0_30 : Value) (x0_flowLong : Int32) (y1_flow : Nat → Int32) (y2_s : Nat → Int32) (y3_sums : Nat → Int32) (p1 : Int32) (r : Int32) (o_x0_flowLong : Int32) (o_y1_flow : Nat → Int32) (o_y3_sums : Nat → Int32) (hf : f_X9_findsFlow x0_flowLong y1_flow y2_s y3_sums p1 = some (r, o_x0_flowLong, o_y1_flow, o_y3_sums)) : MI l g yX9_findsFlow wsX9_findsFlow 9 210 [.ref a0, .int p1] (w_X9_findsFlow g a0 a1 a2 a3 u0_1 u0_2 u0_3 u0_4 u0_5 u0_6 u0_7 u0_11 u0_12 u0_13 u0_14 u0_15 u0_16 u0_17 u0_18 u0_19 u0_20 u0_21 u0_22 u0_23 u0_24 u0_25 u0_26 u0_27 u0_28 u0_29 u0_30 x0_flowLong y1_flow y2_s y3_sums) sz (some (.int r)) (w_X9_findsFlow g a0 a1 a2 a3 u0_1 u0_2 u0_3 u0_4 u0_5 u0_6 u0_7 u0_11 u0_12 u0_13 u0_14 u0_15 u0_16 u0_17 u0_18 u0_19 u0_20 u0_21 u0_22 u0_23 u0_24 u0_25 u0_26 u0_27 u0_28 u0_29 u0_30 o_x0_flowLong o_y1_flow y2_s o_y3_sums) := by
  refine MI.start (cc := cX9_findsFlow) (maxL := 2) (ret := (some .boolean)) rfl rfl (nle rfl) ?_
  intro p e s m args below meth c A ls Q hQ hexec hb hr hts hown hlocks hml hA hP hD hG hS hl
  unfold f_X9_findsFlow at hf
  have hWX9 : ∀ w ∈ wsX90, w.before args s = true := fun w h => hts w (List.mem_cons_of_mem _ (List.mem_append_right _ h))
  have hS : va_S A s.heap s.heap [] := hS
  refine lv_aload_n (pc := 0) hexec hb dX9_findsFlow_0 rfl (lv_at hl 0 rfl) ?_
  obtain ⟨y3_sums_1, hc, hf⟩ := bd1_e hf
  refine kVp (pc := 1) (S := ⟨hexec, hb, hml, hown, hts⟩) hP hD hG hA hS [0, 2, 3] [1] [1, 0, 2, 3] (w2 := (w_X9_findsFlow g a0 a1 a2 a3 u0_1 u0_2 u0_3 u0_4 u0_5 u0_6 u0_7 u0_11 u0_12 u0_13 u0_14 u0_15 u0_16 u0_17 u0_18 u0_19 u0_20 u0_21 u0_22 u0_23 u0_24 u0_25 u0_26 u0_27 u0_28 u0_29 u0_30 x0_flowLong y1_flow y2_s y3_sums_1)) rfl rfl rfl rfl rfl rfl (by decide) (c_X9_laysSums l g a0 a2 a3 _ u0_1 u0_2 u0_3 u0_4 u0_5 u0_6 u0_7 (.ref a1) (.int x0_flowLong) u0_11 u0_12 u0_13 u0_14 u0_15 u0_16 u0_17 u0_18 u0_19 u0_20 u0_21 u0_22 u0_23 u0_24 u0_25 u0_26 u0_27 u0_28 u0_29 u0_30 y2_s y3_sums y3_sums_1 hc) gX9_findsFlow_X9_laysSums rfl hv_X9_laysSums ⟨nle rfl, nle rfl⟩ 9 0 rfl rfl rfl (rest := []) rfl rfl hl.1 (nle rfl) dX9_findsFlow_1 (fun H locs hP hD hS => ?_)
  refine lv_aload_n (pc := 4) hexec hb dX9_findsFlow_4 rfl (lv_at hl 0 rfl) ?_
  refine lv_iload_n (pc := 5) hexec hb dX9_findsFlow_5 rfl (lv_at hl 1 rfl) ?_
  obtain ⟨r6, x0_flowLong_1, y1_flow_1, hc, hf⟩ := bd3_e hf
  refine kVp (pc := 6) (S := ⟨hexec, hb, hml, hown, hts⟩) hP hD hG hA hS [0, 1, 2, 3] [] [0, 1, 2, 3] (w2 := (w_X9_findsFlow g a0 a1 a2 a3 u0_1 u0_2 u0_3 u0_4 u0_5 u0_6 u0_7 u0_11 u0_12 u0_13 u0_14 u0_15 u0_16 u0_17 u0_18 u0_19 u0_20 u0_21 u0_22 u0_23 u0_24 u0_25 u0_26 u0_27 u0_28 u0_29 u0_30 x0_flowLong_1 y1_flow_1 y2_s y3_sums_1)) rfl rfl rfl rfl rfl rfl (by decide) (c_X9_laysFlow l g a0 a1 a2 a3 _ u0_1 u0_2 u0_3 u0_4 u0_5 u0_6 u0_7 u0_11 u0_12 u0_13 u0_14 u0_15 u0_16 u0_17 u0_18 u0_19 u0_20 u0_21 u0_22 u0_23 u0_24 u0_25 u0_26 u0_27 u0_28 u0_29 u0_30 x0_flowLong y1_flow y2_s y3_sums_1 p1 r6 x0_flowLong_1 y1_flow_1 hc) gX9_findsFlow_X9_laysFlow rfl hv_X9_laysFlow ⟨nle rfl, nle rfl⟩ 9 0 rfl rfl rfl (rest := []) rfl rfl hl.1 (nle rfl) dX9_findsFlow_6 (fun H locs hP hD hS => ?_)
  obtain ⟨hx, hf⟩ := zb_e hf
  cases hf
  exact ke_z hQ hexec hb hr hx hP hD hS dX9_findsFlow_9 hlocks
abbrev w_X9_washedBy (g : GE) (a0 a1 a2 : Nat) (u0_1 u0_2 u0_3 u0_4 u0_5 u0_6 u0_7 u0_8 u0_11 u0_12 u0_13 u0_14 u0_15 u0_16 u0_17 u0_18 u0_19 u0_20 u0_21 u0_22 u0_23 u0_24 u0_25 u0_26 u0_27 u0_28 u0_29 u0_30 : Value) (x0_flowLong : Int32) (y1_flow : Nat → Int32) (y2_s : Nat → Int32) : va_W := [(a0, .inr (9, [.ref a2, u0_1, u0_2, u0_3, u0_4, u0_5, u0_6, u0_7, u0_8, .ref a1, .int x0_flowLong, u0_11, u0_12, u0_13, u0_14, u0_15, u0_16, u0_17, u0_18, u0_19, u0_20, u0_21, u0_22, u0_23, u0_24, u0_25, u0_26, u0_27, u0_28, u0_29, u0_30])), (a1, .inl (g.2.1 0, 144, .inl y1_flow)), (a2, .inl (g.2.1 0, 552, .inl y2_s))]
noncomputable def f_X9_washedBy (x0_flowLong : Int32) (y1_flow : Nat → Int32) (y2_s : Nat → Int32)  : Option (Int32) :=
  bv (fun (v1 : Int32) (v2 : Int32) => ((
    (if x0_flowLong ≤ v2 then (
      some (.inr v1)
    ) else (
      ar v2 144 <|
      bd1 (f_X9_namesIn y2_s (y1_flow v2.toNatClampNeg)) fun (r20 : Int32) =>
      bv (v1 ||| r20) fun v1_2 =>
      bv (v2 + 1) fun v2_1 =>
      some (.inl (v1_2, v2_1))
    ))
    ) : Option ((Int32 × Int32) ⊕ (Int32)))) fun l4 =>
  bd1 (lq2 l4 0 0) fun (v1_1 : Int32) =>
  some v1_1
set_option maxRecDepth 4000 in
theorem c_X9_washedBy (l : Launch) (g : GE) (a0 a1 a2 : Nat) (sz : Nat) (u0_1 u0_2 u0_3 u0_4 u0_5 u0_6 u0_7 u0_8 u0_11 u0_12 u0_13 u0_14 u0_15 u0_16 u0_17 u0_18 u0_19 u0_20 u0_21 u0_22 u0_23 u0_24 u0_25 u0_26 u0_27 u0_28 u0_29 u0_30 : Value) (x0_flowLong : Int32) (y1_flow : Nat → Int32) (y2_s : Nat → Int32)  (r : Int32) (hf : f_X9_washedBy x0_flowLong y1_flow y2_s = some r) : MI l g yX9_washedBy wsX9_washedBy 6 143 [.ref a0] (w_X9_washedBy g a0 a1 a2 u0_1 u0_2 u0_3 u0_4 u0_5 u0_6 u0_7 u0_8 u0_11 u0_12 u0_13 u0_14 u0_15 u0_16 u0_17 u0_18 u0_19 u0_20 u0_21 u0_22 u0_23 u0_24 u0_25 u0_26 u0_27 u0_28 u0_29 u0_30 x0_flowLong y1_flow y2_s) sz (some (.int r)) (w_X9_washedBy g a0 a1 a2 u0_1 u0_2 u0_3 u0_4 u0_5 u0_6 u0_7 u0_8 u0_11 u0_12 u0_13 u0_14 u0_15 u0_16 u0_17 u0_18 u0_19 u0_20 u0_21 u0_22 u0_23 u0_24 u0_25 u0_26 u0_27 u0_28 u0_29 u0_30 x0_flowLong y1_flow y2_s) := by
  refine MI.start (cc := cX9_washedBy) (maxL := 3) (ret := (some .int)) rfl rfl (nle rfl) ?_
  intro p e s m args below meth c A ls Q hQ hexec hb hr hts hown hlocks hml hA hP hD hG hS hl
  unfold f_X9_washedBy at hf
  have hWX9 : ∀ w ∈ wsX90, w.before args s = true := fun w h => hts w (List.mem_cons_of_mem _ (List.mem_append_right _ h))
  have hS : va_S A s.heap s.heap [] := hS
  refine lv_iconst (pc := 0) hexec hb dX9_washedBy_0 ki_0 ?_
  refine lv_istore_n (pc := 1) hexec hb dX9_washedBy_1 rfl hl (nle rfl) rfl (fun ls (hl : lv_has ls 3 [(1, .int 0), (0, .ref a0)]) => ?_)
  refine lv_iconst (pc := 2) hexec hb dX9_washedBy_2 ki_0 ?_
  refine lv_istore_n (pc := 3) hexec hb dX9_washedBy_3 rfl hl (nle rfl) rfl (fun ls (hl : lv_has ls 3 [(2, .int 0), (1, .int 0), (0, .ref a0)]) => ?_)
  obtain ⟨l4, el4, hf⟩ := bvf2 hf
  obtain ⟨v1_1, hz, hf⟩ := bd1_e hf
  have hE4 : ∀ (H : Heap) (locs : List Loc) (ls : Array Slot), va_P g.1 vwCl (w_X9_washedBy g a0 a1 a2 u0_1 u0_2 u0_3 u0_4 u0_5 u0_6 u0_7 u0_8 u0_11 u0_12 u0_13 u0_14 u0_15 u0_16 u0_17 u0_18 u0_19 u0_20 u0_21 u0_22 u0_23 u0_24 u0_25 u0_26 u0_27 u0_28 u0_29 u0_30 x0_flowLong y1_flow y2_s) H → va_D A (w_X9_washedBy g a0 a1 a2 u0_1 u0_2 u0_3 u0_4 u0_5 u0_6 u0_7 u0_8 u0_11 u0_12 u0_13 u0_14 u0_15 u0_16 u0_17 u0_18 u0_19 u0_20 u0_21 u0_22 u0_23 u0_24 u0_25 u0_26 u0_27 u0_28 u0_29 u0_30 x0_flowLong y1_flow y2_s) → va_S A s.heap H locs → lv_has ls 3 [(1, .int v1_1)] → W p l e (RM 6 143) s m args below meth c H locs 0 0 Q (F0 m 31 ls []) := by
    intro H locs ls hP hD hS hl
    refine lv_iload_n (pc := 31) hexec hb dX9_washedBy_31 rfl (lv_at hl 0 rfl) ?_
    cases hf
    exact ke_i hQ hexec hb hr hP hD hS dX9_washedBy_32 hlocks
  obtain ⟨n, hz⟩ := lq2_e hz
  have hL4 : ∀ (n : Nat) (v1 : Int32) (v2 : Int32) (H : Heap) (locs : List Loc) (ls : Array Slot), it2 l4 n v1 v2 = some v1_1 → va_P g.1 vwCl (w_X9_washedBy g a0 a1 a2 u0_1 u0_2 u0_3 u0_4 u0_5 u0_6 u0_7 u0_8 u0_11 u0_12 u0_13 u0_14 u0_15 u0_16 u0_17 u0_18 u0_19 u0_20 u0_21 u0_22 u0_23 u0_24 u0_25 u0_26 u0_27 u0_28 u0_29 u0_30 x0_flowLong y1_flow y2_s) H → va_D A (w_X9_washedBy g a0 a1 a2 u0_1 u0_2 u0_3 u0_4 u0_5 u0_6 u0_7 u0_8 u0_11 u0_12 u0_13 u0_14 u0_15 u0_16 u0_17 u0_18 u0_19 u0_20 u0_21 u0_22 u0_23 u0_24 u0_25 u0_26 u0_27 u0_28 u0_29 u0_30 x0_flowLong y1_flow y2_s) → va_S A s.heap H locs → lv_has ls 3 [(0, .ref a0), (1, .int v1), (2, .int v2)] → W p l e (RM 6 143) s m args below meth c H locs 0 0 Q (F0 m 4 ls []) := by
    intro n
    induction n with
    | zero =>
      intro v1 v2 H locs ls hf hP hD hS hl
      exact it2_0 hf
    | succ n4 ih4 =>
      intro v1 v2 H locs ls hf hP hD hS hl
      obtain ⟨q4, hf, hk4⟩ := it2_e hf
      have hf := (el4 v1 v2).symm.trans hf
      refine lv_iload_n (pc := 4) hexec hb dX9_washedBy_4 rfl (lv_at hl 2 rfl) ?_
      refine lv_aload_n (pc := 5) hexec hb dX9_washedBy_5 rfl (lv_at hl 0 rfl) ?_
      refine kg_get (pc := 6) hexec hb (own := RX9) hWX9 hown hG hP 0 rfl rfl 10 (nle rfl) (hts _ (List.mem_cons_of_mem _ (List.mem_append_left _ (List.mem_append_left _ (List.mem_of_getElem? (i := 0) rfl))))) rfl rfl dX9_washedBy_6 ?_
      refine ki_ge (pc := 9) hexec hb dX9_washedBy_9 (tgt := 31) rfl hf (fun hc hf => ?_) (fun hc hf => ?_)
      · cases sr2 hf hk4
        exact hE4 _ _ _ hP hD hS (lv_sub hl [1] rfl)
      · refine lv_iload_n (pc := 12) hexec hb dX9_washedBy_12 rfl (lv_at hl 1 rfl) ?_
        refine lv_aload_n (pc := 13) hexec hb dX9_washedBy_13 rfl (lv_at hl 0 rfl) ?_
        refine lv_aload_n (pc := 14) hexec hb dX9_washedBy_14 rfl (lv_at hl 0 rfl) ?_
        refine kg_get (pc := 15) hexec hb (own := RX9) hWX9 hown hG hP 0 rfl rfl 9 (nle rfl) (hts _ (List.mem_cons_of_mem _ (List.mem_append_left _ (List.mem_append_left _ (List.mem_of_getElem? (i := 1) rfl))))) rfl rfl dX9_washedBy_15 ?_
        refine lv_iload_n (pc := 18) hexec hb dX9_washedBy_18 rfl (lv_at hl 2 rfl) ?_
        refine kr_iald (pc := 19) hexec hb hG hP 1 rfl hf dX9_washedBy_19 (fun hf => ?_)
        obtain ⟨r20, hc, hf⟩ := bd1_e hf
        refine kVp (pc := 20) (S := ⟨hexec, hb, hml, hown, hts⟩) hP hD hG hA hS [0, 2] [1] [1, 0, 2] (w2 := (w_X9_washedBy g a0 a1 a2 u0_1 u0_2 u0_3 u0_4 u0_5 u0_6 u0_7 u0_8 u0_11 u0_12 u0_13 u0_14 u0_15 u0_16 u0_17 u0_18 u0_19 u0_20 u0_21 u0_22 u0_23 u0_24 u0_25 u0_26 u0_27 u0_28 u0_29 u0_30 x0_flowLong y1_flow y2_s)) rfl rfl rfl rfl rfl rfl (by decide) (c_X9_namesIn l g a0 a2 _ u0_1 u0_2 u0_3 u0_4 u0_5 u0_6 u0_7 u0_8 (.ref a1) (.int x0_flowLong) u0_11 u0_12 u0_13 u0_14 u0_15 u0_16 u0_17 u0_18 u0_19 u0_20 u0_21 u0_22 u0_23 u0_24 u0_25 u0_26 u0_27 u0_28 u0_29 u0_30 y2_s (y1_flow v2.toNatClampNeg) r20 hc) gX9_washedBy_X9_namesIn rfl hv_X9_namesIn ⟨nle rfl, nle rfl⟩ 9 0 rfl rfl rfl (rest := [.int v1]) rfl rfl hl.1 (nle rfl) dX9_washedBy_20 (fun H locs hP hD hS => ?_)
        refine lv_ior (pc := 23) hexec hb dX9_washedBy_23 ?_
        obtain ⟨v1_2, ev1_2, hf⟩ := bv_e hf
        refine kn_i ev1_2 ?_
        refine lv_istore_n (pc := 24) hexec hb dX9_washedBy_24 rfl hl (nle rfl) rfl (fun ls (hl : lv_has ls 3 [(1, .int v1_2), (0, .ref a0), (2, .int v2)]) => ?_)
        obtain ⟨v2_1, ev2_1, hf⟩ := bv_e hf
        refine k_iinc (pc := 25) hexec hb dX9_washedBy_25 kq_1 hl (k := 2) rfl ev2_1 (nle rfl) rfl (fun ls (hl : lv_has ls 3 [(2, .int v2_1), (1, .int v1_2), (0, .ref a0)]) => ?_)
        refine lv_goto (pc := 28) hexec hb dX9_washedBy_28 (tgt := 4) rfl ?_
        exact ih4 _ _ _ _ _ (sl2 hf hk4) hP hD hS (lv_sub hl [2, 1, 0] rfl)
  exact hL4 n _ _ _ _ _ hz hP hD hS (lv_sub hl [2, 1, 0] rfl)
abbrev w_X9_flows (g : GE) (a0 a1 a2 : Nat) (u0_1 u0_2 u0_3 u0_4 u0_5 u0_6 u0_7 u0_8 u0_11 u0_12 u0_13 u0_14 u0_15 u0_16 u0_17 u0_18 u0_19 u0_20 u0_21 u0_22 u0_23 u0_24 u0_25 u0_26 u0_27 u0_28 u0_29 u0_30 : Value) (x0_flowLong : Int32) (y1_flow : Nat → Int32) (y2_s : Nat → Int32) : va_W := [(a0, .inr (9, [.ref a2, u0_1, u0_2, u0_3, u0_4, u0_5, u0_6, u0_7, u0_8, .ref a1, .int x0_flowLong, u0_11, u0_12, u0_13, u0_14, u0_15, u0_16, u0_17, u0_18, u0_19, u0_20, u0_21, u0_22, u0_23, u0_24, u0_25, u0_26, u0_27, u0_28, u0_29, u0_30])), (a1, .inl (g.2.1 0, 144, .inl y1_flow)), (a2, .inl (g.2.1 0, 552, .inl y2_s))]
noncomputable def f_X9_flows (x0_flowLong : Int32) (y1_flow : Nat → Int32) (y2_s : Nat → Int32)  : Option ((Nat → Int32)) :=
  bd1 (f_X9_washedBy x0_flowLong y1_flow y2_s) fun (r2 : Int32) =>
  bd2 (f_X9_lifts y2_s r2) fun (r5 : Int32) (y2_s_1 : Nat → Int32) =>
  ar 3 552 <|
  ar 3 552 <| bv (upd y2_s_1 (3 : Int32).toNatClampNeg ((y2_s_1 (3 : Int32).toNatClampNeg) + 1)) fun y2_s_2 =>
  bv (fun (v2 : Int32) (y2_s_3 : Nat → Int32) => ((
    (if x0_flowLong ≤ v2 then (
      some (.inr y2_s_3)
    ) else (
      ar v2 144 <|
      ar 3 552 <|
      ar (152 + (y1_flow v2.toNatClampNeg)) 552 <| bv (upd y2_s_3 (152 + (y1_flow v2.toNatClampNeg)).toNatClampNeg (y2_s_3 (3 : Int32).toNatClampNeg)) fun y2_s_5 =>
      ar v2 144 <|
      ar (296 + (y1_flow v2.toNatClampNeg)) 552 <| bv (upd y2_s_5 (296 + (y1_flow v2.toNatClampNeg)).toNatClampNeg v2) fun y2_s_6 =>
      bv (v2 + 1) fun v2_1 =>
      some (.inl (v2_1, y2_s_6))
    ))
    ) : Option ((Int32 × (Nat → Int32)) ⊕ ((Nat → Int32))))) fun l21 =>
  bd1 (lq2 l21 0 y2_s_2) fun (y2_s_4 : Nat → Int32) =>
  some y2_s_4
set_option maxRecDepth 4000 in
theorem c_X9_flows (l : Launch) (g : GE) (a0 a1 a2 : Nat) (sz : Nat) (u0_1 u0_2 u0_3 u0_4 u0_5 u0_6 u0_7 u0_8 u0_11 u0_12 u0_13 u0_14 u0_15 u0_16 u0_17 u0_18 u0_19 u0_20 u0_21 u0_22 u0_23 u0_24 u0_25 u0_26 u0_27 u0_28 u0_29 u0_30 : Value) (x0_flowLong : Int32) (y1_flow : Nat → Int32) (y2_s : Nat → Int32)  (o_y2_s : Nat → Int32) (hf : f_X9_flows x0_flowLong y1_flow y2_s = some o_y2_s) : MI l g yX9_flows wsX9_flows 7 165 [.ref a0] (w_X9_flows g a0 a1 a2 u0_1 u0_2 u0_3 u0_4 u0_5 u0_6 u0_7 u0_8 u0_11 u0_12 u0_13 u0_14 u0_15 u0_16 u0_17 u0_18 u0_19 u0_20 u0_21 u0_22 u0_23 u0_24 u0_25 u0_26 u0_27 u0_28 u0_29 u0_30 x0_flowLong y1_flow y2_s) sz none (w_X9_flows g a0 a1 a2 u0_1 u0_2 u0_3 u0_4 u0_5 u0_6 u0_7 u0_8 u0_11 u0_12 u0_13 u0_14 u0_15 u0_16 u0_17 u0_18 u0_19 u0_20 u0_21 u0_22 u0_23 u0_24 u0_25 u0_26 u0_27 u0_28 u0_29 u0_30 x0_flowLong y1_flow o_y2_s) := by
  refine MI.start (cc := cX9_flows) (maxL := 3) (ret := none) rfl rfl (nle rfl) ?_
  intro p e s m args below meth c A ls Q hQ hexec hb hr hts hown hlocks hml hA hP hD hG hS hl
  unfold f_X9_flows at hf
  have hWX9 : ∀ w ∈ wsX90, w.before args s = true := fun w h => hts w (List.mem_cons_of_mem _ (List.mem_append_right _ h))
  have hS : va_S A s.heap s.heap [] := hS
  refine lv_aload_n (pc := 0) hexec hb dX9_flows_0 rfl (lv_at hl 0 rfl) ?_
  refine lv_aload_n (pc := 1) hexec hb dX9_flows_1 rfl (lv_at hl 0 rfl) ?_
  obtain ⟨r2, hc, hf⟩ := bd1_e hf
  refine kVp (pc := 2) (S := ⟨hexec, hb, hml, hown, hts⟩) hP hD hG hA hS [0, 1, 2] [] [0, 1, 2] (w2 := (w_X9_flows g a0 a1 a2 u0_1 u0_2 u0_3 u0_4 u0_5 u0_6 u0_7 u0_8 u0_11 u0_12 u0_13 u0_14 u0_15 u0_16 u0_17 u0_18 u0_19 u0_20 u0_21 u0_22 u0_23 u0_24 u0_25 u0_26 u0_27 u0_28 u0_29 u0_30 x0_flowLong y1_flow y2_s)) rfl rfl rfl rfl rfl rfl (by decide) (c_X9_washedBy l g a0 a1 a2 _ u0_1 u0_2 u0_3 u0_4 u0_5 u0_6 u0_7 u0_8 u0_11 u0_12 u0_13 u0_14 u0_15 u0_16 u0_17 u0_18 u0_19 u0_20 u0_21 u0_22 u0_23 u0_24 u0_25 u0_26 u0_27 u0_28 u0_29 u0_30 x0_flowLong y1_flow y2_s r2 hc) gX9_flows_X9_washedBy rfl hv_X9_washedBy ⟨nle rfl, nle rfl⟩ 9 0 rfl rfl rfl (rest := [.ref a0]) rfl rfl hl.1 (nle rfl) dX9_flows_2 (fun H locs hP hD hS => ?_)
  obtain ⟨r5, y2_s_1, hc, hf⟩ := bd2_e hf
  refine kVp (pc := 5) (S := ⟨hexec, hb, hml, hown, hts⟩) hP hD hG hA hS [0, 2] [1] [1, 0, 2] (w2 := (w_X9_flows g a0 a1 a2 u0_1 u0_2 u0_3 u0_4 u0_5 u0_6 u0_7 u0_8 u0_11 u0_12 u0_13 u0_14 u0_15 u0_16 u0_17 u0_18 u0_19 u0_20 u0_21 u0_22 u0_23 u0_24 u0_25 u0_26 u0_27 u0_28 u0_29 u0_30 x0_flowLong y1_flow y2_s_1)) rfl rfl rfl rfl rfl rfl (by decide) (c_X9_lifts l g a0 a2 _ u0_1 u0_2 u0_3 u0_4 u0_5 u0_6 u0_7 u0_8 (.ref a1) (.int x0_flowLong) u0_11 u0_12 u0_13 u0_14 u0_15 u0_16 u0_17 u0_18 u0_19 u0_20 u0_21 u0_22 u0_23 u0_24 u0_25 u0_26 u0_27 u0_28 u0_29 u0_30 y2_s r2 r5 y2_s_1 hc) gX9_flows_X9_lifts rfl hv_X9_lifts ⟨nle rfl, nle rfl⟩ 9 0 rfl rfl rfl (rest := []) rfl rfl hl.1 (nle rfl) dX9_flows_5 (fun H locs hP hD hS => ?_)
  refine lv_istore_n (pc := 8) hexec hb dX9_flows_8 rfl hl (nle rfl) rfl (fun ls (hl : lv_has ls 3 [(1, .int r5), (0, .ref a0)]) => ?_)
  refine lv_aload_n (pc := 9) hexec hb dX9_flows_9 rfl (lv_at hl 1 rfl) ?_
  refine kg_get (pc := 10) hexec hb (own := RX9) hWX9 hown hG hP 0 rfl rfl 0 (nle rfl) (hts _ (List.mem_cons_of_mem _ (List.mem_append_left _ (List.mem_append_left _ (List.mem_of_getElem? (i := 0) rfl))))) rfl rfl dX9_flows_10 ?_
  refine lv_iconst (pc := 13) hexec hb dX9_flows_13 ki_3 ?_
  refine lv_dup2_11 (pc := 14) hexec hb dX9_flows_14 rfl rfl ?_
  refine kr_iald (pc := 15) hexec hb hG hP 2 rfl hf dX9_flows_15 (fun hf => ?_)
  refine lv_iconst (pc := 16) hexec hb dX9_flows_16 ki_1 ?_
  refine lv_iadd (pc := 17) hexec hb dX9_flows_17 ?_
  refine kw_iast (pc := 18) hexec hb hG hP hD hS 2 rfl hf dX9_flows_18 (fun y2_s_2 H locs hf (hP : va_P g.1 vwCl (w_X9_flows g a0 a1 a2 u0_1 u0_2 u0_3 u0_4 u0_5 u0_6 u0_7 u0_8 u0_11 u0_12 u0_13 u0_14 u0_15 u0_16 u0_17 u0_18 u0_19 u0_20 u0_21 u0_22 u0_23 u0_24 u0_25 u0_26 u0_27 u0_28 u0_29 u0_30 x0_flowLong y1_flow y2_s_2) H) (hD : va_D A (w_X9_flows g a0 a1 a2 u0_1 u0_2 u0_3 u0_4 u0_5 u0_6 u0_7 u0_8 u0_11 u0_12 u0_13 u0_14 u0_15 u0_16 u0_17 u0_18 u0_19 u0_20 u0_21 u0_22 u0_23 u0_24 u0_25 u0_26 u0_27 u0_28 u0_29 u0_30 x0_flowLong y1_flow y2_s_2)) hS => ?_)
  refine lv_iconst (pc := 19) hexec hb dX9_flows_19 ki_0 ?_
  refine lv_istore_n (pc := 20) hexec hb dX9_flows_20 rfl hl (nle rfl) rfl (fun ls (hl : lv_has ls 3 [(2, .int 0), (1, .int r5), (0, .ref a0)]) => ?_)
  obtain ⟨l21, el21, hf⟩ := bvf2 hf
  obtain ⟨y2_s_4, hz, hf⟩ := bd1_e hf
  have hE21 : ∀ (H : Heap) (locs : List Loc) (ls : Array Slot), va_P g.1 vwCl (w_X9_flows g a0 a1 a2 u0_1 u0_2 u0_3 u0_4 u0_5 u0_6 u0_7 u0_8 u0_11 u0_12 u0_13 u0_14 u0_15 u0_16 u0_17 u0_18 u0_19 u0_20 u0_21 u0_22 u0_23 u0_24 u0_25 u0_26 u0_27 u0_28 u0_29 u0_30 x0_flowLong y1_flow y2_s_4) H → va_D A (w_X9_flows g a0 a1 a2 u0_1 u0_2 u0_3 u0_4 u0_5 u0_6 u0_7 u0_8 u0_11 u0_12 u0_13 u0_14 u0_15 u0_16 u0_17 u0_18 u0_19 u0_20 u0_21 u0_22 u0_23 u0_24 u0_25 u0_26 u0_27 u0_28 u0_29 u0_30 x0_flowLong y1_flow y2_s_4) → va_S A s.heap H locs → lv_has ls 3 [] → W p l e (RM 7 165) s m args below meth c H locs 0 0 Q (F0 m 72 ls []) := by
    intro H locs ls hP hD hS hl
    cases hf
    exact ke_v hQ hexec hb hr hP hD hS dX9_flows_72 hlocks
  obtain ⟨n, hz⟩ := lq2_e hz
  have hL21 : ∀ (n : Nat) (v2 : Int32) (y2_s_3 : Nat → Int32) (H : Heap) (locs : List Loc) (ls : Array Slot), it2 l21 n v2 y2_s_3 = some y2_s_4 → va_P g.1 vwCl (w_X9_flows g a0 a1 a2 u0_1 u0_2 u0_3 u0_4 u0_5 u0_6 u0_7 u0_8 u0_11 u0_12 u0_13 u0_14 u0_15 u0_16 u0_17 u0_18 u0_19 u0_20 u0_21 u0_22 u0_23 u0_24 u0_25 u0_26 u0_27 u0_28 u0_29 u0_30 x0_flowLong y1_flow y2_s_3) H → va_D A (w_X9_flows g a0 a1 a2 u0_1 u0_2 u0_3 u0_4 u0_5 u0_6 u0_7 u0_8 u0_11 u0_12 u0_13 u0_14 u0_15 u0_16 u0_17 u0_18 u0_19 u0_20 u0_21 u0_22 u0_23 u0_24 u0_25 u0_26 u0_27 u0_28 u0_29 u0_30 x0_flowLong y1_flow y2_s_3) → va_S A s.heap H locs → lv_has ls 3 [(0, .ref a0), (2, .int v2)] → W p l e (RM 7 165) s m args below meth c H locs 0 0 Q (F0 m 21 ls []) := by
    intro n
    induction n with
    | zero =>
      intro v2 y2_s_3 H locs ls hf hP hD hS hl
      exact it2_0 hf
    | succ n21 ih21 =>
      intro v2 y2_s_3 H locs ls hf hP hD hS hl
      obtain ⟨q21, hf, hk21⟩ := it2_e hf
      have hf := (el21 v2 y2_s_3).symm.trans hf
      refine lv_iload_n (pc := 21) hexec hb dX9_flows_21 rfl (lv_at hl 1 rfl) ?_
      refine lv_aload_n (pc := 22) hexec hb dX9_flows_22 rfl (lv_at hl 0 rfl) ?_
      refine kg_get (pc := 23) hexec hb (own := RX9) hWX9 hown hG hP 0 rfl rfl 10 (nle rfl) (hts _ (List.mem_cons_of_mem _ (List.mem_append_left _ (List.mem_append_left _ (List.mem_of_getElem? (i := 1) rfl))))) rfl rfl dX9_flows_23 ?_
      refine ki_ge (pc := 26) hexec hb dX9_flows_26 (tgt := 72) rfl hf (fun hc hf => ?_) (fun hc hf => ?_)
      · cases sr2 hf hk21
        exact hE21 _ _ _ hP hD hS (lv_sub hl [] rfl)
      · refine lv_aload_n (pc := 29) hexec hb dX9_flows_29 rfl (lv_at hl 0 rfl) ?_
        refine kg_get (pc := 30) hexec hb (own := RX9) hWX9 hown hG hP 0 rfl rfl 0 (nle rfl) (hts _ (List.mem_cons_of_mem _ (List.mem_append_left _ (List.mem_append_left _ (List.mem_of_getElem? (i := 0) rfl))))) rfl rfl dX9_flows_30 ?_
        refine lv_sipush (pc := 33) hexec hb dX9_flows_33 ks_152 ?_
        refine lv_aload_n (pc := 36) hexec hb dX9_flows_36 rfl (lv_at hl 0 rfl) ?_
        refine kg_get (pc := 37) hexec hb (own := RX9) hWX9 hown hG hP 0 rfl rfl 9 (nle rfl) (hts _ (List.mem_cons_of_mem _ (List.mem_append_left _ (List.mem_append_left _ (List.mem_of_getElem? (i := 2) rfl))))) rfl rfl dX9_flows_37 ?_
        refine lv_iload_n (pc := 40) hexec hb dX9_flows_40 rfl (lv_at hl 1 rfl) ?_
        refine kr_iald (pc := 41) hexec hb hG hP 1 rfl hf dX9_flows_41 (fun hf => ?_)
        refine lv_iadd (pc := 42) hexec hb dX9_flows_42 ?_
        refine lv_aload_n (pc := 43) hexec hb dX9_flows_43 rfl (lv_at hl 0 rfl) ?_
        refine kg_get (pc := 44) hexec hb (own := RX9) hWX9 hown hG hP 0 rfl rfl 0 (nle rfl) (hts _ (List.mem_cons_of_mem _ (List.mem_append_left _ (List.mem_append_left _ (List.mem_of_getElem? (i := 0) rfl))))) rfl rfl dX9_flows_44 ?_
        refine lv_iconst (pc := 47) hexec hb dX9_flows_47 ki_3 ?_
        refine kr_iald (pc := 48) hexec hb hG hP 2 rfl hf dX9_flows_48 (fun hf => ?_)
        refine kw_iast (pc := 49) hexec hb hG hP hD hS 2 rfl hf dX9_flows_49 (fun y2_s_5 H locs hf (hP : va_P g.1 vwCl (w_X9_flows g a0 a1 a2 u0_1 u0_2 u0_3 u0_4 u0_5 u0_6 u0_7 u0_8 u0_11 u0_12 u0_13 u0_14 u0_15 u0_16 u0_17 u0_18 u0_19 u0_20 u0_21 u0_22 u0_23 u0_24 u0_25 u0_26 u0_27 u0_28 u0_29 u0_30 x0_flowLong y1_flow y2_s_5) H) (hD : va_D A (w_X9_flows g a0 a1 a2 u0_1 u0_2 u0_3 u0_4 u0_5 u0_6 u0_7 u0_8 u0_11 u0_12 u0_13 u0_14 u0_15 u0_16 u0_17 u0_18 u0_19 u0_20 u0_21 u0_22 u0_23 u0_24 u0_25 u0_26 u0_27 u0_28 u0_29 u0_30 x0_flowLong y1_flow y2_s_5)) hS => ?_)
        refine lv_aload_n (pc := 50) hexec hb dX9_flows_50 rfl (lv_at hl 0 rfl) ?_
        refine kg_get (pc := 51) hexec hb (own := RX9) hWX9 hown hG hP 0 rfl rfl 0 (nle rfl) (hts _ (List.mem_cons_of_mem _ (List.mem_append_left _ (List.mem_append_left _ (List.mem_of_getElem? (i := 0) rfl))))) rfl rfl dX9_flows_51 ?_
        refine lv_sipush (pc := 54) hexec hb dX9_flows_54 ks_296 ?_
        refine lv_aload_n (pc := 57) hexec hb dX9_flows_57 rfl (lv_at hl 0 rfl) ?_
        refine kg_get (pc := 58) hexec hb (own := RX9) hWX9 hown hG hP 0 rfl rfl 9 (nle rfl) (hts _ (List.mem_cons_of_mem _ (List.mem_append_left _ (List.mem_append_left _ (List.mem_of_getElem? (i := 2) rfl))))) rfl rfl dX9_flows_58 ?_
        refine lv_iload_n (pc := 61) hexec hb dX9_flows_61 rfl (lv_at hl 1 rfl) ?_
        refine kr_iald (pc := 62) hexec hb hG hP 1 rfl hf dX9_flows_62 (fun hf => ?_)
        refine lv_iadd (pc := 63) hexec hb dX9_flows_63 ?_
        refine lv_iload_n (pc := 64) hexec hb dX9_flows_64 rfl (lv_at hl 1 rfl) ?_
        refine kw_iast (pc := 65) hexec hb hG hP hD hS 2 rfl hf dX9_flows_65 (fun y2_s_6 H locs hf (hP : va_P g.1 vwCl (w_X9_flows g a0 a1 a2 u0_1 u0_2 u0_3 u0_4 u0_5 u0_6 u0_7 u0_8 u0_11 u0_12 u0_13 u0_14 u0_15 u0_16 u0_17 u0_18 u0_19 u0_20 u0_21 u0_22 u0_23 u0_24 u0_25 u0_26 u0_27 u0_28 u0_29 u0_30 x0_flowLong y1_flow y2_s_6) H) (hD : va_D A (w_X9_flows g a0 a1 a2 u0_1 u0_2 u0_3 u0_4 u0_5 u0_6 u0_7 u0_8 u0_11 u0_12 u0_13 u0_14 u0_15 u0_16 u0_17 u0_18 u0_19 u0_20 u0_21 u0_22 u0_23 u0_24 u0_25 u0_26 u0_27 u0_28 u0_29 u0_30 x0_flowLong y1_flow y2_s_6)) hS => ?_)
        obtain ⟨v2_1, ev2_1, hf⟩ := bv_e hf
        refine k_iinc (pc := 66) hexec hb dX9_flows_66 kq_1 hl (k := 1) rfl ev2_1 (nle rfl) rfl (fun ls (hl : lv_has ls 3 [(2, .int v2_1), (0, .ref a0)]) => ?_)
        refine lv_goto (pc := 69) hexec hb dX9_flows_69 (tgt := 21) rfl ?_
        exact ih21 _ _ _ _ _ (sl2 hf hk21) hP hD hS (lv_sub hl [1, 0] rfl)
  exact hL21 n _ _ _ _ _ hz hP hD hS (lv_sub hl [2, 0] rfl)
abbrev w_X9_quarters (g : GE) : va_W := []
noncomputable def f_X9_quarters  (p0 : Int32) (p1 : Int32) : Option (Int32) :=
  bv (if 0 ≤ (p0 - p1) then (p0 - p1) else 0 - (p0 - p1)) fun v2 =>
  some (if (4 - v2) < v2 then (4 - v2) else v2)
set_option maxRecDepth 4000 in
theorem c_X9_quarters (l : Launch) (g : GE) (sz : Nat)  (p0 : Int32) (p1 : Int32) (r : Int32) (hf : f_X9_quarters p0 p1 = some r) : MI l g yX9_quarters wsX9_quarters 1 24 [.int p0, .int p1] (w_X9_quarters g ) sz (some (.int r)) (w_X9_quarters g ) := by
  refine MI.start (cc := cX9_quarters) (maxL := 3) (ret := (some .int)) rfl rfl (nle rfl) ?_
  intro p e s m args below meth c A ls Q hQ hexec hb hr hts hown hlocks hml hA hP hD hG hS hl
  unfold f_X9_quarters at hf
  have hS : va_S A s.heap s.heap [] := hS
  refine lv_iload_n (pc := 0) hexec hb dX9_quarters_0 rfl (lv_at hl 0 rfl) ?_
  refine lv_iload_n (pc := 1) hexec hb dX9_quarters_1 rfl (lv_at hl 1 rfl) ?_
  refine lv_isub (pc := 2) hexec hb dX9_quarters_2 ?_
  refine va_mabs (pc := 3) hexec hb (hml.trans hl.1.symm) (own := RX9) hown (hts _ (List.mem_cons_of_mem _ (List.mem_of_getElem? (i := 0) rfl))) (hts _ (List.mem_cons_of_mem _ (List.mem_of_getElem? (i := 1) rfl))) (hts _ (List.mem_cons_of_mem _ (List.mem_of_getElem? (i := 2) rfl))) (hts _ (List.mem_cons_of_mem _ (List.mem_of_getElem? (i := 3) rfl))) (nle rfl) (nle rfl) (nle rfl) (nle rfl) dX9_quarters_3 ?_
  obtain ⟨v2, ev2, hf⟩ := bv_e hf
  refine kn_i ev2 ?_
  refine lv_istore_n (pc := 6) hexec hb dX9_quarters_6 rfl hl (nle rfl) rfl (fun ls (hl : lv_has ls 3 [(2, .int v2), (0, .int p0), (1, .int p1)]) => ?_)
  refine lv_iload_n (pc := 7) hexec hb dX9_quarters_7 rfl (lv_at hl 0 rfl) ?_
  refine lv_iconst (pc := 8) hexec hb dX9_quarters_8 ki_4 ?_
  refine lv_iload_n (pc := 9) hexec hb dX9_quarters_9 rfl (lv_at hl 0 rfl) ?_
  refine lv_isub (pc := 10) hexec hb dX9_quarters_10 ?_
  refine va_mmin (pc := 11) hexec hb (hml.trans hl.1.symm) (own := RX9) hown (hts _ (List.mem_cons_of_mem _ (List.mem_of_getElem? (i := 4) rfl))) (hts _ (List.mem_cons_of_mem _ (List.mem_of_getElem? (i := 5) rfl))) (hts _ (List.mem_cons_of_mem _ (List.mem_of_getElem? (i := 2) rfl))) (hts _ (List.mem_cons_of_mem _ (List.mem_of_getElem? (i := 6) rfl))) (nle rfl) (nle rfl) (nle rfl) (nle rfl) dX9_quarters_11 ?_
  cases hf
  exact ke_i hQ hexec hb hr hP hD hS dX9_quarters_14 hlocks
abbrev w_X9_uprightBy (g : GE) : va_W := []
noncomputable def f_X9_uprightBy  (p0 : Int32) : Option (Int32) :=
  some ((p0 + 3) - (p0 + 3) / 4 * 4)
set_option maxRecDepth 4000 in
theorem c_X9_uprightBy (l : Launch) (g : GE) (sz : Nat)  (p0 : Int32) (r : Int32) (hf : f_X9_uprightBy p0 = some r) : MI l g yX9_uprightBy wsX9_uprightBy 1 24 [.int p0] (w_X9_uprightBy g ) sz (some (.int r)) (w_X9_uprightBy g ) := by
  refine MI.start (cc := cX9_uprightBy) (maxL := 1) (ret := (some .int)) rfl rfl (nle rfl) ?_
  intro p e s m args below meth c A ls Q hQ hexec hb hr hts hown hlocks hml hA hP hD hG hS hl
  unfold f_X9_uprightBy at hf
  have hS : va_S A s.heap s.heap [] := hS
  refine lv_iload_n (pc := 0) hexec hb dX9_uprightBy_0 rfl (lv_at hl 0 rfl) ?_
  refine lv_iconst (pc := 1) hexec hb dX9_uprightBy_1 ki_3 ?_
  refine lv_iadd (pc := 2) hexec hb dX9_uprightBy_2 ?_
  refine lv_iconst (pc := 3) hexec hb dX9_uprightBy_3 ki_4 ?_
  refine lv_irem (pc := 4) hexec hb dX9_uprightBy_4 (by decide) ?_
  cases hf
  exact ke_i hQ hexec hb hr hP hD hS dX9_uprightBy_5 hlocks
abbrev w_X9_turningBy (g : GE) (a0 a1 a2 : Nat) (u0_1 u0_2 u0_3 u0_4 u0_5 u0_6 u0_7 u0_8 u0_9 u0_10 u0_12 u0_13 u0_14 u0_15 u0_16 u0_17 u0_18 u0_19 u0_20 u0_21 u0_22 u0_23 u0_24 u0_25 u0_26 u0_27 u0_28 u0_29 u0_30 : Value) (y1_s : Nat → Int32) (y2_ways : Nat → Int32) : va_W := [(a0, .inr (9, [.ref a1, u0_1, u0_2, u0_3, u0_4, u0_5, u0_6, u0_7, u0_8, u0_9, u0_10, .ref a2, u0_12, u0_13, u0_14, u0_15, u0_16, u0_17, u0_18, u0_19, u0_20, u0_21, u0_22, u0_23, u0_24, u0_25, u0_26, u0_27, u0_28, u0_29, u0_30])), (a1, .inl (g.2.1 0, 552, .inl y1_s)), (a2, .inl (g.2.1 0, 8, .inl y2_ways))]
noncomputable def f_X9_turningBy (y1_s : Nat → Int32) (y2_ways : Nat → Int32) (p1 : Int32) : Option (Int32) :=
  bv (fun (v2 : Int32) (v3 : Int32) (v4 : Int32) => ((
    ar 4 552 <|
    (if (y1_s (4 : Int32).toNatClampNeg) ≤ v4 then (
      some (.inr v3)
    ) else (
      ar (536 + v4) 552 <|
      ar (y1_s (536 + v4).toNatClampNeg) 8 <|
      bv (y2_ways (y1_s (536 + v4).toNatClampNeg).toNatClampNeg) fun v5 =>
      bv (fun (v2_1 : Int32) (v3_2 : Int32) => ((
        bv (v4 + 1) fun v4_1 =>
        some (.inl (v2_1, v3_2, v4_1))
        ) : Option ((Int32 × Int32 × Int32) ⊕ (Int32)))) fun j60 =>
      (if v5 = (-1) then (
        j60 v2 v3
      ) else (
        bd1 (f_X9_uprightBy v5) fun (r46 : Int32) =>
        bd1 (f_X9_quarters v2 r46) fun (r49 : Int32) =>
        bv (v3 + r49) fun v3_3 =>
        bd1 (f_X9_uprightBy v5) fun (r56 : Int32) =>
        j60 r56 v3_3
      ))
    ))
    ) : Option ((Int32 × Int32 × Int32) ⊕ (Int32)))) fun l7 =>
  bd1 (lq3 l7 p1 0 0) fun (v3_1 : Int32) =>
  some v3_1
set_option maxRecDepth 4000 in
theorem c_X9_turningBy (l : Launch) (g : GE) (a0 a1 a2 : Nat) (sz : Nat) (u0_1 u0_2 u0_3 u0_4 u0_5 u0_6 u0_7 u0_8 u0_9 u0_10 u0_12 u0_13 u0_14 u0_15 u0_16 u0_17 u0_18 u0_19 u0_20 u0_21 u0_22 u0_23 u0_24 u0_25 u0_26 u0_27 u0_28 u0_29 u0_30 : Value) (y1_s : Nat → Int32) (y2_ways : Nat → Int32) (p1 : Int32) (r : Int32) (hf : f_X9_turningBy y1_s y2_ways p1 = some r) : MI l g yX9_turningBy wsX9_turningBy 2 46 [.ref a0, .int p1] (w_X9_turningBy g a0 a1 a2 u0_1 u0_2 u0_3 u0_4 u0_5 u0_6 u0_7 u0_8 u0_9 u0_10 u0_12 u0_13 u0_14 u0_15 u0_16 u0_17 u0_18 u0_19 u0_20 u0_21 u0_22 u0_23 u0_24 u0_25 u0_26 u0_27 u0_28 u0_29 u0_30 y1_s y2_ways) sz (some (.int r)) (w_X9_turningBy g a0 a1 a2 u0_1 u0_2 u0_3 u0_4 u0_5 u0_6 u0_7 u0_8 u0_9 u0_10 u0_12 u0_13 u0_14 u0_15 u0_16 u0_17 u0_18 u0_19 u0_20 u0_21 u0_22 u0_23 u0_24 u0_25 u0_26 u0_27 u0_28 u0_29 u0_30 y1_s y2_ways) := by
  refine MI.start (cc := cX9_turningBy) (maxL := 6) (ret := (some .int)) rfl rfl (nle rfl) ?_
  intro p e s m args below meth c A ls Q hQ hexec hb hr hts hown hlocks hml hA hP hD hG hS hl
  unfold f_X9_turningBy at hf
  have hWX9 : ∀ w ∈ wsX90, w.before args s = true := fun w h => hts w (List.mem_cons_of_mem _ (List.mem_append_right _ h))
  have hS : va_S A s.heap s.heap [] := hS
  refine lv_iload_n (pc := 0) hexec hb dX9_turningBy_0 rfl (lv_at hl 1 rfl) ?_
  refine lv_istore_n (pc := 1) hexec hb dX9_turningBy_1 rfl hl (nle rfl) rfl (fun ls (hl : lv_has ls 6 [(2, .int p1), (0, .ref a0), (1, .int p1)]) => ?_)
  refine lv_iconst (pc := 2) hexec hb dX9_turningBy_2 ki_0 ?_
  refine lv_istore_n (pc := 3) hexec hb dX9_turningBy_3 rfl hl (nle rfl) rfl (fun ls (hl : lv_has ls 6 [(3, .int 0), (2, .int p1), (0, .ref a0), (1, .int p1)]) => ?_)
  refine lv_iconst (pc := 4) hexec hb dX9_turningBy_4 ki_0 ?_
  refine lv_istore (pc := 5) hexec hb dX9_turningBy_5 hl (nle rfl) rfl (fun ls (hl : lv_has ls 6 [(4, .int 0), (3, .int 0), (2, .int p1), (0, .ref a0), (1, .int p1)]) => ?_)
  obtain ⟨l7, el7, hf⟩ := bvf3 hf
  obtain ⟨v3_1, hz, hf⟩ := bd1_e hf
  have hE7 : ∀ (H : Heap) (locs : List Loc) (ls : Array Slot), va_P g.1 vwCl (w_X9_turningBy g a0 a1 a2 u0_1 u0_2 u0_3 u0_4 u0_5 u0_6 u0_7 u0_8 u0_9 u0_10 u0_12 u0_13 u0_14 u0_15 u0_16 u0_17 u0_18 u0_19 u0_20 u0_21 u0_22 u0_23 u0_24 u0_25 u0_26 u0_27 u0_28 u0_29 u0_30 y1_s y2_ways) H → va_D A (w_X9_turningBy g a0 a1 a2 u0_1 u0_2 u0_3 u0_4 u0_5 u0_6 u0_7 u0_8 u0_9 u0_10 u0_12 u0_13 u0_14 u0_15 u0_16 u0_17 u0_18 u0_19 u0_20 u0_21 u0_22 u0_23 u0_24 u0_25 u0_26 u0_27 u0_28 u0_29 u0_30 y1_s y2_ways) → va_S A s.heap H locs → lv_has ls 6 [(3, .int v3_1)] → W p l e (RM 2 46) s m args below meth c H locs 0 0 Q (F0 m 66 ls []) := by
    intro H locs ls hP hD hS hl
    refine lv_iload_n (pc := 66) hexec hb dX9_turningBy_66 rfl (lv_at hl 0 rfl) ?_
    cases hf
    exact ke_i hQ hexec hb hr hP hD hS dX9_turningBy_67 hlocks
  obtain ⟨n, hz⟩ := lq3_e hz
  have hL7 : ∀ (n : Nat) (v2 : Int32) (v3 : Int32) (v4 : Int32) (H : Heap) (locs : List Loc) (ls : Array Slot), it3 l7 n v2 v3 v4 = some v3_1 → va_P g.1 vwCl (w_X9_turningBy g a0 a1 a2 u0_1 u0_2 u0_3 u0_4 u0_5 u0_6 u0_7 u0_8 u0_9 u0_10 u0_12 u0_13 u0_14 u0_15 u0_16 u0_17 u0_18 u0_19 u0_20 u0_21 u0_22 u0_23 u0_24 u0_25 u0_26 u0_27 u0_28 u0_29 u0_30 y1_s y2_ways) H → va_D A (w_X9_turningBy g a0 a1 a2 u0_1 u0_2 u0_3 u0_4 u0_5 u0_6 u0_7 u0_8 u0_9 u0_10 u0_12 u0_13 u0_14 u0_15 u0_16 u0_17 u0_18 u0_19 u0_20 u0_21 u0_22 u0_23 u0_24 u0_25 u0_26 u0_27 u0_28 u0_29 u0_30 y1_s y2_ways) → va_S A s.heap H locs → lv_has ls 6 [(0, .ref a0), (2, .int v2), (3, .int v3), (4, .int v4)] → W p l e (RM 2 46) s m args below meth c H locs 0 0 Q (F0 m 7 ls []) := by
    intro n
    induction n with
    | zero =>
      intro v2 v3 v4 H locs ls hf hP hD hS hl
      exact it3_0 hf
    | succ n7 ih7 =>
      intro v2 v3 v4 H locs ls hf hP hD hS hl
      obtain ⟨q7, hf, hk7⟩ := it3_e hf
      have hf := (el7 v2 v3 v4).symm.trans hf
      refine lv_iload (pc := 7) hexec hb dX9_turningBy_7 (lv_at hl 3 rfl) ?_
      refine lv_aload_n (pc := 9) hexec hb dX9_turningBy_9 rfl (lv_at hl 0 rfl) ?_
      refine kg_get (pc := 10) hexec hb (own := RX9) hWX9 hown hG hP 0 rfl rfl 0 (nle rfl) (hts _ (List.mem_cons_of_mem _ (List.mem_append_left _ (List.mem_of_getElem? (i := 0) rfl)))) rfl rfl dX9_turningBy_10 ?_
      refine lv_iconst (pc := 13) hexec hb dX9_turningBy_13 ki_4 ?_
      refine kr_iald (pc := 14) hexec hb hG hP 1 rfl hf dX9_turningBy_14 (fun hf => ?_)
      refine ki_ge (pc := 15) hexec hb dX9_turningBy_15 (tgt := 66) rfl hf (fun hc hf => ?_) (fun hc hf => ?_)
      · cases sr3 hf hk7
        exact hE7 _ _ _ hP hD hS (lv_sub hl [2] rfl)
      · refine lv_aload_n (pc := 18) hexec hb dX9_turningBy_18 rfl (lv_at hl 0 rfl) ?_
        refine kg_get (pc := 19) hexec hb (own := RX9) hWX9 hown hG hP 0 rfl rfl 11 (nle rfl) (hts _ (List.mem_cons_of_mem _ (List.mem_append_left _ (List.mem_of_getElem? (i := 1) rfl)))) rfl rfl dX9_turningBy_19 ?_
        refine lv_aload_n (pc := 22) hexec hb dX9_turningBy_22 rfl (lv_at hl 0 rfl) ?_
        refine kg_get (pc := 23) hexec hb (own := RX9) hWX9 hown hG hP 0 rfl rfl 0 (nle rfl) (hts _ (List.mem_cons_of_mem _ (List.mem_append_left _ (List.mem_of_getElem? (i := 0) rfl)))) rfl rfl dX9_turningBy_23 ?_
        refine lv_sipush (pc := 26) hexec hb dX9_turningBy_26 ks_536 ?_
        refine lv_iload (pc := 29) hexec hb dX9_turningBy_29 (lv_at hl 3 rfl) ?_
        refine lv_iadd (pc := 31) hexec hb dX9_turningBy_31 ?_
        refine kr_iald (pc := 32) hexec hb hG hP 1 rfl hf dX9_turningBy_32 (fun hf => ?_)
        refine kr_iald (pc := 33) hexec hb hG hP 2 rfl hf dX9_turningBy_33 (fun hf => ?_)
        obtain ⟨v5, ev5, hf⟩ := bv_e hf
        refine kn_i ev5 ?_
        refine lv_istore (pc := 34) hexec hb dX9_turningBy_34 hl (nle rfl) rfl (fun ls (hl : lv_has ls 6 [(5, .int v5), (0, .ref a0), (2, .int v2), (3, .int v3), (4, .int v4)]) => ?_)
        refine lv_iload (pc := 36) hexec hb dX9_turningBy_36 (lv_at hl 0 rfl) ?_
        refine lv_iconst (pc := 38) hexec hb dX9_turningBy_38 ki_m1 ?_
        obtain ⟨j60, ej60, hf⟩ := bvf2 hf
        have hj60 : ∀ (v2_1 : Int32) (v3_2 : Int32) (H : Heap) (locs : List Loc) (ls : Array Slot), j60 v2_1 v3_2 = some q7 → va_P g.1 vwCl (w_X9_turningBy g a0 a1 a2 u0_1 u0_2 u0_3 u0_4 u0_5 u0_6 u0_7 u0_8 u0_9 u0_10 u0_12 u0_13 u0_14 u0_15 u0_16 u0_17 u0_18 u0_19 u0_20 u0_21 u0_22 u0_23 u0_24 u0_25 u0_26 u0_27 u0_28 u0_29 u0_30 y1_s y2_ways) H → va_D A (w_X9_turningBy g a0 a1 a2 u0_1 u0_2 u0_3 u0_4 u0_5 u0_6 u0_7 u0_8 u0_9 u0_10 u0_12 u0_13 u0_14 u0_15 u0_16 u0_17 u0_18 u0_19 u0_20 u0_21 u0_22 u0_23 u0_24 u0_25 u0_26 u0_27 u0_28 u0_29 u0_30 y1_s y2_ways) → va_S A s.heap H locs → lv_has ls 6 [(0, .ref a0), (2, .int v2_1), (3, .int v3_2), (4, .int v4)] → W p l e (RM 2 46) s m args below meth c H locs 0 0 Q (F0 m 60 ls []) := by
          intro v2_1 v3_2 H locs ls hf hP hD hS hl
          have hf := (ej60 v2_1 v3_2).symm.trans hf
          obtain ⟨v4_1, ev4_1, hf⟩ := bv_e hf
          refine k_iinc (pc := 60) hexec hb dX9_turningBy_60 kq_1 hl (k := 3) rfl ev4_1 (nle rfl) rfl (fun ls (hl : lv_has ls 6 [(4, .int v4_1), (0, .ref a0), (2, .int v2_1), (3, .int v3_2)]) => ?_)
          refine lv_goto (pc := 63) hexec hb dX9_turningBy_63 (tgt := 7) rfl ?_
          exact ih7 _ _ _ _ _ _ (sl3 hf hk7) hP hD hS (lv_sub hl [1, 2, 3, 0] rfl)
        refine ki_eq (pc := 39) hexec hb dX9_turningBy_39 (tgt := 60) rfl hf (fun hc hf => ?_) (fun hc hf => ?_)
        · exact hj60 _ _ _ _ _ hf hP hD hS (lv_sub hl [1, 2, 3, 4] rfl)
        · refine lv_iload_n (pc := 42) hexec hb dX9_turningBy_42 rfl (lv_at hl 3 rfl) ?_
          refine lv_iload_n (pc := 43) hexec hb dX9_turningBy_43 rfl (lv_at hl 2 rfl) ?_
          refine lv_iload (pc := 44) hexec hb dX9_turningBy_44 (lv_at hl 0 rfl) ?_
          obtain ⟨r46, hc, hf⟩ := bd1_e hf
          refine kSp (pc := 46) (S := ⟨hexec, hb, hml, hown, hts⟩) hP hD hG hA hS [] [0, 1, 2] [0, 1, 2] (w2 := (w_X9_turningBy g a0 a1 a2 u0_1 u0_2 u0_3 u0_4 u0_5 u0_6 u0_7 u0_8 u0_9 u0_10 u0_12 u0_13 u0_14 u0_15 u0_16 u0_17 u0_18 u0_19 u0_20 u0_21 u0_22 u0_23 u0_24 u0_25 u0_26 u0_27 u0_28 u0_29 u0_30 y1_s y2_ways)) rfl rfl rfl rfl rfl rfl (by decide) (c_X9_uprightBy l g _ v5 r46 hc) gX9_turningBy_X9_uprightBy rfl hs_X9_uprightBy ⟨nle rfl, nle rfl⟩ (rest := [.int v2, .int v3]) rfl rfl hl.1 (nle rfl) dX9_turningBy_46 (fun H locs hP hD hS => ?_)
          obtain ⟨r49, hc, hf⟩ := bd1_e hf
          refine kSp (pc := 49) (S := ⟨hexec, hb, hml, hown, hts⟩) hP hD hG hA hS [] [0, 1, 2] [0, 1, 2] (w2 := (w_X9_turningBy g a0 a1 a2 u0_1 u0_2 u0_3 u0_4 u0_5 u0_6 u0_7 u0_8 u0_9 u0_10 u0_12 u0_13 u0_14 u0_15 u0_16 u0_17 u0_18 u0_19 u0_20 u0_21 u0_22 u0_23 u0_24 u0_25 u0_26 u0_27 u0_28 u0_29 u0_30 y1_s y2_ways)) rfl rfl rfl rfl rfl rfl (by decide) (c_X9_quarters l g _ v2 r46 r49 hc) gX9_turningBy_X9_quarters rfl hs_X9_quarters ⟨nle rfl, nle rfl⟩ (rest := [.int v3]) rfl rfl hl.1 (nle rfl) dX9_turningBy_49 (fun H locs hP hD hS => ?_)
          refine lv_iadd (pc := 52) hexec hb dX9_turningBy_52 ?_
          obtain ⟨v3_3, ev3_3, hf⟩ := bv_e hf
          refine kn_i ev3_3 ?_
          refine lv_istore_n (pc := 53) hexec hb dX9_turningBy_53 rfl hl (nle rfl) rfl (fun ls (hl : lv_has ls 6 [(3, .int v3_3), (5, .int v5), (0, .ref a0), (2, .int v2), (4, .int v4)]) => ?_)
          refine lv_iload (pc := 54) hexec hb dX9_turningBy_54 (lv_at hl 1 rfl) ?_
          obtain ⟨r56, hc, hf⟩ := bd1_e hf
          refine kSp (pc := 56) (S := ⟨hexec, hb, hml, hown, hts⟩) hP hD hG hA hS [] [0, 1, 2] [0, 1, 2] (w2 := (w_X9_turningBy g a0 a1 a2 u0_1 u0_2 u0_3 u0_4 u0_5 u0_6 u0_7 u0_8 u0_9 u0_10 u0_12 u0_13 u0_14 u0_15 u0_16 u0_17 u0_18 u0_19 u0_20 u0_21 u0_22 u0_23 u0_24 u0_25 u0_26 u0_27 u0_28 u0_29 u0_30 y1_s y2_ways)) rfl rfl rfl rfl rfl rfl (by decide) (c_X9_uprightBy l g _ v5 r56 hc) gX9_turningBy_X9_uprightBy rfl hs_X9_uprightBy ⟨nle rfl, nle rfl⟩ (rest := []) rfl rfl hl.1 (nle rfl) dX9_turningBy_56 (fun H locs hP hD hS => ?_)
          refine lv_istore_n (pc := 59) hexec hb dX9_turningBy_59 rfl hl (nle rfl) rfl (fun ls (hl : lv_has ls 6 [(2, .int r56), (3, .int v3_3), (5, .int v5), (0, .ref a0), (4, .int v4)]) => ?_)
          exact hj60 _ _ _ _ _ hf hP hD hS (lv_sub hl [3, 0, 1, 4] rfl)
  exact hL7 n _ _ _ _ _ _ hz hP hD hS (lv_sub hl [3, 2, 1, 0] rfl)
abbrev w_X9_turningNow (g : GE) (a0 a1 a2 : Nat) (u0_1 u0_2 u0_3 u0_4 u0_5 u0_6 u0_7 u0_8 u0_9 u0_10 u0_12 u0_13 u0_14 u0_15 u0_16 u0_17 u0_18 u0_19 u0_20 u0_21 u0_22 u0_23 u0_24 u0_25 u0_26 u0_27 u0_28 u0_29 u0_30 : Value) (y1_s : Nat → Int32) (y2_ways : Nat → Int32) : va_W := [(a0, .inr (9, [.ref a1, u0_1, u0_2, u0_3, u0_4, u0_5, u0_6, u0_7, u0_8, u0_9, u0_10, .ref a2, u0_12, u0_13, u0_14, u0_15, u0_16, u0_17, u0_18, u0_19, u0_20, u0_21, u0_22, u0_23, u0_24, u0_25, u0_26, u0_27, u0_28, u0_29, u0_30])), (a1, .inl (g.2.1 0, 552, .inl y1_s)), (a2, .inl (g.2.1 0, 8, .inl y2_ways))]
noncomputable def f_X9_turningNow (y1_s : Nat → Int32) (y2_ways : Nat → Int32) (p1 : Int32) : Option (Int32 × (Nat → Int32)) :=
  bv (fun (v2 : Int32) (y2_ways_1 : Nat → Int32) => ((
    ar 2 552 <|
    (if (y1_s (2 : Int32).toNatClampNeg) ≤ v2 then (
      some (.inr y2_ways_1)
    ) else (
      bd1 (f_X9_of y1_s v2 2) fun (r20 : Int32) =>
      ar v2 8 <| bv (upd y2_ways_1 v2.toNatClampNeg r20) fun y2_ways_3 =>
      bv (v2 + 1) fun v2_1 =>
      some (.inl (v2_1, y2_ways_3))
    ))
    ) : Option ((Int32 × (Nat → Int32)) ⊕ ((Nat → Int32))))) fun l2 =>
  bd1 (lq2 l2 0 y2_ways) fun (y2_ways_2 : Nat → Int32) =>
  bd1 (f_X9_turningBy y1_s y2_ways_2 p1) fun (r32 : Int32) =>
  some (r32, y2_ways_2)
set_option maxRecDepth 4000 in
theorem c_X9_turningNow (l : Launch) (g : GE) (a0 a1 a2 : Nat) (sz : Nat) (u0_1 u0_2 u0_3 u0_4 u0_5 u0_6 u0_7 u0_8 u0_9 u0_10 u0_12 u0_13 u0_14 u0_15 u0_16 u0_17 u0_18 u0_19 u0_20 u0_21 u0_22 u0_23 u0_24 u0_25 u0_26 u0_27 u0_28 u0_29 u0_30 : Value) (y1_s : Nat → Int32) (y2_ways : Nat → Int32) (p1 : Int32) (r : Int32) (o_y2_ways : Nat → Int32) (hf : f_X9_turningNow y1_s y2_ways p1 = some (r, o_y2_ways)) : MI l g yX9_turningNow wsX9_turningNow 3 71 [.ref a0, .int p1] (w_X9_turningNow g a0 a1 a2 u0_1 u0_2 u0_3 u0_4 u0_5 u0_6 u0_7 u0_8 u0_9 u0_10 u0_12 u0_13 u0_14 u0_15 u0_16 u0_17 u0_18 u0_19 u0_20 u0_21 u0_22 u0_23 u0_24 u0_25 u0_26 u0_27 u0_28 u0_29 u0_30 y1_s y2_ways) sz (some (.int r)) (w_X9_turningNow g a0 a1 a2 u0_1 u0_2 u0_3 u0_4 u0_5 u0_6 u0_7 u0_8 u0_9 u0_10 u0_12 u0_13 u0_14 u0_15 u0_16 u0_17 u0_18 u0_19 u0_20 u0_21 u0_22 u0_23 u0_24 u0_25 u0_26 u0_27 u0_28 u0_29 u0_30 y1_s o_y2_ways) := by
  refine MI.start (cc := cX9_turningNow) (maxL := 3) (ret := (some .int)) rfl rfl (nle rfl) ?_
  intro p e s m args below meth c A ls Q hQ hexec hb hr hts hown hlocks hml hA hP hD hG hS hl
  unfold f_X9_turningNow at hf
  have hWX9 : ∀ w ∈ wsX90, w.before args s = true := fun w h => hts w (List.mem_cons_of_mem _ (List.mem_append_right _ h))
  have hS : va_S A s.heap s.heap [] := hS
  refine lv_iconst (pc := 0) hexec hb dX9_turningNow_0 ki_0 ?_
  refine lv_istore_n (pc := 1) hexec hb dX9_turningNow_1 rfl hl (nle rfl) rfl (fun ls (hl : lv_has ls 3 [(2, .int 0), (0, .ref a0), (1, .int p1)]) => ?_)
  obtain ⟨l2, el2, hf⟩ := bvf2 hf
  obtain ⟨y2_ways_2, hz, hf⟩ := bd1_e hf
  have hE2 : ∀ (H : Heap) (locs : List Loc) (ls : Array Slot), va_P g.1 vwCl (w_X9_turningNow g a0 a1 a2 u0_1 u0_2 u0_3 u0_4 u0_5 u0_6 u0_7 u0_8 u0_9 u0_10 u0_12 u0_13 u0_14 u0_15 u0_16 u0_17 u0_18 u0_19 u0_20 u0_21 u0_22 u0_23 u0_24 u0_25 u0_26 u0_27 u0_28 u0_29 u0_30 y1_s y2_ways_2) H → va_D A (w_X9_turningNow g a0 a1 a2 u0_1 u0_2 u0_3 u0_4 u0_5 u0_6 u0_7 u0_8 u0_9 u0_10 u0_12 u0_13 u0_14 u0_15 u0_16 u0_17 u0_18 u0_19 u0_20 u0_21 u0_22 u0_23 u0_24 u0_25 u0_26 u0_27 u0_28 u0_29 u0_30 y1_s y2_ways_2) → va_S A s.heap H locs → lv_has ls 3 [(0, .ref a0), (1, .int p1)] → W p l e (RM 3 71) s m args below meth c H locs 0 0 Q (F0 m 30 ls []) := by
    intro H locs ls hP hD hS hl
    refine lv_aload_n (pc := 30) hexec hb dX9_turningNow_30 rfl (lv_at hl 0 rfl) ?_
    refine lv_iload_n (pc := 31) hexec hb dX9_turningNow_31 rfl (lv_at hl 1 rfl) ?_
    obtain ⟨r32, hc, hf⟩ := bd1_e hf
    refine kVp (pc := 32) (S := ⟨hexec, hb, hml, hown, hts⟩) hP hD hG hA hS [0, 1, 2] [] [0, 1, 2] (w2 := (w_X9_turningNow g a0 a1 a2 u0_1 u0_2 u0_3 u0_4 u0_5 u0_6 u0_7 u0_8 u0_9 u0_10 u0_12 u0_13 u0_14 u0_15 u0_16 u0_17 u0_18 u0_19 u0_20 u0_21 u0_22 u0_23 u0_24 u0_25 u0_26 u0_27 u0_28 u0_29 u0_30 y1_s y2_ways_2)) rfl rfl rfl rfl rfl rfl (by decide) (c_X9_turningBy l g a0 a1 a2 _ u0_1 u0_2 u0_3 u0_4 u0_5 u0_6 u0_7 u0_8 u0_9 u0_10 u0_12 u0_13 u0_14 u0_15 u0_16 u0_17 u0_18 u0_19 u0_20 u0_21 u0_22 u0_23 u0_24 u0_25 u0_26 u0_27 u0_28 u0_29 u0_30 y1_s y2_ways_2 p1 r32 hc) gX9_turningNow_X9_turningBy rfl hv_X9_turningBy ⟨nle rfl, nle rfl⟩ 9 0 rfl rfl rfl (rest := []) rfl rfl hl.1 (nle rfl) dX9_turningNow_32 (fun H locs hP hD hS => ?_)
    cases hf
    exact ke_i hQ hexec hb hr hP hD hS dX9_turningNow_35 hlocks
  obtain ⟨n, hz⟩ := lq2_e hz
  have hL2 : ∀ (n : Nat) (v2 : Int32) (y2_ways_1 : Nat → Int32) (H : Heap) (locs : List Loc) (ls : Array Slot), it2 l2 n v2 y2_ways_1 = some y2_ways_2 → va_P g.1 vwCl (w_X9_turningNow g a0 a1 a2 u0_1 u0_2 u0_3 u0_4 u0_5 u0_6 u0_7 u0_8 u0_9 u0_10 u0_12 u0_13 u0_14 u0_15 u0_16 u0_17 u0_18 u0_19 u0_20 u0_21 u0_22 u0_23 u0_24 u0_25 u0_26 u0_27 u0_28 u0_29 u0_30 y1_s y2_ways_1) H → va_D A (w_X9_turningNow g a0 a1 a2 u0_1 u0_2 u0_3 u0_4 u0_5 u0_6 u0_7 u0_8 u0_9 u0_10 u0_12 u0_13 u0_14 u0_15 u0_16 u0_17 u0_18 u0_19 u0_20 u0_21 u0_22 u0_23 u0_24 u0_25 u0_26 u0_27 u0_28 u0_29 u0_30 y1_s y2_ways_1) → va_S A s.heap H locs → lv_has ls 3 [(0, .ref a0), (1, .int p1), (2, .int v2)] → W p l e (RM 3 71) s m args below meth c H locs 0 0 Q (F0 m 2 ls []) := by
    intro n
    induction n with
    | zero =>
      intro v2 y2_ways_1 H locs ls hf hP hD hS hl
      exact it2_0 hf
    | succ n2 ih2 =>
      intro v2 y2_ways_1 H locs ls hf hP hD hS hl
      obtain ⟨q2, hf, hk2⟩ := it2_e hf
      have hf := (el2 v2 y2_ways_1).symm.trans hf
      refine lv_iload_n (pc := 2) hexec hb dX9_turningNow_2 rfl (lv_at hl 2 rfl) ?_
      refine lv_aload_n (pc := 3) hexec hb dX9_turningNow_3 rfl (lv_at hl 0 rfl) ?_
      refine kg_get (pc := 4) hexec hb (own := RX9) hWX9 hown hG hP 0 rfl rfl 0 (nle rfl) (hts _ (List.mem_cons_of_mem _ (List.mem_append_left _ (List.mem_of_getElem? (i := 0) rfl)))) rfl rfl dX9_turningNow_4 ?_
      refine lv_iconst (pc := 7) hexec hb dX9_turningNow_7 ki_2 ?_
      refine kr_iald (pc := 8) hexec hb hG hP 1 rfl hf dX9_turningNow_8 (fun hf => ?_)
      refine ki_ge (pc := 9) hexec hb dX9_turningNow_9 (tgt := 30) rfl hf (fun hc hf => ?_) (fun hc hf => ?_)
      · cases sr2 hf hk2
        exact hE2 _ _ _ hP hD hS (lv_sub hl [0, 1] rfl)
      · refine lv_aload_n (pc := 12) hexec hb dX9_turningNow_12 rfl (lv_at hl 0 rfl) ?_
        refine kg_get (pc := 13) hexec hb (own := RX9) hWX9 hown hG hP 0 rfl rfl 11 (nle rfl) (hts _ (List.mem_cons_of_mem _ (List.mem_append_left _ (List.mem_of_getElem? (i := 1) rfl)))) rfl rfl dX9_turningNow_13 ?_
        refine lv_iload_n (pc := 16) hexec hb dX9_turningNow_16 rfl (lv_at hl 2 rfl) ?_
        refine lv_aload_n (pc := 17) hexec hb dX9_turningNow_17 rfl (lv_at hl 0 rfl) ?_
        refine lv_iload_n (pc := 18) hexec hb dX9_turningNow_18 rfl (lv_at hl 2 rfl) ?_
        refine lv_iconst (pc := 19) hexec hb dX9_turningNow_19 ki_2 ?_
        obtain ⟨r20, hc, hf⟩ := bd1_e hf
        refine kVp (pc := 20) (S := ⟨hexec, hb, hml, hown, hts⟩) hP hD hG hA hS [0, 1] [2] [1, 2, 0] (w2 := (w_X9_turningNow g a0 a1 a2 u0_1 u0_2 u0_3 u0_4 u0_5 u0_6 u0_7 u0_8 u0_9 u0_10 u0_12 u0_13 u0_14 u0_15 u0_16 u0_17 u0_18 u0_19 u0_20 u0_21 u0_22 u0_23 u0_24 u0_25 u0_26 u0_27 u0_28 u0_29 u0_30 y1_s y2_ways_1)) rfl rfl rfl rfl rfl rfl (by decide) (c_X9_of l g a0 a1 _ u0_1 u0_2 u0_3 u0_4 u0_5 u0_6 u0_7 u0_8 u0_9 u0_10 (.ref a2) u0_12 u0_13 u0_14 u0_15 u0_16 u0_17 u0_18 u0_19 u0_20 u0_21 u0_22 u0_23 u0_24 u0_25 u0_26 u0_27 u0_28 u0_29 u0_30 y1_s v2 2 r20 hc) gX9_turningNow_X9_of rfl hv_X9_of ⟨nle rfl, nle rfl⟩ 9 0 rfl rfl rfl (rest := [.int v2, .ref a2]) rfl rfl hl.1 (nle rfl) dX9_turningNow_20 (fun H locs hP hD hS => ?_)
        refine kw_iast (pc := 23) hexec hb hG hP hD hS 2 rfl hf dX9_turningNow_23 (fun y2_ways_3 H locs hf (hP : va_P g.1 vwCl (w_X9_turningNow g a0 a1 a2 u0_1 u0_2 u0_3 u0_4 u0_5 u0_6 u0_7 u0_8 u0_9 u0_10 u0_12 u0_13 u0_14 u0_15 u0_16 u0_17 u0_18 u0_19 u0_20 u0_21 u0_22 u0_23 u0_24 u0_25 u0_26 u0_27 u0_28 u0_29 u0_30 y1_s y2_ways_3) H) (hD : va_D A (w_X9_turningNow g a0 a1 a2 u0_1 u0_2 u0_3 u0_4 u0_5 u0_6 u0_7 u0_8 u0_9 u0_10 u0_12 u0_13 u0_14 u0_15 u0_16 u0_17 u0_18 u0_19 u0_20 u0_21 u0_22 u0_23 u0_24 u0_25 u0_26 u0_27 u0_28 u0_29 u0_30 y1_s y2_ways_3)) hS => ?_)
        obtain ⟨v2_1, ev2_1, hf⟩ := bv_e hf
        refine k_iinc (pc := 24) hexec hb dX9_turningNow_24 kq_1 hl (k := 2) rfl ev2_1 (nle rfl) rfl (fun ls (hl : lv_has ls 3 [(2, .int v2_1), (0, .ref a0), (1, .int p1)]) => ?_)
        refine lv_goto (pc := 27) hexec hb dX9_turningNow_27 (tgt := 2) rfl ?_
        exact ih2 _ _ _ _ _ (sl2 hf hk2) hP hD hS (lv_sub hl [1, 2, 0] rfl)
  exact hL2 n _ _ _ _ _ hz hP hD hS (lv_sub hl [1, 2, 0] rfl)
abbrev w_X9_laysPairs (g : GE) (a0 a1 a2 a3 a4 : Nat) (u0_1 u0_2 u0_3 u0_4 u0_5 u0_6 u0_7 u0_8 u0_9 u0_10 u0_11 u0_12 u0_13 u0_14 u0_15 u0_19 u0_20 u0_21 u0_22 u0_23 u0_24 u0_25 u0_26 u0_27 u0_28 u0_29 u0_30 : Value) (y1_against : Nat → Int32) (y2_may : Nat → Int32) (y3_redThen : Nat → Int32) (y4_s : Nat → Int32) : va_W := [(a0, .inr (9, [.ref a4, u0_1, u0_2, u0_3, u0_4, u0_5, u0_6, u0_7, u0_8, u0_9, u0_10, u0_11, u0_12, u0_13, u0_14, u0_15, .ref a3, .ref a2, .ref a1, u0_19, u0_20, u0_21, u0_22, u0_23, u0_24, u0_25, u0_26, u0_27, u0_28, u0_29, u0_30])), (a1, .inl (g.2.1 1, 1024, .inl y1_against)), (a2, .inl (g.2.1 1, 32, .inl y2_may)), (a3, .inl (g.2.1 1, 8, .inl y3_redThen)), (a4, .inl (g.2.1 0, 552, .inl y4_s))]
noncomputable def f_X9_laysPairs (y1_against : Nat → Int32) (y2_may : Nat → Int32) (y3_redThen : Nat → Int32) (y4_s : Nat → Int32) (p1 : Int32) : Option ((Nat → Int32) × (Nat → Int32)) :=
  ar 2 552 <|
  bv (y4_s (2 : Int32).toNatClampNeg) fun v2 =>
  bv (fun (v3 : Int32) (y2_may_1 : Nat → Int32) => ((
    (if (v2 * 4) ≤ v3 then (
      some (.inr y2_may_1)
    ) else (
      bv (fun (t47 : Int32) => ((
        ar v3 32 <| bv (upd y2_may_1 v3.toNatClampNeg (vp_nar .boolean t47)) fun y2_may_3 =>
        bv (v3 + 1) fun v3_1 =>
        some (.inl (v3_1, y2_may_3))
        ) : Option ((Int32 × (Nat → Int32)) ⊕ ((Nat → Int32))))) fun j47 =>
      bv (fun (_ : Unit) => ((
        j47 0
        ) : Option ((Int32 × (Nat → Int32)) ⊕ ((Nat → Int32))))) fun j46 =>
      (if (v3 / 4) = p1 then (
        j46 ()
      ) else (
        bd1 (f_X9_chartReason y4_s (v3 / 4) (v3 - v3 / 4 * 4) p1) fun (r36 : Int32) =>
        (if r36 = 0 then (
          j47 1
        ) else (
          j46 ()
        ))
      ))
    ))
    ) : Option ((Int32 × (Nat → Int32)) ⊕ ((Nat → Int32))))) fun l9 =>
  bd1 (lq2 l9 0 y2_may) fun (y2_may_2 : Nat → Int32) =>
  bv (fun (v3_2 : Int32) (y1_against_1 : Nat → Int32) => ((
    (if (v2 * 4) ≤ v3_2 then (
      some (.inr y1_against_1)
    ) else (
      bv (fun (v4 : Int32) (y1_against_3 : Nat → Int32) => ((
        (if (v2 * 4) ≤ v4 then (
          some (.inr y1_against_3)
        ) else (
          ar v3_2 32 <|
          bv (fun (t108 : Int32) => ((
            bv (fun (t169 : Int32) => ((
              ar ((32 * v3_2) + v4) 1024 <| bv (upd y1_against_3 ((32 * v3_2) + v4).toNatClampNeg (vp_nar .boolean t169)) fun y1_against_5 =>
              bv (v4 + 1) fun v4_1 =>
              some (.inl (v4_1, y1_against_5))
              ) : Option ((Int32 × (Nat → Int32)) ⊕ ((Nat → Int32))))) fun j169 =>
            bv (fun (_ : Unit) => ((
              j169 0
              ) : Option ((Int32 × (Nat → Int32)) ⊕ ((Nat → Int32))))) fun j168 =>
            (if t108 = 0 then (
              j168 ()
            ) else (
              ar (v3_2 / 4) 8 <|
              ar (v4 / 4) 8 <|
              bd1 (f_X9_areAgainst y4_s (v3_2 / 4) (v3_2 - v3_2 / 4 * 4) (y3_redThen (v3_2 / 4).toNatClampNeg) (v4 / 4) (v4 - v4 / 4 * 4) (y3_redThen (v4 / 4).toNatClampNeg)) fun (r158 : Int32) =>
              (if r158 = 0 then (
                j168 ()
              ) else (
                j169 1
              ))
            ))
            ) : Option ((Int32 × (Nat → Int32)) ⊕ ((Nat → Int32))))) fun j108 =>
          bv (fun (_ : Unit) => ((
            j108 0
            ) : Option ((Int32 × (Nat → Int32)) ⊕ ((Nat → Int32))))) fun j107 =>
          (if (y2_may_2 v3_2.toNatClampNeg) = 0 then (
            j107 ()
          ) else (
            ar v4 32 <|
            (if (y2_may_2 v4.toNatClampNeg) = 0 then (
              j107 ()
            ) else (
              (if (v3_2 / 4) = (v4 / 4) then (
                j107 ()
              ) else (
                j108 1
              ))
            ))
          ))
        ))
        ) : Option ((Int32 × (Nat → Int32)) ⊕ ((Nat → Int32))))) fun l66 =>
      bd1 (lq2 l66 0 y1_against_1) fun (y1_against_4 : Nat → Int32) =>
      bv (v3_2 + 1) fun v3_3 =>
      some (.inl (v3_3, y1_against_4))
    ))
    ) : Option ((Int32 × (Nat → Int32)) ⊕ ((Nat → Int32))))) fun l56 =>
  bd1 (lq2 l56 0 y1_against) fun (y1_against_2 : Nat → Int32) =>
  some (y1_against_2, y2_may_2)
set_option maxRecDepth 4000 in
theorem c_X9_laysPairs (l : Launch) (g : GE) (a0 a1 a2 a3 a4 : Nat) (sz : Nat) (u0_1 u0_2 u0_3 u0_4 u0_5 u0_6 u0_7 u0_8 u0_9 u0_10 u0_11 u0_12 u0_13 u0_14 u0_15 u0_19 u0_20 u0_21 u0_22 u0_23 u0_24 u0_25 u0_26 u0_27 u0_28 u0_29 u0_30 : Value) (y1_against : Nat → Int32) (y2_may : Nat → Int32) (y3_redThen : Nat → Int32) (y4_s : Nat → Int32) (p1 : Int32) (o_y1_against : Nat → Int32) (o_y2_may : Nat → Int32) (hf : f_X9_laysPairs y1_against y2_may y3_redThen y4_s p1 = some (o_y1_against, o_y2_may)) : MI l g yX9_laysPairs wsX9_laysPairs 5 127 [.ref a0, .int p1] (w_X9_laysPairs g a0 a1 a2 a3 a4 u0_1 u0_2 u0_3 u0_4 u0_5 u0_6 u0_7 u0_8 u0_9 u0_10 u0_11 u0_12 u0_13 u0_14 u0_15 u0_19 u0_20 u0_21 u0_22 u0_23 u0_24 u0_25 u0_26 u0_27 u0_28 u0_29 u0_30 y1_against y2_may y3_redThen y4_s) sz none (w_X9_laysPairs g a0 a1 a2 a3 a4 u0_1 u0_2 u0_3 u0_4 u0_5 u0_6 u0_7 u0_8 u0_9 u0_10 u0_11 u0_12 u0_13 u0_14 u0_15 u0_19 u0_20 u0_21 u0_22 u0_23 u0_24 u0_25 u0_26 u0_27 u0_28 u0_29 u0_30 o_y1_against o_y2_may y3_redThen y4_s) := by
  refine MI.start (cc := cX9_laysPairs) (maxL := 6) (ret := none) rfl rfl (nle rfl) ?_
  intro p e s m args below meth c A ls Q hQ hexec hb hr hts hown hlocks hml hA hP hD hG hS hl
  unfold f_X9_laysPairs at hf
  have hWX9 : ∀ w ∈ wsX90, w.before args s = true := fun w h => hts w (List.mem_cons_of_mem _ (List.mem_append_right _ h))
  have hS : va_S A s.heap s.heap [] := hS
  refine lv_aload_n (pc := 0) hexec hb dX9_laysPairs_0 rfl (lv_at hl 0 rfl) ?_
  refine kg_get (pc := 1) hexec hb (own := RX9) hWX9 hown hG hP 0 rfl rfl 0 (nle rfl) (hts _ (List.mem_cons_of_mem _ (List.mem_append_left _ (List.mem_append_left _ (List.mem_of_getElem? (i := 0) rfl))))) rfl rfl dX9_laysPairs_1 ?_
  refine lv_iconst (pc := 4) hexec hb dX9_laysPairs_4 ki_2 ?_
  refine kr_iald (pc := 5) hexec hb hG hP 4 rfl hf dX9_laysPairs_5 (fun hf => ?_)
  obtain ⟨v2, ev2, hf⟩ := bv_e hf
  refine kn_i ev2 ?_
  refine lv_istore_n (pc := 6) hexec hb dX9_laysPairs_6 rfl hl (nle rfl) rfl (fun ls (hl : lv_has ls 6 [(2, .int v2), (0, .ref a0), (1, .int p1)]) => ?_)
  refine lv_iconst (pc := 7) hexec hb dX9_laysPairs_7 ki_0 ?_
  refine lv_istore_n (pc := 8) hexec hb dX9_laysPairs_8 rfl hl (nle rfl) rfl (fun ls (hl : lv_has ls 6 [(3, .int 0), (2, .int v2), (0, .ref a0), (1, .int p1)]) => ?_)
  obtain ⟨l9, el9, hf⟩ := bvf2 hf
  obtain ⟨y2_may_2, hz, hf⟩ := bd1_e hf
  have hE9 : ∀ (H : Heap) (locs : List Loc) (ls : Array Slot), va_P g.1 vwCl (w_X9_laysPairs g a0 a1 a2 a3 a4 u0_1 u0_2 u0_3 u0_4 u0_5 u0_6 u0_7 u0_8 u0_9 u0_10 u0_11 u0_12 u0_13 u0_14 u0_15 u0_19 u0_20 u0_21 u0_22 u0_23 u0_24 u0_25 u0_26 u0_27 u0_28 u0_29 u0_30 y1_against y2_may_2 y3_redThen y4_s) H → va_D A (w_X9_laysPairs g a0 a1 a2 a3 a4 u0_1 u0_2 u0_3 u0_4 u0_5 u0_6 u0_7 u0_8 u0_9 u0_10 u0_11 u0_12 u0_13 u0_14 u0_15 u0_19 u0_20 u0_21 u0_22 u0_23 u0_24 u0_25 u0_26 u0_27 u0_28 u0_29 u0_30 y1_against y2_may_2 y3_redThen y4_s) → va_S A s.heap H locs → lv_has ls 6 [(0, .ref a0), (2, .int v2)] → W p l e (RM 5 127) s m args below meth c H locs 0 0 Q (F0 m 54 ls []) := by
    intro H locs ls hP hD hS hl
    refine lv_iconst (pc := 54) hexec hb dX9_laysPairs_54 ki_0 ?_
    refine lv_istore_n (pc := 55) hexec hb dX9_laysPairs_55 rfl hl (nle rfl) rfl (fun ls (hl : lv_has ls 6 [(3, .int 0), (0, .ref a0), (2, .int v2)]) => ?_)
    obtain ⟨l56, el56, hf⟩ := bvf2 hf
    obtain ⟨y1_against_2, hz, hf⟩ := bd1_e hf
    have hE56 : ∀ (H : Heap) (locs : List Loc) (ls : Array Slot), va_P g.1 vwCl (w_X9_laysPairs g a0 a1 a2 a3 a4 u0_1 u0_2 u0_3 u0_4 u0_5 u0_6 u0_7 u0_8 u0_9 u0_10 u0_11 u0_12 u0_13 u0_14 u0_15 u0_19 u0_20 u0_21 u0_22 u0_23 u0_24 u0_25 u0_26 u0_27 u0_28 u0_29 u0_30 y1_against_2 y2_may_2 y3_redThen y4_s) H → va_D A (w_X9_laysPairs g a0 a1 a2 a3 a4 u0_1 u0_2 u0_3 u0_4 u0_5 u0_6 u0_7 u0_8 u0_9 u0_10 u0_11 u0_12 u0_13 u0_14 u0_15 u0_19 u0_20 u0_21 u0_22 u0_23 u0_24 u0_25 u0_26 u0_27 u0_28 u0_29 u0_30 y1_against_2 y2_may_2 y3_redThen y4_s) → va_S A s.heap H locs → lv_has ls 6 [] → W p l e (RM 5 127) s m args below meth c H locs 0 0 Q (F0 m 182 ls []) := by
      intro H locs ls hP hD hS hl
      cases hf
      exact ke_v hQ hexec hb hr hP hD hS dX9_laysPairs_182 hlocks
    obtain ⟨n, hz⟩ := lq2_e hz
    have hL56 : ∀ (n : Nat) (v3_2 : Int32) (y1_against_1 : Nat → Int32) (H : Heap) (locs : List Loc) (ls : Array Slot), it2 l56 n v3_2 y1_against_1 = some y1_against_2 → va_P g.1 vwCl (w_X9_laysPairs g a0 a1 a2 a3 a4 u0_1 u0_2 u0_3 u0_4 u0_5 u0_6 u0_7 u0_8 u0_9 u0_10 u0_11 u0_12 u0_13 u0_14 u0_15 u0_19 u0_20 u0_21 u0_22 u0_23 u0_24 u0_25 u0_26 u0_27 u0_28 u0_29 u0_30 y1_against_1 y2_may_2 y3_redThen y4_s) H → va_D A (w_X9_laysPairs g a0 a1 a2 a3 a4 u0_1 u0_2 u0_3 u0_4 u0_5 u0_6 u0_7 u0_8 u0_9 u0_10 u0_11 u0_12 u0_13 u0_14 u0_15 u0_19 u0_20 u0_21 u0_22 u0_23 u0_24 u0_25 u0_26 u0_27 u0_28 u0_29 u0_30 y1_against_1 y2_may_2 y3_redThen y4_s) → va_S A s.heap H locs → lv_has ls 6 [(0, .ref a0), (2, .int v2), (3, .int v3_2)] → W p l e (RM 5 127) s m args below meth c H locs 0 0 Q (F0 m 56 ls []) := by
      intro n
      induction n with
      | zero =>
        intro v3_2 y1_against_1 H locs ls hf hP hD hS hl
        exact it2_0 hf
      | succ n56 ih56 =>
        intro v3_2 y1_against_1 H locs ls hf hP hD hS hl
        obtain ⟨q56, hf, hk56⟩ := it2_e hf
        have hf := (el56 v3_2 y1_against_1).symm.trans hf
        refine lv_iload_n (pc := 56) hexec hb dX9_laysPairs_56 rfl (lv_at hl 2 rfl) ?_
        refine lv_iload_n (pc := 57) hexec hb dX9_laysPairs_57 rfl (lv_at hl 1 rfl) ?_
        refine lv_iconst (pc := 58) hexec hb dX9_laysPairs_58 ki_4 ?_
        refine lv_imul (pc := 59) hexec hb dX9_laysPairs_59 ?_
        refine ki_ge (pc := 60) hexec hb dX9_laysPairs_60 (tgt := 182) rfl hf (fun hc hf => ?_) (fun hc hf => ?_)
        · cases sr2 hf hk56
          exact hE56 _ _ _ hP hD hS (lv_sub hl [] rfl)
        · refine lv_iconst (pc := 63) hexec hb dX9_laysPairs_63 ki_0 ?_
          refine lv_istore (pc := 64) hexec hb dX9_laysPairs_64 hl (nle rfl) rfl (fun ls (hl : lv_has ls 6 [(4, .int 0), (0, .ref a0), (2, .int v2), (3, .int v3_2)]) => ?_)
          obtain ⟨l66, el66, hf⟩ := bvf2 hf
          obtain ⟨y1_against_4, hz, hf⟩ := bd1_e hf
          have hE66 : ∀ (H : Heap) (locs : List Loc) (ls : Array Slot), va_P g.1 vwCl (w_X9_laysPairs g a0 a1 a2 a3 a4 u0_1 u0_2 u0_3 u0_4 u0_5 u0_6 u0_7 u0_8 u0_9 u0_10 u0_11 u0_12 u0_13 u0_14 u0_15 u0_19 u0_20 u0_21 u0_22 u0_23 u0_24 u0_25 u0_26 u0_27 u0_28 u0_29 u0_30 y1_against_4 y2_may_2 y3_redThen y4_s) H → va_D A (w_X9_laysPairs g a0 a1 a2 a3 a4 u0_1 u0_2 u0_3 u0_4 u0_5 u0_6 u0_7 u0_8 u0_9 u0_10 u0_11 u0_12 u0_13 u0_14 u0_15 u0_19 u0_20 u0_21 u0_22 u0_23 u0_24 u0_25 u0_26 u0_27 u0_28 u0_29 u0_30 y1_against_4 y2_may_2 y3_redThen y4_s) → va_S A s.heap H locs → lv_has ls 6 [(0, .ref a0), (2, .int v2), (3, .int v3_2)] → W p l e (RM 5 127) s m args below meth c H locs 0 0 Q (F0 m 176 ls []) := by
            intro H locs ls hP hD hS hl
            obtain ⟨v3_3, ev3_3, hf⟩ := bv_e hf
            refine k_iinc (pc := 176) hexec hb dX9_laysPairs_176 kq_1 hl (k := 2) rfl ev3_3 (nle rfl) rfl (fun ls (hl : lv_has ls 6 [(3, .int v3_3), (0, .ref a0), (2, .int v2)]) => ?_)
            refine lv_goto (pc := 179) hexec hb dX9_laysPairs_179 (tgt := 56) rfl ?_
            exact ih56 _ _ _ _ _ (sl2 hf hk56) hP hD hS (lv_sub hl [1, 2, 0] rfl)
          obtain ⟨n, hz⟩ := lq2_e hz
          have hL66 : ∀ (n : Nat) (v4 : Int32) (y1_against_3 : Nat → Int32) (H : Heap) (locs : List Loc) (ls : Array Slot), it2 l66 n v4 y1_against_3 = some y1_against_4 → va_P g.1 vwCl (w_X9_laysPairs g a0 a1 a2 a3 a4 u0_1 u0_2 u0_3 u0_4 u0_5 u0_6 u0_7 u0_8 u0_9 u0_10 u0_11 u0_12 u0_13 u0_14 u0_15 u0_19 u0_20 u0_21 u0_22 u0_23 u0_24 u0_25 u0_26 u0_27 u0_28 u0_29 u0_30 y1_against_3 y2_may_2 y3_redThen y4_s) H → va_D A (w_X9_laysPairs g a0 a1 a2 a3 a4 u0_1 u0_2 u0_3 u0_4 u0_5 u0_6 u0_7 u0_8 u0_9 u0_10 u0_11 u0_12 u0_13 u0_14 u0_15 u0_19 u0_20 u0_21 u0_22 u0_23 u0_24 u0_25 u0_26 u0_27 u0_28 u0_29 u0_30 y1_against_3 y2_may_2 y3_redThen y4_s) → va_S A s.heap H locs → lv_has ls 6 [(0, .ref a0), (2, .int v2), (3, .int v3_2), (4, .int v4)] → W p l e (RM 5 127) s m args below meth c H locs 0 0 Q (F0 m 66 ls []) := by
            intro n
            induction n with
            | zero =>
              intro v4 y1_against_3 H locs ls hf hP hD hS hl
              exact it2_0 hf
            | succ n66 ih66 =>
              intro v4 y1_against_3 H locs ls hf hP hD hS hl
              obtain ⟨q66, hf, hk66⟩ := it2_e hf
              have hf := (el66 v4 y1_against_3).symm.trans hf
              refine lv_iload (pc := 66) hexec hb dX9_laysPairs_66 (lv_at hl 3 rfl) ?_
              refine lv_iload_n (pc := 68) hexec hb dX9_laysPairs_68 rfl (lv_at hl 1 rfl) ?_
              refine lv_iconst (pc := 69) hexec hb dX9_laysPairs_69 ki_4 ?_
              refine lv_imul (pc := 70) hexec hb dX9_laysPairs_70 ?_
              refine ki_ge (pc := 71) hexec hb dX9_laysPairs_71 (tgt := 176) rfl hf (fun hc hf => ?_) (fun hc hf => ?_)
              · cases sr2 hf hk66
                exact hE66 _ _ _ hP hD hS (lv_sub hl [0, 1, 2] rfl)
              · refine lv_aload_n (pc := 74) hexec hb dX9_laysPairs_74 rfl (lv_at hl 0 rfl) ?_
                refine kg_get (pc := 75) hexec hb (own := RX9) hWX9 hown hG hP 0 rfl rfl 17 (nle rfl) (hts _ (List.mem_cons_of_mem _ (List.mem_append_left _ (List.mem_append_left _ (List.mem_of_getElem? (i := 1) rfl))))) rfl rfl dX9_laysPairs_75 ?_
                refine lv_iload_n (pc := 78) hexec hb dX9_laysPairs_78 rfl (lv_at hl 2 rfl) ?_
                refine kr_zald (pc := 79) hexec hb hG hP 2 rfl hf dX9_laysPairs_79 (fun hf => ?_)
                obtain ⟨j108, ej108, hf⟩ := bvf1 hf
                have hj108 : ∀ (t108 : Int32) (H : Heap) (locs : List Loc) (ls : Array Slot), j108 t108 = some q66 → va_P g.1 vwCl (w_X9_laysPairs g a0 a1 a2 a3 a4 u0_1 u0_2 u0_3 u0_4 u0_5 u0_6 u0_7 u0_8 u0_9 u0_10 u0_11 u0_12 u0_13 u0_14 u0_15 u0_19 u0_20 u0_21 u0_22 u0_23 u0_24 u0_25 u0_26 u0_27 u0_28 u0_29 u0_30 y1_against_3 y2_may_2 y3_redThen y4_s) H → va_D A (w_X9_laysPairs g a0 a1 a2 a3 a4 u0_1 u0_2 u0_3 u0_4 u0_5 u0_6 u0_7 u0_8 u0_9 u0_10 u0_11 u0_12 u0_13 u0_14 u0_15 u0_19 u0_20 u0_21 u0_22 u0_23 u0_24 u0_25 u0_26 u0_27 u0_28 u0_29 u0_30 y1_against_3 y2_may_2 y3_redThen y4_s) → va_S A s.heap H locs → lv_has ls 6 [(0, .ref a0), (2, .int v2), (3, .int v3_2), (4, .int v4)] → W p l e (RM 5 127) s m args below meth c H locs 0 0 Q (F0 m 108 ls [.int t108]) := by
                  intro t108 H locs ls hf hP hD hS hl
                  have hf := (ej108 t108).symm.trans hf
                  refine lv_istore (pc := 108) hexec hb dX9_laysPairs_108 hl (nle rfl) rfl (fun ls (hl : lv_has ls 6 [(5, .int t108), (0, .ref a0), (2, .int v2), (3, .int v3_2), (4, .int v4)]) => ?_)
                  refine lv_aload_n (pc := 110) hexec hb dX9_laysPairs_110 rfl (lv_at hl 1 rfl) ?_
                  refine kg_get (pc := 111) hexec hb (own := RX9) hWX9 hown hG hP 0 rfl rfl 18 (nle rfl) (hts _ (List.mem_cons_of_mem _ (List.mem_append_left _ (List.mem_append_left _ (List.mem_of_getElem? (i := 2) rfl))))) rfl rfl dX9_laysPairs_111 ?_
                  refine lv_bipush (pc := 114) hexec hb dX9_laysPairs_114 kb_32 ?_
                  refine lv_iload_n (pc := 116) hexec hb dX9_laysPairs_116 rfl (lv_at hl 3 rfl) ?_
                  refine lv_imul (pc := 117) hexec hb dX9_laysPairs_117 ?_
                  refine lv_iload (pc := 118) hexec hb dX9_laysPairs_118 (lv_at hl 4 rfl) ?_
                  refine lv_iadd (pc := 120) hexec hb dX9_laysPairs_120 ?_
                  refine lv_iload (pc := 121) hexec hb dX9_laysPairs_121 (lv_at hl 0 rfl) ?_
                  obtain ⟨j169, ej169, hf⟩ := bvf1 hf
                  have hj169 : ∀ (t169 : Int32) (H : Heap) (locs : List Loc) (ls : Array Slot), j169 t169 = some q66 → va_P g.1 vwCl (w_X9_laysPairs g a0 a1 a2 a3 a4 u0_1 u0_2 u0_3 u0_4 u0_5 u0_6 u0_7 u0_8 u0_9 u0_10 u0_11 u0_12 u0_13 u0_14 u0_15 u0_19 u0_20 u0_21 u0_22 u0_23 u0_24 u0_25 u0_26 u0_27 u0_28 u0_29 u0_30 y1_against_3 y2_may_2 y3_redThen y4_s) H → va_D A (w_X9_laysPairs g a0 a1 a2 a3 a4 u0_1 u0_2 u0_3 u0_4 u0_5 u0_6 u0_7 u0_8 u0_9 u0_10 u0_11 u0_12 u0_13 u0_14 u0_15 u0_19 u0_20 u0_21 u0_22 u0_23 u0_24 u0_25 u0_26 u0_27 u0_28 u0_29 u0_30 y1_against_3 y2_may_2 y3_redThen y4_s) → va_S A s.heap H locs → lv_has ls 6 [(0, .ref a0), (2, .int v2), (3, .int v3_2), (4, .int v4)] → W p l e (RM 5 127) s m args below meth c H locs 0 0 Q (F0 m 169 ls [.int t169, .int ((32 * v3_2) + v4), .ref a1]) := by
                    intro t169 H locs ls hf hP hD hS hl
                    have hf := (ej169 t169).symm.trans hf
                    refine kw_zast (pc := 169) hexec hb hG hP hD hS 1 rfl hf dX9_laysPairs_169 (fun y1_against_5 H locs hf (hP : va_P g.1 vwCl (w_X9_laysPairs g a0 a1 a2 a3 a4 u0_1 u0_2 u0_3 u0_4 u0_5 u0_6 u0_7 u0_8 u0_9 u0_10 u0_11 u0_12 u0_13 u0_14 u0_15 u0_19 u0_20 u0_21 u0_22 u0_23 u0_24 u0_25 u0_26 u0_27 u0_28 u0_29 u0_30 y1_against_5 y2_may_2 y3_redThen y4_s) H) (hD : va_D A (w_X9_laysPairs g a0 a1 a2 a3 a4 u0_1 u0_2 u0_3 u0_4 u0_5 u0_6 u0_7 u0_8 u0_9 u0_10 u0_11 u0_12 u0_13 u0_14 u0_15 u0_19 u0_20 u0_21 u0_22 u0_23 u0_24 u0_25 u0_26 u0_27 u0_28 u0_29 u0_30 y1_against_5 y2_may_2 y3_redThen y4_s)) hS => ?_)
                    obtain ⟨v4_1, ev4_1, hf⟩ := bv_e hf
                    refine k_iinc (pc := 170) hexec hb dX9_laysPairs_170 kq_1 hl (k := 3) rfl ev4_1 (nle rfl) rfl (fun ls (hl : lv_has ls 6 [(4, .int v4_1), (0, .ref a0), (2, .int v2), (3, .int v3_2)]) => ?_)
                    refine lv_goto (pc := 173) hexec hb dX9_laysPairs_173 (tgt := 66) rfl ?_
                    exact ih66 _ _ _ _ _ (sl2 hf hk66) hP hD hS (lv_sub hl [1, 2, 3, 0] rfl)
                  obtain ⟨j168, ej168, hf⟩ := bvf1 hf
                  have hj168 : ∀ (u : Unit) (H : Heap) (locs : List Loc) (ls : Array Slot), j168 u = some q66 → va_P g.1 vwCl (w_X9_laysPairs g a0 a1 a2 a3 a4 u0_1 u0_2 u0_3 u0_4 u0_5 u0_6 u0_7 u0_8 u0_9 u0_10 u0_11 u0_12 u0_13 u0_14 u0_15 u0_19 u0_20 u0_21 u0_22 u0_23 u0_24 u0_25 u0_26 u0_27 u0_28 u0_29 u0_30 y1_against_3 y2_may_2 y3_redThen y4_s) H → va_D A (w_X9_laysPairs g a0 a1 a2 a3 a4 u0_1 u0_2 u0_3 u0_4 u0_5 u0_6 u0_7 u0_8 u0_9 u0_10 u0_11 u0_12 u0_13 u0_14 u0_15 u0_19 u0_20 u0_21 u0_22 u0_23 u0_24 u0_25 u0_26 u0_27 u0_28 u0_29 u0_30 y1_against_3 y2_may_2 y3_redThen y4_s) → va_S A s.heap H locs → lv_has ls 6 [(0, .ref a0), (2, .int v2), (3, .int v3_2), (4, .int v4)] → W p l e (RM 5 127) s m args below meth c H locs 0 0 Q (F0 m 168 ls [.int ((32 * v3_2) + v4), .ref a1]) := by
                    intro u H locs ls hf hP hD hS hl
                    have hf := (ej168 u).symm.trans hf
                    refine lv_iconst (pc := 168) hexec hb dX9_laysPairs_168 ki_0 ?_
                    exact hj169 _ _ _ _ hf hP hD hS (lv_sub hl [0, 1, 2, 3] rfl)
                  refine kb_eq (pc := 123) hexec hb dX9_laysPairs_123 (tgt := 168) rfl hf (fun hc hf => ?_) (fun hc hf => ?_)
                  · exact hj168 _ _ _ _ hf hP hD hS (lv_sub hl [1, 2, 3, 4] rfl)
                  · refine lv_aload_n (pc := 126) hexec hb dX9_laysPairs_126 rfl (lv_at hl 1 rfl) ?_
                    refine lv_iload_n (pc := 127) hexec hb dX9_laysPairs_127 rfl (lv_at hl 3 rfl) ?_
                    refine lv_iconst (pc := 128) hexec hb dX9_laysPairs_128 ki_4 ?_
                    refine lv_idiv (pc := 129) hexec hb dX9_laysPairs_129 (by decide) ?_
                    refine lv_iload_n (pc := 130) hexec hb dX9_laysPairs_130 rfl (lv_at hl 3 rfl) ?_
                    refine lv_iconst (pc := 131) hexec hb dX9_laysPairs_131 ki_4 ?_
                    refine lv_irem (pc := 132) hexec hb dX9_laysPairs_132 (by decide) ?_
                    refine lv_aload_n (pc := 133) hexec hb dX9_laysPairs_133 rfl (lv_at hl 1 rfl) ?_
                    refine kg_get (pc := 134) hexec hb (own := RX9) hWX9 hown hG hP 0 rfl rfl 16 (nle rfl) (hts _ (List.mem_cons_of_mem _ (List.mem_append_left _ (List.mem_append_left _ (List.mem_of_getElem? (i := 3) rfl))))) rfl rfl dX9_laysPairs_134 ?_
                    refine lv_iload_n (pc := 137) hexec hb dX9_laysPairs_137 rfl (lv_at hl 3 rfl) ?_
                    refine lv_iconst (pc := 138) hexec hb dX9_laysPairs_138 ki_4 ?_
                    refine lv_idiv (pc := 139) hexec hb dX9_laysPairs_139 (by decide) ?_
                    refine kr_zald (pc := 140) hexec hb hG hP 3 rfl hf dX9_laysPairs_140 (fun hf => ?_)
                    refine lv_iload (pc := 141) hexec hb dX9_laysPairs_141 (lv_at hl 4 rfl) ?_
                    refine lv_iconst (pc := 143) hexec hb dX9_laysPairs_143 ki_4 ?_
                    refine lv_idiv (pc := 144) hexec hb dX9_laysPairs_144 (by decide) ?_
                    refine lv_iload (pc := 145) hexec hb dX9_laysPairs_145 (lv_at hl 4 rfl) ?_
                    refine lv_iconst (pc := 147) hexec hb dX9_laysPairs_147 ki_4 ?_
                    refine lv_irem (pc := 148) hexec hb dX9_laysPairs_148 (by decide) ?_
                    refine lv_aload_n (pc := 149) hexec hb dX9_laysPairs_149 rfl (lv_at hl 1 rfl) ?_
                    refine kg_get (pc := 150) hexec hb (own := RX9) hWX9 hown hG hP 0 rfl rfl 16 (nle rfl) (hts _ (List.mem_cons_of_mem _ (List.mem_append_left _ (List.mem_append_left _ (List.mem_of_getElem? (i := 3) rfl))))) rfl rfl dX9_laysPairs_150 ?_
                    refine lv_iload (pc := 153) hexec hb dX9_laysPairs_153 (lv_at hl 4 rfl) ?_
                    refine lv_iconst (pc := 155) hexec hb dX9_laysPairs_155 ki_4 ?_
                    refine lv_idiv (pc := 156) hexec hb dX9_laysPairs_156 (by decide) ?_
                    refine kr_zald (pc := 157) hexec hb hG hP 3 rfl hf dX9_laysPairs_157 (fun hf => ?_)
                    obtain ⟨r158, hc, hf⟩ := bd1_e hf
                    refine kVp (pc := 158) (S := ⟨hexec, hb, hml, hown, hts⟩) hP hD hG hA hS [0, 4] [1, 2, 3] [3, 0, 1, 2, 4] (w2 := (w_X9_laysPairs g a0 a1 a2 a3 a4 u0_1 u0_2 u0_3 u0_4 u0_5 u0_6 u0_7 u0_8 u0_9 u0_10 u0_11 u0_12 u0_13 u0_14 u0_15 u0_19 u0_20 u0_21 u0_22 u0_23 u0_24 u0_25 u0_26 u0_27 u0_28 u0_29 u0_30 y1_against_3 y2_may_2 y3_redThen y4_s)) rfl rfl rfl rfl rfl rfl (by decide) (c_X9_areAgainst l g a0 a4 _ u0_1 u0_2 u0_3 u0_4 u0_5 u0_6 u0_7 u0_8 u0_9 u0_10 u0_11 u0_12 u0_13 u0_14 u0_15 (.ref a3) (.ref a2) (.ref a1) u0_19 u0_20 u0_21 u0_22 u0_23 u0_24 u0_25 u0_26 u0_27 u0_28 u0_29 u0_30 y4_s (v3_2 / 4) (v3_2 - v3_2 / 4 * 4) (y3_redThen (v3_2 / 4).toNatClampNeg) (v4 / 4) (v4 - v4 / 4 * 4) (y3_redThen (v4 / 4).toNatClampNeg) r158 hc) gX9_laysPairs_X9_areAgainst rfl hv_X9_areAgainst ⟨nle rfl, nle rfl⟩ 9 0 rfl rfl rfl (rest := [.int ((32 * v3_2) + v4), .ref a1]) rfl rfl hl.1 (nle rfl) dX9_laysPairs_158 (fun H locs hP hD hS => ?_)
                    refine kb_eq (pc := 161) hexec hb dX9_laysPairs_161 (tgt := 168) rfl hf (fun hc hf => ?_) (fun hc hf => ?_)
                    · exact hj168 _ _ _ _ hf hP hD hS (lv_sub hl [1, 2, 3, 4] rfl)
                    · refine lv_iconst (pc := 164) hexec hb dX9_laysPairs_164 ki_1 ?_
                      refine lv_goto (pc := 165) hexec hb dX9_laysPairs_165 (tgt := 169) rfl ?_
                      exact hj169 _ _ _ _ hf hP hD hS (lv_sub hl [1, 2, 3, 4] rfl)
                obtain ⟨j107, ej107, hf⟩ := bvf1 hf
                have hj107 : ∀ (u : Unit) (H : Heap) (locs : List Loc) (ls : Array Slot), j107 u = some q66 → va_P g.1 vwCl (w_X9_laysPairs g a0 a1 a2 a3 a4 u0_1 u0_2 u0_3 u0_4 u0_5 u0_6 u0_7 u0_8 u0_9 u0_10 u0_11 u0_12 u0_13 u0_14 u0_15 u0_19 u0_20 u0_21 u0_22 u0_23 u0_24 u0_25 u0_26 u0_27 u0_28 u0_29 u0_30 y1_against_3 y2_may_2 y3_redThen y4_s) H → va_D A (w_X9_laysPairs g a0 a1 a2 a3 a4 u0_1 u0_2 u0_3 u0_4 u0_5 u0_6 u0_7 u0_8 u0_9 u0_10 u0_11 u0_12 u0_13 u0_14 u0_15 u0_19 u0_20 u0_21 u0_22 u0_23 u0_24 u0_25 u0_26 u0_27 u0_28 u0_29 u0_30 y1_against_3 y2_may_2 y3_redThen y4_s) → va_S A s.heap H locs → lv_has ls 6 [(0, .ref a0), (2, .int v2), (3, .int v3_2), (4, .int v4)] → W p l e (RM 5 127) s m args below meth c H locs 0 0 Q (F0 m 107 ls []) := by
                  intro u H locs ls hf hP hD hS hl
                  have hf := (ej107 u).symm.trans hf
                  refine lv_iconst (pc := 107) hexec hb dX9_laysPairs_107 ki_0 ?_
                  exact hj108 _ _ _ _ hf hP hD hS (lv_sub hl [0, 1, 2, 3] rfl)
                refine kb_eq (pc := 80) hexec hb dX9_laysPairs_80 (tgt := 107) rfl hf (fun hc hf => ?_) (fun hc hf => ?_)
                · exact hj107 _ _ _ _ hf hP hD hS (lv_sub hl [0, 1, 2, 3] rfl)
                · refine lv_aload_n (pc := 83) hexec hb dX9_laysPairs_83 rfl (lv_at hl 0 rfl) ?_
                  refine kg_get (pc := 84) hexec hb (own := RX9) hWX9 hown hG hP 0 rfl rfl 17 (nle rfl) (hts _ (List.mem_cons_of_mem _ (List.mem_append_left _ (List.mem_append_left _ (List.mem_of_getElem? (i := 1) rfl))))) rfl rfl dX9_laysPairs_84 ?_
                  refine lv_iload (pc := 87) hexec hb dX9_laysPairs_87 (lv_at hl 3 rfl) ?_
                  refine kr_zald (pc := 89) hexec hb hG hP 2 rfl hf dX9_laysPairs_89 (fun hf => ?_)
                  refine kb_eq (pc := 90) hexec hb dX9_laysPairs_90 (tgt := 107) rfl hf (fun hc hf => ?_) (fun hc hf => ?_)
                  · exact hj107 _ _ _ _ hf hP hD hS (lv_sub hl [0, 1, 2, 3] rfl)
                  · refine lv_iload_n (pc := 93) hexec hb dX9_laysPairs_93 rfl (lv_at hl 2 rfl) ?_
                    refine lv_iconst (pc := 94) hexec hb dX9_laysPairs_94 ki_4 ?_
                    refine lv_idiv (pc := 95) hexec hb dX9_laysPairs_95 (by decide) ?_
                    refine lv_iload (pc := 96) hexec hb dX9_laysPairs_96 (lv_at hl 3 rfl) ?_
                    refine lv_iconst (pc := 98) hexec hb dX9_laysPairs_98 ki_4 ?_
                    refine lv_idiv (pc := 99) hexec hb dX9_laysPairs_99 (by decide) ?_
                    refine ki_eq (pc := 100) hexec hb dX9_laysPairs_100 (tgt := 107) rfl hf (fun hc hf => ?_) (fun hc hf => ?_)
                    · exact hj107 _ _ _ _ hf hP hD hS (lv_sub hl [0, 1, 2, 3] rfl)
                    · refine lv_iconst (pc := 103) hexec hb dX9_laysPairs_103 ki_1 ?_
                      refine lv_goto (pc := 104) hexec hb dX9_laysPairs_104 (tgt := 108) rfl ?_
                      exact hj108 _ _ _ _ hf hP hD hS (lv_sub hl [0, 1, 2, 3] rfl)
          exact hL66 n _ _ _ _ _ hz hP hD hS (lv_sub hl [1, 2, 3, 0] rfl)
    exact hL56 n _ _ _ _ _ hz hP hD hS (lv_sub hl [1, 2, 0] rfl)
  obtain ⟨n, hz⟩ := lq2_e hz
  have hL9 : ∀ (n : Nat) (v3 : Int32) (y2_may_1 : Nat → Int32) (H : Heap) (locs : List Loc) (ls : Array Slot), it2 l9 n v3 y2_may_1 = some y2_may_2 → va_P g.1 vwCl (w_X9_laysPairs g a0 a1 a2 a3 a4 u0_1 u0_2 u0_3 u0_4 u0_5 u0_6 u0_7 u0_8 u0_9 u0_10 u0_11 u0_12 u0_13 u0_14 u0_15 u0_19 u0_20 u0_21 u0_22 u0_23 u0_24 u0_25 u0_26 u0_27 u0_28 u0_29 u0_30 y1_against y2_may_1 y3_redThen y4_s) H → va_D A (w_X9_laysPairs g a0 a1 a2 a3 a4 u0_1 u0_2 u0_3 u0_4 u0_5 u0_6 u0_7 u0_8 u0_9 u0_10 u0_11 u0_12 u0_13 u0_14 u0_15 u0_19 u0_20 u0_21 u0_22 u0_23 u0_24 u0_25 u0_26 u0_27 u0_28 u0_29 u0_30 y1_against y2_may_1 y3_redThen y4_s) → va_S A s.heap H locs → lv_has ls 6 [(0, .ref a0), (1, .int p1), (2, .int v2), (3, .int v3)] → W p l e (RM 5 127) s m args below meth c H locs 0 0 Q (F0 m 9 ls []) := by
    intro n
    induction n with
    | zero =>
      intro v3 y2_may_1 H locs ls hf hP hD hS hl
      exact it2_0 hf
    | succ n9 ih9 =>
      intro v3 y2_may_1 H locs ls hf hP hD hS hl
      obtain ⟨q9, hf, hk9⟩ := it2_e hf
      have hf := (el9 v3 y2_may_1).symm.trans hf
      refine lv_iload_n (pc := 9) hexec hb dX9_laysPairs_9 rfl (lv_at hl 3 rfl) ?_
      refine lv_iload_n (pc := 10) hexec hb dX9_laysPairs_10 rfl (lv_at hl 2 rfl) ?_
      refine lv_iconst (pc := 11) hexec hb dX9_laysPairs_11 ki_4 ?_
      refine lv_imul (pc := 12) hexec hb dX9_laysPairs_12 ?_
      refine ki_ge (pc := 13) hexec hb dX9_laysPairs_13 (tgt := 54) rfl hf (fun hc hf => ?_) (fun hc hf => ?_)
      · cases sr2 hf hk9
        exact hE9 _ _ _ hP hD hS (lv_sub hl [0, 2] rfl)
      · refine lv_aload_n (pc := 16) hexec hb dX9_laysPairs_16 rfl (lv_at hl 0 rfl) ?_
        refine kg_get (pc := 17) hexec hb (own := RX9) hWX9 hown hG hP 0 rfl rfl 17 (nle rfl) (hts _ (List.mem_cons_of_mem _ (List.mem_append_left _ (List.mem_append_left _ (List.mem_of_getElem? (i := 1) rfl))))) rfl rfl dX9_laysPairs_17 ?_
        refine lv_iload_n (pc := 20) hexec hb dX9_laysPairs_20 rfl (lv_at hl 3 rfl) ?_
        refine lv_iload_n (pc := 21) hexec hb dX9_laysPairs_21 rfl (lv_at hl 3 rfl) ?_
        refine lv_iconst (pc := 22) hexec hb dX9_laysPairs_22 ki_4 ?_
        refine lv_idiv (pc := 23) hexec hb dX9_laysPairs_23 (by decide) ?_
        refine lv_iload_n (pc := 24) hexec hb dX9_laysPairs_24 rfl (lv_at hl 1 rfl) ?_
        obtain ⟨j47, ej47, hf⟩ := bvf1 hf
        have hj47 : ∀ (t47 : Int32) (H : Heap) (locs : List Loc) (ls : Array Slot), j47 t47 = some q9 → va_P g.1 vwCl (w_X9_laysPairs g a0 a1 a2 a3 a4 u0_1 u0_2 u0_3 u0_4 u0_5 u0_6 u0_7 u0_8 u0_9 u0_10 u0_11 u0_12 u0_13 u0_14 u0_15 u0_19 u0_20 u0_21 u0_22 u0_23 u0_24 u0_25 u0_26 u0_27 u0_28 u0_29 u0_30 y1_against y2_may_1 y3_redThen y4_s) H → va_D A (w_X9_laysPairs g a0 a1 a2 a3 a4 u0_1 u0_2 u0_3 u0_4 u0_5 u0_6 u0_7 u0_8 u0_9 u0_10 u0_11 u0_12 u0_13 u0_14 u0_15 u0_19 u0_20 u0_21 u0_22 u0_23 u0_24 u0_25 u0_26 u0_27 u0_28 u0_29 u0_30 y1_against y2_may_1 y3_redThen y4_s) → va_S A s.heap H locs → lv_has ls 6 [(0, .ref a0), (1, .int p1), (2, .int v2), (3, .int v3)] → W p l e (RM 5 127) s m args below meth c H locs 0 0 Q (F0 m 47 ls [.int t47, .int v3, .ref a2]) := by
          intro t47 H locs ls hf hP hD hS hl
          have hf := (ej47 t47).symm.trans hf
          refine kw_zast (pc := 47) hexec hb hG hP hD hS 2 rfl hf dX9_laysPairs_47 (fun y2_may_3 H locs hf (hP : va_P g.1 vwCl (w_X9_laysPairs g a0 a1 a2 a3 a4 u0_1 u0_2 u0_3 u0_4 u0_5 u0_6 u0_7 u0_8 u0_9 u0_10 u0_11 u0_12 u0_13 u0_14 u0_15 u0_19 u0_20 u0_21 u0_22 u0_23 u0_24 u0_25 u0_26 u0_27 u0_28 u0_29 u0_30 y1_against y2_may_3 y3_redThen y4_s) H) (hD : va_D A (w_X9_laysPairs g a0 a1 a2 a3 a4 u0_1 u0_2 u0_3 u0_4 u0_5 u0_6 u0_7 u0_8 u0_9 u0_10 u0_11 u0_12 u0_13 u0_14 u0_15 u0_19 u0_20 u0_21 u0_22 u0_23 u0_24 u0_25 u0_26 u0_27 u0_28 u0_29 u0_30 y1_against y2_may_3 y3_redThen y4_s)) hS => ?_)
          obtain ⟨v3_1, ev3_1, hf⟩ := bv_e hf
          refine k_iinc (pc := 48) hexec hb dX9_laysPairs_48 kq_1 hl (k := 3) rfl ev3_1 (nle rfl) rfl (fun ls (hl : lv_has ls 6 [(3, .int v3_1), (0, .ref a0), (1, .int p1), (2, .int v2)]) => ?_)
          refine lv_goto (pc := 51) hexec hb dX9_laysPairs_51 (tgt := 9) rfl ?_
          exact ih9 _ _ _ _ _ (sl2 hf hk9) hP hD hS (lv_sub hl [1, 2, 3, 0] rfl)
        obtain ⟨j46, ej46, hf⟩ := bvf1 hf
        have hj46 : ∀ (u : Unit) (H : Heap) (locs : List Loc) (ls : Array Slot), j46 u = some q9 → va_P g.1 vwCl (w_X9_laysPairs g a0 a1 a2 a3 a4 u0_1 u0_2 u0_3 u0_4 u0_5 u0_6 u0_7 u0_8 u0_9 u0_10 u0_11 u0_12 u0_13 u0_14 u0_15 u0_19 u0_20 u0_21 u0_22 u0_23 u0_24 u0_25 u0_26 u0_27 u0_28 u0_29 u0_30 y1_against y2_may_1 y3_redThen y4_s) H → va_D A (w_X9_laysPairs g a0 a1 a2 a3 a4 u0_1 u0_2 u0_3 u0_4 u0_5 u0_6 u0_7 u0_8 u0_9 u0_10 u0_11 u0_12 u0_13 u0_14 u0_15 u0_19 u0_20 u0_21 u0_22 u0_23 u0_24 u0_25 u0_26 u0_27 u0_28 u0_29 u0_30 y1_against y2_may_1 y3_redThen y4_s) → va_S A s.heap H locs → lv_has ls 6 [(0, .ref a0), (1, .int p1), (2, .int v2), (3, .int v3)] → W p l e (RM 5 127) s m args below meth c H locs 0 0 Q (F0 m 46 ls [.int v3, .ref a2]) := by
          intro u H locs ls hf hP hD hS hl
          have hf := (ej46 u).symm.trans hf
          refine lv_iconst (pc := 46) hexec hb dX9_laysPairs_46 ki_0 ?_
          exact hj47 _ _ _ _ hf hP hD hS (lv_sub hl [0, 1, 2, 3] rfl)
        refine ki_eq (pc := 25) hexec hb dX9_laysPairs_25 (tgt := 46) rfl hf (fun hc hf => ?_) (fun hc hf => ?_)
        · exact hj46 _ _ _ _ hf hP hD hS (lv_sub hl [0, 1, 2, 3] rfl)
        · refine lv_aload_n (pc := 28) hexec hb dX9_laysPairs_28 rfl (lv_at hl 0 rfl) ?_
          refine lv_iload_n (pc := 29) hexec hb dX9_laysPairs_29 rfl (lv_at hl 3 rfl) ?_
          refine lv_iconst (pc := 30) hexec hb dX9_laysPairs_30 ki_4 ?_
          refine lv_idiv (pc := 31) hexec hb dX9_laysPairs_31 (by decide) ?_
          refine lv_iload_n (pc := 32) hexec hb dX9_laysPairs_32 rfl (lv_at hl 3 rfl) ?_
          refine lv_iconst (pc := 33) hexec hb dX9_laysPairs_33 ki_4 ?_
          refine lv_irem (pc := 34) hexec hb dX9_laysPairs_34 (by decide) ?_
          refine lv_iload_n (pc := 35) hexec hb dX9_laysPairs_35 rfl (lv_at hl 1 rfl) ?_
          obtain ⟨r36, hc, hf⟩ := bd1_e hf
          refine kVp (pc := 36) (S := ⟨hexec, hb, hml, hown, hts⟩) hP hD hG hA hS [0, 4] [1, 2, 3] [3, 0, 1, 2, 4] (w2 := (w_X9_laysPairs g a0 a1 a2 a3 a4 u0_1 u0_2 u0_3 u0_4 u0_5 u0_6 u0_7 u0_8 u0_9 u0_10 u0_11 u0_12 u0_13 u0_14 u0_15 u0_19 u0_20 u0_21 u0_22 u0_23 u0_24 u0_25 u0_26 u0_27 u0_28 u0_29 u0_30 y1_against y2_may_1 y3_redThen y4_s)) rfl rfl rfl rfl rfl rfl (by decide) (c_X9_chartReason l g a0 a4 _ u0_1 u0_2 u0_3 u0_4 u0_5 u0_6 u0_7 u0_8 u0_9 u0_10 u0_11 u0_12 u0_13 u0_14 u0_15 (.ref a3) (.ref a2) (.ref a1) u0_19 u0_20 u0_21 u0_22 u0_23 u0_24 u0_25 u0_26 u0_27 u0_28 u0_29 u0_30 y4_s (v3 / 4) (v3 - v3 / 4 * 4) p1 r36 hc) gX9_laysPairs_X9_chartReason rfl hv_X9_chartReason ⟨nle rfl, nle rfl⟩ 9 0 rfl rfl rfl (rest := [.int v3, .ref a2]) rfl rfl hl.1 (nle rfl) dX9_laysPairs_36 (fun H locs hP hD hS => ?_)
          refine kb_ne (pc := 39) hexec hb dX9_laysPairs_39 (tgt := 46) rfl hf (fun hc hf => ?_) (fun hc hf => ?_)
          · exact hj46 _ _ _ _ hf hP hD hS (lv_sub hl [0, 1, 2, 3] rfl)
          · refine lv_iconst (pc := 42) hexec hb dX9_laysPairs_42 ki_1 ?_
            refine lv_goto (pc := 43) hexec hb dX9_laysPairs_43 (tgt := 47) rfl ?_
            exact hj47 _ _ _ _ hf hP hD hS (lv_sub hl [0, 1, 2, 3] rfl)
  exact hL9 n _ _ _ _ _ hz hP hD hS (lv_sub hl [2, 3, 1, 0] rfl)
abbrev w_X9_canLie (g : GE) (a0 a1 a2 a3 : Nat) (u0_0 u0_1 u0_2 u0_3 u0_4 u0_5 u0_6 u0_7 u0_8 u0_9 u0_10 u0_12 u0_13 u0_14 u0_15 u0_16 u0_19 u0_20 u0_21 u0_22 u0_23 u0_24 u0_25 u0_26 u0_27 u0_28 u0_29 u0_30 : Value) (y1_against : Nat → Int32) (y2_may : Nat → Int32) (y3_ways : Nat → Int32) : va_W := [(a0, .inr (9, [u0_0, u0_1, u0_2, u0_3, u0_4, u0_5, u0_6, u0_7, u0_8, u0_9, u0_10, .ref a3, u0_12, u0_13, u0_14, u0_15, u0_16, .ref a2, .ref a1, u0_19, u0_20, u0_21, u0_22, u0_23, u0_24, u0_25, u0_26, u0_27, u0_28, u0_29, u0_30])), (a1, .inl (g.2.1 1, 1024, .inl y1_against)), (a2, .inl (g.2.1 1, 32, .inl y2_may)), (a3, .inl (g.2.1 0, 8, .inl y3_ways))]
noncomputable def f_X9_canLie (y1_against : Nat → Int32) (y2_may : Nat → Int32) (y3_ways : Nat → Int32) (p1 : Int32) (p2 : Int32) : Option (Int32) :=
  ar ((4 * p1) + p2) 32 <|
  bv (y2_may ((4 * p1) + p2).toNatClampNeg) fun v3 =>
  bv (fun (v3_1 : Int32) (v4 : Int32) => ((
    (if p1 ≤ v4 then (
      some (.inr v3_1)
    ) else (
      (if v3_1 = 0 then (
        some (.inr v3_1)
      ) else (
        ar v4 8 <|
        bv (fun (t69 : Int32) => ((
          bv (v4 + 1) fun v4_1 =>
          some (.inl (t69, v4_1))
          ) : Option ((Int32 × Int32) ⊕ (Int32)))) fun j69 =>
        bv (fun (_ : Unit) => ((
          j69 1
          ) : Option ((Int32 × Int32) ⊕ (Int32)))) fun j64 =>
        (if (y3_ways v4.toNatClampNeg) = (-1) then (
          j64 ()
        ) else (
          ar v4 8 <|
          ar (((32 * ((4 * p1) + p2)) + (4 * v4)) + (y3_ways v4.toNatClampNeg)) 1024 <|
          (if (y1_against (((32 * ((4 * p1) + p2)) + (4 * v4)) + (y3_ways v4.toNatClampNeg)).toNatClampNeg) = 0 then (
            j64 ()
          ) else (
            j69 0
          ))
        ))
      ))
    ))
    ) : Option ((Int32 × Int32) ⊕ (Int32)))) fun l14 =>
  bd1 (lq2 l14 v3 0) fun (v3_2 : Int32) =>
  zb v3_2 (some v3_2)
set_option maxRecDepth 4000 in
theorem c_X9_canLie (l : Launch) (g : GE) (a0 a1 a2 a3 : Nat) (sz : Nat) (u0_0 u0_1 u0_2 u0_3 u0_4 u0_5 u0_6 u0_7 u0_8 u0_9 u0_10 u0_12 u0_13 u0_14 u0_15 u0_16 u0_19 u0_20 u0_21 u0_22 u0_23 u0_24 u0_25 u0_26 u0_27 u0_28 u0_29 u0_30 : Value) (y1_against : Nat → Int32) (y2_may : Nat → Int32) (y3_ways : Nat → Int32) (p1 : Int32) (p2 : Int32) (r : Int32) (hf : f_X9_canLie y1_against y2_may y3_ways p1 p2 = some r) : MI l g yX9_canLie wsX9_canLie 1 24 [.ref a0, .int p1, .int p2] (w_X9_canLie g a0 a1 a2 a3 u0_0 u0_1 u0_2 u0_3 u0_4 u0_5 u0_6 u0_7 u0_8 u0_9 u0_10 u0_12 u0_13 u0_14 u0_15 u0_16 u0_19 u0_20 u0_21 u0_22 u0_23 u0_24 u0_25 u0_26 u0_27 u0_28 u0_29 u0_30 y1_against y2_may y3_ways) sz (some (.int r)) (w_X9_canLie g a0 a1 a2 a3 u0_0 u0_1 u0_2 u0_3 u0_4 u0_5 u0_6 u0_7 u0_8 u0_9 u0_10 u0_12 u0_13 u0_14 u0_15 u0_16 u0_19 u0_20 u0_21 u0_22 u0_23 u0_24 u0_25 u0_26 u0_27 u0_28 u0_29 u0_30 y1_against y2_may y3_ways) := by
  refine MI.start (cc := cX9_canLie) (maxL := 5) (ret := (some .boolean)) rfl rfl (nle rfl) ?_
  intro p e s m args below meth c A ls Q hQ hexec hb hr hts hown hlocks hml hA hP hD hG hS hl
  unfold f_X9_canLie at hf
  have hWX9 : ∀ w ∈ wsX90, w.before args s = true := fun w h => hts w (List.mem_cons_of_mem _ (List.mem_append_right _ h))
  have hS : va_S A s.heap s.heap [] := hS
  refine lv_aload_n (pc := 0) hexec hb dX9_canLie_0 rfl (lv_at hl 0 rfl) ?_
  refine kg_get (pc := 1) hexec hb (own := RX9) hWX9 hown hG hP 0 rfl rfl 17 (nle rfl) (hts _ (List.mem_cons_of_mem _ (List.mem_append_left _ (List.mem_of_getElem? (i := 0) rfl)))) rfl rfl dX9_canLie_1 ?_
  refine lv_iconst (pc := 4) hexec hb dX9_canLie_4 ki_4 ?_
  refine lv_iload_n (pc := 5) hexec hb dX9_canLie_5 rfl (lv_at hl 1 rfl) ?_
  refine lv_imul (pc := 6) hexec hb dX9_canLie_6 ?_
  refine lv_iload_n (pc := 7) hexec hb dX9_canLie_7 rfl (lv_at hl 2 rfl) ?_
  refine lv_iadd (pc := 8) hexec hb dX9_canLie_8 ?_
  refine kr_zald (pc := 9) hexec hb hG hP 2 rfl hf dX9_canLie_9 (fun hf => ?_)
  obtain ⟨v3, ev3, hf⟩ := bv_e hf
  refine kn_i ev3 ?_
  refine lv_istore_n (pc := 10) hexec hb dX9_canLie_10 rfl hl (nle rfl) rfl (fun ls (hl : lv_has ls 5 [(3, .int v3), (0, .ref a0), (1, .int p1), (2, .int p2)]) => ?_)
  refine lv_iconst (pc := 11) hexec hb dX9_canLie_11 ki_0 ?_
  refine lv_istore (pc := 12) hexec hb dX9_canLie_12 hl (nle rfl) rfl (fun ls (hl : lv_has ls 5 [(4, .int 0), (3, .int v3), (0, .ref a0), (1, .int p1), (2, .int p2)]) => ?_)
  obtain ⟨l14, el14, hf⟩ := bvf2 hf
  obtain ⟨v3_2, hz, hf⟩ := bd1_e hf
  have hE14 : ∀ (H : Heap) (locs : List Loc) (ls : Array Slot), va_P g.1 vwCl (w_X9_canLie g a0 a1 a2 a3 u0_0 u0_1 u0_2 u0_3 u0_4 u0_5 u0_6 u0_7 u0_8 u0_9 u0_10 u0_12 u0_13 u0_14 u0_15 u0_16 u0_19 u0_20 u0_21 u0_22 u0_23 u0_24 u0_25 u0_26 u0_27 u0_28 u0_29 u0_30 y1_against y2_may y3_ways) H → va_D A (w_X9_canLie g a0 a1 a2 a3 u0_0 u0_1 u0_2 u0_3 u0_4 u0_5 u0_6 u0_7 u0_8 u0_9 u0_10 u0_12 u0_13 u0_14 u0_15 u0_16 u0_19 u0_20 u0_21 u0_22 u0_23 u0_24 u0_25 u0_26 u0_27 u0_28 u0_29 u0_30 y1_against y2_may y3_ways) → va_S A s.heap H locs → lv_has ls 5 [(3, .int v3_2)] → W p l e (RM 1 24) s m args below meth c H locs 0 0 Q (F0 m 76 ls []) := by
    intro H locs ls hP hD hS hl
    refine lv_iload_n (pc := 76) hexec hb dX9_canLie_76 rfl (lv_at hl 0 rfl) ?_
    obtain ⟨hx, hf⟩ := zb_e hf
    cases hf
    exact ke_z hQ hexec hb hr hx hP hD hS dX9_canLie_77 hlocks
  obtain ⟨n, hz⟩ := lq2_e hz
  have hL14 : ∀ (n : Nat) (v3_1 : Int32) (v4 : Int32) (H : Heap) (locs : List Loc) (ls : Array Slot), it2 l14 n v3_1 v4 = some v3_2 → va_P g.1 vwCl (w_X9_canLie g a0 a1 a2 a3 u0_0 u0_1 u0_2 u0_3 u0_4 u0_5 u0_6 u0_7 u0_8 u0_9 u0_10 u0_12 u0_13 u0_14 u0_15 u0_16 u0_19 u0_20 u0_21 u0_22 u0_23 u0_24 u0_25 u0_26 u0_27 u0_28 u0_29 u0_30 y1_against y2_may y3_ways) H → va_D A (w_X9_canLie g a0 a1 a2 a3 u0_0 u0_1 u0_2 u0_3 u0_4 u0_5 u0_6 u0_7 u0_8 u0_9 u0_10 u0_12 u0_13 u0_14 u0_15 u0_16 u0_19 u0_20 u0_21 u0_22 u0_23 u0_24 u0_25 u0_26 u0_27 u0_28 u0_29 u0_30 y1_against y2_may y3_ways) → va_S A s.heap H locs → lv_has ls 5 [(0, .ref a0), (1, .int p1), (2, .int p2), (3, .int v3_1), (4, .int v4)] → W p l e (RM 1 24) s m args below meth c H locs 0 0 Q (F0 m 14 ls []) := by
    intro n
    induction n with
    | zero =>
      intro v3_1 v4 H locs ls hf hP hD hS hl
      exact it2_0 hf
    | succ n14 ih14 =>
      intro v3_1 v4 H locs ls hf hP hD hS hl
      obtain ⟨q14, hf, hk14⟩ := it2_e hf
      have hf := (el14 v3_1 v4).symm.trans hf
      refine lv_iload (pc := 14) hexec hb dX9_canLie_14 (lv_at hl 4 rfl) ?_
      refine lv_iload_n (pc := 16) hexec hb dX9_canLie_16 rfl (lv_at hl 1 rfl) ?_
      refine ki_ge (pc := 17) hexec hb dX9_canLie_17 (tgt := 76) rfl hf (fun hc hf => ?_) (fun hc hf => ?_)
      · cases sr2 hf hk14
        exact hE14 _ _ _ hP hD hS (lv_sub hl [3] rfl)
      · refine lv_iload_n (pc := 20) hexec hb dX9_canLie_20 rfl (lv_at hl 3 rfl) ?_
        refine kb_eq (pc := 21) hexec hb dX9_canLie_21 (tgt := 76) rfl hf (fun hc hf => ?_) (fun hc hf => ?_)
        · cases sr2 hf hk14
          exact hE14 _ _ _ hP hD hS (lv_sub hl [3] rfl)
        · refine lv_aload_n (pc := 24) hexec hb dX9_canLie_24 rfl (lv_at hl 0 rfl) ?_
          refine kg_get (pc := 25) hexec hb (own := RX9) hWX9 hown hG hP 0 rfl rfl 11 (nle rfl) (hts _ (List.mem_cons_of_mem _ (List.mem_append_left _ (List.mem_of_getElem? (i := 1) rfl)))) rfl rfl dX9_canLie_25 ?_
          refine lv_iload (pc := 28) hexec hb dX9_canLie_28 (lv_at hl 4 rfl) ?_
          refine kr_iald (pc := 30) hexec hb hG hP 3 rfl hf dX9_canLie_30 (fun hf => ?_)
          refine lv_iconst (pc := 31) hexec hb dX9_canLie_31 ki_m1 ?_
          obtain ⟨j69, ej69, hf⟩ := bvf1 hf
          have hj69 : ∀ (t69 : Int32) (H : Heap) (locs : List Loc) (ls : Array Slot), j69 t69 = some q14 → va_P g.1 vwCl (w_X9_canLie g a0 a1 a2 a3 u0_0 u0_1 u0_2 u0_3 u0_4 u0_5 u0_6 u0_7 u0_8 u0_9 u0_10 u0_12 u0_13 u0_14 u0_15 u0_16 u0_19 u0_20 u0_21 u0_22 u0_23 u0_24 u0_25 u0_26 u0_27 u0_28 u0_29 u0_30 y1_against y2_may y3_ways) H → va_D A (w_X9_canLie g a0 a1 a2 a3 u0_0 u0_1 u0_2 u0_3 u0_4 u0_5 u0_6 u0_7 u0_8 u0_9 u0_10 u0_12 u0_13 u0_14 u0_15 u0_16 u0_19 u0_20 u0_21 u0_22 u0_23 u0_24 u0_25 u0_26 u0_27 u0_28 u0_29 u0_30 y1_against y2_may y3_ways) → va_S A s.heap H locs → lv_has ls 5 [(0, .ref a0), (1, .int p1), (2, .int p2), (4, .int v4)] → W p l e (RM 1 24) s m args below meth c H locs 0 0 Q (F0 m 69 ls [.int t69]) := by
            intro t69 H locs ls hf hP hD hS hl
            have hf := (ej69 t69).symm.trans hf
            refine lv_istore_n (pc := 69) hexec hb dX9_canLie_69 rfl hl (nle rfl) rfl (fun ls (hl : lv_has ls 5 [(3, .int t69), (0, .ref a0), (1, .int p1), (2, .int p2), (4, .int v4)]) => ?_)
            obtain ⟨v4_1, ev4_1, hf⟩ := bv_e hf
            refine k_iinc (pc := 70) hexec hb dX9_canLie_70 kq_1 hl (k := 4) rfl ev4_1 (nle rfl) rfl (fun ls (hl : lv_has ls 5 [(4, .int v4_1), (3, .int t69), (0, .ref a0), (1, .int p1), (2, .int p2)]) => ?_)
            refine lv_goto (pc := 73) hexec hb dX9_canLie_73 (tgt := 14) rfl ?_
            exact ih14 _ _ _ _ _ (sl2 hf hk14) hP hD hS (lv_sub hl [2, 3, 4, 1, 0] rfl)
          obtain ⟨j64, ej64, hf⟩ := bvf1 hf
          have hj64 : ∀ (u : Unit) (H : Heap) (locs : List Loc) (ls : Array Slot), j64 u = some q14 → va_P g.1 vwCl (w_X9_canLie g a0 a1 a2 a3 u0_0 u0_1 u0_2 u0_3 u0_4 u0_5 u0_6 u0_7 u0_8 u0_9 u0_10 u0_12 u0_13 u0_14 u0_15 u0_16 u0_19 u0_20 u0_21 u0_22 u0_23 u0_24 u0_25 u0_26 u0_27 u0_28 u0_29 u0_30 y1_against y2_may y3_ways) H → va_D A (w_X9_canLie g a0 a1 a2 a3 u0_0 u0_1 u0_2 u0_3 u0_4 u0_5 u0_6 u0_7 u0_8 u0_9 u0_10 u0_12 u0_13 u0_14 u0_15 u0_16 u0_19 u0_20 u0_21 u0_22 u0_23 u0_24 u0_25 u0_26 u0_27 u0_28 u0_29 u0_30 y1_against y2_may y3_ways) → va_S A s.heap H locs → lv_has ls 5 [(0, .ref a0), (1, .int p1), (2, .int p2), (4, .int v4)] → W p l e (RM 1 24) s m args below meth c H locs 0 0 Q (F0 m 64 ls []) := by
            intro u H locs ls hf hP hD hS hl
            have hf := (ej64 u).symm.trans hf
            refine lv_iconst (pc := 64) hexec hb dX9_canLie_64 ki_1 ?_
            refine lv_goto (pc := 65) hexec hb dX9_canLie_65 (tgt := 69) rfl ?_
            exact hj69 _ _ _ _ hf hP hD hS (lv_sub hl [0, 1, 2, 3] rfl)
          refine ki_eq (pc := 32) hexec hb dX9_canLie_32 (tgt := 64) rfl hf (fun hc hf => ?_) (fun hc hf => ?_)
          · exact hj64 _ _ _ _ hf hP hD hS (lv_sub hl [0, 1, 2, 4] rfl)
          · refine lv_aload_n (pc := 35) hexec hb dX9_canLie_35 rfl (lv_at hl 0 rfl) ?_
            refine kg_get (pc := 36) hexec hb (own := RX9) hWX9 hown hG hP 0 rfl rfl 18 (nle rfl) (hts _ (List.mem_cons_of_mem _ (List.mem_append_left _ (List.mem_of_getElem? (i := 2) rfl)))) rfl rfl dX9_canLie_36 ?_
            refine lv_bipush (pc := 39) hexec hb dX9_canLie_39 kb_32 ?_
            refine lv_iconst (pc := 41) hexec hb dX9_canLie_41 ki_4 ?_
            refine lv_iload_n (pc := 42) hexec hb dX9_canLie_42 rfl (lv_at hl 1 rfl) ?_
            refine lv_imul (pc := 43) hexec hb dX9_canLie_43 ?_
            refine lv_iload_n (pc := 44) hexec hb dX9_canLie_44 rfl (lv_at hl 2 rfl) ?_
            refine lv_iadd (pc := 45) hexec hb dX9_canLie_45 ?_
            refine lv_imul (pc := 46) hexec hb dX9_canLie_46 ?_
            refine lv_iconst (pc := 47) hexec hb dX9_canLie_47 ki_4 ?_
            refine lv_iload (pc := 48) hexec hb dX9_canLie_48 (lv_at hl 4 rfl) ?_
            refine lv_imul (pc := 50) hexec hb dX9_canLie_50 ?_
            refine lv_iadd (pc := 51) hexec hb dX9_canLie_51 ?_
            refine lv_aload_n (pc := 52) hexec hb dX9_canLie_52 rfl (lv_at hl 0 rfl) ?_
            refine kg_get (pc := 53) hexec hb (own := RX9) hWX9 hown hG hP 0 rfl rfl 11 (nle rfl) (hts _ (List.mem_cons_of_mem _ (List.mem_append_left _ (List.mem_of_getElem? (i := 1) rfl)))) rfl rfl dX9_canLie_53 ?_
            refine lv_iload (pc := 56) hexec hb dX9_canLie_56 (lv_at hl 4 rfl) ?_
            refine kr_iald (pc := 58) hexec hb hG hP 3 rfl hf dX9_canLie_58 (fun hf => ?_)
            refine lv_iadd (pc := 59) hexec hb dX9_canLie_59 ?_
            refine kr_zald (pc := 60) hexec hb hG hP 1 rfl hf dX9_canLie_60 (fun hf => ?_)
            refine kb_ne (pc := 61) hexec hb dX9_canLie_61 (tgt := 68) rfl hf (fun hc hf => ?_) (fun hc hf => ?_)
            · refine lv_iconst (pc := 68) hexec hb dX9_canLie_68 ki_0 ?_
              exact hj69 _ _ _ _ hf hP hD hS (lv_sub hl [0, 1, 2, 4] rfl)
            · exact hj64 _ _ _ _ hf hP hD hS (lv_sub hl [0, 1, 2, 4] rfl)
  exact hL14 n _ _ _ _ _ hz hP hD hS (lv_sub hl [2, 3, 4, 1, 0] rfl)
abbrev w_X9_weighs (g : GE) (a0 a1 a2 a3 : Nat) (u0_1 u0_2 u0_3 u0_4 u0_5 u0_6 u0_7 u0_8 u0_9 u0_10 u0_16 u0_17 u0_18 u0_19 u0_20 u0_21 u0_22 u0_23 u0_24 u0_25 u0_26 u0_27 u0_28 u0_29 u0_30 : Value) (x0_bestReds : Int32) (x0_bestPlaced : Int32) (x0_bestTurning : Int32) (y1_best : Nat → Int32) (y2_s : Nat → Int32) (y3_ways : Nat → Int32) : va_W := [(a0, .inr (9, [.ref a2, u0_1, u0_2, u0_3, u0_4, u0_5, u0_6, u0_7, u0_8, u0_9, u0_10, .ref a3, .ref a1, .int x0_bestReds, .int x0_bestPlaced, .int x0_bestTurning, u0_16, u0_17, u0_18, u0_19, u0_20, u0_21, u0_22, u0_23, u0_24, u0_25, u0_26, u0_27, u0_28, u0_29, u0_30])), (a1, .inl (g.2.1 0, 8, .inl y1_best)), (a2, .inl (g.2.1 0, 552, .inl y2_s)), (a3, .inl (g.2.1 0, 8, .inl y3_ways))]
noncomputable def f_X9_weighs (x0_bestReds : Int32) (x0_bestPlaced : Int32) (x0_bestTurning : Int32) (y1_best : Nat → Int32) (y2_s : Nat → Int32) (y3_ways : Nat → Int32) (p1 : Int32) (p2 : Int32) : Option (Int32 × Int32 × Int32 × (Nat → Int32)) :=
  (if p2 < x0_bestReds then (
    some (x0_bestReds, x0_bestPlaced, x0_bestTurning, y1_best)
  ) else (
    bv (fun (_ : Unit) => ((
      ar 5 552 <|
      bd1 (f_X9_turningBy y2_s y3_ways (y2_s (5 : Int32).toNatClampNeg)) fun (r32 : Int32) =>
      bv (fun (_ : Unit) => ((
        bv (fun (v4 : Int32) (y1_best_1 : Nat → Int32) => ((
          ar 2 552 <|
          (if (y2_s (2 : Int32).toNatClampNeg) ≤ v4 then (
            some (.inr y1_best_1)
          ) else (
            ar v4 8 <|
            ar v4 8 <| bv (upd y1_best_1 v4.toNatClampNeg (y3_ways v4.toNatClampNeg)) fun y1_best_3 =>
            bv (v4 + 1) fun v4_1 =>
            some (.inl (v4_1, y1_best_3))
          ))
          ) : Option ((Int32 × (Nat → Int32)) ⊕ ((Nat → Int32))))) fun l79 =>
        bd1 (lq2 l79 0 y1_best) fun (y1_best_2 : Nat → Int32) =>
        some (p2, p1, r32, y1_best_2)
        ) : Option (Int32 × Int32 × Int32 × (Nat → Int32)))) fun j61 =>
      (if p2 = x0_bestReds then (
        (if p1 = x0_bestPlaced then (
          (if r32 < x0_bestTurning then (
            j61 ()
          ) else (
            some (x0_bestReds, x0_bestPlaced, x0_bestTurning, y1_best)
          ))
        ) else (
          j61 ()
        ))
      ) else (
        j61 ()
      ))
      ) : Option (Int32 × Int32 × Int32 × (Nat → Int32)))) fun j25 =>
    (if p2 = x0_bestReds then (
      (if x0_bestPlaced ≤ p1 then (
        j25 ()
      ) else (
        some (x0_bestReds, x0_bestPlaced, x0_bestTurning, y1_best)
      ))
    ) else (
      j25 ()
    ))
  ))
set_option maxRecDepth 4000 in
theorem c_X9_weighs (l : Launch) (g : GE) (a0 a1 a2 a3 : Nat) (sz : Nat) (u0_1 u0_2 u0_3 u0_4 u0_5 u0_6 u0_7 u0_8 u0_9 u0_10 u0_16 u0_17 u0_18 u0_19 u0_20 u0_21 u0_22 u0_23 u0_24 u0_25 u0_26 u0_27 u0_28 u0_29 u0_30 : Value) (x0_bestReds : Int32) (x0_bestPlaced : Int32) (x0_bestTurning : Int32) (y1_best : Nat → Int32) (y2_s : Nat → Int32) (y3_ways : Nat → Int32) (p1 : Int32) (p2 : Int32) (o_x0_bestReds : Int32) (o_x0_bestPlaced : Int32) (o_x0_bestTurning : Int32) (o_y1_best : Nat → Int32) (hf : f_X9_weighs x0_bestReds x0_bestPlaced x0_bestTurning y1_best y2_s y3_ways p1 p2 = some (o_x0_bestReds, o_x0_bestPlaced, o_x0_bestTurning, o_y1_best)) : MI l g yX9_weighs wsX9_weighs 3 71 [.ref a0, .int p1, .int p2] (w_X9_weighs g a0 a1 a2 a3 u0_1 u0_2 u0_3 u0_4 u0_5 u0_6 u0_7 u0_8 u0_9 u0_10 u0_16 u0_17 u0_18 u0_19 u0_20 u0_21 u0_22 u0_23 u0_24 u0_25 u0_26 u0_27 u0_28 u0_29 u0_30 x0_bestReds x0_bestPlaced x0_bestTurning y1_best y2_s y3_ways) sz none (w_X9_weighs g a0 a1 a2 a3 u0_1 u0_2 u0_3 u0_4 u0_5 u0_6 u0_7 u0_8 u0_9 u0_10 u0_16 u0_17 u0_18 u0_19 u0_20 u0_21 u0_22 u0_23 u0_24 u0_25 u0_26 u0_27 u0_28 u0_29 u0_30 o_x0_bestReds o_x0_bestPlaced o_x0_bestTurning o_y1_best y2_s y3_ways) := by
  refine MI.start (cc := cX9_weighs) (maxL := 5) (ret := none) rfl rfl (nle rfl) ?_
  intro p e s m args below meth c A ls Q hQ hexec hb hr hts hown hlocks hml hA hP hD hG hS hl
  unfold f_X9_weighs at hf
  have hWX9 : ∀ w ∈ wsX90, w.before args s = true := fun w h => hts w (List.mem_cons_of_mem _ (List.mem_append_right _ h))
  have hS : va_S A s.heap s.heap [] := hS
  refine lv_iload_n (pc := 0) hexec hb dX9_weighs_0 rfl (lv_at hl 2 rfl) ?_
  refine lv_aload_n (pc := 1) hexec hb dX9_weighs_1 rfl (lv_at hl 0 rfl) ?_
  refine kg_get (pc := 2) hexec hb (own := RX9) hWX9 hown hG hP 0 rfl rfl 13 (nle rfl) (hts _ (List.mem_cons_of_mem _ (List.mem_append_left _ (List.mem_of_getElem? (i := 0) rfl)))) rfl rfl dX9_weighs_2 ?_
  refine ki_lt (pc := 5) hexec hb dX9_weighs_5 (tgt := 24) rfl hf (fun hc hf => ?_) (fun hc hf => ?_)
  · cases hf
    exact ke_v hQ hexec hb hr hP hD hS dX9_weighs_24 hlocks
  · refine lv_iload_n (pc := 8) hexec hb dX9_weighs_8 rfl (lv_at hl 2 rfl) ?_
    refine lv_aload_n (pc := 9) hexec hb dX9_weighs_9 rfl (lv_at hl 0 rfl) ?_
    refine kg_get (pc := 10) hexec hb (own := RX9) hWX9 hown hG hP 0 rfl rfl 13 (nle rfl) (hts _ (List.mem_cons_of_mem _ (List.mem_append_left _ (List.mem_of_getElem? (i := 0) rfl)))) rfl rfl dX9_weighs_10 ?_
    obtain ⟨j25, ej25, hf⟩ := bvf1 hf
    have hj25 : ∀ (u : Unit) (H : Heap) (locs : List Loc) (ls : Array Slot), j25 u = some (o_x0_bestReds, o_x0_bestPlaced, o_x0_bestTurning, o_y1_best) → va_P g.1 vwCl (w_X9_weighs g a0 a1 a2 a3 u0_1 u0_2 u0_3 u0_4 u0_5 u0_6 u0_7 u0_8 u0_9 u0_10 u0_16 u0_17 u0_18 u0_19 u0_20 u0_21 u0_22 u0_23 u0_24 u0_25 u0_26 u0_27 u0_28 u0_29 u0_30 x0_bestReds x0_bestPlaced x0_bestTurning y1_best y2_s y3_ways) H → va_D A (w_X9_weighs g a0 a1 a2 a3 u0_1 u0_2 u0_3 u0_4 u0_5 u0_6 u0_7 u0_8 u0_9 u0_10 u0_16 u0_17 u0_18 u0_19 u0_20 u0_21 u0_22 u0_23 u0_24 u0_25 u0_26 u0_27 u0_28 u0_29 u0_30 x0_bestReds x0_bestPlaced x0_bestTurning y1_best y2_s y3_ways) → va_S A s.heap H locs → lv_has ls 5 [(0, .ref a0), (1, .int p1), (2, .int p2)] → W p l e (RM 3 71) s m args below meth c H locs 0 0 Q (F0 m 25 ls []) := by
      intro u H locs ls hf hP hD hS hl
      have hf := (ej25 u).symm.trans hf
      refine lv_aload_n (pc := 25) hexec hb dX9_weighs_25 rfl (lv_at hl 0 rfl) ?_
      refine lv_aload_n (pc := 26) hexec hb dX9_weighs_26 rfl (lv_at hl 0 rfl) ?_
      refine kg_get (pc := 27) hexec hb (own := RX9) hWX9 hown hG hP 0 rfl rfl 0 (nle rfl) (hts _ (List.mem_cons_of_mem _ (List.mem_append_left _ (List.mem_of_getElem? (i := 2) rfl)))) rfl rfl dX9_weighs_27 ?_
      refine lv_iconst (pc := 30) hexec hb dX9_weighs_30 ki_5 ?_
      refine kr_iald (pc := 31) hexec hb hG hP 2 rfl hf dX9_weighs_31 (fun hf => ?_)
      obtain ⟨r32, hc, hf⟩ := bd1_e hf
      refine kVp (pc := 32) (S := ⟨hexec, hb, hml, hown, hts⟩) hP hD hG hA hS [0, 2, 3] [1] [1, 0, 2, 3] (w2 := (w_X9_weighs g a0 a1 a2 a3 u0_1 u0_2 u0_3 u0_4 u0_5 u0_6 u0_7 u0_8 u0_9 u0_10 u0_16 u0_17 u0_18 u0_19 u0_20 u0_21 u0_22 u0_23 u0_24 u0_25 u0_26 u0_27 u0_28 u0_29 u0_30 x0_bestReds x0_bestPlaced x0_bestTurning y1_best y2_s y3_ways)) rfl rfl rfl rfl rfl rfl (by decide) (c_X9_turningBy l g a0 a2 a3 _ u0_1 u0_2 u0_3 u0_4 u0_5 u0_6 u0_7 u0_8 u0_9 u0_10 (.ref a1) (.int x0_bestReds) (.int x0_bestPlaced) (.int x0_bestTurning) u0_16 u0_17 u0_18 u0_19 u0_20 u0_21 u0_22 u0_23 u0_24 u0_25 u0_26 u0_27 u0_28 u0_29 u0_30 y2_s y3_ways (y2_s (5 : Int32).toNatClampNeg) r32 hc) gX9_weighs_X9_turningBy rfl hv_X9_turningBy ⟨nle rfl, nle rfl⟩ 9 0 rfl rfl rfl (rest := []) rfl rfl hl.1 (nle rfl) dX9_weighs_32 (fun H locs hP hD hS => ?_)
      refine lv_istore_n (pc := 35) hexec hb dX9_weighs_35 rfl hl (nle rfl) rfl (fun ls (hl : lv_has ls 5 [(3, .int r32), (0, .ref a0), (1, .int p1), (2, .int p2)]) => ?_)
      refine lv_iload_n (pc := 36) hexec hb dX9_weighs_36 rfl (lv_at hl 3 rfl) ?_
      refine lv_aload_n (pc := 37) hexec hb dX9_weighs_37 rfl (lv_at hl 1 rfl) ?_
      refine kg_get (pc := 38) hexec hb (own := RX9) hWX9 hown hG hP 0 rfl rfl 13 (nle rfl) (hts _ (List.mem_cons_of_mem _ (List.mem_append_left _ (List.mem_of_getElem? (i := 0) rfl)))) rfl rfl dX9_weighs_38 ?_
      obtain ⟨j61, ej61, hf⟩ := bvf1 hf
      have hj61 : ∀ (u : Unit) (H : Heap) (locs : List Loc) (ls : Array Slot), j61 u = some (o_x0_bestReds, o_x0_bestPlaced, o_x0_bestTurning, o_y1_best) → va_P g.1 vwCl (w_X9_weighs g a0 a1 a2 a3 u0_1 u0_2 u0_3 u0_4 u0_5 u0_6 u0_7 u0_8 u0_9 u0_10 u0_16 u0_17 u0_18 u0_19 u0_20 u0_21 u0_22 u0_23 u0_24 u0_25 u0_26 u0_27 u0_28 u0_29 u0_30 x0_bestReds x0_bestPlaced x0_bestTurning y1_best y2_s y3_ways) H → va_D A (w_X9_weighs g a0 a1 a2 a3 u0_1 u0_2 u0_3 u0_4 u0_5 u0_6 u0_7 u0_8 u0_9 u0_10 u0_16 u0_17 u0_18 u0_19 u0_20 u0_21 u0_22 u0_23 u0_24 u0_25 u0_26 u0_27 u0_28 u0_29 u0_30 x0_bestReds x0_bestPlaced x0_bestTurning y1_best y2_s y3_ways) → va_S A s.heap H locs → lv_has ls 5 [(0, .ref a0), (1, .int p1), (2, .int p2), (3, .int r32)] → W p l e (RM 3 71) s m args below meth c H locs 0 0 Q (F0 m 61 ls []) := by
        intro u H locs ls hf hP hD hS hl
        have hf := (ej61 u).symm.trans hf
        refine lv_aload_n (pc := 61) hexec hb dX9_weighs_61 rfl (lv_at hl 0 rfl) ?_
        refine lv_iload_n (pc := 62) hexec hb dX9_weighs_62 rfl (lv_at hl 2 rfl) ?_
        refine kp_put (pc := 63) hexec hb (own := RX9) hWX9 tyX9 tyX9_ok nmX9 hown hG hP hD hS 0 rfl rfl 13 (nle rfl) (hts _ (List.mem_cons_of_mem _ (List.mem_append_left _ (List.mem_of_getElem? (i := 0) rfl)))) rfl rfl rfl rfl (nle rfl) dX9_weighs_63 (fun H locs (hP : va_P g.1 vwCl (w_X9_weighs g a0 a1 a2 a3 u0_1 u0_2 u0_3 u0_4 u0_5 u0_6 u0_7 u0_8 u0_9 u0_10 u0_16 u0_17 u0_18 u0_19 u0_20 u0_21 u0_22 u0_23 u0_24 u0_25 u0_26 u0_27 u0_28 u0_29 u0_30 p2 x0_bestPlaced x0_bestTurning y1_best y2_s y3_ways) H) (hD : va_D A (w_X9_weighs g a0 a1 a2 a3 u0_1 u0_2 u0_3 u0_4 u0_5 u0_6 u0_7 u0_8 u0_9 u0_10 u0_16 u0_17 u0_18 u0_19 u0_20 u0_21 u0_22 u0_23 u0_24 u0_25 u0_26 u0_27 u0_28 u0_29 u0_30 p2 x0_bestPlaced x0_bestTurning y1_best y2_s y3_ways)) hS => ?_)
        refine lv_aload_n (pc := 66) hexec hb dX9_weighs_66 rfl (lv_at hl 0 rfl) ?_
        refine lv_iload_n (pc := 67) hexec hb dX9_weighs_67 rfl (lv_at hl 1 rfl) ?_
        refine kp_put (pc := 68) hexec hb (own := RX9) hWX9 tyX9 tyX9_ok nmX9 hown hG hP hD hS 0 rfl rfl 14 (nle rfl) (hts _ (List.mem_cons_of_mem _ (List.mem_append_left _ (List.mem_of_getElem? (i := 1) rfl)))) rfl rfl rfl rfl (nle rfl) dX9_weighs_68 (fun H locs (hP : va_P g.1 vwCl (w_X9_weighs g a0 a1 a2 a3 u0_1 u0_2 u0_3 u0_4 u0_5 u0_6 u0_7 u0_8 u0_9 u0_10 u0_16 u0_17 u0_18 u0_19 u0_20 u0_21 u0_22 u0_23 u0_24 u0_25 u0_26 u0_27 u0_28 u0_29 u0_30 p2 p1 x0_bestTurning y1_best y2_s y3_ways) H) (hD : va_D A (w_X9_weighs g a0 a1 a2 a3 u0_1 u0_2 u0_3 u0_4 u0_5 u0_6 u0_7 u0_8 u0_9 u0_10 u0_16 u0_17 u0_18 u0_19 u0_20 u0_21 u0_22 u0_23 u0_24 u0_25 u0_26 u0_27 u0_28 u0_29 u0_30 p2 p1 x0_bestTurning y1_best y2_s y3_ways)) hS => ?_)
        refine lv_aload_n (pc := 71) hexec hb dX9_weighs_71 rfl (lv_at hl 0 rfl) ?_
        refine lv_iload_n (pc := 72) hexec hb dX9_weighs_72 rfl (lv_at hl 3 rfl) ?_
        refine kp_put (pc := 73) hexec hb (own := RX9) hWX9 tyX9 tyX9_ok nmX9 hown hG hP hD hS 0 rfl rfl 15 (nle rfl) (hts _ (List.mem_cons_of_mem _ (List.mem_append_left _ (List.mem_of_getElem? (i := 3) rfl)))) rfl rfl rfl rfl (nle rfl) dX9_weighs_73 (fun H locs (hP : va_P g.1 vwCl (w_X9_weighs g a0 a1 a2 a3 u0_1 u0_2 u0_3 u0_4 u0_5 u0_6 u0_7 u0_8 u0_9 u0_10 u0_16 u0_17 u0_18 u0_19 u0_20 u0_21 u0_22 u0_23 u0_24 u0_25 u0_26 u0_27 u0_28 u0_29 u0_30 p2 p1 r32 y1_best y2_s y3_ways) H) (hD : va_D A (w_X9_weighs g a0 a1 a2 a3 u0_1 u0_2 u0_3 u0_4 u0_5 u0_6 u0_7 u0_8 u0_9 u0_10 u0_16 u0_17 u0_18 u0_19 u0_20 u0_21 u0_22 u0_23 u0_24 u0_25 u0_26 u0_27 u0_28 u0_29 u0_30 p2 p1 r32 y1_best y2_s y3_ways)) hS => ?_)
        refine lv_iconst (pc := 76) hexec hb dX9_weighs_76 ki_0 ?_
        refine lv_istore (pc := 77) hexec hb dX9_weighs_77 hl (nle rfl) rfl (fun ls (hl : lv_has ls 5 [(4, .int 0), (0, .ref a0), (1, .int p1), (2, .int p2), (3, .int r32)]) => ?_)
        obtain ⟨l79, el79, hf⟩ := bvf2 hf
        obtain ⟨y1_best_2, hz, hf⟩ := bd1_e hf
        have hE79 : ∀ (H : Heap) (locs : List Loc) (ls : Array Slot), va_P g.1 vwCl (w_X9_weighs g a0 a1 a2 a3 u0_1 u0_2 u0_3 u0_4 u0_5 u0_6 u0_7 u0_8 u0_9 u0_10 u0_16 u0_17 u0_18 u0_19 u0_20 u0_21 u0_22 u0_23 u0_24 u0_25 u0_26 u0_27 u0_28 u0_29 u0_30 p2 p1 r32 y1_best_2 y2_s y3_ways) H → va_D A (w_X9_weighs g a0 a1 a2 a3 u0_1 u0_2 u0_3 u0_4 u0_5 u0_6 u0_7 u0_8 u0_9 u0_10 u0_16 u0_17 u0_18 u0_19 u0_20 u0_21 u0_22 u0_23 u0_24 u0_25 u0_26 u0_27 u0_28 u0_29 u0_30 p2 p1 r32 y1_best_2 y2_s y3_ways) → va_S A s.heap H locs → lv_has ls 5 [] → W p l e (RM 3 71) s m args below meth c H locs 0 0 Q (F0 m 110 ls []) := by
          intro H locs ls hP hD hS hl
          cases hf
          exact ke_v hQ hexec hb hr hP hD hS dX9_weighs_110 hlocks
        obtain ⟨n, hz⟩ := lq2_e hz
        have hL79 : ∀ (n : Nat) (v4 : Int32) (y1_best_1 : Nat → Int32) (H : Heap) (locs : List Loc) (ls : Array Slot), it2 l79 n v4 y1_best_1 = some y1_best_2 → va_P g.1 vwCl (w_X9_weighs g a0 a1 a2 a3 u0_1 u0_2 u0_3 u0_4 u0_5 u0_6 u0_7 u0_8 u0_9 u0_10 u0_16 u0_17 u0_18 u0_19 u0_20 u0_21 u0_22 u0_23 u0_24 u0_25 u0_26 u0_27 u0_28 u0_29 u0_30 p2 p1 r32 y1_best_1 y2_s y3_ways) H → va_D A (w_X9_weighs g a0 a1 a2 a3 u0_1 u0_2 u0_3 u0_4 u0_5 u0_6 u0_7 u0_8 u0_9 u0_10 u0_16 u0_17 u0_18 u0_19 u0_20 u0_21 u0_22 u0_23 u0_24 u0_25 u0_26 u0_27 u0_28 u0_29 u0_30 p2 p1 r32 y1_best_1 y2_s y3_ways) → va_S A s.heap H locs → lv_has ls 5 [(0, .ref a0), (4, .int v4)] → W p l e (RM 3 71) s m args below meth c H locs 0 0 Q (F0 m 79 ls []) := by
          intro n
          induction n with
          | zero =>
            intro v4 y1_best_1 H locs ls hf hP hD hS hl
            exact it2_0 hf
          | succ n79 ih79 =>
            intro v4 y1_best_1 H locs ls hf hP hD hS hl
            obtain ⟨q79, hf, hk79⟩ := it2_e hf
            have hf := (el79 v4 y1_best_1).symm.trans hf
            refine lv_iload (pc := 79) hexec hb dX9_weighs_79 (lv_at hl 1 rfl) ?_
            refine lv_aload_n (pc := 81) hexec hb dX9_weighs_81 rfl (lv_at hl 0 rfl) ?_
            refine kg_get (pc := 82) hexec hb (own := RX9) hWX9 hown hG hP 0 rfl rfl 0 (nle rfl) (hts _ (List.mem_cons_of_mem _ (List.mem_append_left _ (List.mem_of_getElem? (i := 2) rfl)))) rfl rfl dX9_weighs_82 ?_
            refine lv_iconst (pc := 85) hexec hb dX9_weighs_85 ki_2 ?_
            refine kr_iald (pc := 86) hexec hb hG hP 2 rfl hf dX9_weighs_86 (fun hf => ?_)
            refine ki_ge (pc := 87) hexec hb dX9_weighs_87 (tgt := 110) rfl hf (fun hc hf => ?_) (fun hc hf => ?_)
            · cases sr2 hf hk79
              exact hE79 _ _ _ hP hD hS (lv_sub hl [] rfl)
            · refine lv_aload_n (pc := 90) hexec hb dX9_weighs_90 rfl (lv_at hl 0 rfl) ?_
              refine kg_get (pc := 91) hexec hb (own := RX9) hWX9 hown hG hP 0 rfl rfl 12 (nle rfl) (hts _ (List.mem_cons_of_mem _ (List.mem_append_left _ (List.mem_of_getElem? (i := 4) rfl)))) rfl rfl dX9_weighs_91 ?_
              refine lv_iload (pc := 94) hexec hb dX9_weighs_94 (lv_at hl 1 rfl) ?_
              refine lv_aload_n (pc := 96) hexec hb dX9_weighs_96 rfl (lv_at hl 0 rfl) ?_
              refine kg_get (pc := 97) hexec hb (own := RX9) hWX9 hown hG hP 0 rfl rfl 11 (nle rfl) (hts _ (List.mem_cons_of_mem _ (List.mem_append_left _ (List.mem_of_getElem? (i := 5) rfl)))) rfl rfl dX9_weighs_97 ?_
              refine lv_iload (pc := 100) hexec hb dX9_weighs_100 (lv_at hl 1 rfl) ?_
              refine kr_iald (pc := 102) hexec hb hG hP 3 rfl hf dX9_weighs_102 (fun hf => ?_)
              refine kw_iast (pc := 103) hexec hb hG hP hD hS 1 rfl hf dX9_weighs_103 (fun y1_best_3 H locs hf (hP : va_P g.1 vwCl (w_X9_weighs g a0 a1 a2 a3 u0_1 u0_2 u0_3 u0_4 u0_5 u0_6 u0_7 u0_8 u0_9 u0_10 u0_16 u0_17 u0_18 u0_19 u0_20 u0_21 u0_22 u0_23 u0_24 u0_25 u0_26 u0_27 u0_28 u0_29 u0_30 p2 p1 r32 y1_best_3 y2_s y3_ways) H) (hD : va_D A (w_X9_weighs g a0 a1 a2 a3 u0_1 u0_2 u0_3 u0_4 u0_5 u0_6 u0_7 u0_8 u0_9 u0_10 u0_16 u0_17 u0_18 u0_19 u0_20 u0_21 u0_22 u0_23 u0_24 u0_25 u0_26 u0_27 u0_28 u0_29 u0_30 p2 p1 r32 y1_best_3 y2_s y3_ways)) hS => ?_)
              obtain ⟨v4_1, ev4_1, hf⟩ := bv_e hf
              refine k_iinc (pc := 104) hexec hb dX9_weighs_104 kq_1 hl (k := 1) rfl ev4_1 (nle rfl) rfl (fun ls (hl : lv_has ls 5 [(4, .int v4_1), (0, .ref a0)]) => ?_)
              refine lv_goto (pc := 107) hexec hb dX9_weighs_107 (tgt := 79) rfl ?_
              exact ih79 _ _ _ _ _ (sl2 hf hk79) hP hD hS (lv_sub hl [1, 0] rfl)
        exact hL79 n _ _ _ _ _ hz hP hD hS (lv_sub hl [1, 0] rfl)
      refine ki_ne (pc := 41) hexec hb dX9_weighs_41 (tgt := 61) rfl hf (fun hc hf => ?_) (fun hc hf => ?_)
      · exact hj61 _ _ _ _ hf hP hD hS (lv_sub hl [1, 2, 3, 0] rfl)
      · refine lv_iload_n (pc := 44) hexec hb dX9_weighs_44 rfl (lv_at hl 2 rfl) ?_
        refine lv_aload_n (pc := 45) hexec hb dX9_weighs_45 rfl (lv_at hl 1 rfl) ?_
        refine kg_get (pc := 46) hexec hb (own := RX9) hWX9 hown hG hP 0 rfl rfl 14 (nle rfl) (hts _ (List.mem_cons_of_mem _ (List.mem_append_left _ (List.mem_of_getElem? (i := 1) rfl)))) rfl rfl dX9_weighs_46 ?_
        refine ki_ne (pc := 49) hexec hb dX9_weighs_49 (tgt := 61) rfl hf (fun hc hf => ?_) (fun hc hf => ?_)
        · exact hj61 _ _ _ _ hf hP hD hS (lv_sub hl [1, 2, 3, 0] rfl)
        · refine lv_iload_n (pc := 52) hexec hb dX9_weighs_52 rfl (lv_at hl 0 rfl) ?_
          refine lv_aload_n (pc := 53) hexec hb dX9_weighs_53 rfl (lv_at hl 1 rfl) ?_
          refine kg_get (pc := 54) hexec hb (own := RX9) hWX9 hown hG hP 0 rfl rfl 15 (nle rfl) (hts _ (List.mem_cons_of_mem _ (List.mem_append_left _ (List.mem_of_getElem? (i := 3) rfl)))) rfl rfl dX9_weighs_54 ?_
          refine ki_lt (pc := 57) hexec hb dX9_weighs_57 (tgt := 61) rfl hf (fun hc hf => ?_) (fun hc hf => ?_)
          · exact hj61 _ _ _ _ hf hP hD hS (lv_sub hl [1, 2, 3, 0] rfl)
          · cases hf
            exact ke_v hQ hexec hb hr hP hD hS dX9_weighs_60 hlocks
    refine ki_ne (pc := 13) hexec hb dX9_weighs_13 (tgt := 25) rfl hf (fun hc hf => ?_) (fun hc hf => ?_)
    · exact hj25 _ _ _ _ hf hP hD hS (lv_sub hl [0, 1, 2] rfl)
    · refine lv_iload_n (pc := 16) hexec hb dX9_weighs_16 rfl (lv_at hl 1 rfl) ?_
      refine lv_aload_n (pc := 17) hexec hb dX9_weighs_17 rfl (lv_at hl 0 rfl) ?_
      refine kg_get (pc := 18) hexec hb (own := RX9) hWX9 hown hG hP 0 rfl rfl 14 (nle rfl) (hts _ (List.mem_cons_of_mem _ (List.mem_append_left _ (List.mem_of_getElem? (i := 1) rfl)))) rfl rfl dX9_weighs_18 ?_
      refine ki_ge (pc := 21) hexec hb dX9_weighs_21 (tgt := 25) rfl hf (fun hc hf => ?_) (fun hc hf => ?_)
      · exact hj25 _ _ _ _ hf hP hD hS (lv_sub hl [0, 1, 2] rfl)
      · cases hf
        exact ke_v hQ hexec hb hr hP hD hS dX9_weighs_24 hlocks
abbrev w_X9_bytesIn (g : GE) : va_W := []
noncomputable def f_X9_bytesIn  (p0 : Int64) : Option (Int32) :=
  bv (fun (v2 : Int32) (v3 : Int32) => ((
    (if v3 < 0 then (
      some (.inr v2)
    ) else (
      bv (fun (t27 : Int32) => ((
        bv (v2 + t27) fun v2_2 =>
        bv (v3 + (-8)) fun v3_1 =>
        some (.inl (v2_2, v3_1))
        ) : Option ((Int32 × Int32) ⊕ (Int32)))) fun j27 =>
      (if (lg_cmp ((lshrv p0 v3) &&& 255) 0) = 0 then (
        j27 0
      ) else (
        j27 1
      ))
    ))
    ) : Option ((Int32 × Int32) ⊕ (Int32)))) fun l5 =>
  bd1 (lq2 l5 0 56) fun (v2_1 : Int32) =>
  some v2_1
set_option maxRecDepth 4000 in
theorem c_X9_bytesIn (l : Launch) (g : GE) (sz : Nat)  (p0 : Int64) (r : Int32) (hf : f_X9_bytesIn p0 = some r) : MI l g yX9_bytesIn wsX9_bytesIn 1 24 [.long p0] (w_X9_bytesIn g ) sz (some (.int r)) (w_X9_bytesIn g ) := by
  refine MI.start (cc := cX9_bytesIn) (maxL := 4) (ret := (some .int)) rfl rfl (nle rfl) ?_
  intro p e s m args below meth c A ls Q hQ hexec hb hr hts hown hlocks hml hA hP hD hG hS hl
  unfold f_X9_bytesIn at hf
  have hS : va_S A s.heap s.heap [] := hS
  refine lv_iconst (pc := 0) hexec hb dX9_bytesIn_0 ki_0 ?_
  refine lv_istore_n (pc := 1) hexec hb dX9_bytesIn_1 rfl hl (nle rfl) rfl (fun ls (hl : lv_has ls 4 [(2, .int 0), (0, .long p0)]) => ?_)
  refine lv_bipush (pc := 2) hexec hb dX9_bytesIn_2 kb_56 ?_
  refine lv_istore_n (pc := 4) hexec hb dX9_bytesIn_4 rfl hl (nle rfl) rfl (fun ls (hl : lv_has ls 4 [(3, .int 56), (2, .int 0), (0, .long p0)]) => ?_)
  obtain ⟨l5, el5, hf⟩ := bvf2 hf
  obtain ⟨v2_1, hz, hf⟩ := bd1_e hf
  have hE5 : ∀ (H : Heap) (locs : List Loc) (ls : Array Slot), va_P g.1 vwCl (w_X9_bytesIn g ) H → va_D A (w_X9_bytesIn g ) → va_S A s.heap H locs → lv_has ls 4 [(2, .int v2_1)] → W p l e (RM 1 24) s m args below meth c H locs 0 0 Q (F0 m 35 ls []) := by
    intro H locs ls hP hD hS hl
    refine lv_iload_n (pc := 35) hexec hb dX9_bytesIn_35 rfl (lv_at hl 0 rfl) ?_
    cases hf
    exact ke_i hQ hexec hb hr hP hD hS dX9_bytesIn_36 hlocks
  obtain ⟨n, hz⟩ := lq2_e hz
  have hL5 : ∀ (n : Nat) (v2 : Int32) (v3 : Int32) (H : Heap) (locs : List Loc) (ls : Array Slot), it2 l5 n v2 v3 = some v2_1 → va_P g.1 vwCl (w_X9_bytesIn g ) H → va_D A (w_X9_bytesIn g ) → va_S A s.heap H locs → lv_has ls 4 [(0, .long p0), (2, .int v2), (3, .int v3)] → W p l e (RM 1 24) s m args below meth c H locs 0 0 Q (F0 m 5 ls []) := by
    intro n
    induction n with
    | zero =>
      intro v2 v3 H locs ls hf hP hD hS hl
      exact it2_0 hf
    | succ n5 ih5 =>
      intro v2 v3 H locs ls hf hP hD hS hl
      obtain ⟨q5, hf, hk5⟩ := it2_e hf
      have hf := (el5 v2 v3).symm.trans hf
      refine lv_iload_n (pc := 5) hexec hb dX9_bytesIn_5 rfl (lv_at hl 2 rfl) ?_
      refine kb_lt (pc := 6) hexec hb dX9_bytesIn_6 (tgt := 35) rfl hf (fun hc hf => ?_) (fun hc hf => ?_)
      · cases sr2 hf hk5
        exact hE5 _ _ _ hP hD hS (lv_sub hl [1] rfl)
      · refine lv_iload_n (pc := 9) hexec hb dX9_bytesIn_9 rfl (lv_at hl 1 rfl) ?_
        refine lv_lload_n (pc := 10) hexec hb dX9_bytesIn_10 rfl (lv_at hl 0 rfl) ?_
        refine lv_iload_n (pc := 11) hexec hb dX9_bytesIn_11 rfl (lv_at hl 2 rfl) ?_
        refine lv_lshr (pc := 12) hexec hb dX9_bytesIn_12 (v := (lshrv p0 v3)) rfl ?_
        refine lv_ldc2 (pc := 13) hexec hb (own := RX9) hown (hts _ (List.mem_cons_of_mem _ (List.mem_of_getElem? (i := 0) rfl))) dX9_bytesIn_13 ?_
        refine lv_land (pc := 16) hexec hb dX9_bytesIn_16 ?_
        refine lv_lconst (pc := 17) hexec hb dX9_bytesIn_17 kl_0 ?_
        refine kc_lcmp (pc := 18) hexec hb dX9_bytesIn_18 ?_
        obtain ⟨j27, ej27, hf⟩ := bvf1 hf
        have hj27 : ∀ (t27 : Int32) (H : Heap) (locs : List Loc) (ls : Array Slot), j27 t27 = some q5 → va_P g.1 vwCl (w_X9_bytesIn g ) H → va_D A (w_X9_bytesIn g ) → va_S A s.heap H locs → lv_has ls 4 [(0, .long p0), (3, .int v3)] → W p l e (RM 1 24) s m args below meth c H locs 0 0 Q (F0 m 27 ls [.int t27, .int v2]) := by
          intro t27 H locs ls hf hP hD hS hl
          have hf := (ej27 t27).symm.trans hf
          refine lv_iadd (pc := 27) hexec hb dX9_bytesIn_27 ?_
          obtain ⟨v2_2, ev2_2, hf⟩ := bv_e hf
          refine kn_i ev2_2 ?_
          refine lv_istore_n (pc := 28) hexec hb dX9_bytesIn_28 rfl hl (nle rfl) rfl (fun ls (hl : lv_has ls 4 [(2, .int v2_2), (0, .long p0), (3, .int v3)]) => ?_)
          obtain ⟨v3_1, ev3_1, hf⟩ := bv_e hf
          refine k_iinc (pc := 29) hexec hb dX9_bytesIn_29 kq_m8 hl (k := 2) rfl ev3_1 (nle rfl) rfl (fun ls (hl : lv_has ls 4 [(3, .int v3_1), (2, .int v2_2), (0, .long p0)]) => ?_)
          refine lv_goto (pc := 32) hexec hb dX9_bytesIn_32 (tgt := 5) rfl ?_
          exact ih5 _ _ _ _ _ (sl2 hf hk5) hP hD hS (lv_sub hl [2, 1, 0] rfl)
        refine kb_eq (pc := 19) hexec hb dX9_bytesIn_19 (tgt := 26) rfl hf (fun hc hf => ?_) (fun hc hf => ?_)
        · refine lv_iconst (pc := 26) hexec hb dX9_bytesIn_26 ki_0 ?_
          exact hj27 _ _ _ _ hf hP hD hS (lv_sub hl [0, 2] rfl)
        · refine lv_iconst (pc := 22) hexec hb dX9_bytesIn_22 ki_1 ?_
          refine lv_goto (pc := 23) hexec hb dX9_bytesIn_23 (tgt := 27) rfl ?_
          exact hj27 _ _ _ _ hf hP hD hS (lv_sub hl [0, 2] rfl)
  exact hL5 n _ _ _ _ _ hz hP hD hS (lv_sub hl [2, 1, 0] rfl)
abbrev w_X9_append (g : GE) (a0 a1 : Nat) (u0_0 u0_1 u0_2 u0_3 u0_4 u0_5 u0_6 u0_8 u0_9 u0_10 u0_11 u0_12 u0_13 u0_14 u0_15 u0_16 u0_17 u0_18 u0_21 u0_22 u0_23 u0_24 u0_25 u0_26 u0_27 u0_28 u0_29 u0_30 : Value) (x0_thrown : Int32) (x0_length : Int32) (y1_text : Nat → Int32) : va_W := [(a0, .inr (9, [u0_0, u0_1, u0_2, u0_3, u0_4, u0_5, u0_6, .int x0_thrown, u0_8, u0_9, u0_10, u0_11, u0_12, u0_13, u0_14, u0_15, u0_16, u0_17, u0_18, .ref a1, .int x0_length, u0_21, u0_22, u0_23, u0_24, u0_25, u0_26, u0_27, u0_28, u0_29, u0_30])), (a1, .inl (g.2.1 0, 500, .inl y1_text))]
noncomputable def f_X9_append (x0_thrown : Int32) (x0_length : Int32) (y1_text : Nat → Int32) (p1 : Int64) : Option (Int32 × Int32 × Int32 × (Nat → Int32)) :=
  bd1 (f_X9_bytesIn p1) fun (r10 : Int32) =>
  (if (x0_length + r10) ≤ 500 then (
    bv (fun (v3 : Int32) (x0_length_1 : Int32) (y1_text_1 : Nat → Int32) => ((
      (if v3 < 0 then (
        some (.inr (x0_length_1, y1_text_1))
      ) else (
        bv ((((lshrv p1 v3) &&& 255) : Int64).toInt32) fun v4 =>
        bv (fun (x0_length_3 : Int32) (y1_text_3 : Nat → Int32) => ((
          bv (v3 + (-8)) fun v3_1 =>
          some (.inl (v3_1, x0_length_3, y1_text_3))
          ) : Option ((Int32 × Int32 × (Nat → Int32)) ⊕ (Int32 × (Nat → Int32))))) fun j66 =>
        (if v4 = 0 then (
          j66 x0_length_1 y1_text_1
        ) else (
          ar x0_length_1 500 <| bv (upd y1_text_1 x0_length_1.toNatClampNeg v4) fun y1_text_4 =>
          bv (x0_length_1 + 1) fun x0_length_4 =>
          j66 x0_length_4 y1_text_4
        ))
      ))
      ) : Option ((Int32 × Int32 × (Nat → Int32)) ⊕ (Int32 × (Nat → Int32))))) fun l26 =>
    bd2 (lq3 l26 56 x0_length y1_text) fun (x0_length_2 : Int32) (y1_text_2 : Nat → Int32) =>
    some (x0_length_2, 0, x0_length_2, y1_text_2)
  ) else (
    some ((-2), 0, x0_length, y1_text)
  ))
set_option maxRecDepth 4000 in
theorem c_X9_append (l : Launch) (g : GE) (a0 a1 : Nat) (sz : Nat) (u0_0 u0_1 u0_2 u0_3 u0_4 u0_5 u0_6 u0_8 u0_9 u0_10 u0_11 u0_12 u0_13 u0_14 u0_15 u0_16 u0_17 u0_18 u0_21 u0_22 u0_23 u0_24 u0_25 u0_26 u0_27 u0_28 u0_29 u0_30 : Value) (x0_thrown : Int32) (x0_length : Int32) (y1_text : Nat → Int32) (p1 : Int64) (r : Int32) (o_x0_thrown : Int32) (o_x0_length : Int32) (o_y1_text : Nat → Int32) (hf : f_X9_append x0_thrown x0_length y1_text p1 = some (r, o_x0_thrown, o_x0_length, o_y1_text)) : MI l g yX9_append wsX9_append 2 47 [.ref a0, .long p1] (w_X9_append g a0 a1 u0_0 u0_1 u0_2 u0_3 u0_4 u0_5 u0_6 u0_8 u0_9 u0_10 u0_11 u0_12 u0_13 u0_14 u0_15 u0_16 u0_17 u0_18 u0_21 u0_22 u0_23 u0_24 u0_25 u0_26 u0_27 u0_28 u0_29 u0_30 x0_thrown x0_length y1_text) sz (some (.int r)) (w_X9_append g a0 a1 u0_0 u0_1 u0_2 u0_3 u0_4 u0_5 u0_6 u0_8 u0_9 u0_10 u0_11 u0_12 u0_13 u0_14 u0_15 u0_16 u0_17 u0_18 u0_21 u0_22 u0_23 u0_24 u0_25 u0_26 u0_27 u0_28 u0_29 u0_30 o_x0_thrown o_x0_length o_y1_text) := by
  refine MI.start (cc := cX9_append) (maxL := 5) (ret := (some .int)) rfl rfl (nle rfl) ?_
  intro p e s m args below meth c A ls Q hQ hexec hb hr hts hown hlocks hml hA hP hD hG hS hl
  unfold f_X9_append at hf
  have hWX9 : ∀ w ∈ wsX90, w.before args s = true := fun w h => hts w (List.mem_cons_of_mem _ (List.mem_append_right _ h))
  have hS : va_S A s.heap s.heap [] := hS
  refine lv_aload_n (pc := 0) hexec hb dX9_append_0 rfl (lv_at hl 0 rfl) ?_
  refine lv_iconst (pc := 1) hexec hb dX9_append_1 ki_0 ?_
  refine kp_put (pc := 2) hexec hb (own := RX9) hWX9 tyX9 tyX9_ok nmX9 hown hG hP hD hS 0 rfl rfl 7 (nle rfl) (hts _ (List.mem_cons_of_mem _ (List.mem_append_left _ (List.mem_of_getElem? (i := 0) rfl)))) rfl rfl rfl rfl (nle rfl) dX9_append_2 (fun H locs (hP : va_P g.1 vwCl (w_X9_append g a0 a1 u0_0 u0_1 u0_2 u0_3 u0_4 u0_5 u0_6 u0_8 u0_9 u0_10 u0_11 u0_12 u0_13 u0_14 u0_15 u0_16 u0_17 u0_18 u0_21 u0_22 u0_23 u0_24 u0_25 u0_26 u0_27 u0_28 u0_29 u0_30 0 x0_length y1_text) H) (hD : va_D A (w_X9_append g a0 a1 u0_0 u0_1 u0_2 u0_3 u0_4 u0_5 u0_6 u0_8 u0_9 u0_10 u0_11 u0_12 u0_13 u0_14 u0_15 u0_16 u0_17 u0_18 u0_21 u0_22 u0_23 u0_24 u0_25 u0_26 u0_27 u0_28 u0_29 u0_30 0 x0_length y1_text)) hS => ?_)
  refine lv_aload_n (pc := 5) hexec hb dX9_append_5 rfl (lv_at hl 0 rfl) ?_
  refine kg_get (pc := 6) hexec hb (own := RX9) hWX9 hown hG hP 0 rfl rfl 20 (nle rfl) (hts _ (List.mem_cons_of_mem _ (List.mem_append_left _ (List.mem_of_getElem? (i := 1) rfl)))) rfl rfl dX9_append_6 ?_
  refine lv_lload_n (pc := 9) hexec hb dX9_append_9 rfl (lv_at hl 1 rfl) ?_
  obtain ⟨r10, hc, hf⟩ := bd1_e hf
  refine kSp (pc := 10) (S := ⟨hexec, hb, hml, hown, hts⟩) hP hD hG hA hS [] [0, 1] [0, 1] (w2 := (w_X9_append g a0 a1 u0_0 u0_1 u0_2 u0_3 u0_4 u0_5 u0_6 u0_8 u0_9 u0_10 u0_11 u0_12 u0_13 u0_14 u0_15 u0_16 u0_17 u0_18 u0_21 u0_22 u0_23 u0_24 u0_25 u0_26 u0_27 u0_28 u0_29 u0_30 0 x0_length y1_text)) rfl rfl rfl rfl rfl rfl (by decide) (c_X9_bytesIn l g _ p1 r10 hc) gX9_append_X9_bytesIn rfl hs_X9_bytesIn ⟨nle rfl, nle rfl⟩ (rest := [.int x0_length]) rfl rfl hl.1 (nle rfl) dX9_append_10 (fun H locs hP hD hS => ?_)
  refine lv_iadd (pc := 13) hexec hb dX9_append_13 ?_
  refine lv_sipush (pc := 14) hexec hb dX9_append_14 ks_500 ?_
  refine ki_le (pc := 17) hexec hb dX9_append_17 (tgt := 23) rfl hf (fun hc hf => ?_) (fun hc hf => ?_)
  · refine lv_bipush (pc := 23) hexec hb dX9_append_23 kb_56 ?_
    refine lv_istore_n (pc := 25) hexec hb dX9_append_25 rfl hl (nle rfl) rfl (fun ls (hl : lv_has ls 5 [(3, .int 56), (0, .ref a0), (1, .long p1)]) => ?_)
    obtain ⟨l26, el26, hf⟩ := bvf3 hf
    obtain ⟨x0_length_2, y1_text_2, hz, hf⟩ := bd2_e hf
    have hE26 : ∀ (H : Heap) (locs : List Loc) (ls : Array Slot), va_P g.1 vwCl (w_X9_append g a0 a1 u0_0 u0_1 u0_2 u0_3 u0_4 u0_5 u0_6 u0_8 u0_9 u0_10 u0_11 u0_12 u0_13 u0_14 u0_15 u0_16 u0_17 u0_18 u0_21 u0_22 u0_23 u0_24 u0_25 u0_26 u0_27 u0_28 u0_29 u0_30 0 x0_length_2 y1_text_2) H → va_D A (w_X9_append g a0 a1 u0_0 u0_1 u0_2 u0_3 u0_4 u0_5 u0_6 u0_8 u0_9 u0_10 u0_11 u0_12 u0_13 u0_14 u0_15 u0_16 u0_17 u0_18 u0_21 u0_22 u0_23 u0_24 u0_25 u0_26 u0_27 u0_28 u0_29 u0_30 0 x0_length_2 y1_text_2) → va_S A s.heap H locs → lv_has ls 5 [(0, .ref a0)] → W p l e (RM 2 47) s m args below meth c H locs 0 0 Q (F0 m 72 ls []) := by
      intro H locs ls hP hD hS hl
      refine lv_aload_n (pc := 72) hexec hb dX9_append_72 rfl (lv_at hl 0 rfl) ?_
      refine kg_get (pc := 73) hexec hb (own := RX9) hWX9 hown hG hP 0 rfl rfl 20 (nle rfl) (hts _ (List.mem_cons_of_mem _ (List.mem_append_left _ (List.mem_of_getElem? (i := 1) rfl)))) rfl rfl dX9_append_73 ?_
      cases hf
      exact ke_i hQ hexec hb hr hP hD hS dX9_append_76 hlocks
    obtain ⟨n, hz⟩ := lq3_e hz
    have hL26 : ∀ (n : Nat) (v3 : Int32) (x0_length_1 : Int32) (y1_text_1 : Nat → Int32) (H : Heap) (locs : List Loc) (ls : Array Slot), it3 l26 n v3 x0_length_1 y1_text_1 = some (x0_length_2, y1_text_2) → va_P g.1 vwCl (w_X9_append g a0 a1 u0_0 u0_1 u0_2 u0_3 u0_4 u0_5 u0_6 u0_8 u0_9 u0_10 u0_11 u0_12 u0_13 u0_14 u0_15 u0_16 u0_17 u0_18 u0_21 u0_22 u0_23 u0_24 u0_25 u0_26 u0_27 u0_28 u0_29 u0_30 0 x0_length_1 y1_text_1) H → va_D A (w_X9_append g a0 a1 u0_0 u0_1 u0_2 u0_3 u0_4 u0_5 u0_6 u0_8 u0_9 u0_10 u0_11 u0_12 u0_13 u0_14 u0_15 u0_16 u0_17 u0_18 u0_21 u0_22 u0_23 u0_24 u0_25 u0_26 u0_27 u0_28 u0_29 u0_30 0 x0_length_1 y1_text_1) → va_S A s.heap H locs → lv_has ls 5 [(0, .ref a0), (1, .long p1), (3, .int v3)] → W p l e (RM 2 47) s m args below meth c H locs 0 0 Q (F0 m 26 ls []) := by
      intro n
      induction n with
      | zero =>
        intro v3 x0_length_1 y1_text_1 H locs ls hf hP hD hS hl
        exact it3_0 hf
      | succ n26 ih26 =>
        intro v3 x0_length_1 y1_text_1 H locs ls hf hP hD hS hl
        obtain ⟨q26, hf, hk26⟩ := it3_e hf
        have hf := (el26 v3 x0_length_1 y1_text_1).symm.trans hf
        refine lv_iload_n (pc := 26) hexec hb dX9_append_26 rfl (lv_at hl 2 rfl) ?_
        refine kb_lt (pc := 27) hexec hb dX9_append_27 (tgt := 72) rfl hf (fun hc hf => ?_) (fun hc hf => ?_)
        · cases sr3 hf hk26
          exact hE26 _ _ _ hP hD hS (lv_sub hl [0] rfl)
        · refine lv_lload_n (pc := 30) hexec hb dX9_append_30 rfl (lv_at hl 1 rfl) ?_
          refine lv_iload_n (pc := 31) hexec hb dX9_append_31 rfl (lv_at hl 2 rfl) ?_
          refine lv_lshr (pc := 32) hexec hb dX9_append_32 (v := (lshrv p1 v3)) rfl ?_
          refine lv_ldc2 (pc := 33) hexec hb (own := RX9) hown (hts _ (List.mem_cons_of_mem _ (List.mem_append_left _ (List.mem_of_getElem? (i := 2) rfl)))) dX9_append_33 ?_
          refine lv_land (pc := 36) hexec hb dX9_append_36 ?_
          refine lv_l2i (pc := 37) hexec hb dX9_append_37 rfl ?_
          obtain ⟨v4, ev4, hf⟩ := bv_e hf
          refine kn_i ev4 ?_
          refine lv_istore (pc := 38) hexec hb dX9_append_38 hl (nle rfl) rfl (fun ls (hl : lv_has ls 5 [(4, .int v4), (0, .ref a0), (1, .long p1), (3, .int v3)]) => ?_)
          refine lv_iload (pc := 40) hexec hb dX9_append_40 (lv_at hl 0 rfl) ?_
          obtain ⟨j66, ej66, hf⟩ := bvf2 hf
          have hj66 : ∀ (x0_length_3 : Int32) (y1_text_3 : Nat → Int32) (H : Heap) (locs : List Loc) (ls : Array Slot), j66 x0_length_3 y1_text_3 = some q26 → va_P g.1 vwCl (w_X9_append g a0 a1 u0_0 u0_1 u0_2 u0_3 u0_4 u0_5 u0_6 u0_8 u0_9 u0_10 u0_11 u0_12 u0_13 u0_14 u0_15 u0_16 u0_17 u0_18 u0_21 u0_22 u0_23 u0_24 u0_25 u0_26 u0_27 u0_28 u0_29 u0_30 0 x0_length_3 y1_text_3) H → va_D A (w_X9_append g a0 a1 u0_0 u0_1 u0_2 u0_3 u0_4 u0_5 u0_6 u0_8 u0_9 u0_10 u0_11 u0_12 u0_13 u0_14 u0_15 u0_16 u0_17 u0_18 u0_21 u0_22 u0_23 u0_24 u0_25 u0_26 u0_27 u0_28 u0_29 u0_30 0 x0_length_3 y1_text_3) → va_S A s.heap H locs → lv_has ls 5 [(0, .ref a0), (1, .long p1), (3, .int v3)] → W p l e (RM 2 47) s m args below meth c H locs 0 0 Q (F0 m 66 ls []) := by
            intro x0_length_3 y1_text_3 H locs ls hf hP hD hS hl
            have hf := (ej66 x0_length_3 y1_text_3).symm.trans hf
            obtain ⟨v3_1, ev3_1, hf⟩ := bv_e hf
            refine k_iinc (pc := 66) hexec hb dX9_append_66 kq_m8 hl (k := 2) rfl ev3_1 (nle rfl) rfl (fun ls (hl : lv_has ls 5 [(3, .int v3_1), (0, .ref a0), (1, .long p1)]) => ?_)
            refine lv_goto (pc := 69) hexec hb dX9_append_69 (tgt := 26) rfl ?_
            exact ih26 _ _ _ _ _ _ (sl3 hf hk26) hP hD hS (lv_sub hl [1, 2, 0] rfl)
          refine kb_eq (pc := 42) hexec hb dX9_append_42 (tgt := 66) rfl hf (fun hc hf => ?_) (fun hc hf => ?_)
          · exact hj66 _ _ _ _ _ hf hP hD hS (lv_sub hl [1, 2, 3] rfl)
          · refine lv_aload_n (pc := 45) hexec hb dX9_append_45 rfl (lv_at hl 1 rfl) ?_
            refine kg_get (pc := 46) hexec hb (own := RX9) hWX9 hown hG hP 0 rfl rfl 19 (nle rfl) (hts _ (List.mem_cons_of_mem _ (List.mem_append_left _ (List.mem_of_getElem? (i := 3) rfl)))) rfl rfl dX9_append_46 ?_
            refine lv_aload_n (pc := 49) hexec hb dX9_append_49 rfl (lv_at hl 1 rfl) ?_
            refine kg_get (pc := 50) hexec hb (own := RX9) hWX9 hown hG hP 0 rfl rfl 20 (nle rfl) (hts _ (List.mem_cons_of_mem _ (List.mem_append_left _ (List.mem_of_getElem? (i := 1) rfl)))) rfl rfl dX9_append_50 ?_
            refine lv_iload (pc := 53) hexec hb dX9_append_53 (lv_at hl 0 rfl) ?_
            refine kw_iast (pc := 55) hexec hb hG hP hD hS 1 rfl hf dX9_append_55 (fun y1_text_4 H locs hf (hP : va_P g.1 vwCl (w_X9_append g a0 a1 u0_0 u0_1 u0_2 u0_3 u0_4 u0_5 u0_6 u0_8 u0_9 u0_10 u0_11 u0_12 u0_13 u0_14 u0_15 u0_16 u0_17 u0_18 u0_21 u0_22 u0_23 u0_24 u0_25 u0_26 u0_27 u0_28 u0_29 u0_30 0 x0_length_1 y1_text_4) H) (hD : va_D A (w_X9_append g a0 a1 u0_0 u0_1 u0_2 u0_3 u0_4 u0_5 u0_6 u0_8 u0_9 u0_10 u0_11 u0_12 u0_13 u0_14 u0_15 u0_16 u0_17 u0_18 u0_21 u0_22 u0_23 u0_24 u0_25 u0_26 u0_27 u0_28 u0_29 u0_30 0 x0_length_1 y1_text_4)) hS => ?_)
            refine lv_aload_n (pc := 56) hexec hb dX9_append_56 rfl (lv_at hl 1 rfl) ?_
            refine lv_dup (pc := 57) hexec hb dX9_append_57 rfl ?_
            refine kg_get (pc := 58) hexec hb (own := RX9) hWX9 hown hG hP 0 rfl rfl 20 (nle rfl) (hts _ (List.mem_cons_of_mem _ (List.mem_append_left _ (List.mem_of_getElem? (i := 1) rfl)))) rfl rfl dX9_append_58 ?_
            refine lv_iconst (pc := 61) hexec hb dX9_append_61 ki_1 ?_
            refine lv_iadd (pc := 62) hexec hb dX9_append_62 ?_
            obtain ⟨x0_length_4, ex0_length_4, hf⟩ := bv_e hf
            refine kn_i ex0_length_4 ?_
            refine kp_put (pc := 63) hexec hb (own := RX9) hWX9 tyX9 tyX9_ok nmX9 hown hG hP hD hS 0 rfl rfl 20 (nle rfl) (hts _ (List.mem_cons_of_mem _ (List.mem_append_left _ (List.mem_of_getElem? (i := 1) rfl)))) rfl rfl rfl rfl (nle rfl) dX9_append_63 (fun H locs (hP : va_P g.1 vwCl (w_X9_append g a0 a1 u0_0 u0_1 u0_2 u0_3 u0_4 u0_5 u0_6 u0_8 u0_9 u0_10 u0_11 u0_12 u0_13 u0_14 u0_15 u0_16 u0_17 u0_18 u0_21 u0_22 u0_23 u0_24 u0_25 u0_26 u0_27 u0_28 u0_29 u0_30 0 x0_length_4 y1_text_4) H) (hD : va_D A (w_X9_append g a0 a1 u0_0 u0_1 u0_2 u0_3 u0_4 u0_5 u0_6 u0_8 u0_9 u0_10 u0_11 u0_12 u0_13 u0_14 u0_15 u0_16 u0_17 u0_18 u0_21 u0_22 u0_23 u0_24 u0_25 u0_26 u0_27 u0_28 u0_29 u0_30 0 x0_length_4 y1_text_4)) hS => ?_)
            exact hj66 _ _ _ _ _ hf hP hD hS (lv_sub hl [1, 2, 3] rfl)
    exact hL26 n _ _ _ _ _ _ hz hP hD hS (lv_sub hl [1, 2, 0] rfl)
  · refine lv_bipush (pc := 20) hexec hb dX9_append_20 kb_m2 ?_
    cases hf
    exact ke_i hQ hexec hb hr hP hD hS dX9_append_22 hlocks
abbrev w_X9_byteAt (g : GE) (a0 a1 : Nat) (u0_0 u0_1 u0_2 u0_3 u0_4 u0_5 u0_6 u0_7 u0_8 u0_9 u0_10 u0_11 u0_12 u0_13 u0_14 u0_15 u0_16 u0_17 u0_18 u0_21 u0_22 u0_23 u0_24 u0_25 u0_26 u0_27 u0_28 u0_29 u0_30 : Value) (x0_length : Int32) (y1_text : Nat → Int32) : va_W := [(a0, .inr (9, [u0_0, u0_1, u0_2, u0_3, u0_4, u0_5, u0_6, u0_7, u0_8, u0_9, u0_10, u0_11, u0_12, u0_13, u0_14, u0_15, u0_16, u0_17, u0_18, .ref a1, .int x0_length, u0_21, u0_22, u0_23, u0_24, u0_25, u0_26, u0_27, u0_28, u0_29, u0_30])), (a1, .inl (g.2.1 0, 500, .inl y1_text))]
noncomputable def f_X9_byteAt (x0_length : Int32) (y1_text : Nat → Int32) (p1 : Int32) : Option (Int32) :=
  (if x0_length ≤ p1 then (
    some (-1)
  ) else (
    ar p1 500 <|
    some (y1_text p1.toNatClampNeg)
  ))
set_option maxRecDepth 4000 in
theorem c_X9_byteAt (l : Launch) (g : GE) (a0 a1 : Nat) (sz : Nat) (u0_0 u0_1 u0_2 u0_3 u0_4 u0_5 u0_6 u0_7 u0_8 u0_9 u0_10 u0_11 u0_12 u0_13 u0_14 u0_15 u0_16 u0_17 u0_18 u0_21 u0_22 u0_23 u0_24 u0_25 u0_26 u0_27 u0_28 u0_29 u0_30 : Value) (x0_length : Int32) (y1_text : Nat → Int32) (p1 : Int32) (r : Int32) (hf : f_X9_byteAt x0_length y1_text p1 = some r) : MI l g yX9_byteAt wsX9_byteAt 1 24 [.ref a0, .int p1] (w_X9_byteAt g a0 a1 u0_0 u0_1 u0_2 u0_3 u0_4 u0_5 u0_6 u0_7 u0_8 u0_9 u0_10 u0_11 u0_12 u0_13 u0_14 u0_15 u0_16 u0_17 u0_18 u0_21 u0_22 u0_23 u0_24 u0_25 u0_26 u0_27 u0_28 u0_29 u0_30 x0_length y1_text) sz (some (.int r)) (w_X9_byteAt g a0 a1 u0_0 u0_1 u0_2 u0_3 u0_4 u0_5 u0_6 u0_7 u0_8 u0_9 u0_10 u0_11 u0_12 u0_13 u0_14 u0_15 u0_16 u0_17 u0_18 u0_21 u0_22 u0_23 u0_24 u0_25 u0_26 u0_27 u0_28 u0_29 u0_30 x0_length y1_text) := by
  refine MI.start (cc := cX9_byteAt) (maxL := 2) (ret := (some .int)) rfl rfl (nle rfl) ?_
  intro p e s m args below meth c A ls Q hQ hexec hb hr hts hown hlocks hml hA hP hD hG hS hl
  unfold f_X9_byteAt at hf
  have hWX9 : ∀ w ∈ wsX90, w.before args s = true := fun w h => hts w (List.mem_cons_of_mem _ (List.mem_append_right _ h))
  have hS : va_S A s.heap s.heap [] := hS
  refine lv_iload_n (pc := 0) hexec hb dX9_byteAt_0 rfl (lv_at hl 1 rfl) ?_
  refine lv_aload_n (pc := 1) hexec hb dX9_byteAt_1 rfl (lv_at hl 0 rfl) ?_
  refine kg_get (pc := 2) hexec hb (own := RX9) hWX9 hown hG hP 0 rfl rfl 20 (nle rfl) (hts _ (List.mem_cons_of_mem _ (List.mem_append_left _ (List.mem_of_getElem? (i := 0) rfl)))) rfl rfl dX9_byteAt_2 ?_
  refine ki_ge (pc := 5) hexec hb dX9_byteAt_5 (tgt := 17) rfl hf (fun hc hf => ?_) (fun hc hf => ?_)
  · refine lv_iconst (pc := 17) hexec hb dX9_byteAt_17 ki_m1 ?_
    cases hf
    exact ke_i hQ hexec hb hr hP hD hS dX9_byteAt_18 hlocks
  · refine lv_aload_n (pc := 8) hexec hb dX9_byteAt_8 rfl (lv_at hl 0 rfl) ?_
    refine kg_get (pc := 9) hexec hb (own := RX9) hWX9 hown hG hP 0 rfl rfl 19 (nle rfl) (hts _ (List.mem_cons_of_mem _ (List.mem_append_left _ (List.mem_of_getElem? (i := 1) rfl)))) rfl rfl dX9_byteAt_9 ?_
    refine lv_iload_n (pc := 12) hexec hb dX9_byteAt_12 rfl (lv_at hl 1 rfl) ?_
    refine kr_iald (pc := 13) hexec hb hG hP 1 rfl hf dX9_byteAt_13 (fun hf => ?_)
    refine lv_goto (pc := 14) hexec hb dX9_byteAt_14 (tgt := 18) rfl ?_
    cases hf
    exact ke_i hQ hexec hb hr hP hD hS dX9_byteAt_18 hlocks
abbrev w_X9_fails (g : GE) (a0 : Nat) (u0_0 u0_1 u0_2 u0_3 u0_4 u0_5 u0_6 u0_7 u0_8 u0_9 u0_10 u0_11 u0_12 u0_13 u0_14 u0_15 u0_16 u0_17 u0_18 u0_19 u0_20 u0_21 u0_22 u0_25 u0_26 u0_27 u0_28 u0_29 u0_30 : Value) (x0_error : Int32) (x0_errorAt : Int32) : va_W := [(a0, .inr (9, [u0_0, u0_1, u0_2, u0_3, u0_4, u0_5, u0_6, u0_7, u0_8, u0_9, u0_10, u0_11, u0_12, u0_13, u0_14, u0_15, u0_16, u0_17, u0_18, u0_19, u0_20, u0_21, u0_22, .int x0_error, .int x0_errorAt, u0_25, u0_26, u0_27, u0_28, u0_29, u0_30]))]
noncomputable def f_X9_fails (x0_error : Int32) (x0_errorAt : Int32) (p1 : Int32) (p2 : Int32) : Option (Int32 × Int32) :=
  (if x0_error = 0 then (
    some (p1, p2)
  ) else (
    some (x0_error, x0_errorAt)
  ))
set_option maxRecDepth 4000 in
theorem c_X9_fails (l : Launch) (g : GE) (a0 : Nat) (sz : Nat) (u0_0 u0_1 u0_2 u0_3 u0_4 u0_5 u0_6 u0_7 u0_8 u0_9 u0_10 u0_11 u0_12 u0_13 u0_14 u0_15 u0_16 u0_17 u0_18 u0_19 u0_20 u0_21 u0_22 u0_25 u0_26 u0_27 u0_28 u0_29 u0_30 : Value) (x0_error : Int32) (x0_errorAt : Int32) (p1 : Int32) (p2 : Int32) (o_x0_error : Int32) (o_x0_errorAt : Int32) (hf : f_X9_fails x0_error x0_errorAt p1 p2 = some (o_x0_error, o_x0_errorAt)) : MI l g yX9_fails wsX9_fails 1 24 [.ref a0, .int p1, .int p2] (w_X9_fails g a0 u0_0 u0_1 u0_2 u0_3 u0_4 u0_5 u0_6 u0_7 u0_8 u0_9 u0_10 u0_11 u0_12 u0_13 u0_14 u0_15 u0_16 u0_17 u0_18 u0_19 u0_20 u0_21 u0_22 u0_25 u0_26 u0_27 u0_28 u0_29 u0_30 x0_error x0_errorAt) sz none (w_X9_fails g a0 u0_0 u0_1 u0_2 u0_3 u0_4 u0_5 u0_6 u0_7 u0_8 u0_9 u0_10 u0_11 u0_12 u0_13 u0_14 u0_15 u0_16 u0_17 u0_18 u0_19 u0_20 u0_21 u0_22 u0_25 u0_26 u0_27 u0_28 u0_29 u0_30 o_x0_error o_x0_errorAt) := by
  refine MI.start (cc := cX9_fails) (maxL := 3) (ret := none) rfl rfl (nle rfl) ?_
  intro p e s m args below meth c A ls Q hQ hexec hb hr hts hown hlocks hml hA hP hD hG hS hl
  unfold f_X9_fails at hf
  have hWX9 : ∀ w ∈ wsX90, w.before args s = true := fun w h => hts w (List.mem_cons_of_mem _ (List.mem_append_right _ h))
  have hS : va_S A s.heap s.heap [] := hS
  refine lv_aload_n (pc := 0) hexec hb dX9_fails_0 rfl (lv_at hl 0 rfl) ?_
  refine kg_get (pc := 1) hexec hb (own := RX9) hWX9 hown hG hP 0 rfl rfl 23 (nle rfl) (hts _ (List.mem_cons_of_mem _ (List.mem_append_left _ (List.mem_of_getElem? (i := 0) rfl)))) rfl rfl dX9_fails_1 ?_
  refine kb_ne (pc := 4) hexec hb dX9_fails_4 (tgt := 17) rfl hf (fun hc hf => ?_) (fun hc hf => ?_)
  · cases hf
    exact ke_v hQ hexec hb hr hP hD hS dX9_fails_17 hlocks
  · refine lv_aload_n (pc := 7) hexec hb dX9_fails_7 rfl (lv_at hl 0 rfl) ?_
    refine lv_iload_n (pc := 8) hexec hb dX9_fails_8 rfl (lv_at hl 1 rfl) ?_
    refine kp_put (pc := 9) hexec hb (own := RX9) hWX9 tyX9 tyX9_ok nmX9 hown hG hP hD hS 0 rfl rfl 23 (nle rfl) (hts _ (List.mem_cons_of_mem _ (List.mem_append_left _ (List.mem_of_getElem? (i := 0) rfl)))) rfl rfl rfl rfl (nle rfl) dX9_fails_9 (fun H locs (hP : va_P g.1 vwCl (w_X9_fails g a0 u0_0 u0_1 u0_2 u0_3 u0_4 u0_5 u0_6 u0_7 u0_8 u0_9 u0_10 u0_11 u0_12 u0_13 u0_14 u0_15 u0_16 u0_17 u0_18 u0_19 u0_20 u0_21 u0_22 u0_25 u0_26 u0_27 u0_28 u0_29 u0_30 p1 x0_errorAt) H) (hD : va_D A (w_X9_fails g a0 u0_0 u0_1 u0_2 u0_3 u0_4 u0_5 u0_6 u0_7 u0_8 u0_9 u0_10 u0_11 u0_12 u0_13 u0_14 u0_15 u0_16 u0_17 u0_18 u0_19 u0_20 u0_21 u0_22 u0_25 u0_26 u0_27 u0_28 u0_29 u0_30 p1 x0_errorAt)) hS => ?_)
    refine lv_aload_n (pc := 12) hexec hb dX9_fails_12 rfl (lv_at hl 0 rfl) ?_
    refine lv_iload_n (pc := 13) hexec hb dX9_fails_13 rfl (lv_at hl 2 rfl) ?_
    refine kp_put (pc := 14) hexec hb (own := RX9) hWX9 tyX9 tyX9_ok nmX9 hown hG hP hD hS 0 rfl rfl 24 (nle rfl) (hts _ (List.mem_cons_of_mem _ (List.mem_append_left _ (List.mem_of_getElem? (i := 1) rfl)))) rfl rfl rfl rfl (nle rfl) dX9_fails_14 (fun H locs (hP : va_P g.1 vwCl (w_X9_fails g a0 u0_0 u0_1 u0_2 u0_3 u0_4 u0_5 u0_6 u0_7 u0_8 u0_9 u0_10 u0_11 u0_12 u0_13 u0_14 u0_15 u0_16 u0_17 u0_18 u0_19 u0_20 u0_21 u0_22 u0_25 u0_26 u0_27 u0_28 u0_29 u0_30 p1 p2) H) (hD : va_D A (w_X9_fails g a0 u0_0 u0_1 u0_2 u0_3 u0_4 u0_5 u0_6 u0_7 u0_8 u0_9 u0_10 u0_11 u0_12 u0_13 u0_14 u0_15 u0_16 u0_17 u0_18 u0_19 u0_20 u0_21 u0_22 u0_25 u0_26 u0_27 u0_28 u0_29 u0_30 p1 p2)) hS => ?_)
    cases hf
    exact ke_v hQ hexec hb hr hP hD hS dX9_fails_17 hlocks
abbrev w_X9_failsIf (g : GE) (a0 : Nat) (u0_0 u0_1 u0_2 u0_3 u0_4 u0_5 u0_6 u0_7 u0_8 u0_9 u0_10 u0_11 u0_12 u0_13 u0_14 u0_15 u0_16 u0_17 u0_18 u0_19 u0_20 u0_21 u0_25 u0_26 u0_27 u0_28 u0_29 u0_30 : Value) (x0_from : Int32) (x0_error : Int32) (x0_errorAt : Int32) : va_W := [(a0, .inr (9, [u0_0, u0_1, u0_2, u0_3, u0_4, u0_5, u0_6, u0_7, u0_8, u0_9, u0_10, u0_11, u0_12, u0_13, u0_14, u0_15, u0_16, u0_17, u0_18, u0_19, u0_20, u0_21, .int x0_from, .int x0_error, .int x0_errorAt, u0_25, u0_26, u0_27, u0_28, u0_29, u0_30]))]
noncomputable def f_X9_failsIf (x0_from : Int32) (x0_error : Int32) (x0_errorAt : Int32) (p1 : Int32) (p2 : Int32) : Option (Int32 × Int32) :=
  (if p1 = 0 then (
    some (x0_error, x0_errorAt)
  ) else (
    bd2 (f_X9_fails x0_error x0_errorAt p2 x0_from) fun (x0_error_1 : Int32) (x0_errorAt_1 : Int32) =>
    some (x0_error_1, x0_errorAt_1)
  ))
set_option maxRecDepth 4000 in
theorem c_X9_failsIf (l : Launch) (g : GE) (a0 : Nat) (sz : Nat) (u0_0 u0_1 u0_2 u0_3 u0_4 u0_5 u0_6 u0_7 u0_8 u0_9 u0_10 u0_11 u0_12 u0_13 u0_14 u0_15 u0_16 u0_17 u0_18 u0_19 u0_20 u0_21 u0_25 u0_26 u0_27 u0_28 u0_29 u0_30 : Value) (x0_from : Int32) (x0_error : Int32) (x0_errorAt : Int32) (p1 : Int32) (p2 : Int32) (o_x0_error : Int32) (o_x0_errorAt : Int32) (hf : f_X9_failsIf x0_from x0_error x0_errorAt p1 p2 = some (o_x0_error, o_x0_errorAt)) : MI l g yX9_failsIf wsX9_failsIf 2 46 [.ref a0, .int p1, .int p2] (w_X9_failsIf g a0 u0_0 u0_1 u0_2 u0_3 u0_4 u0_5 u0_6 u0_7 u0_8 u0_9 u0_10 u0_11 u0_12 u0_13 u0_14 u0_15 u0_16 u0_17 u0_18 u0_19 u0_20 u0_21 u0_25 u0_26 u0_27 u0_28 u0_29 u0_30 x0_from x0_error x0_errorAt) sz none (w_X9_failsIf g a0 u0_0 u0_1 u0_2 u0_3 u0_4 u0_5 u0_6 u0_7 u0_8 u0_9 u0_10 u0_11 u0_12 u0_13 u0_14 u0_15 u0_16 u0_17 u0_18 u0_19 u0_20 u0_21 u0_25 u0_26 u0_27 u0_28 u0_29 u0_30 x0_from o_x0_error o_x0_errorAt) := by
  refine MI.start (cc := cX9_failsIf) (maxL := 3) (ret := none) rfl rfl (nle rfl) ?_
  intro p e s m args below meth c A ls Q hQ hexec hb hr hts hown hlocks hml hA hP hD hG hS hl
  unfold f_X9_failsIf at hf
  have hWX9 : ∀ w ∈ wsX90, w.before args s = true := fun w h => hts w (List.mem_cons_of_mem _ (List.mem_append_right _ h))
  have hS : va_S A s.heap s.heap [] := hS
  refine lv_iload_n (pc := 0) hexec hb dX9_failsIf_0 rfl (lv_at hl 1 rfl) ?_
  refine kb_eq (pc := 1) hexec hb dX9_failsIf_1 (tgt := 13) rfl hf (fun hc hf => ?_) (fun hc hf => ?_)
  · cases hf
    exact ke_v hQ hexec hb hr hP hD hS dX9_failsIf_13 hlocks
  · refine lv_aload_n (pc := 4) hexec hb dX9_failsIf_4 rfl (lv_at hl 0 rfl) ?_
    refine lv_iload_n (pc := 5) hexec hb dX9_failsIf_5 rfl (lv_at hl 2 rfl) ?_
    refine lv_aload_n (pc := 6) hexec hb dX9_failsIf_6 rfl (lv_at hl 0 rfl) ?_
    refine kg_get (pc := 7) hexec hb (own := RX9) hWX9 hown hG hP 0 rfl rfl 22 (nle rfl) (hts _ (List.mem_cons_of_mem _ (List.mem_append_left _ (List.mem_of_getElem? (i := 0) rfl)))) rfl rfl dX9_failsIf_7 ?_
    obtain ⟨x0_error_1, x0_errorAt_1, hc, hf⟩ := bd2_e hf
    refine kVp (pc := 10) (S := ⟨hexec, hb, hml, hown, hts⟩) hP hD hG hA hS [0] [] [0] (w2 := (w_X9_failsIf g a0 u0_0 u0_1 u0_2 u0_3 u0_4 u0_5 u0_6 u0_7 u0_8 u0_9 u0_10 u0_11 u0_12 u0_13 u0_14 u0_15 u0_16 u0_17 u0_18 u0_19 u0_20 u0_21 u0_25 u0_26 u0_27 u0_28 u0_29 u0_30 x0_from x0_error_1 x0_errorAt_1)) rfl rfl rfl rfl rfl rfl (by decide) (c_X9_fails l g a0 _ u0_0 u0_1 u0_2 u0_3 u0_4 u0_5 u0_6 u0_7 u0_8 u0_9 u0_10 u0_11 u0_12 u0_13 u0_14 u0_15 u0_16 u0_17 u0_18 u0_19 u0_20 u0_21 (.int x0_from) u0_25 u0_26 u0_27 u0_28 u0_29 u0_30 x0_error x0_errorAt p2 x0_from x0_error_1 x0_errorAt_1 hc) gX9_failsIf_X9_fails rfl hv_X9_fails ⟨nle rfl, nle rfl⟩ 9 0 rfl rfl rfl (rest := []) rfl rfl hl.1 (nle rfl) dX9_failsIf_10 (fun H locs hP hD hS => ?_)
    cases hf
    exact ke_v hQ hexec hb hr hP hD hS dX9_failsIf_13 hlocks
abbrev w_X9_isFine (g : GE) (a0 : Nat) (u0_0 u0_1 u0_2 u0_3 u0_4 u0_5 u0_6 u0_7 u0_8 u0_9 u0_10 u0_11 u0_12 u0_13 u0_14 u0_15 u0_16 u0_17 u0_18 u0_19 u0_20 u0_21 u0_22 u0_24 u0_25 u0_26 u0_27 u0_28 u0_29 u0_30 : Value) (x0_error : Int32) : va_W := [(a0, .inr (9, [u0_0, u0_1, u0_2, u0_3, u0_4, u0_5, u0_6, u0_7, u0_8, u0_9, u0_10, u0_11, u0_12, u0_13, u0_14, u0_15, u0_16, u0_17, u0_18, u0_19, u0_20, u0_21, u0_22, .int x0_error, u0_24, u0_25, u0_26, u0_27, u0_28, u0_29, u0_30]))]
noncomputable def f_X9_isFine (x0_error : Int32)  : Option (Int32) :=
  (if x0_error = 0 then (
    some 1
  ) else (
    some 0
  ))
set_option maxRecDepth 4000 in
theorem c_X9_isFine (l : Launch) (g : GE) (a0 : Nat) (sz : Nat) (u0_0 u0_1 u0_2 u0_3 u0_4 u0_5 u0_6 u0_7 u0_8 u0_9 u0_10 u0_11 u0_12 u0_13 u0_14 u0_15 u0_16 u0_17 u0_18 u0_19 u0_20 u0_21 u0_22 u0_24 u0_25 u0_26 u0_27 u0_28 u0_29 u0_30 : Value) (x0_error : Int32)  (r : Int32) (hf : f_X9_isFine x0_error = some r) : MI l g yX9_isFine wsX9_isFine 1 24 [.ref a0] (w_X9_isFine g a0 u0_0 u0_1 u0_2 u0_3 u0_4 u0_5 u0_6 u0_7 u0_8 u0_9 u0_10 u0_11 u0_12 u0_13 u0_14 u0_15 u0_16 u0_17 u0_18 u0_19 u0_20 u0_21 u0_22 u0_24 u0_25 u0_26 u0_27 u0_28 u0_29 u0_30 x0_error) sz (some (.int r)) (w_X9_isFine g a0 u0_0 u0_1 u0_2 u0_3 u0_4 u0_5 u0_6 u0_7 u0_8 u0_9 u0_10 u0_11 u0_12 u0_13 u0_14 u0_15 u0_16 u0_17 u0_18 u0_19 u0_20 u0_21 u0_22 u0_24 u0_25 u0_26 u0_27 u0_28 u0_29 u0_30 x0_error) := by
  refine MI.start (cc := cX9_isFine) (maxL := 1) (ret := (some .boolean)) rfl rfl (nle rfl) ?_
  intro p e s m args below meth c A ls Q hQ hexec hb hr hts hown hlocks hml hA hP hD hG hS hl
  unfold f_X9_isFine at hf
  have hWX9 : ∀ w ∈ wsX90, w.before args s = true := fun w h => hts w (List.mem_cons_of_mem _ (List.mem_append_right _ h))
  have hS : va_S A s.heap s.heap [] := hS
  refine lv_aload_n (pc := 0) hexec hb dX9_isFine_0 rfl (lv_at hl 0 rfl) ?_
  refine kg_get (pc := 1) hexec hb (own := RX9) hWX9 hown hG hP 0 rfl rfl 23 (nle rfl) (hts _ (List.mem_cons_of_mem _ (List.mem_append_left _ (List.mem_of_getElem? (i := 0) rfl)))) rfl rfl dX9_isFine_1 ?_
  refine kb_ne (pc := 4) hexec hb dX9_isFine_4 (tgt := 11) rfl hf (fun hc hf => ?_) (fun hc hf => ?_)
  · refine lv_iconst (pc := 11) hexec hb dX9_isFine_11 ki_0 ?_
    cases hf
    exact ke_z hQ hexec hb hr (.inl rfl) hP hD hS dX9_isFine_12 hlocks
  · refine lv_iconst (pc := 7) hexec hb dX9_isFine_7 ki_1 ?_
    refine lv_goto (pc := 8) hexec hb dX9_isFine_8 (tgt := 12) rfl ?_
    cases hf
    exact ke_z hQ hexec hb hr (.inr rfl) hP hD hS dX9_isFine_12 hlocks
abbrev w_X9_looks (g : GE) (a0 a1 : Nat) (u0_0 u0_1 u0_2 u0_3 u0_4 u0_5 u0_6 u0_7 u0_8 u0_9 u0_10 u0_11 u0_12 u0_13 u0_14 u0_15 u0_16 u0_17 u0_18 u0_24 u0_25 u0_26 u0_27 u0_28 u0_29 u0_30 : Value) (x0_length : Int32) (x0_at : Int32) (x0_from : Int32) (x0_error : Int32) (y1_text : Nat → Int32) : va_W := [(a0, .inr (9, [u0_0, u0_1, u0_2, u0_3, u0_4, u0_5, u0_6, u0_7, u0_8, u0_9, u0_10, u0_11, u0_12, u0_13, u0_14, u0_15, u0_16, u0_17, u0_18, .ref a1, .int x0_length, .int x0_at, .int x0_from, .int x0_error, u0_24, u0_25, u0_26, u0_27, u0_28, u0_29, u0_30])), (a1, .inl (g.2.1 0, 500, .inl y1_text))]
noncomputable def f_X9_looks (x0_length : Int32) (x0_at : Int32) (x0_from : Int32) (x0_error : Int32) (y1_text : Nat → Int32)  : Option (Int32 × Int32 × Int32) :=
  bv (fun (x0_at_1 : Int32) => ((
    bd1 (f_X9_byteAt x0_length y1_text x0_at_1) fun (r5 : Int32) =>
    (if r5 = 32 then (
      bv (x0_at_1 + 1) fun x0_at_3 =>
      some (.inl x0_at_3)
    ) else (
      some (.inr x0_at_1)
    ))
    ) : Option ((Int32) ⊕ (Int32)))) fun l0 =>
  bd1 (lq1 l0 x0_at) fun (x0_at_2 : Int32) =>
  bd1 (f_X9_isFine x0_error) fun (r27 : Int32) =>
  bv (fun (x0_from_1 : Int32) => ((
    bd1 (f_X9_byteAt x0_length y1_text x0_at_2) fun (r46 : Int32) =>
    some (r46, x0_at_2, x0_from_1)
    ) : Option (Int32 × Int32 × Int32))) fun j41 =>
  (if r27 = 0 then (
    j41 x0_from
  ) else (
    j41 x0_at_2
  ))
set_option maxRecDepth 4000 in
theorem c_X9_looks (l : Launch) (g : GE) (a0 a1 : Nat) (sz : Nat) (u0_0 u0_1 u0_2 u0_3 u0_4 u0_5 u0_6 u0_7 u0_8 u0_9 u0_10 u0_11 u0_12 u0_13 u0_14 u0_15 u0_16 u0_17 u0_18 u0_24 u0_25 u0_26 u0_27 u0_28 u0_29 u0_30 : Value) (x0_length : Int32) (x0_at : Int32) (x0_from : Int32) (x0_error : Int32) (y1_text : Nat → Int32)  (r : Int32) (o_x0_at : Int32) (o_x0_from : Int32) (hf : f_X9_looks x0_length x0_at x0_from x0_error y1_text = some (r, o_x0_at, o_x0_from)) : MI l g yX9_looks wsX9_looks 2 45 [.ref a0] (w_X9_looks g a0 a1 u0_0 u0_1 u0_2 u0_3 u0_4 u0_5 u0_6 u0_7 u0_8 u0_9 u0_10 u0_11 u0_12 u0_13 u0_14 u0_15 u0_16 u0_17 u0_18 u0_24 u0_25 u0_26 u0_27 u0_28 u0_29 u0_30 x0_length x0_at x0_from x0_error y1_text) sz (some (.int r)) (w_X9_looks g a0 a1 u0_0 u0_1 u0_2 u0_3 u0_4 u0_5 u0_6 u0_7 u0_8 u0_9 u0_10 u0_11 u0_12 u0_13 u0_14 u0_15 u0_16 u0_17 u0_18 u0_24 u0_25 u0_26 u0_27 u0_28 u0_29 u0_30 x0_length o_x0_at o_x0_from x0_error y1_text) := by
  refine MI.start (cc := cX9_looks) (maxL := 1) (ret := (some .int)) rfl rfl (nle rfl) ?_
  intro p e s m args below meth c A ls Q hQ hexec hb hr hts hown hlocks hml hA hP hD hG hS hl
  unfold f_X9_looks at hf
  have hWX9 : ∀ w ∈ wsX90, w.before args s = true := fun w h => hts w (List.mem_cons_of_mem _ (List.mem_append_right _ h))
  have hS : va_S A s.heap s.heap [] := hS
  obtain ⟨l0, el0, hf⟩ := bvf1 hf
  obtain ⟨x0_at_2, hz, hf⟩ := bd1_e hf
  have hE0 : ∀ (H : Heap) (locs : List Loc) (ls : Array Slot), va_P g.1 vwCl (w_X9_looks g a0 a1 u0_0 u0_1 u0_2 u0_3 u0_4 u0_5 u0_6 u0_7 u0_8 u0_9 u0_10 u0_11 u0_12 u0_13 u0_14 u0_15 u0_16 u0_17 u0_18 u0_24 u0_25 u0_26 u0_27 u0_28 u0_29 u0_30 x0_length x0_at_2 x0_from x0_error y1_text) H → va_D A (w_X9_looks g a0 a1 u0_0 u0_1 u0_2 u0_3 u0_4 u0_5 u0_6 u0_7 u0_8 u0_9 u0_10 u0_11 u0_12 u0_13 u0_14 u0_15 u0_16 u0_17 u0_18 u0_24 u0_25 u0_26 u0_27 u0_28 u0_29 u0_30 x0_length x0_at_2 x0_from x0_error y1_text) → va_S A s.heap H locs → lv_has ls 1 [(0, .ref a0)] → W p l e (RM 2 45) s m args below meth c H locs 0 0 Q (F0 m 26 ls []) := by
    intro H locs ls hP hD hS hl
    refine lv_aload_n (pc := 26) hexec hb dX9_looks_26 rfl (lv_at hl 0 rfl) ?_
    obtain ⟨r27, hc, hf⟩ := bd1_e hf
    refine kVp (pc := 27) (S := ⟨hexec, hb, hml, hown, hts⟩) hP hD hG hA hS [0] [1] [1, 0] (w2 := (w_X9_looks g a0 a1 u0_0 u0_1 u0_2 u0_3 u0_4 u0_5 u0_6 u0_7 u0_8 u0_9 u0_10 u0_11 u0_12 u0_13 u0_14 u0_15 u0_16 u0_17 u0_18 u0_24 u0_25 u0_26 u0_27 u0_28 u0_29 u0_30 x0_length x0_at_2 x0_from x0_error y1_text)) rfl rfl rfl rfl rfl rfl (by decide) (c_X9_isFine l g a0 _ u0_0 u0_1 u0_2 u0_3 u0_4 u0_5 u0_6 u0_7 u0_8 u0_9 u0_10 u0_11 u0_12 u0_13 u0_14 u0_15 u0_16 u0_17 u0_18 (.ref a1) (.int x0_length) (.int x0_at_2) (.int x0_from) u0_24 u0_25 u0_26 u0_27 u0_28 u0_29 u0_30 x0_error r27 hc) gX9_looks_X9_isFine rfl hv_X9_isFine ⟨nle rfl, nle rfl⟩ 9 0 rfl rfl rfl (rest := []) rfl rfl hl.1 (nle rfl) dX9_looks_27 (fun H locs hP hD hS => ?_)
    obtain ⟨j41, ej41, hf⟩ := bvf1 hf
    have hj41 : ∀ (x0_from_1 : Int32) (H : Heap) (locs : List Loc) (ls : Array Slot), j41 x0_from_1 = some (r, o_x0_at, o_x0_from) → va_P g.1 vwCl (w_X9_looks g a0 a1 u0_0 u0_1 u0_2 u0_3 u0_4 u0_5 u0_6 u0_7 u0_8 u0_9 u0_10 u0_11 u0_12 u0_13 u0_14 u0_15 u0_16 u0_17 u0_18 u0_24 u0_25 u0_26 u0_27 u0_28 u0_29 u0_30 x0_length x0_at_2 x0_from_1 x0_error y1_text) H → va_D A (w_X9_looks g a0 a1 u0_0 u0_1 u0_2 u0_3 u0_4 u0_5 u0_6 u0_7 u0_8 u0_9 u0_10 u0_11 u0_12 u0_13 u0_14 u0_15 u0_16 u0_17 u0_18 u0_24 u0_25 u0_26 u0_27 u0_28 u0_29 u0_30 x0_length x0_at_2 x0_from_1 x0_error y1_text) → va_S A s.heap H locs → lv_has ls 1 [(0, .ref a0)] → W p l e (RM 2 45) s m args below meth c H locs 0 0 Q (F0 m 41 ls []) := by
      intro x0_from_1 H locs ls hf hP hD hS hl
      have hf := (ej41 x0_from_1).symm.trans hf
      refine lv_aload_n (pc := 41) hexec hb dX9_looks_41 rfl (lv_at hl 0 rfl) ?_
      refine lv_aload_n (pc := 42) hexec hb dX9_looks_42 rfl (lv_at hl 0 rfl) ?_
      refine kg_get (pc := 43) hexec hb (own := RX9) hWX9 hown hG hP 0 rfl rfl 21 (nle rfl) (hts _ (List.mem_cons_of_mem _ (List.mem_append_left _ (List.mem_of_getElem? (i := 0) rfl)))) rfl rfl dX9_looks_43 ?_
      obtain ⟨r46, hc, hf⟩ := bd1_e hf
      refine kVp (pc := 46) (S := ⟨hexec, hb, hml, hown, hts⟩) hP hD hG hA hS [0, 1] [] [0, 1] (w2 := (w_X9_looks g a0 a1 u0_0 u0_1 u0_2 u0_3 u0_4 u0_5 u0_6 u0_7 u0_8 u0_9 u0_10 u0_11 u0_12 u0_13 u0_14 u0_15 u0_16 u0_17 u0_18 u0_24 u0_25 u0_26 u0_27 u0_28 u0_29 u0_30 x0_length x0_at_2 x0_from_1 x0_error y1_text)) rfl rfl rfl rfl rfl rfl (by decide) (c_X9_byteAt l g a0 a1 _ u0_0 u0_1 u0_2 u0_3 u0_4 u0_5 u0_6 u0_7 u0_8 u0_9 u0_10 u0_11 u0_12 u0_13 u0_14 u0_15 u0_16 u0_17 u0_18 (.int x0_at_2) (.int x0_from_1) (.int x0_error) u0_24 u0_25 u0_26 u0_27 u0_28 u0_29 u0_30 x0_length y1_text x0_at_2 r46 hc) gX9_looks_X9_byteAt rfl hv_X9_byteAt ⟨nle rfl, nle rfl⟩ 9 0 rfl rfl rfl (rest := []) rfl rfl hl.1 (nle rfl) dX9_looks_46 (fun H locs hP hD hS => ?_)
      cases hf
      exact ke_i hQ hexec hb hr hP hD hS dX9_looks_49 hlocks
    refine kb_eq (pc := 30) hexec hb dX9_looks_30 (tgt := 41) rfl hf (fun hc hf => ?_) (fun hc hf => ?_)
    · exact hj41 _ _ _ _ hf hP hD hS (lv_sub hl [0] rfl)
    · refine lv_aload_n (pc := 33) hexec hb dX9_looks_33 rfl (lv_at hl 0 rfl) ?_
      refine lv_aload_n (pc := 34) hexec hb dX9_looks_34 rfl (lv_at hl 0 rfl) ?_
      refine kg_get (pc := 35) hexec hb (own := RX9) hWX9 hown hG hP 0 rfl rfl 21 (nle rfl) (hts _ (List.mem_cons_of_mem _ (List.mem_append_left _ (List.mem_of_getElem? (i := 0) rfl)))) rfl rfl dX9_looks_35 ?_
      refine kp_put (pc := 38) hexec hb (own := RX9) hWX9 tyX9 tyX9_ok nmX9 hown hG hP hD hS 0 rfl rfl 22 (nle rfl) (hts _ (List.mem_cons_of_mem _ (List.mem_append_left _ (List.mem_of_getElem? (i := 1) rfl)))) rfl rfl rfl rfl (nle rfl) dX9_looks_38 (fun H locs (hP : va_P g.1 vwCl (w_X9_looks g a0 a1 u0_0 u0_1 u0_2 u0_3 u0_4 u0_5 u0_6 u0_7 u0_8 u0_9 u0_10 u0_11 u0_12 u0_13 u0_14 u0_15 u0_16 u0_17 u0_18 u0_24 u0_25 u0_26 u0_27 u0_28 u0_29 u0_30 x0_length x0_at_2 x0_at_2 x0_error y1_text) H) (hD : va_D A (w_X9_looks g a0 a1 u0_0 u0_1 u0_2 u0_3 u0_4 u0_5 u0_6 u0_7 u0_8 u0_9 u0_10 u0_11 u0_12 u0_13 u0_14 u0_15 u0_16 u0_17 u0_18 u0_24 u0_25 u0_26 u0_27 u0_28 u0_29 u0_30 x0_length x0_at_2 x0_at_2 x0_error y1_text)) hS => ?_)
      exact hj41 _ _ _ _ hf hP hD hS (lv_sub hl [0] rfl)
  obtain ⟨n, hz⟩ := lq1_e hz
  have hL0 : ∀ (n : Nat) (x0_at_1 : Int32) (H : Heap) (locs : List Loc) (ls : Array Slot), it1 l0 n x0_at_1 = some x0_at_2 → va_P g.1 vwCl (w_X9_looks g a0 a1 u0_0 u0_1 u0_2 u0_3 u0_4 u0_5 u0_6 u0_7 u0_8 u0_9 u0_10 u0_11 u0_12 u0_13 u0_14 u0_15 u0_16 u0_17 u0_18 u0_24 u0_25 u0_26 u0_27 u0_28 u0_29 u0_30 x0_length x0_at_1 x0_from x0_error y1_text) H → va_D A (w_X9_looks g a0 a1 u0_0 u0_1 u0_2 u0_3 u0_4 u0_5 u0_6 u0_7 u0_8 u0_9 u0_10 u0_11 u0_12 u0_13 u0_14 u0_15 u0_16 u0_17 u0_18 u0_24 u0_25 u0_26 u0_27 u0_28 u0_29 u0_30 x0_length x0_at_1 x0_from x0_error y1_text) → va_S A s.heap H locs → lv_has ls 1 [(0, .ref a0)] → W p l e (RM 2 45) s m args below meth c H locs 0 0 Q (F0 m 0 ls []) := by
    intro n
    induction n with
    | zero =>
      intro x0_at_1 H locs ls hf hP hD hS hl
      exact it1_0 hf
    | succ n0 ih0 =>
      intro x0_at_1 H locs ls hf hP hD hS hl
      obtain ⟨q0, hf, hk0⟩ := it1_e hf
      have hf := (el0 x0_at_1).symm.trans hf
      refine lv_aload_n (pc := 0) hexec hb dX9_looks_0 rfl (lv_at hl 0 rfl) ?_
      refine lv_aload_n (pc := 1) hexec hb dX9_looks_1 rfl (lv_at hl 0 rfl) ?_
      refine kg_get (pc := 2) hexec hb (own := RX9) hWX9 hown hG hP 0 rfl rfl 21 (nle rfl) (hts _ (List.mem_cons_of_mem _ (List.mem_append_left _ (List.mem_of_getElem? (i := 0) rfl)))) rfl rfl dX9_looks_2 ?_
      obtain ⟨r5, hc, hf⟩ := bd1_e hf
      refine kVp (pc := 5) (S := ⟨hexec, hb, hml, hown, hts⟩) hP hD hG hA hS [0, 1] [] [0, 1] (w2 := (w_X9_looks g a0 a1 u0_0 u0_1 u0_2 u0_3 u0_4 u0_5 u0_6 u0_7 u0_8 u0_9 u0_10 u0_11 u0_12 u0_13 u0_14 u0_15 u0_16 u0_17 u0_18 u0_24 u0_25 u0_26 u0_27 u0_28 u0_29 u0_30 x0_length x0_at_1 x0_from x0_error y1_text)) rfl rfl rfl rfl rfl rfl (by decide) (c_X9_byteAt l g a0 a1 _ u0_0 u0_1 u0_2 u0_3 u0_4 u0_5 u0_6 u0_7 u0_8 u0_9 u0_10 u0_11 u0_12 u0_13 u0_14 u0_15 u0_16 u0_17 u0_18 (.int x0_at_1) (.int x0_from) (.int x0_error) u0_24 u0_25 u0_26 u0_27 u0_28 u0_29 u0_30 x0_length y1_text x0_at_1 r5 hc) gX9_looks_X9_byteAt rfl hv_X9_byteAt ⟨nle rfl, nle rfl⟩ 9 0 rfl rfl rfl (rest := []) rfl rfl hl.1 (nle rfl) dX9_looks_5 (fun H locs hP hD hS => ?_)
      refine lv_bipush (pc := 8) hexec hb dX9_looks_8 kb_32 ?_
      refine ki_ne (pc := 10) hexec hb dX9_looks_10 (tgt := 26) rfl hf (fun hc hf => ?_) (fun hc hf => ?_)
      · cases sr1 hf hk0
        exact hE0 _ _ _ hP hD hS (lv_sub hl [0] rfl)
      · refine lv_aload_n (pc := 13) hexec hb dX9_looks_13 rfl (lv_at hl 0 rfl) ?_
        refine lv_dup (pc := 14) hexec hb dX9_looks_14 rfl ?_
        refine kg_get (pc := 15) hexec hb (own := RX9) hWX9 hown hG hP 0 rfl rfl 21 (nle rfl) (hts _ (List.mem_cons_of_mem _ (List.mem_append_left _ (List.mem_of_getElem? (i := 0) rfl)))) rfl rfl dX9_looks_15 ?_
        refine lv_iconst (pc := 18) hexec hb dX9_looks_18 ki_1 ?_
        refine lv_iadd (pc := 19) hexec hb dX9_looks_19 ?_
        obtain ⟨x0_at_3, ex0_at_3, hf⟩ := bv_e hf
        refine kn_i ex0_at_3 ?_
        refine kp_put (pc := 20) hexec hb (own := RX9) hWX9 tyX9 tyX9_ok nmX9 hown hG hP hD hS 0 rfl rfl 21 (nle rfl) (hts _ (List.mem_cons_of_mem _ (List.mem_append_left _ (List.mem_of_getElem? (i := 0) rfl)))) rfl rfl rfl rfl (nle rfl) dX9_looks_20 (fun H locs (hP : va_P g.1 vwCl (w_X9_looks g a0 a1 u0_0 u0_1 u0_2 u0_3 u0_4 u0_5 u0_6 u0_7 u0_8 u0_9 u0_10 u0_11 u0_12 u0_13 u0_14 u0_15 u0_16 u0_17 u0_18 u0_24 u0_25 u0_26 u0_27 u0_28 u0_29 u0_30 x0_length x0_at_3 x0_from x0_error y1_text) H) (hD : va_D A (w_X9_looks g a0 a1 u0_0 u0_1 u0_2 u0_3 u0_4 u0_5 u0_6 u0_7 u0_8 u0_9 u0_10 u0_11 u0_12 u0_13 u0_14 u0_15 u0_16 u0_17 u0_18 u0_24 u0_25 u0_26 u0_27 u0_28 u0_29 u0_30 x0_length x0_at_3 x0_from x0_error y1_text)) hS => ?_)
        refine lv_goto (pc := 23) hexec hb dX9_looks_23 (tgt := 0) rfl ?_
        exact ih0 _ _ _ _ (sl1 hf hk0) hP hD hS (lv_sub hl [0] rfl)
  exact hL0 n _ _ _ _ hz hP hD hS (lv_sub hl [0] rfl)
abbrev w_X9_isLetter (g : GE) : va_W := []
noncomputable def f_X9_isLetter  (p0 : Int32) : Option (Int32) :=
  bd1 (f_X9_isIn (p0.toInt64) 97 122) fun (r8 : Int32) =>
  zb r8 (some r8)
set_option maxRecDepth 4000 in
theorem c_X9_isLetter (l : Launch) (g : GE) (sz : Nat)  (p0 : Int32) (r : Int32) (hf : f_X9_isLetter p0 = some r) : MI l g yX9_isLetter wsX9_isLetter 2 49 [.int p0] (w_X9_isLetter g ) sz (some (.int r)) (w_X9_isLetter g ) := by
  refine MI.start (cc := cX9_isLetter) (maxL := 1) (ret := (some .boolean)) rfl rfl (nle rfl) ?_
  intro p e s m args below meth c A ls Q hQ hexec hb hr hts hown hlocks hml hA hP hD hG hS hl
  unfold f_X9_isLetter at hf
  have hS : va_S A s.heap s.heap [] := hS
  refine lv_iload_n (pc := 0) hexec hb dX9_isLetter_0 rfl (lv_at hl 0 rfl) ?_
  refine lv_i2l (pc := 1) hexec hb dX9_isLetter_1 rfl ?_
  refine lv_ldc2 (pc := 2) hexec hb (own := RX9) hown (hts _ (List.mem_cons_of_mem _ (List.mem_of_getElem? (i := 0) rfl))) dX9_isLetter_2 ?_
  refine lv_ldc2 (pc := 5) hexec hb (own := RX9) hown (hts _ (List.mem_cons_of_mem _ (List.mem_of_getElem? (i := 1) rfl))) dX9_isLetter_5 ?_
  obtain ⟨r8, hc, hf⟩ := bd1_e hf
  refine kSp (pc := 8) (S := ⟨hexec, hb, hml, hown, hts⟩) hP hD hG hA hS [] [] [] (w2 := (w_X9_isLetter g )) rfl rfl rfl rfl rfl rfl (by decide) (c_X9_isIn l g _ (p0.toInt64) 97 122 r8 hc) gX9_isLetter_X9_isIn rfl hs_X9_isIn ⟨nle rfl, nle rfl⟩ (rest := []) rfl rfl hl.1 (nle rfl) dX9_isLetter_8 (fun H locs hP hD hS => ?_)
  obtain ⟨hx, hf⟩ := zb_e hf
  cases hf
  exact ke_z hQ hexec hb hr hx hP hD hS dX9_isLetter_11 hlocks
abbrev w_X9_isDigit (g : GE) : va_W := []
noncomputable def f_X9_isDigit  (p0 : Int32) : Option (Int32) :=
  bd1 (f_X9_isIn (p0.toInt64) 48 57) fun (r8 : Int32) =>
  zb r8 (some r8)
set_option maxRecDepth 4000 in
theorem c_X9_isDigit (l : Launch) (g : GE) (sz : Nat)  (p0 : Int32) (r : Int32) (hf : f_X9_isDigit p0 = some r) : MI l g yX9_isDigit wsX9_isDigit 2 49 [.int p0] (w_X9_isDigit g ) sz (some (.int r)) (w_X9_isDigit g ) := by
  refine MI.start (cc := cX9_isDigit) (maxL := 1) (ret := (some .boolean)) rfl rfl (nle rfl) ?_
  intro p e s m args below meth c A ls Q hQ hexec hb hr hts hown hlocks hml hA hP hD hG hS hl
  unfold f_X9_isDigit at hf
  have hS : va_S A s.heap s.heap [] := hS
  refine lv_iload_n (pc := 0) hexec hb dX9_isDigit_0 rfl (lv_at hl 0 rfl) ?_
  refine lv_i2l (pc := 1) hexec hb dX9_isDigit_1 rfl ?_
  refine lv_ldc2 (pc := 2) hexec hb (own := RX9) hown (hts _ (List.mem_cons_of_mem _ (List.mem_of_getElem? (i := 0) rfl))) dX9_isDigit_2 ?_
  refine lv_ldc2 (pc := 5) hexec hb (own := RX9) hown (hts _ (List.mem_cons_of_mem _ (List.mem_of_getElem? (i := 1) rfl))) dX9_isDigit_5 ?_
  obtain ⟨r8, hc, hf⟩ := bd1_e hf
  refine kSp (pc := 8) (S := ⟨hexec, hb, hml, hown, hts⟩) hP hD hG hA hS [] [] [] (w2 := (w_X9_isDigit g )) rfl rfl rfl rfl rfl rfl (by decide) (c_X9_isIn l g _ (p0.toInt64) 48 57 r8 hc) gX9_isDigit_X9_isIn rfl hs_X9_isIn ⟨nle rfl, nle rfl⟩ (rest := []) rfl rfl hl.1 (nle rfl) dX9_isDigit_8 (fun H locs hP hD hS => ?_)
  obtain ⟨hx, hf⟩ := zb_e hf
  cases hf
  exact ke_z hQ hexec hb hr hx hP hD hS dX9_isDigit_11 hlocks
abbrev w_X9_word (g : GE) (a0 a1 : Nat) (u0_0 u0_1 u0_2 u0_3 u0_4 u0_5 u0_6 u0_7 u0_8 u0_9 u0_10 u0_11 u0_12 u0_13 u0_14 u0_15 u0_16 u0_17 u0_18 u0_24 u0_25 u0_26 u0_27 u0_28 u0_29 u0_30 : Value) (x0_length : Int32) (x0_at : Int32) (x0_from : Int32) (x0_error : Int32) (y1_text : Nat → Int32) : va_W := [(a0, .inr (9, [u0_0, u0_1, u0_2, u0_3, u0_4, u0_5, u0_6, u0_7, u0_8, u0_9, u0_10, u0_11, u0_12, u0_13, u0_14, u0_15, u0_16, u0_17, u0_18, .ref a1, .int x0_length, .int x0_at, .int x0_from, .int x0_error, u0_24, u0_25, u0_26, u0_27, u0_28, u0_29, u0_30])), (a1, .inl (g.2.1 0, 500, .inl y1_text))]
noncomputable def f_X9_word (x0_length : Int32) (x0_at : Int32) (x0_from : Int32) (x0_error : Int32) (y1_text : Nat → Int32)  : Option (Int32 × Int32) :=
  bd1 (f_X9_isFine x0_error) fun (r1 : Int32) =>
  (if r1 = 0 then (
    some (x0_at, x0_from)
  ) else (
    bd3 (f_X9_looks x0_length x0_at x0_from x0_error y1_text) fun (r9 : Int32) (x0_at_1 : Int32) (x0_from_1 : Int32) =>
    bv (fun (x0_at_2 : Int32) => ((
      bd1 (f_X9_byteAt x0_length y1_text x0_at_2) fun (r18 : Int32) =>
      bd1 (f_X9_isLetter r18) fun (r21 : Int32) =>
      (if r21 = 0 then (
        some (.inr x0_at_2)
      ) else (
        bv (x0_at_2 + 1) fun x0_at_4 =>
        some (.inl x0_at_4)
      ))
      ) : Option ((Int32) ⊕ (Int32)))) fun l13 =>
    bd1 (lq1 l13 x0_at_1) fun (x0_at_3 : Int32) =>
    some (x0_at_3, x0_from_1)
  ))
set_option maxRecDepth 4000 in
theorem c_X9_word (l : Launch) (g : GE) (a0 a1 : Nat) (sz : Nat) (u0_0 u0_1 u0_2 u0_3 u0_4 u0_5 u0_6 u0_7 u0_8 u0_9 u0_10 u0_11 u0_12 u0_13 u0_14 u0_15 u0_16 u0_17 u0_18 u0_24 u0_25 u0_26 u0_27 u0_28 u0_29 u0_30 : Value) (x0_length : Int32) (x0_at : Int32) (x0_from : Int32) (x0_error : Int32) (y1_text : Nat → Int32)  (o_x0_at : Int32) (o_x0_from : Int32) (hf : f_X9_word x0_length x0_at x0_from x0_error y1_text = some (o_x0_at, o_x0_from)) : MI l g yX9_word wsX9_word 3 69 [.ref a0] (w_X9_word g a0 a1 u0_0 u0_1 u0_2 u0_3 u0_4 u0_5 u0_6 u0_7 u0_8 u0_9 u0_10 u0_11 u0_12 u0_13 u0_14 u0_15 u0_16 u0_17 u0_18 u0_24 u0_25 u0_26 u0_27 u0_28 u0_29 u0_30 x0_length x0_at x0_from x0_error y1_text) sz none (w_X9_word g a0 a1 u0_0 u0_1 u0_2 u0_3 u0_4 u0_5 u0_6 u0_7 u0_8 u0_9 u0_10 u0_11 u0_12 u0_13 u0_14 u0_15 u0_16 u0_17 u0_18 u0_24 u0_25 u0_26 u0_27 u0_28 u0_29 u0_30 x0_length o_x0_at o_x0_from x0_error y1_text) := by
  refine MI.start (cc := cX9_word) (maxL := 1) (ret := none) rfl rfl (nle rfl) ?_
  intro p e s m args below meth c A ls Q hQ hexec hb hr hts hown hlocks hml hA hP hD hG hS hl
  unfold f_X9_word at hf
  have hWX9 : ∀ w ∈ wsX90, w.before args s = true := fun w h => hts w (List.mem_cons_of_mem _ (List.mem_append_right _ h))
  have hS : va_S A s.heap s.heap [] := hS
  refine lv_aload_n (pc := 0) hexec hb dX9_word_0 rfl (lv_at hl 0 rfl) ?_
  obtain ⟨r1, hc, hf⟩ := bd1_e hf
  refine kVp (pc := 1) (S := ⟨hexec, hb, hml, hown, hts⟩) hP hD hG hA hS [0] [1] [1, 0] (w2 := (w_X9_word g a0 a1 u0_0 u0_1 u0_2 u0_3 u0_4 u0_5 u0_6 u0_7 u0_8 u0_9 u0_10 u0_11 u0_12 u0_13 u0_14 u0_15 u0_16 u0_17 u0_18 u0_24 u0_25 u0_26 u0_27 u0_28 u0_29 u0_30 x0_length x0_at x0_from x0_error y1_text)) rfl rfl rfl rfl rfl rfl (by decide) (c_X9_isFine l g a0 _ u0_0 u0_1 u0_2 u0_3 u0_4 u0_5 u0_6 u0_7 u0_8 u0_9 u0_10 u0_11 u0_12 u0_13 u0_14 u0_15 u0_16 u0_17 u0_18 (.ref a1) (.int x0_length) (.int x0_at) (.int x0_from) u0_24 u0_25 u0_26 u0_27 u0_28 u0_29 u0_30 x0_error r1 hc) gX9_word_X9_isFine rfl hv_X9_isFine ⟨nle rfl, nle rfl⟩ 9 0 rfl rfl rfl (rest := []) rfl rfl hl.1 (nle rfl) dX9_word_1 (fun H locs hP hD hS => ?_)
  refine kb_ne (pc := 4) hexec hb dX9_word_4 (tgt := 8) rfl hf (fun hc hf => ?_) (fun hc hf => ?_)
  · refine lv_aload_n (pc := 8) hexec hb dX9_word_8 rfl (lv_at hl 0 rfl) ?_
    obtain ⟨r9, x0_at_1, x0_from_1, hc, hf⟩ := bd3_e hf
    refine kVp (pc := 9) (S := ⟨hexec, hb, hml, hown, hts⟩) hP hD hG hA hS [0, 1] [] [0, 1] (w2 := (w_X9_word g a0 a1 u0_0 u0_1 u0_2 u0_3 u0_4 u0_5 u0_6 u0_7 u0_8 u0_9 u0_10 u0_11 u0_12 u0_13 u0_14 u0_15 u0_16 u0_17 u0_18 u0_24 u0_25 u0_26 u0_27 u0_28 u0_29 u0_30 x0_length x0_at_1 x0_from_1 x0_error y1_text)) rfl rfl rfl rfl rfl rfl (by decide) (c_X9_looks l g a0 a1 _ u0_0 u0_1 u0_2 u0_3 u0_4 u0_5 u0_6 u0_7 u0_8 u0_9 u0_10 u0_11 u0_12 u0_13 u0_14 u0_15 u0_16 u0_17 u0_18 u0_24 u0_25 u0_26 u0_27 u0_28 u0_29 u0_30 x0_length x0_at x0_from x0_error y1_text r9 x0_at_1 x0_from_1 hc) gX9_word_X9_looks rfl hv_X9_looks ⟨nle rfl, nle rfl⟩ 9 0 rfl rfl rfl (rest := []) rfl rfl hl.1 (nle rfl) dX9_word_9 (fun H locs hP hD hS => ?_)
    refine lv_pop (pc := 12) hexec hb dX9_word_12 rfl ?_
    obtain ⟨l13, el13, hf⟩ := bvf1 hf
    obtain ⟨x0_at_3, hz, hf⟩ := bd1_e hf
    have hE13 : ∀ (H : Heap) (locs : List Loc) (ls : Array Slot), va_P g.1 vwCl (w_X9_word g a0 a1 u0_0 u0_1 u0_2 u0_3 u0_4 u0_5 u0_6 u0_7 u0_8 u0_9 u0_10 u0_11 u0_12 u0_13 u0_14 u0_15 u0_16 u0_17 u0_18 u0_24 u0_25 u0_26 u0_27 u0_28 u0_29 u0_30 x0_length x0_at_3 x0_from_1 x0_error y1_text) H → va_D A (w_X9_word g a0 a1 u0_0 u0_1 u0_2 u0_3 u0_4 u0_5 u0_6 u0_7 u0_8 u0_9 u0_10 u0_11 u0_12 u0_13 u0_14 u0_15 u0_16 u0_17 u0_18 u0_24 u0_25 u0_26 u0_27 u0_28 u0_29 u0_30 x0_length x0_at_3 x0_from_1 x0_error y1_text) → va_S A s.heap H locs → lv_has ls 1 [] → W p l e (RM 3 69) s m args below meth c H locs 0 0 Q (F0 m 40 ls []) := by
      intro H locs ls hP hD hS hl
      cases hf
      exact ke_v hQ hexec hb hr hP hD hS dX9_word_40 hlocks
    obtain ⟨n, hz⟩ := lq1_e hz
    have hL13 : ∀ (n : Nat) (x0_at_2 : Int32) (H : Heap) (locs : List Loc) (ls : Array Slot), it1 l13 n x0_at_2 = some x0_at_3 → va_P g.1 vwCl (w_X9_word g a0 a1 u0_0 u0_1 u0_2 u0_3 u0_4 u0_5 u0_6 u0_7 u0_8 u0_9 u0_10 u0_11 u0_12 u0_13 u0_14 u0_15 u0_16 u0_17 u0_18 u0_24 u0_25 u0_26 u0_27 u0_28 u0_29 u0_30 x0_length x0_at_2 x0_from_1 x0_error y1_text) H → va_D A (w_X9_word g a0 a1 u0_0 u0_1 u0_2 u0_3 u0_4 u0_5 u0_6 u0_7 u0_8 u0_9 u0_10 u0_11 u0_12 u0_13 u0_14 u0_15 u0_16 u0_17 u0_18 u0_24 u0_25 u0_26 u0_27 u0_28 u0_29 u0_30 x0_length x0_at_2 x0_from_1 x0_error y1_text) → va_S A s.heap H locs → lv_has ls 1 [(0, .ref a0)] → W p l e (RM 3 69) s m args below meth c H locs 0 0 Q (F0 m 13 ls []) := by
      intro n
      induction n with
      | zero =>
        intro x0_at_2 H locs ls hf hP hD hS hl
        exact it1_0 hf
      | succ n13 ih13 =>
        intro x0_at_2 H locs ls hf hP hD hS hl
        obtain ⟨q13, hf, hk13⟩ := it1_e hf
        have hf := (el13 x0_at_2).symm.trans hf
        refine lv_aload_n (pc := 13) hexec hb dX9_word_13 rfl (lv_at hl 0 rfl) ?_
        refine lv_aload_n (pc := 14) hexec hb dX9_word_14 rfl (lv_at hl 0 rfl) ?_
        refine kg_get (pc := 15) hexec hb (own := RX9) hWX9 hown hG hP 0 rfl rfl 21 (nle rfl) (hts _ (List.mem_cons_of_mem _ (List.mem_append_left _ (List.mem_append_left _ (List.mem_of_getElem? (i := 0) rfl))))) rfl rfl dX9_word_15 ?_
        obtain ⟨r18, hc, hf⟩ := bd1_e hf
        refine kVp (pc := 18) (S := ⟨hexec, hb, hml, hown, hts⟩) hP hD hG hA hS [0, 1] [] [0, 1] (w2 := (w_X9_word g a0 a1 u0_0 u0_1 u0_2 u0_3 u0_4 u0_5 u0_6 u0_7 u0_8 u0_9 u0_10 u0_11 u0_12 u0_13 u0_14 u0_15 u0_16 u0_17 u0_18 u0_24 u0_25 u0_26 u0_27 u0_28 u0_29 u0_30 x0_length x0_at_2 x0_from_1 x0_error y1_text)) rfl rfl rfl rfl rfl rfl (by decide) (c_X9_byteAt l g a0 a1 _ u0_0 u0_1 u0_2 u0_3 u0_4 u0_5 u0_6 u0_7 u0_8 u0_9 u0_10 u0_11 u0_12 u0_13 u0_14 u0_15 u0_16 u0_17 u0_18 (.int x0_at_2) (.int x0_from_1) (.int x0_error) u0_24 u0_25 u0_26 u0_27 u0_28 u0_29 u0_30 x0_length y1_text x0_at_2 r18 hc) gX9_word_X9_byteAt rfl hv_X9_byteAt ⟨nle rfl, nle rfl⟩ 9 0 rfl rfl rfl (rest := []) rfl rfl hl.1 (nle rfl) dX9_word_18 (fun H locs hP hD hS => ?_)
        obtain ⟨r21, hc, hf⟩ := bd1_e hf
        refine kSp (pc := 21) (S := ⟨hexec, hb, hml, hown, hts⟩) hP hD hG hA hS [] [0, 1] [0, 1] (w2 := (w_X9_word g a0 a1 u0_0 u0_1 u0_2 u0_3 u0_4 u0_5 u0_6 u0_7 u0_8 u0_9 u0_10 u0_11 u0_12 u0_13 u0_14 u0_15 u0_16 u0_17 u0_18 u0_24 u0_25 u0_26 u0_27 u0_28 u0_29 u0_30 x0_length x0_at_2 x0_from_1 x0_error y1_text)) rfl rfl rfl rfl rfl rfl (by decide) (c_X9_isLetter l g _ r18 r21 hc) gX9_word_X9_isLetter rfl hs_X9_isLetter ⟨nle rfl, nle rfl⟩ (rest := []) rfl rfl hl.1 (nle rfl) dX9_word_21 (fun H locs hP hD hS => ?_)
        refine kb_eq (pc := 24) hexec hb dX9_word_24 (tgt := 40) rfl hf (fun hc hf => ?_) (fun hc hf => ?_)
        · cases sr1 hf hk13
          exact hE13 _ _ _ hP hD hS (lv_sub hl [] rfl)
        · refine lv_aload_n (pc := 27) hexec hb dX9_word_27 rfl (lv_at hl 0 rfl) ?_
          refine lv_dup (pc := 28) hexec hb dX9_word_28 rfl ?_
          refine kg_get (pc := 29) hexec hb (own := RX9) hWX9 hown hG hP 0 rfl rfl 21 (nle rfl) (hts _ (List.mem_cons_of_mem _ (List.mem_append_left _ (List.mem_append_left _ (List.mem_of_getElem? (i := 0) rfl))))) rfl rfl dX9_word_29 ?_
          refine lv_iconst (pc := 32) hexec hb dX9_word_32 ki_1 ?_
          refine lv_iadd (pc := 33) hexec hb dX9_word_33 ?_
          obtain ⟨x0_at_4, ex0_at_4, hf⟩ := bv_e hf
          refine kn_i ex0_at_4 ?_
          refine kp_put (pc := 34) hexec hb (own := RX9) hWX9 tyX9 tyX9_ok nmX9 hown hG hP hD hS 0 rfl rfl 21 (nle rfl) (hts _ (List.mem_cons_of_mem _ (List.mem_append_left _ (List.mem_append_left _ (List.mem_of_getElem? (i := 0) rfl))))) rfl rfl rfl rfl (nle rfl) dX9_word_34 (fun H locs (hP : va_P g.1 vwCl (w_X9_word g a0 a1 u0_0 u0_1 u0_2 u0_3 u0_4 u0_5 u0_6 u0_7 u0_8 u0_9 u0_10 u0_11 u0_12 u0_13 u0_14 u0_15 u0_16 u0_17 u0_18 u0_24 u0_25 u0_26 u0_27 u0_28 u0_29 u0_30 x0_length x0_at_4 x0_from_1 x0_error y1_text) H) (hD : va_D A (w_X9_word g a0 a1 u0_0 u0_1 u0_2 u0_3 u0_4 u0_5 u0_6 u0_7 u0_8 u0_9 u0_10 u0_11 u0_12 u0_13 u0_14 u0_15 u0_16 u0_17 u0_18 u0_24 u0_25 u0_26 u0_27 u0_28 u0_29 u0_30 x0_length x0_at_4 x0_from_1 x0_error y1_text)) hS => ?_)
          refine lv_goto (pc := 37) hexec hb dX9_word_37 (tgt := 13) rfl ?_
          exact ih13 _ _ _ _ (sl1 hf hk13) hP hD hS (lv_sub hl [0] rfl)
    exact hL13 n _ _ _ _ hz hP hD hS (lv_sub hl [0] rfl)
  · cases hf
    exact ke_v hQ hexec hb hr hP hD hS dX9_word_7 hlocks
abbrev w_X9_number (g : GE) (a0 a1 : Nat) (u0_0 u0_1 u0_2 u0_3 u0_4 u0_5 u0_6 u0_7 u0_8 u0_9 u0_10 u0_11 u0_12 u0_13 u0_14 u0_15 u0_16 u0_17 u0_18 u0_25 u0_26 u0_27 u0_28 u0_29 u0_30 : Value) (x0_length : Int32) (x0_at : Int32) (x0_from : Int32) (x0_error : Int32) (x0_errorAt : Int32) (y1_text : Nat → Int32) : va_W := [(a0, .inr (9, [u0_0, u0_1, u0_2, u0_3, u0_4, u0_5, u0_6, u0_7, u0_8, u0_9, u0_10, u0_11, u0_12, u0_13, u0_14, u0_15, u0_16, u0_17, u0_18, .ref a1, .int x0_length, .int x0_at, .int x0_from, .int x0_error, .int x0_errorAt, u0_25, u0_26, u0_27, u0_28, u0_29, u0_30])), (a1, .inl (g.2.1 0, 500, .inl y1_text))]
noncomputable def f_X9_number (x0_length : Int32) (x0_at : Int32) (x0_from : Int32) (x0_error : Int32) (x0_errorAt : Int32) (y1_text : Nat → Int32) (p1 : Int32) (p2 : Int32) : Option (Int32 × Int32 × Int32 × Int32 × Int32) :=
  bd1 (f_X9_isFine x0_error) fun (r1 : Int32) =>
  (if r1 = 0 then (
    some (p1, x0_at, x0_from, x0_error, x0_errorAt)
  ) else (
    bd3 (f_X9_looks x0_length x0_at x0_from x0_error y1_text) fun (r10 : Int32) (x0_at_1 : Int32) (x0_from_1 : Int32) =>
    bd1 (f_X9_isDigit r10) fun (r13 : Int32) =>
    (if r13 = 0 then (
      bd2 (f_X9_fails x0_error x0_errorAt 1 x0_from_1) fun (x0_error_2 : Int32) (x0_errorAt_2 : Int32) =>
      some (p1, x0_at_1, x0_from_1, x0_error_2, x0_errorAt_2)
    ) else (
      bv (fun (v3 : Int32) (x0_at_2 : Int32) => ((
        bd1 (f_X9_byteAt x0_length y1_text x0_at_2) fun (r37 : Int32) =>
        bd1 (f_X9_isDigit r37) fun (r40 : Int32) =>
        (if r40 = 0 then (
          some (.inr (v3, x0_at_2))
        ) else (
          bd1 (f_X9_byteAt x0_length y1_text x0_at_2) fun (r57 : Int32) =>
          bv (if (((10 * v3) + r57) - 48) < 1000000 then (((10 * v3) + r57) - 48) else 1000000) fun v3_2 =>
          bv (x0_at_2 + 1) fun x0_at_4 =>
          some (.inl (v3_2, x0_at_4))
        ))
        ) : Option ((Int32 × Int32) ⊕ (Int32 × Int32)))) fun l32 =>
      bd2 (lq2 l32 0 x0_at_1) fun (v3_1 : Int32) (x0_at_3 : Int32) =>
      bd1 (f_X9_isIn (v3_1.toInt64) (p1.toInt64) (p2.toInt64)) fun (r88 : Int32) =>
      bv (fun (t99 : Int32) => ((
        bd2 (f_X9_failsIf x0_from_1 x0_error x0_errorAt t99 2) fun (x0_error_1 : Int32) (x0_errorAt_1 : Int32) =>
        bd1 (f_X9_isFine x0_error_1) fun (r104 : Int32) =>
        (if r104 = 0 then (
          some (p1, x0_at_3, x0_from_1, x0_error_1, x0_errorAt_1)
        ) else (
          some (v3_1, x0_at_3, x0_from_1, x0_error_1, x0_errorAt_1)
        ))
        ) : Option (Int32 × Int32 × Int32 × Int32 × Int32))) fun j99 =>
      (if r88 = 0 then (
        j99 1
      ) else (
        j99 0
      ))
    ))
  ))
set_option maxRecDepth 4000 in
theorem c_X9_number (l : Launch) (g : GE) (a0 a1 : Nat) (sz : Nat) (u0_0 u0_1 u0_2 u0_3 u0_4 u0_5 u0_6 u0_7 u0_8 u0_9 u0_10 u0_11 u0_12 u0_13 u0_14 u0_15 u0_16 u0_17 u0_18 u0_25 u0_26 u0_27 u0_28 u0_29 u0_30 : Value) (x0_length : Int32) (x0_at : Int32) (x0_from : Int32) (x0_error : Int32) (x0_errorAt : Int32) (y1_text : Nat → Int32) (p1 : Int32) (p2 : Int32) (r : Int32) (o_x0_at : Int32) (o_x0_from : Int32) (o_x0_error : Int32) (o_x0_errorAt : Int32) (hf : f_X9_number x0_length x0_at x0_from x0_error x0_errorAt y1_text p1 p2 = some (r, o_x0_at, o_x0_from, o_x0_error, o_x0_errorAt)) : MI l g yX9_number wsX9_number 3 69 [.ref a0, .int p1, .int p2] (w_X9_number g a0 a1 u0_0 u0_1 u0_2 u0_3 u0_4 u0_5 u0_6 u0_7 u0_8 u0_9 u0_10 u0_11 u0_12 u0_13 u0_14 u0_15 u0_16 u0_17 u0_18 u0_25 u0_26 u0_27 u0_28 u0_29 u0_30 x0_length x0_at x0_from x0_error x0_errorAt y1_text) sz (some (.int r)) (w_X9_number g a0 a1 u0_0 u0_1 u0_2 u0_3 u0_4 u0_5 u0_6 u0_7 u0_8 u0_9 u0_10 u0_11 u0_12 u0_13 u0_14 u0_15 u0_16 u0_17 u0_18 u0_25 u0_26 u0_27 u0_28 u0_29 u0_30 x0_length o_x0_at o_x0_from o_x0_error o_x0_errorAt y1_text) := by
  refine MI.start (cc := cX9_number) (maxL := 4) (ret := (some .int)) rfl rfl (nle rfl) ?_
  intro p e s m args below meth c A ls Q hQ hexec hb hr hts hown hlocks hml hA hP hD hG hS hl
  unfold f_X9_number at hf
  have hWX9 : ∀ w ∈ wsX90, w.before args s = true := fun w h => hts w (List.mem_cons_of_mem _ (List.mem_append_right _ h))
  have hS : va_S A s.heap s.heap [] := hS
  refine lv_aload_n (pc := 0) hexec hb dX9_number_0 rfl (lv_at hl 0 rfl) ?_
  obtain ⟨r1, hc, hf⟩ := bd1_e hf
  refine kVp (pc := 1) (S := ⟨hexec, hb, hml, hown, hts⟩) hP hD hG hA hS [0] [1] [1, 0] (w2 := (w_X9_number g a0 a1 u0_0 u0_1 u0_2 u0_3 u0_4 u0_5 u0_6 u0_7 u0_8 u0_9 u0_10 u0_11 u0_12 u0_13 u0_14 u0_15 u0_16 u0_17 u0_18 u0_25 u0_26 u0_27 u0_28 u0_29 u0_30 x0_length x0_at x0_from x0_error x0_errorAt y1_text)) rfl rfl rfl rfl rfl rfl (by decide) (c_X9_isFine l g a0 _ u0_0 u0_1 u0_2 u0_3 u0_4 u0_5 u0_6 u0_7 u0_8 u0_9 u0_10 u0_11 u0_12 u0_13 u0_14 u0_15 u0_16 u0_17 u0_18 (.ref a1) (.int x0_length) (.int x0_at) (.int x0_from) (.int x0_errorAt) u0_25 u0_26 u0_27 u0_28 u0_29 u0_30 x0_error r1 hc) gX9_number_X9_isFine rfl hv_X9_isFine ⟨nle rfl, nle rfl⟩ 9 0 rfl rfl rfl (rest := []) rfl rfl hl.1 (nle rfl) dX9_number_1 (fun H locs hP hD hS => ?_)
  refine kb_ne (pc := 4) hexec hb dX9_number_4 (tgt := 9) rfl hf (fun hc hf => ?_) (fun hc hf => ?_)
  · refine lv_aload_n (pc := 9) hexec hb dX9_number_9 rfl (lv_at hl 0 rfl) ?_
    obtain ⟨r10, x0_at_1, x0_from_1, hc, hf⟩ := bd3_e hf
    refine kVp (pc := 10) (S := ⟨hexec, hb, hml, hown, hts⟩) hP hD hG hA hS [0, 1] [] [0, 1] (w2 := (w_X9_number g a0 a1 u0_0 u0_1 u0_2 u0_3 u0_4 u0_5 u0_6 u0_7 u0_8 u0_9 u0_10 u0_11 u0_12 u0_13 u0_14 u0_15 u0_16 u0_17 u0_18 u0_25 u0_26 u0_27 u0_28 u0_29 u0_30 x0_length x0_at_1 x0_from_1 x0_error x0_errorAt y1_text)) rfl rfl rfl rfl rfl rfl (by decide) (c_X9_looks l g a0 a1 _ u0_0 u0_1 u0_2 u0_3 u0_4 u0_5 u0_6 u0_7 u0_8 u0_9 u0_10 u0_11 u0_12 u0_13 u0_14 u0_15 u0_16 u0_17 u0_18 (.int x0_errorAt) u0_25 u0_26 u0_27 u0_28 u0_29 u0_30 x0_length x0_at x0_from x0_error y1_text r10 x0_at_1 x0_from_1 hc) gX9_number_X9_looks rfl hv_X9_looks ⟨nle rfl, nle rfl⟩ 9 0 rfl rfl rfl (rest := []) rfl rfl hl.1 (nle rfl) dX9_number_10 (fun H locs hP hD hS => ?_)
    obtain ⟨r13, hc, hf⟩ := bd1_e hf
    refine kSp (pc := 13) (S := ⟨hexec, hb, hml, hown, hts⟩) hP hD hG hA hS [] [0, 1] [0, 1] (w2 := (w_X9_number g a0 a1 u0_0 u0_1 u0_2 u0_3 u0_4 u0_5 u0_6 u0_7 u0_8 u0_9 u0_10 u0_11 u0_12 u0_13 u0_14 u0_15 u0_16 u0_17 u0_18 u0_25 u0_26 u0_27 u0_28 u0_29 u0_30 x0_length x0_at_1 x0_from_1 x0_error x0_errorAt y1_text)) rfl rfl rfl rfl rfl rfl (by decide) (c_X9_isDigit l g _ r10 r13 hc) gX9_number_X9_isDigit rfl hs_X9_isDigit ⟨nle rfl, nle rfl⟩ (rest := []) rfl rfl hl.1 (nle rfl) dX9_number_13 (fun H locs hP hD hS => ?_)
    refine kb_ne (pc := 16) hexec hb dX9_number_16 (tgt := 30) rfl hf (fun hc hf => ?_) (fun hc hf => ?_)
    · refine lv_iconst (pc := 30) hexec hb dX9_number_30 ki_0 ?_
      refine lv_istore_n (pc := 31) hexec hb dX9_number_31 rfl hl (nle rfl) rfl (fun ls (hl : lv_has ls 4 [(3, .int 0), (0, .ref a0), (1, .int p1), (2, .int p2)]) => ?_)
      obtain ⟨l32, el32, hf⟩ := bvf2 hf
      obtain ⟨v3_1, x0_at_3, hz, hf⟩ := bd2_e hf
      have hE32 : ∀ (H : Heap) (locs : List Loc) (ls : Array Slot), va_P g.1 vwCl (w_X9_number g a0 a1 u0_0 u0_1 u0_2 u0_3 u0_4 u0_5 u0_6 u0_7 u0_8 u0_9 u0_10 u0_11 u0_12 u0_13 u0_14 u0_15 u0_16 u0_17 u0_18 u0_25 u0_26 u0_27 u0_28 u0_29 u0_30 x0_length x0_at_3 x0_from_1 x0_error x0_errorAt y1_text) H → va_D A (w_X9_number g a0 a1 u0_0 u0_1 u0_2 u0_3 u0_4 u0_5 u0_6 u0_7 u0_8 u0_9 u0_10 u0_11 u0_12 u0_13 u0_14 u0_15 u0_16 u0_17 u0_18 u0_25 u0_26 u0_27 u0_28 u0_29 u0_30 x0_length x0_at_3 x0_from_1 x0_error x0_errorAt y1_text) → va_S A s.heap H locs → lv_has ls 4 [(0, .ref a0), (1, .int p1), (2, .int p2), (3, .int v3_1)] → W p l e (RM 3 69) s m args below meth c H locs 0 0 Q (F0 m 81 ls []) := by
        intro H locs ls hP hD hS hl
        refine lv_aload_n (pc := 81) hexec hb dX9_number_81 rfl (lv_at hl 0 rfl) ?_
        refine lv_iload_n (pc := 82) hexec hb dX9_number_82 rfl (lv_at hl 3 rfl) ?_
        refine lv_i2l (pc := 83) hexec hb dX9_number_83 rfl ?_
        refine lv_iload_n (pc := 84) hexec hb dX9_number_84 rfl (lv_at hl 1 rfl) ?_
        refine lv_i2l (pc := 85) hexec hb dX9_number_85 rfl ?_
        refine lv_iload_n (pc := 86) hexec hb dX9_number_86 rfl (lv_at hl 2 rfl) ?_
        refine lv_i2l (pc := 87) hexec hb dX9_number_87 rfl ?_
        obtain ⟨r88, hc, hf⟩ := bd1_e hf
        refine kSp (pc := 88) (S := ⟨hexec, hb, hml, hown, hts⟩) hP hD hG hA hS [] [0, 1] [0, 1] (w2 := (w_X9_number g a0 a1 u0_0 u0_1 u0_2 u0_3 u0_4 u0_5 u0_6 u0_7 u0_8 u0_9 u0_10 u0_11 u0_12 u0_13 u0_14 u0_15 u0_16 u0_17 u0_18 u0_25 u0_26 u0_27 u0_28 u0_29 u0_30 x0_length x0_at_3 x0_from_1 x0_error x0_errorAt y1_text)) rfl rfl rfl rfl rfl rfl (by decide) (c_X9_isIn l g _ (v3_1.toInt64) (p1.toInt64) (p2.toInt64) r88 hc) gX9_number_X9_isIn rfl hs_X9_isIn ⟨nle rfl, nle rfl⟩ (rest := [.ref a0]) rfl rfl hl.1 (nle rfl) dX9_number_88 (fun H locs hP hD hS => ?_)
        obtain ⟨j99, ej99, hf⟩ := bvf1 hf
        have hj99 : ∀ (t99 : Int32) (H : Heap) (locs : List Loc) (ls : Array Slot), j99 t99 = some (r, o_x0_at, o_x0_from, o_x0_error, o_x0_errorAt) → va_P g.1 vwCl (w_X9_number g a0 a1 u0_0 u0_1 u0_2 u0_3 u0_4 u0_5 u0_6 u0_7 u0_8 u0_9 u0_10 u0_11 u0_12 u0_13 u0_14 u0_15 u0_16 u0_17 u0_18 u0_25 u0_26 u0_27 u0_28 u0_29 u0_30 x0_length x0_at_3 x0_from_1 x0_error x0_errorAt y1_text) H → va_D A (w_X9_number g a0 a1 u0_0 u0_1 u0_2 u0_3 u0_4 u0_5 u0_6 u0_7 u0_8 u0_9 u0_10 u0_11 u0_12 u0_13 u0_14 u0_15 u0_16 u0_17 u0_18 u0_25 u0_26 u0_27 u0_28 u0_29 u0_30 x0_length x0_at_3 x0_from_1 x0_error x0_errorAt y1_text) → va_S A s.heap H locs → lv_has ls 4 [(0, .ref a0), (1, .int p1), (3, .int v3_1)] → W p l e (RM 3 69) s m args below meth c H locs 0 0 Q (F0 m 99 ls [.int t99, .ref a0]) := by
          intro t99 H locs ls hf hP hD hS hl
          have hf := (ej99 t99).symm.trans hf
          refine lv_iconst (pc := 99) hexec hb dX9_number_99 ki_2 ?_
          obtain ⟨x0_error_1, x0_errorAt_1, hc, hf⟩ := bd2_e hf
          refine kVp (pc := 100) (S := ⟨hexec, hb, hml, hown, hts⟩) hP hD hG hA hS [0] [1] [1, 0] (w2 := (w_X9_number g a0 a1 u0_0 u0_1 u0_2 u0_3 u0_4 u0_5 u0_6 u0_7 u0_8 u0_9 u0_10 u0_11 u0_12 u0_13 u0_14 u0_15 u0_16 u0_17 u0_18 u0_25 u0_26 u0_27 u0_28 u0_29 u0_30 x0_length x0_at_3 x0_from_1 x0_error_1 x0_errorAt_1 y1_text)) rfl rfl rfl rfl rfl rfl (by decide) (c_X9_failsIf l g a0 _ u0_0 u0_1 u0_2 u0_3 u0_4 u0_5 u0_6 u0_7 u0_8 u0_9 u0_10 u0_11 u0_12 u0_13 u0_14 u0_15 u0_16 u0_17 u0_18 (.ref a1) (.int x0_length) (.int x0_at_3) u0_25 u0_26 u0_27 u0_28 u0_29 u0_30 x0_from_1 x0_error x0_errorAt t99 2 x0_error_1 x0_errorAt_1 hc) gX9_number_X9_failsIf rfl hv_X9_failsIf ⟨nle rfl, nle rfl⟩ 9 0 rfl rfl rfl (rest := []) rfl rfl hl.1 (nle rfl) dX9_number_100 (fun H locs hP hD hS => ?_)
          refine lv_aload_n (pc := 103) hexec hb dX9_number_103 rfl (lv_at hl 0 rfl) ?_
          obtain ⟨r104, hc, hf⟩ := bd1_e hf
          refine kVp (pc := 104) (S := ⟨hexec, hb, hml, hown, hts⟩) hP hD hG hA hS [0] [1] [1, 0] (w2 := (w_X9_number g a0 a1 u0_0 u0_1 u0_2 u0_3 u0_4 u0_5 u0_6 u0_7 u0_8 u0_9 u0_10 u0_11 u0_12 u0_13 u0_14 u0_15 u0_16 u0_17 u0_18 u0_25 u0_26 u0_27 u0_28 u0_29 u0_30 x0_length x0_at_3 x0_from_1 x0_error_1 x0_errorAt_1 y1_text)) rfl rfl rfl rfl rfl rfl (by decide) (c_X9_isFine l g a0 _ u0_0 u0_1 u0_2 u0_3 u0_4 u0_5 u0_6 u0_7 u0_8 u0_9 u0_10 u0_11 u0_12 u0_13 u0_14 u0_15 u0_16 u0_17 u0_18 (.ref a1) (.int x0_length) (.int x0_at_3) (.int x0_from_1) (.int x0_errorAt_1) u0_25 u0_26 u0_27 u0_28 u0_29 u0_30 x0_error_1 r104 hc) gX9_number_X9_isFine rfl hv_X9_isFine ⟨nle rfl, nle rfl⟩ 9 0 rfl rfl rfl (rest := []) rfl rfl hl.1 (nle rfl) dX9_number_104 (fun H locs hP hD hS => ?_)
          refine kb_eq (pc := 107) hexec hb dX9_number_107 (tgt := 114) rfl hf (fun hc hf => ?_) (fun hc hf => ?_)
          · refine lv_iload_n (pc := 114) hexec hb dX9_number_114 rfl (lv_at hl 1 rfl) ?_
            cases hf
            exact ke_i hQ hexec hb hr hP hD hS dX9_number_115 hlocks
          · refine lv_iload_n (pc := 110) hexec hb dX9_number_110 rfl (lv_at hl 2 rfl) ?_
            refine lv_goto (pc := 111) hexec hb dX9_number_111 (tgt := 115) rfl ?_
            cases hf
            exact ke_i hQ hexec hb hr hP hD hS dX9_number_115 hlocks
        refine kb_ne (pc := 91) hexec hb dX9_number_91 (tgt := 98) rfl hf (fun hc hf => ?_) (fun hc hf => ?_)
        · refine lv_iconst (pc := 98) hexec hb dX9_number_98 ki_0 ?_
          exact hj99 _ _ _ _ hf hP hD hS (lv_sub hl [0, 1, 3] rfl)
        · refine lv_iconst (pc := 94) hexec hb dX9_number_94 ki_1 ?_
          refine lv_goto (pc := 95) hexec hb dX9_number_95 (tgt := 99) rfl ?_
          exact hj99 _ _ _ _ hf hP hD hS (lv_sub hl [0, 1, 3] rfl)
      obtain ⟨n, hz⟩ := lq2_e hz
      have hL32 : ∀ (n : Nat) (v3 : Int32) (x0_at_2 : Int32) (H : Heap) (locs : List Loc) (ls : Array Slot), it2 l32 n v3 x0_at_2 = some (v3_1, x0_at_3) → va_P g.1 vwCl (w_X9_number g a0 a1 u0_0 u0_1 u0_2 u0_3 u0_4 u0_5 u0_6 u0_7 u0_8 u0_9 u0_10 u0_11 u0_12 u0_13 u0_14 u0_15 u0_16 u0_17 u0_18 u0_25 u0_26 u0_27 u0_28 u0_29 u0_30 x0_length x0_at_2 x0_from_1 x0_error x0_errorAt y1_text) H → va_D A (w_X9_number g a0 a1 u0_0 u0_1 u0_2 u0_3 u0_4 u0_5 u0_6 u0_7 u0_8 u0_9 u0_10 u0_11 u0_12 u0_13 u0_14 u0_15 u0_16 u0_17 u0_18 u0_25 u0_26 u0_27 u0_28 u0_29 u0_30 x0_length x0_at_2 x0_from_1 x0_error x0_errorAt y1_text) → va_S A s.heap H locs → lv_has ls 4 [(0, .ref a0), (1, .int p1), (2, .int p2), (3, .int v3)] → W p l e (RM 3 69) s m args below meth c H locs 0 0 Q (F0 m 32 ls []) := by
        intro n
        induction n with
        | zero =>
          intro v3 x0_at_2 H locs ls hf hP hD hS hl
          exact it2_0 hf
        | succ n32 ih32 =>
          intro v3 x0_at_2 H locs ls hf hP hD hS hl
          obtain ⟨q32, hf, hk32⟩ := it2_e hf
          have hf := (el32 v3 x0_at_2).symm.trans hf
          refine lv_aload_n (pc := 32) hexec hb dX9_number_32 rfl (lv_at hl 0 rfl) ?_
          refine lv_aload_n (pc := 33) hexec hb dX9_number_33 rfl (lv_at hl 0 rfl) ?_
          refine kg_get (pc := 34) hexec hb (own := RX9) hWX9 hown hG hP 0 rfl rfl 21 (nle rfl) (hts _ (List.mem_cons_of_mem _ (List.mem_append_left _ (List.mem_append_left _ (List.mem_of_getElem? (i := 1) rfl))))) rfl rfl dX9_number_34 ?_
          obtain ⟨r37, hc, hf⟩ := bd1_e hf
          refine kVp (pc := 37) (S := ⟨hexec, hb, hml, hown, hts⟩) hP hD hG hA hS [0, 1] [] [0, 1] (w2 := (w_X9_number g a0 a1 u0_0 u0_1 u0_2 u0_3 u0_4 u0_5 u0_6 u0_7 u0_8 u0_9 u0_10 u0_11 u0_12 u0_13 u0_14 u0_15 u0_16 u0_17 u0_18 u0_25 u0_26 u0_27 u0_28 u0_29 u0_30 x0_length x0_at_2 x0_from_1 x0_error x0_errorAt y1_text)) rfl rfl rfl rfl rfl rfl (by decide) (c_X9_byteAt l g a0 a1 _ u0_0 u0_1 u0_2 u0_3 u0_4 u0_5 u0_6 u0_7 u0_8 u0_9 u0_10 u0_11 u0_12 u0_13 u0_14 u0_15 u0_16 u0_17 u0_18 (.int x0_at_2) (.int x0_from_1) (.int x0_error) (.int x0_errorAt) u0_25 u0_26 u0_27 u0_28 u0_29 u0_30 x0_length y1_text x0_at_2 r37 hc) gX9_number_X9_byteAt rfl hv_X9_byteAt ⟨nle rfl, nle rfl⟩ 9 0 rfl rfl rfl (rest := []) rfl rfl hl.1 (nle rfl) dX9_number_37 (fun H locs hP hD hS => ?_)
          obtain ⟨r40, hc, hf⟩ := bd1_e hf
          refine kSp (pc := 40) (S := ⟨hexec, hb, hml, hown, hts⟩) hP hD hG hA hS [] [0, 1] [0, 1] (w2 := (w_X9_number g a0 a1 u0_0 u0_1 u0_2 u0_3 u0_4 u0_5 u0_6 u0_7 u0_8 u0_9 u0_10 u0_11 u0_12 u0_13 u0_14 u0_15 u0_16 u0_17 u0_18 u0_25 u0_26 u0_27 u0_28 u0_29 u0_30 x0_length x0_at_2 x0_from_1 x0_error x0_errorAt y1_text)) rfl rfl rfl rfl rfl rfl (by decide) (c_X9_isDigit l g _ r37 r40 hc) gX9_number_X9_isDigit rfl hs_X9_isDigit ⟨nle rfl, nle rfl⟩ (rest := []) rfl rfl hl.1 (nle rfl) dX9_number_40 (fun H locs hP hD hS => ?_)
          refine kb_eq (pc := 43) hexec hb dX9_number_43 (tgt := 81) rfl hf (fun hc hf => ?_) (fun hc hf => ?_)
          · cases sr2 hf hk32
            exact hE32 _ _ _ hP hD hS (lv_sub hl [0, 1, 2, 3] rfl)
          · refine lv_ldc (pc := 46) hexec hb (own := RX9) hown (hts _ (List.mem_cons_of_mem _ (List.mem_append_left _ (List.mem_append_left _ (List.mem_of_getElem? (i := 2) rfl))))) dX9_number_46 ?_
            refine lv_bipush (pc := 48) hexec hb dX9_number_48 kb_10 ?_
            refine lv_iload_n (pc := 50) hexec hb dX9_number_50 rfl (lv_at hl 3 rfl) ?_
            refine lv_imul (pc := 51) hexec hb dX9_number_51 ?_
            refine lv_aload_n (pc := 52) hexec hb dX9_number_52 rfl (lv_at hl 0 rfl) ?_
            refine lv_aload_n (pc := 53) hexec hb dX9_number_53 rfl (lv_at hl 0 rfl) ?_
            refine kg_get (pc := 54) hexec hb (own := RX9) hWX9 hown hG hP 0 rfl rfl 21 (nle rfl) (hts _ (List.mem_cons_of_mem _ (List.mem_append_left _ (List.mem_append_left _ (List.mem_of_getElem? (i := 1) rfl))))) rfl rfl dX9_number_54 ?_
            obtain ⟨r57, hc, hf⟩ := bd1_e hf
            refine kVp (pc := 57) (S := ⟨hexec, hb, hml, hown, hts⟩) hP hD hG hA hS [0, 1] [] [0, 1] (w2 := (w_X9_number g a0 a1 u0_0 u0_1 u0_2 u0_3 u0_4 u0_5 u0_6 u0_7 u0_8 u0_9 u0_10 u0_11 u0_12 u0_13 u0_14 u0_15 u0_16 u0_17 u0_18 u0_25 u0_26 u0_27 u0_28 u0_29 u0_30 x0_length x0_at_2 x0_from_1 x0_error x0_errorAt y1_text)) rfl rfl rfl rfl rfl rfl (by decide) (c_X9_byteAt l g a0 a1 _ u0_0 u0_1 u0_2 u0_3 u0_4 u0_5 u0_6 u0_7 u0_8 u0_9 u0_10 u0_11 u0_12 u0_13 u0_14 u0_15 u0_16 u0_17 u0_18 (.int x0_at_2) (.int x0_from_1) (.int x0_error) (.int x0_errorAt) u0_25 u0_26 u0_27 u0_28 u0_29 u0_30 x0_length y1_text x0_at_2 r57 hc) gX9_number_X9_byteAt rfl hv_X9_byteAt ⟨nle rfl, nle rfl⟩ 9 0 rfl rfl rfl (rest := [.int (10 * v3), .int 1000000]) rfl rfl hl.1 (nle rfl) dX9_number_57 (fun H locs hP hD hS => ?_)
            refine lv_iadd (pc := 60) hexec hb dX9_number_60 ?_
            refine lv_bipush (pc := 61) hexec hb dX9_number_61 kb_48 ?_
            refine lv_isub (pc := 63) hexec hb dX9_number_63 ?_
            refine va_mmin (pc := 64) hexec hb (hml.trans hl.1.symm) (own := RX9) hown (hts _ (List.mem_cons_of_mem _ (List.mem_append_left _ (List.mem_append_left _ (List.mem_of_getElem? (i := 3) rfl))))) (hts _ (List.mem_cons_of_mem _ (List.mem_append_left _ (List.mem_append_left _ (List.mem_of_getElem? (i := 4) rfl))))) (hts _ (List.mem_cons_of_mem _ (List.mem_append_left _ (List.mem_append_left _ (List.mem_of_getElem? (i := 5) rfl))))) (hts _ (List.mem_cons_of_mem _ (List.mem_append_left _ (List.mem_append_left _ (List.mem_of_getElem? (i := 6) rfl))))) (nle rfl) (nle rfl) (nle rfl) (nle rfl) dX9_number_64 ?_
            obtain ⟨v3_2, ev3_2, hf⟩ := bv_e hf
            refine kn_i ev3_2 ?_
            refine lv_istore_n (pc := 67) hexec hb dX9_number_67 rfl hl (nle rfl) rfl (fun ls (hl : lv_has ls 4 [(3, .int v3_2), (0, .ref a0), (1, .int p1), (2, .int p2)]) => ?_)
            refine lv_aload_n (pc := 68) hexec hb dX9_number_68 rfl (lv_at hl 1 rfl) ?_
            refine lv_dup (pc := 69) hexec hb dX9_number_69 rfl ?_
            refine kg_get (pc := 70) hexec hb (own := RX9) hWX9 hown hG hP 0 rfl rfl 21 (nle rfl) (hts _ (List.mem_cons_of_mem _ (List.mem_append_left _ (List.mem_append_left _ (List.mem_of_getElem? (i := 1) rfl))))) rfl rfl dX9_number_70 ?_
            refine lv_iconst (pc := 73) hexec hb dX9_number_73 ki_1 ?_
            refine lv_iadd (pc := 74) hexec hb dX9_number_74 ?_
            obtain ⟨x0_at_4, ex0_at_4, hf⟩ := bv_e hf
            refine kn_i ex0_at_4 ?_
            refine kp_put (pc := 75) hexec hb (own := RX9) hWX9 tyX9 tyX9_ok nmX9 hown hG hP hD hS 0 rfl rfl 21 (nle rfl) (hts _ (List.mem_cons_of_mem _ (List.mem_append_left _ (List.mem_append_left _ (List.mem_of_getElem? (i := 1) rfl))))) rfl rfl rfl rfl (nle rfl) dX9_number_75 (fun H locs (hP : va_P g.1 vwCl (w_X9_number g a0 a1 u0_0 u0_1 u0_2 u0_3 u0_4 u0_5 u0_6 u0_7 u0_8 u0_9 u0_10 u0_11 u0_12 u0_13 u0_14 u0_15 u0_16 u0_17 u0_18 u0_25 u0_26 u0_27 u0_28 u0_29 u0_30 x0_length x0_at_4 x0_from_1 x0_error x0_errorAt y1_text) H) (hD : va_D A (w_X9_number g a0 a1 u0_0 u0_1 u0_2 u0_3 u0_4 u0_5 u0_6 u0_7 u0_8 u0_9 u0_10 u0_11 u0_12 u0_13 u0_14 u0_15 u0_16 u0_17 u0_18 u0_25 u0_26 u0_27 u0_28 u0_29 u0_30 x0_length x0_at_4 x0_from_1 x0_error x0_errorAt y1_text)) hS => ?_)
            refine lv_goto (pc := 78) hexec hb dX9_number_78 (tgt := 32) rfl ?_
            exact ih32 _ _ _ _ _ (sl2 hf hk32) hP hD hS (lv_sub hl [1, 2, 3, 0] rfl)
      exact hL32 n _ _ _ _ _ hz hP hD hS (lv_sub hl [1, 2, 3, 0] rfl)
    · refine lv_aload_n (pc := 19) hexec hb dX9_number_19 rfl (lv_at hl 0 rfl) ?_
      refine lv_iconst (pc := 20) hexec hb dX9_number_20 ki_1 ?_
      refine lv_aload_n (pc := 21) hexec hb dX9_number_21 rfl (lv_at hl 0 rfl) ?_
      refine kg_get (pc := 22) hexec hb (own := RX9) hWX9 hown hG hP 0 rfl rfl 22 (nle rfl) (hts _ (List.mem_cons_of_mem _ (List.mem_append_left _ (List.mem_append_left _ (List.mem_of_getElem? (i := 0) rfl))))) rfl rfl dX9_number_22 ?_
      obtain ⟨x0_error_2, x0_errorAt_2, hc, hf⟩ := bd2_e hf
      refine kVp (pc := 25) (S := ⟨hexec, hb, hml, hown, hts⟩) hP hD hG hA hS [0] [1] [1, 0] (w2 := (w_X9_number g a0 a1 u0_0 u0_1 u0_2 u0_3 u0_4 u0_5 u0_6 u0_7 u0_8 u0_9 u0_10 u0_11 u0_12 u0_13 u0_14 u0_15 u0_16 u0_17 u0_18 u0_25 u0_26 u0_27 u0_28 u0_29 u0_30 x0_length x0_at_1 x0_from_1 x0_error_2 x0_errorAt_2 y1_text)) rfl rfl rfl rfl rfl rfl (by decide) (c_X9_fails l g a0 _ u0_0 u0_1 u0_2 u0_3 u0_4 u0_5 u0_6 u0_7 u0_8 u0_9 u0_10 u0_11 u0_12 u0_13 u0_14 u0_15 u0_16 u0_17 u0_18 (.ref a1) (.int x0_length) (.int x0_at_1) (.int x0_from_1) u0_25 u0_26 u0_27 u0_28 u0_29 u0_30 x0_error x0_errorAt 1 x0_from_1 x0_error_2 x0_errorAt_2 hc) gX9_number_X9_fails rfl hv_X9_fails ⟨nle rfl, nle rfl⟩ 9 0 rfl rfl rfl (rest := []) rfl rfl hl.1 (nle rfl) dX9_number_25 (fun H locs hP hD hS => ?_)
      refine lv_iload_n (pc := 28) hexec hb dX9_number_28 rfl (lv_at hl 1 rfl) ?_
      cases hf
      exact ke_i hQ hexec hb hr hP hD hS dX9_number_29 hlocks
  · refine lv_iload_n (pc := 7) hexec hb dX9_number_7 rfl (lv_at hl 1 rfl) ?_
    cases hf
    exact ke_i hQ hexec hb hr hP hD hS dX9_number_8 hlocks
abbrev w_X9_name (g : GE) (a0 a1 : Nat) (u0_0 u0_1 u0_2 u0_3 u0_4 u0_5 u0_6 u0_7 u0_8 u0_9 u0_10 u0_11 u0_12 u0_13 u0_14 u0_15 u0_16 u0_17 u0_18 u0_25 u0_26 u0_27 u0_28 u0_29 u0_30 : Value) (x0_length : Int32) (x0_at : Int32) (x0_from : Int32) (x0_error : Int32) (x0_errorAt : Int32) (y1_text : Nat → Int32) : va_W := [(a0, .inr (9, [u0_0, u0_1, u0_2, u0_3, u0_4, u0_5, u0_6, u0_7, u0_8, u0_9, u0_10, u0_11, u0_12, u0_13, u0_14, u0_15, u0_16, u0_17, u0_18, .ref a1, .int x0_length, .int x0_at, .int x0_from, .int x0_error, .int x0_errorAt, u0_25, u0_26, u0_27, u0_28, u0_29, u0_30])), (a1, .inl (g.2.1 0, 500, .inl y1_text))]
noncomputable def f_X9_name (x0_length : Int32) (x0_at : Int32) (x0_from : Int32) (x0_error : Int32) (x0_errorAt : Int32) (y1_text : Nat → Int32)  : Option (Int32 × Int32 × Int32 × Int32) :=
  bd2 (f_X9_word x0_length x0_at x0_from x0_error y1_text) fun (x0_at_1 : Int32) (x0_from_1 : Int32) =>
  bv (fun (t35 : Int32) => ((
    bd2 (f_X9_failsIf x0_from_1 x0_error x0_errorAt t35 1) fun (x0_error_1 : Int32) (x0_errorAt_1 : Int32) =>
    some (x0_at_1, x0_from_1, x0_error_1, x0_errorAt_1)
    ) : Option (Int32 × Int32 × Int32 × Int32))) fun j35 =>
  bv (fun (_ : Unit) => ((
    j35 1
    ) : Option (Int32 × Int32 × Int32 × Int32))) fun j30 =>
  (if x0_at_1 = x0_from_1 then (
    j30 ()
  ) else (
    (if (x0_at_1 - x0_from_1) ≤ 8 then (
      j35 0
    ) else (
      j30 ()
    ))
  ))
set_option maxRecDepth 4000 in
theorem c_X9_name (l : Launch) (g : GE) (a0 a1 : Nat) (sz : Nat) (u0_0 u0_1 u0_2 u0_3 u0_4 u0_5 u0_6 u0_7 u0_8 u0_9 u0_10 u0_11 u0_12 u0_13 u0_14 u0_15 u0_16 u0_17 u0_18 u0_25 u0_26 u0_27 u0_28 u0_29 u0_30 : Value) (x0_length : Int32) (x0_at : Int32) (x0_from : Int32) (x0_error : Int32) (x0_errorAt : Int32) (y1_text : Nat → Int32)  (o_x0_at : Int32) (o_x0_from : Int32) (o_x0_error : Int32) (o_x0_errorAt : Int32) (hf : f_X9_name x0_length x0_at x0_from x0_error x0_errorAt y1_text = some (o_x0_at, o_x0_from, o_x0_error, o_x0_errorAt)) : MI l g yX9_name wsX9_name 4 89 [.ref a0] (w_X9_name g a0 a1 u0_0 u0_1 u0_2 u0_3 u0_4 u0_5 u0_6 u0_7 u0_8 u0_9 u0_10 u0_11 u0_12 u0_13 u0_14 u0_15 u0_16 u0_17 u0_18 u0_25 u0_26 u0_27 u0_28 u0_29 u0_30 x0_length x0_at x0_from x0_error x0_errorAt y1_text) sz none (w_X9_name g a0 a1 u0_0 u0_1 u0_2 u0_3 u0_4 u0_5 u0_6 u0_7 u0_8 u0_9 u0_10 u0_11 u0_12 u0_13 u0_14 u0_15 u0_16 u0_17 u0_18 u0_25 u0_26 u0_27 u0_28 u0_29 u0_30 x0_length o_x0_at o_x0_from o_x0_error o_x0_errorAt y1_text) := by
  refine MI.start (cc := cX9_name) (maxL := 1) (ret := none) rfl rfl (nle rfl) ?_
  intro p e s m args below meth c A ls Q hQ hexec hb hr hts hown hlocks hml hA hP hD hG hS hl
  unfold f_X9_name at hf
  have hWX9 : ∀ w ∈ wsX90, w.before args s = true := fun w h => hts w (List.mem_cons_of_mem _ (List.mem_append_right _ h))
  have hS : va_S A s.heap s.heap [] := hS
  refine lv_aload_n (pc := 0) hexec hb dX9_name_0 rfl (lv_at hl 0 rfl) ?_
  obtain ⟨x0_at_1, x0_from_1, hc, hf⟩ := bd2_e hf
  refine kVp (pc := 1) (S := ⟨hexec, hb, hml, hown, hts⟩) hP hD hG hA hS [0, 1] [] [0, 1] (w2 := (w_X9_name g a0 a1 u0_0 u0_1 u0_2 u0_3 u0_4 u0_5 u0_6 u0_7 u0_8 u0_9 u0_10 u0_11 u0_12 u0_13 u0_14 u0_15 u0_16 u0_17 u0_18 u0_25 u0_26 u0_27 u0_28 u0_29 u0_30 x0_length x0_at_1 x0_from_1 x0_error x0_errorAt y1_text)) rfl rfl rfl rfl rfl rfl (by decide) (c_X9_word l g a0 a1 _ u0_0 u0_1 u0_2 u0_3 u0_4 u0_5 u0_6 u0_7 u0_8 u0_9 u0_10 u0_11 u0_12 u0_13 u0_14 u0_15 u0_16 u0_17 u0_18 (.int x0_errorAt) u0_25 u0_26 u0_27 u0_28 u0_29 u0_30 x0_length x0_at x0_from x0_error y1_text x0_at_1 x0_from_1 hc) gX9_name_X9_word rfl hv_X9_word ⟨nle rfl, nle rfl⟩ 9 0 rfl rfl rfl (rest := []) rfl rfl hl.1 (nle rfl) dX9_name_1 (fun H locs hP hD hS => ?_)
  refine lv_aload_n (pc := 4) hexec hb dX9_name_4 rfl (lv_at hl 0 rfl) ?_
  refine lv_aload_n (pc := 5) hexec hb dX9_name_5 rfl (lv_at hl 0 rfl) ?_
  refine kg_get (pc := 6) hexec hb (own := RX9) hWX9 hown hG hP 0 rfl rfl 21 (nle rfl) (hts _ (List.mem_cons_of_mem _ (List.mem_append_left _ (List.mem_append_left _ (List.mem_of_getElem? (i := 0) rfl))))) rfl rfl dX9_name_6 ?_
  refine lv_aload_n (pc := 9) hexec hb dX9_name_9 rfl (lv_at hl 0 rfl) ?_
  refine kg_get (pc := 10) hexec hb (own := RX9) hWX9 hown hG hP 0 rfl rfl 22 (nle rfl) (hts _ (List.mem_cons_of_mem _ (List.mem_append_left _ (List.mem_append_left _ (List.mem_of_getElem? (i := 1) rfl))))) rfl rfl dX9_name_10 ?_
  obtain ⟨j35, ej35, hf⟩ := bvf1 hf
  have hj35 : ∀ (t35 : Int32) (H : Heap) (locs : List Loc) (ls : Array Slot), j35 t35 = some (o_x0_at, o_x0_from, o_x0_error, o_x0_errorAt) → va_P g.1 vwCl (w_X9_name g a0 a1 u0_0 u0_1 u0_2 u0_3 u0_4 u0_5 u0_6 u0_7 u0_8 u0_9 u0_10 u0_11 u0_12 u0_13 u0_14 u0_15 u0_16 u0_17 u0_18 u0_25 u0_26 u0_27 u0_28 u0_29 u0_30 x0_length x0_at_1 x0_from_1 x0_error x0_errorAt y1_text) H → va_D A (w_X9_name g a0 a1 u0_0 u0_1 u0_2 u0_3 u0_4 u0_5 u0_6 u0_7 u0_8 u0_9 u0_10 u0_11 u0_12 u0_13 u0_14 u0_15 u0_16 u0_17 u0_18 u0_25 u0_26 u0_27 u0_28 u0_29 u0_30 x0_length x0_at_1 x0_from_1 x0_error x0_errorAt y1_text) → va_S A s.heap H locs → lv_has ls 1 [] → W p l e (RM 4 89) s m args below meth c H locs 0 0 Q (F0 m 35 ls [.int t35, .ref a0]) := by
    intro t35 H locs ls hf hP hD hS hl
    have hf := (ej35 t35).symm.trans hf
    refine lv_iconst (pc := 35) hexec hb dX9_name_35 ki_1 ?_
    obtain ⟨x0_error_1, x0_errorAt_1, hc, hf⟩ := bd2_e hf
    refine kVp (pc := 36) (S := ⟨hexec, hb, hml, hown, hts⟩) hP hD hG hA hS [0] [1] [1, 0] (w2 := (w_X9_name g a0 a1 u0_0 u0_1 u0_2 u0_3 u0_4 u0_5 u0_6 u0_7 u0_8 u0_9 u0_10 u0_11 u0_12 u0_13 u0_14 u0_15 u0_16 u0_17 u0_18 u0_25 u0_26 u0_27 u0_28 u0_29 u0_30 x0_length x0_at_1 x0_from_1 x0_error_1 x0_errorAt_1 y1_text)) rfl rfl rfl rfl rfl rfl (by decide) (c_X9_failsIf l g a0 _ u0_0 u0_1 u0_2 u0_3 u0_4 u0_5 u0_6 u0_7 u0_8 u0_9 u0_10 u0_11 u0_12 u0_13 u0_14 u0_15 u0_16 u0_17 u0_18 (.ref a1) (.int x0_length) (.int x0_at_1) u0_25 u0_26 u0_27 u0_28 u0_29 u0_30 x0_from_1 x0_error x0_errorAt t35 1 x0_error_1 x0_errorAt_1 hc) gX9_name_X9_failsIf rfl hv_X9_failsIf ⟨nle rfl, nle rfl⟩ 9 0 rfl rfl rfl (rest := []) rfl rfl hl.1 (nle rfl) dX9_name_36 (fun H locs hP hD hS => ?_)
    cases hf
    exact ke_v hQ hexec hb hr hP hD hS dX9_name_39 hlocks
  obtain ⟨j30, ej30, hf⟩ := bvf1 hf
  have hj30 : ∀ (u : Unit) (H : Heap) (locs : List Loc) (ls : Array Slot), j30 u = some (o_x0_at, o_x0_from, o_x0_error, o_x0_errorAt) → va_P g.1 vwCl (w_X9_name g a0 a1 u0_0 u0_1 u0_2 u0_3 u0_4 u0_5 u0_6 u0_7 u0_8 u0_9 u0_10 u0_11 u0_12 u0_13 u0_14 u0_15 u0_16 u0_17 u0_18 u0_25 u0_26 u0_27 u0_28 u0_29 u0_30 x0_length x0_at_1 x0_from_1 x0_error x0_errorAt y1_text) H → va_D A (w_X9_name g a0 a1 u0_0 u0_1 u0_2 u0_3 u0_4 u0_5 u0_6 u0_7 u0_8 u0_9 u0_10 u0_11 u0_12 u0_13 u0_14 u0_15 u0_16 u0_17 u0_18 u0_25 u0_26 u0_27 u0_28 u0_29 u0_30 x0_length x0_at_1 x0_from_1 x0_error x0_errorAt y1_text) → va_S A s.heap H locs → lv_has ls 1 [] → W p l e (RM 4 89) s m args below meth c H locs 0 0 Q (F0 m 30 ls [.ref a0]) := by
    intro u H locs ls hf hP hD hS hl
    have hf := (ej30 u).symm.trans hf
    refine lv_iconst (pc := 30) hexec hb dX9_name_30 ki_1 ?_
    refine lv_goto (pc := 31) hexec hb dX9_name_31 (tgt := 35) rfl ?_
    exact hj35 _ _ _ _ hf hP hD hS (lv_sub hl [] rfl)
  refine ki_eq (pc := 13) hexec hb dX9_name_13 (tgt := 30) rfl hf (fun hc hf => ?_) (fun hc hf => ?_)
  · exact hj30 _ _ _ _ hf hP hD hS (lv_sub hl [] rfl)
  · refine lv_aload_n (pc := 16) hexec hb dX9_name_16 rfl (lv_at hl 0 rfl) ?_
    refine kg_get (pc := 17) hexec hb (own := RX9) hWX9 hown hG hP 0 rfl rfl 21 (nle rfl) (hts _ (List.mem_cons_of_mem _ (List.mem_append_left _ (List.mem_append_left _ (List.mem_of_getElem? (i := 0) rfl))))) rfl rfl dX9_name_17 ?_
    refine lv_aload_n (pc := 20) hexec hb dX9_name_20 rfl (lv_at hl 0 rfl) ?_
    refine kg_get (pc := 21) hexec hb (own := RX9) hWX9 hown hG hP 0 rfl rfl 22 (nle rfl) (hts _ (List.mem_cons_of_mem _ (List.mem_append_left _ (List.mem_append_left _ (List.mem_of_getElem? (i := 1) rfl))))) rfl rfl dX9_name_21 ?_
    refine lv_isub (pc := 24) hexec hb dX9_name_24 ?_
    refine lv_bipush (pc := 25) hexec hb dX9_name_25 kb_8 ?_
    refine ki_le (pc := 27) hexec hb dX9_name_27 (tgt := 34) rfl hf (fun hc hf => ?_) (fun hc hf => ?_)
    · refine lv_iconst (pc := 34) hexec hb dX9_name_34 ki_0 ?_
      exact hj35 _ _ _ _ hf hP hD hS (lv_sub hl [] rfl)
    · exact hj30 _ _ _ _ hf hP hD hS (lv_sub hl [] rfl)
abbrev w_X9_named (g : GE) (a0 a1 a2 : Nat) (u0_1 u0_2 u0_3 u0_4 u0_5 u0_6 u0_7 u0_8 u0_9 u0_10 u0_11 u0_12 u0_13 u0_14 u0_15 u0_16 u0_17 u0_18 u0_20 u0_23 u0_24 u0_25 u0_26 u0_27 u0_28 u0_29 u0_30 : Value) (x0_at : Int32) (x0_from : Int32) (y1_s : Nat → Int32) (y2_text : Nat → Int32) : va_W := [(a0, .inr (9, [.ref a1, u0_1, u0_2, u0_3, u0_4, u0_5, u0_6, u0_7, u0_8, u0_9, u0_10, u0_11, u0_12, u0_13, u0_14, u0_15, u0_16, u0_17, u0_18, .ref a2, u0_20, .int x0_at, .int x0_from, u0_23, u0_24, u0_25, u0_26, u0_27, u0_28, u0_29, u0_30])), (a1, .inl (g.2.1 0, 552, .inl y1_s)), (a2, .inl (g.2.1 0, 500, .inl y2_text))]
noncomputable def f_X9_named (x0_at : Int32) (x0_from : Int32) (y1_s : Nat → Int32) (y2_text : Nat → Int32)  : Option (Int32) :=
  bv (fun (v1 : Int32) => ((
    ar 2 552 <|
    (if (y1_s (2 : Int32).toNatClampNeg) ≤ v1 then (
      mr (some (-1))
    ) else (
      bd1 (f_X9_of y1_s v1 3) fun (r15 : Int32) =>
      bv (fun (t35 : Int32) => ((
        bv (fun (v2 : Int32) (v3 : Int32) => ((
          (if (x0_at - x0_from) ≤ v3 then (
            some (.inr v2)
          ) else (
            (if v2 = 0 then (
              some (.inr v2)
            ) else (
              bd1 (f_X9_of y1_s v1 (4 + v3)) fun (r60 : Int32) =>
              ar (x0_from + v3) 500 <|
              bv (fun (t82 : Int32) => ((
                bv (v3 + 1) fun v3_1 =>
                some (.inl (t82, v3_1))
                ) : Option ((Int32 × Int32) ⊕ (Int32)))) fun j82 =>
              (if r60 = (y2_text (x0_from + v3).toNatClampNeg) then (
                j82 1
              ) else (
                j82 0
              ))
            ))
          ))
          ) : Option ((Int32 × Int32) ⊕ (Int32)))) fun l38 =>
        bd1 (lq2 l38 t35 0) fun (v2_1 : Int32) =>
        (if v2_1 = 0 then (
          bv (v1 + 1) fun v1_1 =>
          some (.inl v1_1)
        ) else (
          mr (some v1)
        ))
        ) : Option ((Int32) ⊕ (Int32)))) fun j35 =>
      (if r15 = (x0_at - x0_from) then (
        j35 1
      ) else (
        j35 0
      ))
    ))
    ) : Option ((Int32) ⊕ (Int32)))) fun l2 =>
  lq1 l2 0
set_option maxRecDepth 4000 in
theorem c_X9_named (l : Launch) (g : GE) (a0 a1 a2 : Nat) (sz : Nat) (u0_1 u0_2 u0_3 u0_4 u0_5 u0_6 u0_7 u0_8 u0_9 u0_10 u0_11 u0_12 u0_13 u0_14 u0_15 u0_16 u0_17 u0_18 u0_20 u0_23 u0_24 u0_25 u0_26 u0_27 u0_28 u0_29 u0_30 : Value) (x0_at : Int32) (x0_from : Int32) (y1_s : Nat → Int32) (y2_text : Nat → Int32)  (r : Int32) (hf : f_X9_named x0_at x0_from y1_s y2_text = some r) : MI l g yX9_named wsX9_named 2 46 [.ref a0] (w_X9_named g a0 a1 a2 u0_1 u0_2 u0_3 u0_4 u0_5 u0_6 u0_7 u0_8 u0_9 u0_10 u0_11 u0_12 u0_13 u0_14 u0_15 u0_16 u0_17 u0_18 u0_20 u0_23 u0_24 u0_25 u0_26 u0_27 u0_28 u0_29 u0_30 x0_at x0_from y1_s y2_text) sz (some (.int r)) (w_X9_named g a0 a1 a2 u0_1 u0_2 u0_3 u0_4 u0_5 u0_6 u0_7 u0_8 u0_9 u0_10 u0_11 u0_12 u0_13 u0_14 u0_15 u0_16 u0_17 u0_18 u0_20 u0_23 u0_24 u0_25 u0_26 u0_27 u0_28 u0_29 u0_30 x0_at x0_from y1_s y2_text) := by
  refine MI.start (cc := cX9_named) (maxL := 4) (ret := (some .int)) rfl rfl (nle rfl) ?_
  intro p e s m args below meth c A ls Q hQ hexec hb hr hts hown hlocks hml hA hP hD hG hS hl
  unfold f_X9_named at hf
  have hWX9 : ∀ w ∈ wsX90, w.before args s = true := fun w h => hts w (List.mem_cons_of_mem _ (List.mem_append_right _ h))
  have hS : va_S A s.heap s.heap [] := hS
  refine lv_iconst (pc := 0) hexec hb dX9_named_0 ki_0 ?_
  refine lv_istore_n (pc := 1) hexec hb dX9_named_1 rfl hl (nle rfl) rfl (fun ls (hl : lv_has ls 4 [(1, .int 0), (0, .ref a0)]) => ?_)
  obtain ⟨l2, el2, hf⟩ := bvf1 hf
  obtain ⟨n, hz⟩ := lq1_e hf
  have hL2 : ∀ (n : Nat) (v1 : Int32) (H : Heap) (locs : List Loc) (ls : Array Slot), it1 l2 n v1 = some r → va_P g.1 vwCl (w_X9_named g a0 a1 a2 u0_1 u0_2 u0_3 u0_4 u0_5 u0_6 u0_7 u0_8 u0_9 u0_10 u0_11 u0_12 u0_13 u0_14 u0_15 u0_16 u0_17 u0_18 u0_20 u0_23 u0_24 u0_25 u0_26 u0_27 u0_28 u0_29 u0_30 x0_at x0_from y1_s y2_text) H → va_D A (w_X9_named g a0 a1 a2 u0_1 u0_2 u0_3 u0_4 u0_5 u0_6 u0_7 u0_8 u0_9 u0_10 u0_11 u0_12 u0_13 u0_14 u0_15 u0_16 u0_17 u0_18 u0_20 u0_23 u0_24 u0_25 u0_26 u0_27 u0_28 u0_29 u0_30 x0_at x0_from y1_s y2_text) → va_S A s.heap H locs → lv_has ls 4 [(0, .ref a0), (1, .int v1)] → W p l e (RM 2 46) s m args below meth c H locs 0 0 Q (F0 m 2 ls []) := by
    intro n
    induction n with
    | zero =>
      intro v1 H locs ls hf hP hD hS hl
      exact it1_0 hf
    | succ n2 ih2 =>
      intro v1 H locs ls hf hP hD hS hl
      obtain ⟨q2, hf, hk2⟩ := it1_e hf
      have hf := (el2 v1).symm.trans hf
      refine lv_iload_n (pc := 2) hexec hb dX9_named_2 rfl (lv_at hl 1 rfl) ?_
      refine lv_aload_n (pc := 3) hexec hb dX9_named_3 rfl (lv_at hl 0 rfl) ?_
      refine kg_get (pc := 4) hexec hb (own := RX9) hWX9 hown hG hP 0 rfl rfl 0 (nle rfl) (hts _ (List.mem_cons_of_mem _ (List.mem_append_left _ (List.mem_of_getElem? (i := 0) rfl)))) rfl rfl dX9_named_4 ?_
      refine lv_iconst (pc := 7) hexec hb dX9_named_7 ki_2 ?_
      refine kr_iald (pc := 8) hexec hb hG hP 1 rfl hf dX9_named_8 (fun hf => ?_)
      refine ki_ge (pc := 9) hexec hb dX9_named_9 (tgt := 101) rfl hf (fun hc hf => ?_) (fun hc hf => ?_)
      · have hf := mk1 hf hk2
        refine lv_iconst (pc := 101) hexec hb dX9_named_101 ki_m1 ?_
        cases hf
        exact ke_i hQ hexec hb hr hP hD hS dX9_named_102 hlocks
      · refine lv_aload_n (pc := 12) hexec hb dX9_named_12 rfl (lv_at hl 0 rfl) ?_
        refine lv_iload_n (pc := 13) hexec hb dX9_named_13 rfl (lv_at hl 1 rfl) ?_
        refine lv_iconst (pc := 14) hexec hb dX9_named_14 ki_3 ?_
        obtain ⟨r15, hc, hf⟩ := bd1_e hf
        refine kVp (pc := 15) (S := ⟨hexec, hb, hml, hown, hts⟩) hP hD hG hA hS [0, 1] [2] [1, 2, 0] (w2 := (w_X9_named g a0 a1 a2 u0_1 u0_2 u0_3 u0_4 u0_5 u0_6 u0_7 u0_8 u0_9 u0_10 u0_11 u0_12 u0_13 u0_14 u0_15 u0_16 u0_17 u0_18 u0_20 u0_23 u0_24 u0_25 u0_26 u0_27 u0_28 u0_29 u0_30 x0_at x0_from y1_s y2_text)) rfl rfl rfl rfl rfl rfl (by decide) (c_X9_of l g a0 a1 _ u0_1 u0_2 u0_3 u0_4 u0_5 u0_6 u0_7 u0_8 u0_9 u0_10 u0_11 u0_12 u0_13 u0_14 u0_15 u0_16 u0_17 u0_18 (.ref a2) u0_20 (.int x0_at) (.int x0_from) u0_23 u0_24 u0_25 u0_26 u0_27 u0_28 u0_29 u0_30 y1_s v1 3 r15 hc) gX9_named_X9_of rfl hv_X9_of ⟨nle rfl, nle rfl⟩ 9 0 rfl rfl rfl (rest := []) rfl rfl hl.1 (nle rfl) dX9_named_15 (fun H locs hP hD hS => ?_)
        refine lv_aload_n (pc := 18) hexec hb dX9_named_18 rfl (lv_at hl 0 rfl) ?_
        refine kg_get (pc := 19) hexec hb (own := RX9) hWX9 hown hG hP 0 rfl rfl 21 (nle rfl) (hts _ (List.mem_cons_of_mem _ (List.mem_append_left _ (List.mem_of_getElem? (i := 1) rfl)))) rfl rfl dX9_named_19 ?_
        refine lv_aload_n (pc := 22) hexec hb dX9_named_22 rfl (lv_at hl 0 rfl) ?_
        refine kg_get (pc := 23) hexec hb (own := RX9) hWX9 hown hG hP 0 rfl rfl 22 (nle rfl) (hts _ (List.mem_cons_of_mem _ (List.mem_append_left _ (List.mem_of_getElem? (i := 2) rfl)))) rfl rfl dX9_named_23 ?_
        refine lv_isub (pc := 26) hexec hb dX9_named_26 ?_
        obtain ⟨j35, ej35, hf⟩ := bvf1 hf
        have hj35 : ∀ (t35 : Int32) (H : Heap) (locs : List Loc) (ls : Array Slot), j35 t35 = some q2 → va_P g.1 vwCl (w_X9_named g a0 a1 a2 u0_1 u0_2 u0_3 u0_4 u0_5 u0_6 u0_7 u0_8 u0_9 u0_10 u0_11 u0_12 u0_13 u0_14 u0_15 u0_16 u0_17 u0_18 u0_20 u0_23 u0_24 u0_25 u0_26 u0_27 u0_28 u0_29 u0_30 x0_at x0_from y1_s y2_text) H → va_D A (w_X9_named g a0 a1 a2 u0_1 u0_2 u0_3 u0_4 u0_5 u0_6 u0_7 u0_8 u0_9 u0_10 u0_11 u0_12 u0_13 u0_14 u0_15 u0_16 u0_17 u0_18 u0_20 u0_23 u0_24 u0_25 u0_26 u0_27 u0_28 u0_29 u0_30 x0_at x0_from y1_s y2_text) → va_S A s.heap H locs → lv_has ls 4 [(0, .ref a0), (1, .int v1)] → W p l e (RM 2 46) s m args below meth c H locs 0 0 Q (F0 m 35 ls [.int t35]) := by
          intro t35 H locs ls hf hP hD hS hl
          have hf := (ej35 t35).symm.trans hf
          refine lv_istore_n (pc := 35) hexec hb dX9_named_35 rfl hl (nle rfl) rfl (fun ls (hl : lv_has ls 4 [(2, .int t35), (0, .ref a0), (1, .int v1)]) => ?_)
          refine lv_iconst (pc := 36) hexec hb dX9_named_36 ki_0 ?_
          refine lv_istore_n (pc := 37) hexec hb dX9_named_37 rfl hl (nle rfl) rfl (fun ls (hl : lv_has ls 4 [(3, .int 0), (2, .int t35), (0, .ref a0), (1, .int v1)]) => ?_)
          obtain ⟨l38, el38, hf⟩ := bvf2 hf
          obtain ⟨v2_1, hz, hf⟩ := bd1_e hf
          have hE38 : ∀ (H : Heap) (locs : List Loc) (ls : Array Slot), va_P g.1 vwCl (w_X9_named g a0 a1 a2 u0_1 u0_2 u0_3 u0_4 u0_5 u0_6 u0_7 u0_8 u0_9 u0_10 u0_11 u0_12 u0_13 u0_14 u0_15 u0_16 u0_17 u0_18 u0_20 u0_23 u0_24 u0_25 u0_26 u0_27 u0_28 u0_29 u0_30 x0_at x0_from y1_s y2_text) H → va_D A (w_X9_named g a0 a1 a2 u0_1 u0_2 u0_3 u0_4 u0_5 u0_6 u0_7 u0_8 u0_9 u0_10 u0_11 u0_12 u0_13 u0_14 u0_15 u0_16 u0_17 u0_18 u0_20 u0_23 u0_24 u0_25 u0_26 u0_27 u0_28 u0_29 u0_30 x0_at x0_from y1_s y2_text) → va_S A s.heap H locs → lv_has ls 4 [(0, .ref a0), (1, .int v1), (2, .int v2_1)] → W p l e (RM 2 46) s m args below meth c H locs 0 0 Q (F0 m 89 ls []) := by
            intro H locs ls hP hD hS hl
            refine lv_iload_n (pc := 89) hexec hb dX9_named_89 rfl (lv_at hl 2 rfl) ?_
            refine kb_eq (pc := 90) hexec hb dX9_named_90 (tgt := 95) rfl hf (fun hc hf => ?_) (fun hc hf => ?_)
            · obtain ⟨v1_1, ev1_1, hf⟩ := bv_e hf
              refine k_iinc (pc := 95) hexec hb dX9_named_95 kq_1 hl (k := 1) rfl ev1_1 (nle rfl) rfl (fun ls (hl : lv_has ls 4 [(1, .int v1_1), (0, .ref a0), (2, .int v2_1)]) => ?_)
              refine lv_goto (pc := 98) hexec hb dX9_named_98 (tgt := 2) rfl ?_
              exact ih2 _ _ _ _ (sl1 hf hk2) hP hD hS (lv_sub hl [1, 0] rfl)
            · have hf := mk1 hf hk2
              refine lv_iload_n (pc := 93) hexec hb dX9_named_93 rfl (lv_at hl 1 rfl) ?_
              cases hf
              exact ke_i hQ hexec hb hr hP hD hS dX9_named_94 hlocks
          obtain ⟨n, hz⟩ := lq2_e hz
          have hL38 : ∀ (n : Nat) (v2 : Int32) (v3 : Int32) (H : Heap) (locs : List Loc) (ls : Array Slot), it2 l38 n v2 v3 = some v2_1 → va_P g.1 vwCl (w_X9_named g a0 a1 a2 u0_1 u0_2 u0_3 u0_4 u0_5 u0_6 u0_7 u0_8 u0_9 u0_10 u0_11 u0_12 u0_13 u0_14 u0_15 u0_16 u0_17 u0_18 u0_20 u0_23 u0_24 u0_25 u0_26 u0_27 u0_28 u0_29 u0_30 x0_at x0_from y1_s y2_text) H → va_D A (w_X9_named g a0 a1 a2 u0_1 u0_2 u0_3 u0_4 u0_5 u0_6 u0_7 u0_8 u0_9 u0_10 u0_11 u0_12 u0_13 u0_14 u0_15 u0_16 u0_17 u0_18 u0_20 u0_23 u0_24 u0_25 u0_26 u0_27 u0_28 u0_29 u0_30 x0_at x0_from y1_s y2_text) → va_S A s.heap H locs → lv_has ls 4 [(0, .ref a0), (1, .int v1), (2, .int v2), (3, .int v3)] → W p l e (RM 2 46) s m args below meth c H locs 0 0 Q (F0 m 38 ls []) := by
            intro n
            induction n with
            | zero =>
              intro v2 v3 H locs ls hf hP hD hS hl
              exact it2_0 hf
            | succ n38 ih38 =>
              intro v2 v3 H locs ls hf hP hD hS hl
              obtain ⟨q38, hf, hk38⟩ := it2_e hf
              have hf := (el38 v2 v3).symm.trans hf
              refine lv_iload_n (pc := 38) hexec hb dX9_named_38 rfl (lv_at hl 3 rfl) ?_
              refine lv_aload_n (pc := 39) hexec hb dX9_named_39 rfl (lv_at hl 0 rfl) ?_
              refine kg_get (pc := 40) hexec hb (own := RX9) hWX9 hown hG hP 0 rfl rfl 21 (nle rfl) (hts _ (List.mem_cons_of_mem _ (List.mem_append_left _ (List.mem_of_getElem? (i := 1) rfl)))) rfl rfl dX9_named_40 ?_
              refine lv_aload_n (pc := 43) hexec hb dX9_named_43 rfl (lv_at hl 0 rfl) ?_
              refine kg_get (pc := 44) hexec hb (own := RX9) hWX9 hown hG hP 0 rfl rfl 22 (nle rfl) (hts _ (List.mem_cons_of_mem _ (List.mem_append_left _ (List.mem_of_getElem? (i := 2) rfl)))) rfl rfl dX9_named_44 ?_
              refine lv_isub (pc := 47) hexec hb dX9_named_47 ?_
              refine ki_ge (pc := 48) hexec hb dX9_named_48 (tgt := 89) rfl hf (fun hc hf => ?_) (fun hc hf => ?_)
              · cases sr2 hf hk38
                exact hE38 _ _ _ hP hD hS (lv_sub hl [0, 1, 2] rfl)
              · refine lv_iload_n (pc := 51) hexec hb dX9_named_51 rfl (lv_at hl 2 rfl) ?_
                refine kb_eq (pc := 52) hexec hb dX9_named_52 (tgt := 89) rfl hf (fun hc hf => ?_) (fun hc hf => ?_)
                · cases sr2 hf hk38
                  exact hE38 _ _ _ hP hD hS (lv_sub hl [0, 1, 2] rfl)
                · refine lv_aload_n (pc := 55) hexec hb dX9_named_55 rfl (lv_at hl 0 rfl) ?_
                  refine lv_iload_n (pc := 56) hexec hb dX9_named_56 rfl (lv_at hl 1 rfl) ?_
                  refine lv_iconst (pc := 57) hexec hb dX9_named_57 ki_4 ?_
                  refine lv_iload_n (pc := 58) hexec hb dX9_named_58 rfl (lv_at hl 3 rfl) ?_
                  refine lv_iadd (pc := 59) hexec hb dX9_named_59 ?_
                  obtain ⟨r60, hc, hf⟩ := bd1_e hf
                  refine kVp (pc := 60) (S := ⟨hexec, hb, hml, hown, hts⟩) hP hD hG hA hS [0, 1] [2] [1, 2, 0] (w2 := (w_X9_named g a0 a1 a2 u0_1 u0_2 u0_3 u0_4 u0_5 u0_6 u0_7 u0_8 u0_9 u0_10 u0_11 u0_12 u0_13 u0_14 u0_15 u0_16 u0_17 u0_18 u0_20 u0_23 u0_24 u0_25 u0_26 u0_27 u0_28 u0_29 u0_30 x0_at x0_from y1_s y2_text)) rfl rfl rfl rfl rfl rfl (by decide) (c_X9_of l g a0 a1 _ u0_1 u0_2 u0_3 u0_4 u0_5 u0_6 u0_7 u0_8 u0_9 u0_10 u0_11 u0_12 u0_13 u0_14 u0_15 u0_16 u0_17 u0_18 (.ref a2) u0_20 (.int x0_at) (.int x0_from) u0_23 u0_24 u0_25 u0_26 u0_27 u0_28 u0_29 u0_30 y1_s v1 (4 + v3) r60 hc) gX9_named_X9_of rfl hv_X9_of ⟨nle rfl, nle rfl⟩ 9 0 rfl rfl rfl (rest := []) rfl rfl hl.1 (nle rfl) dX9_named_60 (fun H locs hP hD hS => ?_)
                  refine lv_aload_n (pc := 63) hexec hb dX9_named_63 rfl (lv_at hl 0 rfl) ?_
                  refine kg_get (pc := 64) hexec hb (own := RX9) hWX9 hown hG hP 0 rfl rfl 19 (nle rfl) (hts _ (List.mem_cons_of_mem _ (List.mem_append_left _ (List.mem_of_getElem? (i := 3) rfl)))) rfl rfl dX9_named_64 ?_
                  refine lv_aload_n (pc := 67) hexec hb dX9_named_67 rfl (lv_at hl 0 rfl) ?_
                  refine kg_get (pc := 68) hexec hb (own := RX9) hWX9 hown hG hP 0 rfl rfl 22 (nle rfl) (hts _ (List.mem_cons_of_mem _ (List.mem_append_left _ (List.mem_of_getElem? (i := 2) rfl)))) rfl rfl dX9_named_68 ?_
                  refine lv_iload_n (pc := 71) hexec hb dX9_named_71 rfl (lv_at hl 3 rfl) ?_
                  refine lv_iadd (pc := 72) hexec hb dX9_named_72 ?_
                  refine kr_iald (pc := 73) hexec hb hG hP 2 rfl hf dX9_named_73 (fun hf => ?_)
                  obtain ⟨j82, ej82, hf⟩ := bvf1 hf
                  have hj82 : ∀ (t82 : Int32) (H : Heap) (locs : List Loc) (ls : Array Slot), j82 t82 = some q38 → va_P g.1 vwCl (w_X9_named g a0 a1 a2 u0_1 u0_2 u0_3 u0_4 u0_5 u0_6 u0_7 u0_8 u0_9 u0_10 u0_11 u0_12 u0_13 u0_14 u0_15 u0_16 u0_17 u0_18 u0_20 u0_23 u0_24 u0_25 u0_26 u0_27 u0_28 u0_29 u0_30 x0_at x0_from y1_s y2_text) H → va_D A (w_X9_named g a0 a1 a2 u0_1 u0_2 u0_3 u0_4 u0_5 u0_6 u0_7 u0_8 u0_9 u0_10 u0_11 u0_12 u0_13 u0_14 u0_15 u0_16 u0_17 u0_18 u0_20 u0_23 u0_24 u0_25 u0_26 u0_27 u0_28 u0_29 u0_30 x0_at x0_from y1_s y2_text) → va_S A s.heap H locs → lv_has ls 4 [(0, .ref a0), (1, .int v1), (3, .int v3)] → W p l e (RM 2 46) s m args below meth c H locs 0 0 Q (F0 m 82 ls [.int t82]) := by
                    intro t82 H locs ls hf hP hD hS hl
                    have hf := (ej82 t82).symm.trans hf
                    refine lv_istore_n (pc := 82) hexec hb dX9_named_82 rfl hl (nle rfl) rfl (fun ls (hl : lv_has ls 4 [(2, .int t82), (0, .ref a0), (1, .int v1), (3, .int v3)]) => ?_)
                    obtain ⟨v3_1, ev3_1, hf⟩ := bv_e hf
                    refine k_iinc (pc := 83) hexec hb dX9_named_83 kq_1 hl (k := 3) rfl ev3_1 (nle rfl) rfl (fun ls (hl : lv_has ls 4 [(3, .int v3_1), (2, .int t82), (0, .ref a0), (1, .int v1)]) => ?_)
                    refine lv_goto (pc := 86) hexec hb dX9_named_86 (tgt := 38) rfl ?_
                    exact ih38 _ _ _ _ _ (sl2 hf hk38) hP hD hS (lv_sub hl [2, 3, 1, 0] rfl)
                  refine ki_ne (pc := 74) hexec hb dX9_named_74 (tgt := 81) rfl hf (fun hc hf => ?_) (fun hc hf => ?_)
                  · refine lv_iconst (pc := 81) hexec hb dX9_named_81 ki_0 ?_
                    exact hj82 _ _ _ _ hf hP hD hS (lv_sub hl [0, 1, 3] rfl)
                  · refine lv_iconst (pc := 77) hexec hb dX9_named_77 ki_1 ?_
                    refine lv_goto (pc := 78) hexec hb dX9_named_78 (tgt := 82) rfl ?_
                    exact hj82 _ _ _ _ hf hP hD hS (lv_sub hl [0, 1, 3] rfl)
          exact hL38 n _ _ _ _ _ hz hP hD hS (lv_sub hl [2, 3, 1, 0] rfl)
        refine ki_ne (pc := 27) hexec hb dX9_named_27 (tgt := 34) rfl hf (fun hc hf => ?_) (fun hc hf => ?_)
        · refine lv_iconst (pc := 34) hexec hb dX9_named_34 ki_0 ?_
          exact hj35 _ _ _ _ hf hP hD hS (lv_sub hl [0, 1] rfl)
        · refine lv_iconst (pc := 30) hexec hb dX9_named_30 ki_1 ?_
          refine lv_goto (pc := 31) hexec hb dX9_named_31 (tgt := 35) rfl ?_
          exact hj35 _ _ _ _ hf hP hD hS (lv_sub hl [0, 1] rfl)
  exact hL2 n _ _ _ _ hz hP hD hS (lv_sub hl [1, 0] rfl)
abbrev w_X9_readsLand (g : GE) (a0 a1 a2 : Nat) (u0_1 u0_2 u0_3 u0_4 u0_5 u0_6 u0_7 u0_8 u0_9 u0_10 u0_11 u0_12 u0_13 u0_14 u0_15 u0_16 u0_17 u0_18 u0_25 u0_26 u0_27 u0_28 u0_29 u0_30 : Value) (x0_length : Int32) (x0_at : Int32) (x0_from : Int32) (x0_error : Int32) (x0_errorAt : Int32) (y1_s : Nat → Int32) (y2_text : Nat → Int32) : va_W := [(a0, .inr (9, [.ref a1, u0_1, u0_2, u0_3, u0_4, u0_5, u0_6, u0_7, u0_8, u0_9, u0_10, u0_11, u0_12, u0_13, u0_14, u0_15, u0_16, u0_17, u0_18, .ref a2, .int x0_length, .int x0_at, .int x0_from, .int x0_error, .int x0_errorAt, u0_25, u0_26, u0_27, u0_28, u0_29, u0_30])), (a1, .inl (g.2.1 0, 552, .inl y1_s)), (a2, .inl (g.2.1 0, 500, .inl y2_text))]
noncomputable def f_X9_readsLand (x0_length : Int32) (x0_at : Int32) (x0_from : Int32) (x0_error : Int32) (x0_errorAt : Int32) (y1_s : Nat → Int32) (y2_text : Nat → Int32)  : Option (Int32 × Int32 × Int32 × Int32 × (Nat → Int32)) :=
  ar 0 552 <|
  bd5 (f_X9_number x0_length x0_at x0_from x0_error x0_errorAt y2_text 0 ((y1_s (0 : Int32).toNatClampNeg) - 1)) fun (r10 : Int32) (x0_at_1 : Int32) (x0_from_1 : Int32) (x0_error_1 : Int32) (x0_errorAt_1 : Int32) =>
  ar 1 552 <|
  bd5 (f_X9_number x0_length x0_at_1 x0_from_1 x0_error_1 x0_errorAt_1 y2_text 0 ((y1_s (1 : Int32).toNatClampNeg) - 1)) fun (r24 : Int32) (x0_at_2 : Int32) (x0_from_2 : Int32) (x0_error_2 : Int32) (x0_errorAt_2 : Int32) =>
  ar 1 552 <|
  bd5 (f_X9_number x0_length x0_at_2 x0_from_2 x0_error_2 x0_errorAt_2 y2_text r24 ((y1_s (1 : Int32).toNatClampNeg) - 1)) fun (r38 : Int32) (x0_at_3 : Int32) (x0_from_3 : Int32) (x0_error_3 : Int32) (x0_errorAt_3 : Int32) =>
  bv (fun (v4 : Int32) (y1_s_1 : Nat → Int32) => ((
    (if r38 < v4 then (
      some (.inr y1_s_1)
    ) else (
      bd1 (f_X9_isFine x0_error_3) fun (r52 : Int32) =>
      (if r52 = 0 then (
        some (.inr y1_s_1)
      ) else (
        ar 1 552 <|
        ar ((8 + ((y1_s_1 (1 : Int32).toNatClampNeg) * r10)) + v4) 552 <| bv (upd y1_s_1 ((8 + ((y1_s_1 (1 : Int32).toNatClampNeg) * r10)) + v4).toNatClampNeg 1) fun y1_s_3 =>
        bv (v4 + 1) fun v4_1 =>
        some (.inl (v4_1, y1_s_3))
      ))
    ))
    ) : Option ((Int32 × (Nat → Int32)) ⊕ ((Nat → Int32))))) fun l45 =>
  bd1 (lq2 l45 r24 y1_s) fun (y1_s_2 : Nat → Int32) =>
  some (x0_at_3, x0_from_3, x0_error_3, x0_errorAt_3, y1_s_2)
set_option maxRecDepth 4000 in
theorem c_X9_readsLand (l : Launch) (g : GE) (a0 a1 a2 : Nat) (sz : Nat) (u0_1 u0_2 u0_3 u0_4 u0_5 u0_6 u0_7 u0_8 u0_9 u0_10 u0_11 u0_12 u0_13 u0_14 u0_15 u0_16 u0_17 u0_18 u0_25 u0_26 u0_27 u0_28 u0_29 u0_30 : Value) (x0_length : Int32) (x0_at : Int32) (x0_from : Int32) (x0_error : Int32) (x0_errorAt : Int32) (y1_s : Nat → Int32) (y2_text : Nat → Int32)  (o_x0_at : Int32) (o_x0_from : Int32) (o_x0_error : Int32) (o_x0_errorAt : Int32) (o_y1_s : Nat → Int32) (hf : f_X9_readsLand x0_length x0_at x0_from x0_error x0_errorAt y1_s y2_text = some (o_x0_at, o_x0_from, o_x0_error, o_x0_errorAt, o_y1_s)) : MI l g yX9_readsLand wsX9_readsLand 4 92 [.ref a0] (w_X9_readsLand g a0 a1 a2 u0_1 u0_2 u0_3 u0_4 u0_5 u0_6 u0_7 u0_8 u0_9 u0_10 u0_11 u0_12 u0_13 u0_14 u0_15 u0_16 u0_17 u0_18 u0_25 u0_26 u0_27 u0_28 u0_29 u0_30 x0_length x0_at x0_from x0_error x0_errorAt y1_s y2_text) sz none (w_X9_readsLand g a0 a1 a2 u0_1 u0_2 u0_3 u0_4 u0_5 u0_6 u0_7 u0_8 u0_9 u0_10 u0_11 u0_12 u0_13 u0_14 u0_15 u0_16 u0_17 u0_18 u0_25 u0_26 u0_27 u0_28 u0_29 u0_30 x0_length o_x0_at o_x0_from o_x0_error o_x0_errorAt o_y1_s y2_text) := by
  refine MI.start (cc := cX9_readsLand) (maxL := 5) (ret := none) rfl rfl (nle rfl) ?_
  intro p e s m args below meth c A ls Q hQ hexec hb hr hts hown hlocks hml hA hP hD hG hS hl
  unfold f_X9_readsLand at hf
  have hWX9 : ∀ w ∈ wsX90, w.before args s = true := fun w h => hts w (List.mem_cons_of_mem _ (List.mem_append_right _ h))
  have hS : va_S A s.heap s.heap [] := hS
  refine lv_aload_n (pc := 0) hexec hb dX9_readsLand_0 rfl (lv_at hl 0 rfl) ?_
  refine lv_iconst (pc := 1) hexec hb dX9_readsLand_1 ki_0 ?_
  refine lv_aload_n (pc := 2) hexec hb dX9_readsLand_2 rfl (lv_at hl 0 rfl) ?_
  refine kg_get (pc := 3) hexec hb (own := RX9) hWX9 hown hG hP 0 rfl rfl 0 (nle rfl) (hts _ (List.mem_cons_of_mem _ (List.mem_append_left _ (List.mem_append_left _ (List.mem_of_getElem? (i := 0) rfl))))) rfl rfl dX9_readsLand_3 ?_
  refine lv_iconst (pc := 6) hexec hb dX9_readsLand_6 ki_0 ?_
  refine kr_iald (pc := 7) hexec hb hG hP 1 rfl hf dX9_readsLand_7 (fun hf => ?_)
  refine lv_iconst (pc := 8) hexec hb dX9_readsLand_8 ki_1 ?_
  refine lv_isub (pc := 9) hexec hb dX9_readsLand_9 ?_
  obtain ⟨r10, x0_at_1, x0_from_1, x0_error_1, x0_errorAt_1, hc, hf⟩ := bd5_e hf
  refine kVp (pc := 10) (S := ⟨hexec, hb, hml, hown, hts⟩) hP hD hG hA hS [0, 2] [1] [1, 0, 2] (w2 := (w_X9_readsLand g a0 a1 a2 u0_1 u0_2 u0_3 u0_4 u0_5 u0_6 u0_7 u0_8 u0_9 u0_10 u0_11 u0_12 u0_13 u0_14 u0_15 u0_16 u0_17 u0_18 u0_25 u0_26 u0_27 u0_28 u0_29 u0_30 x0_length x0_at_1 x0_from_1 x0_error_1 x0_errorAt_1 y1_s y2_text)) rfl rfl rfl rfl rfl rfl (by decide) (c_X9_number l g a0 a2 _ (.ref a1) u0_1 u0_2 u0_3 u0_4 u0_5 u0_6 u0_7 u0_8 u0_9 u0_10 u0_11 u0_12 u0_13 u0_14 u0_15 u0_16 u0_17 u0_18 u0_25 u0_26 u0_27 u0_28 u0_29 u0_30 x0_length x0_at x0_from x0_error x0_errorAt y2_text 0 ((y1_s (0 : Int32).toNatClampNeg) - 1) r10 x0_at_1 x0_from_1 x0_error_1 x0_errorAt_1 hc) gX9_readsLand_X9_number rfl hv_X9_number ⟨nle rfl, nle rfl⟩ 9 0 rfl rfl rfl (rest := []) rfl rfl hl.1 (nle rfl) dX9_readsLand_10 (fun H locs hP hD hS => ?_)
  refine lv_istore_n (pc := 13) hexec hb dX9_readsLand_13 rfl hl (nle rfl) rfl (fun ls (hl : lv_has ls 5 [(1, .int r10), (0, .ref a0)]) => ?_)
  refine lv_aload_n (pc := 14) hexec hb dX9_readsLand_14 rfl (lv_at hl 1 rfl) ?_
  refine lv_iconst (pc := 15) hexec hb dX9_readsLand_15 ki_0 ?_
  refine lv_aload_n (pc := 16) hexec hb dX9_readsLand_16 rfl (lv_at hl 1 rfl) ?_
  refine kg_get (pc := 17) hexec hb (own := RX9) hWX9 hown hG hP 0 rfl rfl 0 (nle rfl) (hts _ (List.mem_cons_of_mem _ (List.mem_append_left _ (List.mem_append_left _ (List.mem_of_getElem? (i := 0) rfl))))) rfl rfl dX9_readsLand_17 ?_
  refine lv_iconst (pc := 20) hexec hb dX9_readsLand_20 ki_1 ?_
  refine kr_iald (pc := 21) hexec hb hG hP 1 rfl hf dX9_readsLand_21 (fun hf => ?_)
  refine lv_iconst (pc := 22) hexec hb dX9_readsLand_22 ki_1 ?_
  refine lv_isub (pc := 23) hexec hb dX9_readsLand_23 ?_
  obtain ⟨r24, x0_at_2, x0_from_2, x0_error_2, x0_errorAt_2, hc, hf⟩ := bd5_e hf
  refine kVp (pc := 24) (S := ⟨hexec, hb, hml, hown, hts⟩) hP hD hG hA hS [0, 2] [1] [1, 0, 2] (w2 := (w_X9_readsLand g a0 a1 a2 u0_1 u0_2 u0_3 u0_4 u0_5 u0_6 u0_7 u0_8 u0_9 u0_10 u0_11 u0_12 u0_13 u0_14 u0_15 u0_16 u0_17 u0_18 u0_25 u0_26 u0_27 u0_28 u0_29 u0_30 x0_length x0_at_2 x0_from_2 x0_error_2 x0_errorAt_2 y1_s y2_text)) rfl rfl rfl rfl rfl rfl (by decide) (c_X9_number l g a0 a2 _ (.ref a1) u0_1 u0_2 u0_3 u0_4 u0_5 u0_6 u0_7 u0_8 u0_9 u0_10 u0_11 u0_12 u0_13 u0_14 u0_15 u0_16 u0_17 u0_18 u0_25 u0_26 u0_27 u0_28 u0_29 u0_30 x0_length x0_at_1 x0_from_1 x0_error_1 x0_errorAt_1 y2_text 0 ((y1_s (1 : Int32).toNatClampNeg) - 1) r24 x0_at_2 x0_from_2 x0_error_2 x0_errorAt_2 hc) gX9_readsLand_X9_number rfl hv_X9_number ⟨nle rfl, nle rfl⟩ 9 0 rfl rfl rfl (rest := []) rfl rfl hl.1 (nle rfl) dX9_readsLand_24 (fun H locs hP hD hS => ?_)
  refine lv_istore_n (pc := 27) hexec hb dX9_readsLand_27 rfl hl (nle rfl) rfl (fun ls (hl : lv_has ls 5 [(2, .int r24), (1, .int r10), (0, .ref a0)]) => ?_)
  refine lv_aload_n (pc := 28) hexec hb dX9_readsLand_28 rfl (lv_at hl 2 rfl) ?_
  refine lv_iload_n (pc := 29) hexec hb dX9_readsLand_29 rfl (lv_at hl 0 rfl) ?_
  refine lv_aload_n (pc := 30) hexec hb dX9_readsLand_30 rfl (lv_at hl 2 rfl) ?_
  refine kg_get (pc := 31) hexec hb (own := RX9) hWX9 hown hG hP 0 rfl rfl 0 (nle rfl) (hts _ (List.mem_cons_of_mem _ (List.mem_append_left _ (List.mem_append_left _ (List.mem_of_getElem? (i := 0) rfl))))) rfl rfl dX9_readsLand_31 ?_
  refine lv_iconst (pc := 34) hexec hb dX9_readsLand_34 ki_1 ?_
  refine kr_iald (pc := 35) hexec hb hG hP 1 rfl hf dX9_readsLand_35 (fun hf => ?_)
  refine lv_iconst (pc := 36) hexec hb dX9_readsLand_36 ki_1 ?_
  refine lv_isub (pc := 37) hexec hb dX9_readsLand_37 ?_
  obtain ⟨r38, x0_at_3, x0_from_3, x0_error_3, x0_errorAt_3, hc, hf⟩ := bd5_e hf
  refine kVp (pc := 38) (S := ⟨hexec, hb, hml, hown, hts⟩) hP hD hG hA hS [0, 2] [1] [1, 0, 2] (w2 := (w_X9_readsLand g a0 a1 a2 u0_1 u0_2 u0_3 u0_4 u0_5 u0_6 u0_7 u0_8 u0_9 u0_10 u0_11 u0_12 u0_13 u0_14 u0_15 u0_16 u0_17 u0_18 u0_25 u0_26 u0_27 u0_28 u0_29 u0_30 x0_length x0_at_3 x0_from_3 x0_error_3 x0_errorAt_3 y1_s y2_text)) rfl rfl rfl rfl rfl rfl (by decide) (c_X9_number l g a0 a2 _ (.ref a1) u0_1 u0_2 u0_3 u0_4 u0_5 u0_6 u0_7 u0_8 u0_9 u0_10 u0_11 u0_12 u0_13 u0_14 u0_15 u0_16 u0_17 u0_18 u0_25 u0_26 u0_27 u0_28 u0_29 u0_30 x0_length x0_at_2 x0_from_2 x0_error_2 x0_errorAt_2 y2_text r24 ((y1_s (1 : Int32).toNatClampNeg) - 1) r38 x0_at_3 x0_from_3 x0_error_3 x0_errorAt_3 hc) gX9_readsLand_X9_number rfl hv_X9_number ⟨nle rfl, nle rfl⟩ 9 0 rfl rfl rfl (rest := []) rfl rfl hl.1 (nle rfl) dX9_readsLand_38 (fun H locs hP hD hS => ?_)
  refine lv_istore_n (pc := 41) hexec hb dX9_readsLand_41 rfl hl (nle rfl) rfl (fun ls (hl : lv_has ls 5 [(3, .int r38), (2, .int r24), (1, .int r10), (0, .ref a0)]) => ?_)
  refine lv_iload_n (pc := 42) hexec hb dX9_readsLand_42 rfl (lv_at hl 1 rfl) ?_
  refine lv_istore (pc := 43) hexec hb dX9_readsLand_43 hl (nle rfl) rfl (fun ls (hl : lv_has ls 5 [(4, .int r24), (3, .int r38), (2, .int r24), (1, .int r10), (0, .ref a0)]) => ?_)
  obtain ⟨l45, el45, hf⟩ := bvf2 hf
  obtain ⟨y1_s_2, hz, hf⟩ := bd1_e hf
  have hE45 : ∀ (H : Heap) (locs : List Loc) (ls : Array Slot), va_P g.1 vwCl (w_X9_readsLand g a0 a1 a2 u0_1 u0_2 u0_3 u0_4 u0_5 u0_6 u0_7 u0_8 u0_9 u0_10 u0_11 u0_12 u0_13 u0_14 u0_15 u0_16 u0_17 u0_18 u0_25 u0_26 u0_27 u0_28 u0_29 u0_30 x0_length x0_at_3 x0_from_3 x0_error_3 x0_errorAt_3 y1_s_2 y2_text) H → va_D A (w_X9_readsLand g a0 a1 a2 u0_1 u0_2 u0_3 u0_4 u0_5 u0_6 u0_7 u0_8 u0_9 u0_10 u0_11 u0_12 u0_13 u0_14 u0_15 u0_16 u0_17 u0_18 u0_25 u0_26 u0_27 u0_28 u0_29 u0_30 x0_length x0_at_3 x0_from_3 x0_error_3 x0_errorAt_3 y1_s_2 y2_text) → va_S A s.heap H locs → lv_has ls 5 [] → W p l e (RM 4 92) s m args below meth c H locs 0 0 Q (F0 m 84 ls []) := by
    intro H locs ls hP hD hS hl
    cases hf
    exact ke_v hQ hexec hb hr hP hD hS dX9_readsLand_84 hlocks
  obtain ⟨n, hz⟩ := lq2_e hz
  have hL45 : ∀ (n : Nat) (v4 : Int32) (y1_s_1 : Nat → Int32) (H : Heap) (locs : List Loc) (ls : Array Slot), it2 l45 n v4 y1_s_1 = some y1_s_2 → va_P g.1 vwCl (w_X9_readsLand g a0 a1 a2 u0_1 u0_2 u0_3 u0_4 u0_5 u0_6 u0_7 u0_8 u0_9 u0_10 u0_11 u0_12 u0_13 u0_14 u0_15 u0_16 u0_17 u0_18 u0_25 u0_26 u0_27 u0_28 u0_29 u0_30 x0_length x0_at_3 x0_from_3 x0_error_3 x0_errorAt_3 y1_s_1 y2_text) H → va_D A (w_X9_readsLand g a0 a1 a2 u0_1 u0_2 u0_3 u0_4 u0_5 u0_6 u0_7 u0_8 u0_9 u0_10 u0_11 u0_12 u0_13 u0_14 u0_15 u0_16 u0_17 u0_18 u0_25 u0_26 u0_27 u0_28 u0_29 u0_30 x0_length x0_at_3 x0_from_3 x0_error_3 x0_errorAt_3 y1_s_1 y2_text) → va_S A s.heap H locs → lv_has ls 5 [(0, .ref a0), (1, .int r10), (3, .int r38), (4, .int v4)] → W p l e (RM 4 92) s m args below meth c H locs 0 0 Q (F0 m 45 ls []) := by
    intro n
    induction n with
    | zero =>
      intro v4 y1_s_1 H locs ls hf hP hD hS hl
      exact it2_0 hf
    | succ n45 ih45 =>
      intro v4 y1_s_1 H locs ls hf hP hD hS hl
      obtain ⟨q45, hf, hk45⟩ := it2_e hf
      have hf := (el45 v4 y1_s_1).symm.trans hf
      refine lv_iload (pc := 45) hexec hb dX9_readsLand_45 (lv_at hl 3 rfl) ?_
      refine lv_iload_n (pc := 47) hexec hb dX9_readsLand_47 rfl (lv_at hl 2 rfl) ?_
      refine ki_gt (pc := 48) hexec hb dX9_readsLand_48 (tgt := 84) rfl hf (fun hc hf => ?_) (fun hc hf => ?_)
      · cases sr2 hf hk45
        exact hE45 _ _ _ hP hD hS (lv_sub hl [] rfl)
      · refine lv_aload_n (pc := 51) hexec hb dX9_readsLand_51 rfl (lv_at hl 0 rfl) ?_
        obtain ⟨r52, hc, hf⟩ := bd1_e hf
        refine kVp (pc := 52) (S := ⟨hexec, hb, hml, hown, hts⟩) hP hD hG hA hS [0] [1, 2] [2, 0, 1] (w2 := (w_X9_readsLand g a0 a1 a2 u0_1 u0_2 u0_3 u0_4 u0_5 u0_6 u0_7 u0_8 u0_9 u0_10 u0_11 u0_12 u0_13 u0_14 u0_15 u0_16 u0_17 u0_18 u0_25 u0_26 u0_27 u0_28 u0_29 u0_30 x0_length x0_at_3 x0_from_3 x0_error_3 x0_errorAt_3 y1_s_1 y2_text)) rfl rfl rfl rfl rfl rfl (by decide) (c_X9_isFine l g a0 _ (.ref a1) u0_1 u0_2 u0_3 u0_4 u0_5 u0_6 u0_7 u0_8 u0_9 u0_10 u0_11 u0_12 u0_13 u0_14 u0_15 u0_16 u0_17 u0_18 (.ref a2) (.int x0_length) (.int x0_at_3) (.int x0_from_3) (.int x0_errorAt_3) u0_25 u0_26 u0_27 u0_28 u0_29 u0_30 x0_error_3 r52 hc) gX9_readsLand_X9_isFine rfl hv_X9_isFine ⟨nle rfl, nle rfl⟩ 9 0 rfl rfl rfl (rest := []) rfl rfl hl.1 (nle rfl) dX9_readsLand_52 (fun H locs hP hD hS => ?_)
        refine kb_eq (pc := 55) hexec hb dX9_readsLand_55 (tgt := 84) rfl hf (fun hc hf => ?_) (fun hc hf => ?_)
        · cases sr2 hf hk45
          exact hE45 _ _ _ hP hD hS (lv_sub hl [] rfl)
        · refine lv_aload_n (pc := 58) hexec hb dX9_readsLand_58 rfl (lv_at hl 0 rfl) ?_
          refine kg_get (pc := 59) hexec hb (own := RX9) hWX9 hown hG hP 0 rfl rfl 0 (nle rfl) (hts _ (List.mem_cons_of_mem _ (List.mem_append_left _ (List.mem_append_left _ (List.mem_of_getElem? (i := 0) rfl))))) rfl rfl dX9_readsLand_59 ?_
          refine lv_bipush (pc := 62) hexec hb dX9_readsLand_62 kb_8 ?_
          refine lv_aload_n (pc := 64) hexec hb dX9_readsLand_64 rfl (lv_at hl 0 rfl) ?_
          refine kg_get (pc := 65) hexec hb (own := RX9) hWX9 hown hG hP 0 rfl rfl 0 (nle rfl) (hts _ (List.mem_cons_of_mem _ (List.mem_append_left _ (List.mem_append_left _ (List.mem_of_getElem? (i := 0) rfl))))) rfl rfl dX9_readsLand_65 ?_
          refine lv_iconst (pc := 68) hexec hb dX9_readsLand_68 ki_1 ?_
          refine kr_iald (pc := 69) hexec hb hG hP 1 rfl hf dX9_readsLand_69 (fun hf => ?_)
          refine lv_iload_n (pc := 70) hexec hb dX9_readsLand_70 rfl (lv_at hl 1 rfl) ?_
          refine lv_imul (pc := 71) hexec hb dX9_readsLand_71 ?_
          refine lv_iadd (pc := 72) hexec hb dX9_readsLand_72 ?_
          refine lv_iload (pc := 73) hexec hb dX9_readsLand_73 (lv_at hl 3 rfl) ?_
          refine lv_iadd (pc := 75) hexec hb dX9_readsLand_75 ?_
          refine lv_iconst (pc := 76) hexec hb dX9_readsLand_76 ki_1 ?_
          refine kw_iast (pc := 77) hexec hb hG hP hD hS 1 rfl hf dX9_readsLand_77 (fun y1_s_3 H locs hf (hP : va_P g.1 vwCl (w_X9_readsLand g a0 a1 a2 u0_1 u0_2 u0_3 u0_4 u0_5 u0_6 u0_7 u0_8 u0_9 u0_10 u0_11 u0_12 u0_13 u0_14 u0_15 u0_16 u0_17 u0_18 u0_25 u0_26 u0_27 u0_28 u0_29 u0_30 x0_length x0_at_3 x0_from_3 x0_error_3 x0_errorAt_3 y1_s_3 y2_text) H) (hD : va_D A (w_X9_readsLand g a0 a1 a2 u0_1 u0_2 u0_3 u0_4 u0_5 u0_6 u0_7 u0_8 u0_9 u0_10 u0_11 u0_12 u0_13 u0_14 u0_15 u0_16 u0_17 u0_18 u0_25 u0_26 u0_27 u0_28 u0_29 u0_30 x0_length x0_at_3 x0_from_3 x0_error_3 x0_errorAt_3 y1_s_3 y2_text)) hS => ?_)
          obtain ⟨v4_1, ev4_1, hf⟩ := bv_e hf
          refine k_iinc (pc := 78) hexec hb dX9_readsLand_78 kq_1 hl (k := 3) rfl ev4_1 (nle rfl) rfl (fun ls (hl : lv_has ls 5 [(4, .int v4_1), (0, .ref a0), (1, .int r10), (3, .int r38)]) => ?_)
          refine lv_goto (pc := 81) hexec hb dX9_readsLand_81 (tgt := 45) rfl ?_
          exact ih45 _ _ _ _ _ (sl2 hf hk45) hP hD hS (lv_sub hl [1, 2, 3, 0] rfl)
  exact hL45 n _ _ _ _ _ hz hP hD hS (lv_sub hl [4, 3, 1, 0] rfl)
abbrev w_X9_readsRiver (g : GE) (a0 a1 a2 a3 a4 : Nat) (u0_1 u0_2 u0_3 u0_4 u0_5 u0_6 u0_7 u0_11 u0_12 u0_13 u0_14 u0_15 u0_16 u0_17 u0_18 u0_25 u0_26 u0_27 u0_28 u0_29 u0_30 : Value) (x0_flowLong : Int32) (x0_length : Int32) (x0_at : Int32) (x0_from : Int32) (x0_error : Int32) (x0_errorAt : Int32) (y1_flow : Nat → Int32) (y2_s : Nat → Int32) (y3_sums : Nat → Int32) (y4_text : Nat → Int32) : va_W := [(a0, .inr (9, [.ref a2, u0_1, u0_2, u0_3, u0_4, u0_5, u0_6, u0_7, .ref a3, .ref a1, .int x0_flowLong, u0_11, u0_12, u0_13, u0_14, u0_15, u0_16, u0_17, u0_18, .ref a4, .int x0_length, .int x0_at, .int x0_from, .int x0_error, .int x0_errorAt, u0_25, u0_26, u0_27, u0_28, u0_29, u0_30])), (a1, .inl (g.2.1 0, 144, .inl y1_flow)), (a2, .inl (g.2.1 0, 552, .inl y2_s)), (a3, .inl (g.2.1 0, 144, .inl y3_sums)), (a4, .inl (g.2.1 0, 500, .inl y4_text))]
noncomputable def f_X9_readsRiver (x0_flowLong : Int32) (x0_length : Int32) (x0_at : Int32) (x0_from : Int32) (x0_error : Int32) (x0_errorAt : Int32) (y1_flow : Nat → Int32) (y2_s : Nat → Int32) (y3_sums : Nat → Int32) (y4_text : Nat → Int32)  : Option (Int32 × Int32 × Int32 × Int32 × Int32 × (Nat → Int32) × (Nat → Int32) × (Nat → Int32)) :=
  ar 0 552 <|
  bd5 (f_X9_number x0_length x0_at x0_from x0_error x0_errorAt y4_text 0 ((y2_s (0 : Int32).toNatClampNeg) - 1)) fun (r10 : Int32) (x0_at_1 : Int32) (x0_from_1 : Int32) (x0_error_1 : Int32) (x0_errorAt_1 : Int32) =>
  ar 1 552 <|
  bd5 (f_X9_number x0_length x0_at_1 x0_from_1 x0_error_1 x0_errorAt_1 y4_text 0 ((y2_s (1 : Int32).toNatClampNeg) - 1)) fun (r24 : Int32) (x0_at_2 : Int32) (x0_from_2 : Int32) (x0_error_2 : Int32) (x0_errorAt_2 : Int32) =>
  bd1 (f_X9_isFine x0_error_2) fun (r29 : Int32) =>
  (if r29 = 0 then (
    some (x0_flowLong, x0_at_2, x0_from_2, x0_error_2, x0_errorAt_2, y1_flow, y2_s, y3_sums)
  ) else (
    ar 1 552 <|
    bd4 (f_X9_findsFlow x0_flowLong y1_flow y2_s y3_sums (((y2_s (1 : Int32).toNatClampNeg) * r10) + r24)) fun (r47 : Int32) (x0_flowLong_1 : Int32) (y1_flow_1 : Nat → Int32) (y3_sums_1 : Nat → Int32) =>
    (if r47 = 0 then (
      bd2 (f_X9_fails x0_error_2 x0_errorAt_2 3 x0_from_2) fun (x0_error_3 : Int32) (x0_errorAt_3 : Int32) =>
      some (x0_flowLong_1, x0_at_2, x0_from_2, x0_error_3, x0_errorAt_3, y1_flow_1, y2_s, y3_sums_1)
    ) else (
      bd1 (f_X9_flows x0_flowLong_1 y1_flow_1 y2_s) fun (y2_s_1 : Nat → Int32) =>
      some (x0_flowLong_1, x0_at_2, x0_from_2, x0_error_2, x0_errorAt_2, y1_flow_1, y2_s_1, y3_sums_1)
    ))
  ))
set_option maxRecDepth 4000 in
theorem c_X9_readsRiver (l : Launch) (g : GE) (a0 a1 a2 a3 a4 : Nat) (sz : Nat) (u0_1 u0_2 u0_3 u0_4 u0_5 u0_6 u0_7 u0_11 u0_12 u0_13 u0_14 u0_15 u0_16 u0_17 u0_18 u0_25 u0_26 u0_27 u0_28 u0_29 u0_30 : Value) (x0_flowLong : Int32) (x0_length : Int32) (x0_at : Int32) (x0_from : Int32) (x0_error : Int32) (x0_errorAt : Int32) (y1_flow : Nat → Int32) (y2_s : Nat → Int32) (y3_sums : Nat → Int32) (y4_text : Nat → Int32)  (o_x0_flowLong : Int32) (o_x0_at : Int32) (o_x0_from : Int32) (o_x0_error : Int32) (o_x0_errorAt : Int32) (o_y1_flow : Nat → Int32) (o_y2_s : Nat → Int32) (o_y3_sums : Nat → Int32) (hf : f_X9_readsRiver x0_flowLong x0_length x0_at x0_from x0_error x0_errorAt y1_flow y2_s y3_sums y4_text = some (o_x0_flowLong, o_x0_at, o_x0_from, o_x0_error, o_x0_errorAt, o_y1_flow, o_y2_s, o_y3_sums)) : MI l g yX9_readsRiver wsX9_readsRiver 10 231 [.ref a0] (w_X9_readsRiver g a0 a1 a2 a3 a4 u0_1 u0_2 u0_3 u0_4 u0_5 u0_6 u0_7 u0_11 u0_12 u0_13 u0_14 u0_15 u0_16 u0_17 u0_18 u0_25 u0_26 u0_27 u0_28 u0_29 u0_30 x0_flowLong x0_length x0_at x0_from x0_error x0_errorAt y1_flow y2_s y3_sums y4_text) sz none (w_X9_readsRiver g a0 a1 a2 a3 a4 u0_1 u0_2 u0_3 u0_4 u0_5 u0_6 u0_7 u0_11 u0_12 u0_13 u0_14 u0_15 u0_16 u0_17 u0_18 u0_25 u0_26 u0_27 u0_28 u0_29 u0_30 o_x0_flowLong x0_length o_x0_at o_x0_from o_x0_error o_x0_errorAt o_y1_flow o_y2_s o_y3_sums y4_text) := by
  refine MI.start (cc := cX9_readsRiver) (maxL := 3) (ret := none) rfl rfl (nle rfl) ?_
  intro p e s m args below meth c A ls Q hQ hexec hb hr hts hown hlocks hml hA hP hD hG hS hl
  unfold f_X9_readsRiver at hf
  have hWX9 : ∀ w ∈ wsX90, w.before args s = true := fun w h => hts w (List.mem_cons_of_mem _ (List.mem_append_right _ h))
  have hS : va_S A s.heap s.heap [] := hS
  refine lv_aload_n (pc := 0) hexec hb dX9_readsRiver_0 rfl (lv_at hl 0 rfl) ?_
  refine lv_iconst (pc := 1) hexec hb dX9_readsRiver_1 ki_0 ?_
  refine lv_aload_n (pc := 2) hexec hb dX9_readsRiver_2 rfl (lv_at hl 0 rfl) ?_
  refine kg_get (pc := 3) hexec hb (own := RX9) hWX9 hown hG hP 0 rfl rfl 0 (nle rfl) (hts _ (List.mem_cons_of_mem _ (List.mem_append_left _ (List.mem_append_left _ (List.mem_of_getElem? (i := 0) rfl))))) rfl rfl dX9_readsRiver_3 ?_
  refine lv_iconst (pc := 6) hexec hb dX9_readsRiver_6 ki_0 ?_
  refine kr_iald (pc := 7) hexec hb hG hP 2 rfl hf dX9_readsRiver_7 (fun hf => ?_)
  refine lv_iconst (pc := 8) hexec hb dX9_readsRiver_8 ki_1 ?_
  refine lv_isub (pc := 9) hexec hb dX9_readsRiver_9 ?_
  obtain ⟨r10, x0_at_1, x0_from_1, x0_error_1, x0_errorAt_1, hc, hf⟩ := bd5_e hf
  refine kVp (pc := 10) (S := ⟨hexec, hb, hml, hown, hts⟩) hP hD hG hA hS [0, 4] [1, 2, 3] [3, 0, 1, 2, 4] (w2 := (w_X9_readsRiver g a0 a1 a2 a3 a4 u0_1 u0_2 u0_3 u0_4 u0_5 u0_6 u0_7 u0_11 u0_12 u0_13 u0_14 u0_15 u0_16 u0_17 u0_18 u0_25 u0_26 u0_27 u0_28 u0_29 u0_30 x0_flowLong x0_length x0_at_1 x0_from_1 x0_error_1 x0_errorAt_1 y1_flow y2_s y3_sums y4_text)) rfl rfl rfl rfl rfl rfl (by decide) (c_X9_number l g a0 a4 _ (.ref a2) u0_1 u0_2 u0_3 u0_4 u0_5 u0_6 u0_7 (.ref a3) (.ref a1) (.int x0_flowLong) u0_11 u0_12 u0_13 u0_14 u0_15 u0_16 u0_17 u0_18 u0_25 u0_26 u0_27 u0_28 u0_29 u0_30 x0_length x0_at x0_from x0_error x0_errorAt y4_text 0 ((y2_s (0 : Int32).toNatClampNeg) - 1) r10 x0_at_1 x0_from_1 x0_error_1 x0_errorAt_1 hc) gX9_readsRiver_X9_number rfl hv_X9_number ⟨nle rfl, nle rfl⟩ 9 0 rfl rfl rfl (rest := []) rfl rfl hl.1 (nle rfl) dX9_readsRiver_10 (fun H locs hP hD hS => ?_)
  refine lv_istore_n (pc := 13) hexec hb dX9_readsRiver_13 rfl hl (nle rfl) rfl (fun ls (hl : lv_has ls 3 [(1, .int r10), (0, .ref a0)]) => ?_)
  refine lv_aload_n (pc := 14) hexec hb dX9_readsRiver_14 rfl (lv_at hl 1 rfl) ?_
  refine lv_iconst (pc := 15) hexec hb dX9_readsRiver_15 ki_0 ?_
  refine lv_aload_n (pc := 16) hexec hb dX9_readsRiver_16 rfl (lv_at hl 1 rfl) ?_
  refine kg_get (pc := 17) hexec hb (own := RX9) hWX9 hown hG hP 0 rfl rfl 0 (nle rfl) (hts _ (List.mem_cons_of_mem _ (List.mem_append_left _ (List.mem_append_left _ (List.mem_of_getElem? (i := 0) rfl))))) rfl rfl dX9_readsRiver_17 ?_
  refine lv_iconst (pc := 20) hexec hb dX9_readsRiver_20 ki_1 ?_
  refine kr_iald (pc := 21) hexec hb hG hP 2 rfl hf dX9_readsRiver_21 (fun hf => ?_)
  refine lv_iconst (pc := 22) hexec hb dX9_readsRiver_22 ki_1 ?_
  refine lv_isub (pc := 23) hexec hb dX9_readsRiver_23 ?_
  obtain ⟨r24, x0_at_2, x0_from_2, x0_error_2, x0_errorAt_2, hc, hf⟩ := bd5_e hf
  refine kVp (pc := 24) (S := ⟨hexec, hb, hml, hown, hts⟩) hP hD hG hA hS [0, 4] [1, 2, 3] [3, 0, 1, 2, 4] (w2 := (w_X9_readsRiver g a0 a1 a2 a3 a4 u0_1 u0_2 u0_3 u0_4 u0_5 u0_6 u0_7 u0_11 u0_12 u0_13 u0_14 u0_15 u0_16 u0_17 u0_18 u0_25 u0_26 u0_27 u0_28 u0_29 u0_30 x0_flowLong x0_length x0_at_2 x0_from_2 x0_error_2 x0_errorAt_2 y1_flow y2_s y3_sums y4_text)) rfl rfl rfl rfl rfl rfl (by decide) (c_X9_number l g a0 a4 _ (.ref a2) u0_1 u0_2 u0_3 u0_4 u0_5 u0_6 u0_7 (.ref a3) (.ref a1) (.int x0_flowLong) u0_11 u0_12 u0_13 u0_14 u0_15 u0_16 u0_17 u0_18 u0_25 u0_26 u0_27 u0_28 u0_29 u0_30 x0_length x0_at_1 x0_from_1 x0_error_1 x0_errorAt_1 y4_text 0 ((y2_s (1 : Int32).toNatClampNeg) - 1) r24 x0_at_2 x0_from_2 x0_error_2 x0_errorAt_2 hc) gX9_readsRiver_X9_number rfl hv_X9_number ⟨nle rfl, nle rfl⟩ 9 0 rfl rfl rfl (rest := []) rfl rfl hl.1 (nle rfl) dX9_readsRiver_24 (fun H locs hP hD hS => ?_)
  refine lv_istore_n (pc := 27) hexec hb dX9_readsRiver_27 rfl hl (nle rfl) rfl (fun ls (hl : lv_has ls 3 [(2, .int r24), (1, .int r10), (0, .ref a0)]) => ?_)
  refine lv_aload_n (pc := 28) hexec hb dX9_readsRiver_28 rfl (lv_at hl 2 rfl) ?_
  obtain ⟨r29, hc, hf⟩ := bd1_e hf
  refine kVp (pc := 29) (S := ⟨hexec, hb, hml, hown, hts⟩) hP hD hG hA hS [0] [1, 2, 3, 4] [4, 0, 1, 2, 3] (w2 := (w_X9_readsRiver g a0 a1 a2 a3 a4 u0_1 u0_2 u0_3 u0_4 u0_5 u0_6 u0_7 u0_11 u0_12 u0_13 u0_14 u0_15 u0_16 u0_17 u0_18 u0_25 u0_26 u0_27 u0_28 u0_29 u0_30 x0_flowLong x0_length x0_at_2 x0_from_2 x0_error_2 x0_errorAt_2 y1_flow y2_s y3_sums y4_text)) rfl rfl rfl rfl rfl rfl (by decide) (c_X9_isFine l g a0 _ (.ref a2) u0_1 u0_2 u0_3 u0_4 u0_5 u0_6 u0_7 (.ref a3) (.ref a1) (.int x0_flowLong) u0_11 u0_12 u0_13 u0_14 u0_15 u0_16 u0_17 u0_18 (.ref a4) (.int x0_length) (.int x0_at_2) (.int x0_from_2) (.int x0_errorAt_2) u0_25 u0_26 u0_27 u0_28 u0_29 u0_30 x0_error_2 r29 hc) gX9_readsRiver_X9_isFine rfl hv_X9_isFine ⟨nle rfl, nle rfl⟩ 9 0 rfl rfl rfl (rest := []) rfl rfl hl.1 (nle rfl) dX9_readsRiver_29 (fun H locs hP hD hS => ?_)
  refine kb_ne (pc := 32) hexec hb dX9_readsRiver_32 (tgt := 36) rfl hf (fun hc hf => ?_) (fun hc hf => ?_)
  · refine lv_aload_n (pc := 36) hexec hb dX9_readsRiver_36 rfl (lv_at hl 2 rfl) ?_
    refine lv_aload_n (pc := 37) hexec hb dX9_readsRiver_37 rfl (lv_at hl 2 rfl) ?_
    refine kg_get (pc := 38) hexec hb (own := RX9) hWX9 hown hG hP 0 rfl rfl 0 (nle rfl) (hts _ (List.mem_cons_of_mem _ (List.mem_append_left _ (List.mem_append_left _ (List.mem_of_getElem? (i := 0) rfl))))) rfl rfl dX9_readsRiver_38 ?_
    refine lv_iconst (pc := 41) hexec hb dX9_readsRiver_41 ki_1 ?_
    refine kr_iald (pc := 42) hexec hb hG hP 2 rfl hf dX9_readsRiver_42 (fun hf => ?_)
    refine lv_iload_n (pc := 43) hexec hb dX9_readsRiver_43 rfl (lv_at hl 1 rfl) ?_
    refine lv_imul (pc := 44) hexec hb dX9_readsRiver_44 ?_
    refine lv_iload_n (pc := 45) hexec hb dX9_readsRiver_45 rfl (lv_at hl 0 rfl) ?_
    refine lv_iadd (pc := 46) hexec hb dX9_readsRiver_46 ?_
    obtain ⟨r47, x0_flowLong_1, y1_flow_1, y3_sums_1, hc, hf⟩ := bd4_e hf
    refine kVp (pc := 47) (S := ⟨hexec, hb, hml, hown, hts⟩) hP hD hG hA hS [0, 1, 2, 3] [4] [1, 2, 3, 4, 0] (w2 := (w_X9_readsRiver g a0 a1 a2 a3 a4 u0_1 u0_2 u0_3 u0_4 u0_5 u0_6 u0_7 u0_11 u0_12 u0_13 u0_14 u0_15 u0_16 u0_17 u0_18 u0_25 u0_26 u0_27 u0_28 u0_29 u0_30 x0_flowLong_1 x0_length x0_at_2 x0_from_2 x0_error_2 x0_errorAt_2 y1_flow_1 y2_s y3_sums_1 y4_text)) rfl rfl rfl rfl rfl rfl (by decide) (c_X9_findsFlow l g a0 a1 a2 a3 _ u0_1 u0_2 u0_3 u0_4 u0_5 u0_6 u0_7 u0_11 u0_12 u0_13 u0_14 u0_15 u0_16 u0_17 u0_18 (.ref a4) (.int x0_length) (.int x0_at_2) (.int x0_from_2) (.int x0_error_2) (.int x0_errorAt_2) u0_25 u0_26 u0_27 u0_28 u0_29 u0_30 x0_flowLong y1_flow y2_s y3_sums (((y2_s (1 : Int32).toNatClampNeg) * r10) + r24) r47 x0_flowLong_1 y1_flow_1 y3_sums_1 hc) gX9_readsRiver_X9_findsFlow rfl hv_X9_findsFlow ⟨nle rfl, nle rfl⟩ 9 0 rfl rfl rfl (rest := []) rfl rfl hl.1 (nle rfl) dX9_readsRiver_47 (fun H locs hP hD hS => ?_)
    refine kb_eq (pc := 50) hexec hb dX9_readsRiver_50 (tgt := 60) rfl hf (fun hc hf => ?_) (fun hc hf => ?_)
    · refine lv_aload_n (pc := 60) hexec hb dX9_readsRiver_60 rfl (lv_at hl 2 rfl) ?_
      refine lv_iconst (pc := 61) hexec hb dX9_readsRiver_61 ki_3 ?_
      refine lv_aload_n (pc := 62) hexec hb dX9_readsRiver_62 rfl (lv_at hl 2 rfl) ?_
      refine kg_get (pc := 63) hexec hb (own := RX9) hWX9 hown hG hP 0 rfl rfl 22 (nle rfl) (hts _ (List.mem_cons_of_mem _ (List.mem_append_left _ (List.mem_append_left _ (List.mem_of_getElem? (i := 1) rfl))))) rfl rfl dX9_readsRiver_63 ?_
      obtain ⟨x0_error_3, x0_errorAt_3, hc, hf⟩ := bd2_e hf
      refine kVp (pc := 66) (S := ⟨hexec, hb, hml, hown, hts⟩) hP hD hG hA hS [0] [1, 2, 3, 4] [4, 0, 1, 2, 3] (w2 := (w_X9_readsRiver g a0 a1 a2 a3 a4 u0_1 u0_2 u0_3 u0_4 u0_5 u0_6 u0_7 u0_11 u0_12 u0_13 u0_14 u0_15 u0_16 u0_17 u0_18 u0_25 u0_26 u0_27 u0_28 u0_29 u0_30 x0_flowLong_1 x0_length x0_at_2 x0_from_2 x0_error_3 x0_errorAt_3 y1_flow_1 y2_s y3_sums_1 y4_text)) rfl rfl rfl rfl rfl rfl (by decide) (c_X9_fails l g a0 _ (.ref a2) u0_1 u0_2 u0_3 u0_4 u0_5 u0_6 u0_7 (.ref a3) (.ref a1) (.int x0_flowLong_1) u0_11 u0_12 u0_13 u0_14 u0_15 u0_16 u0_17 u0_18 (.ref a4) (.int x0_length) (.int x0_at_2) (.int x0_from_2) u0_25 u0_26 u0_27 u0_28 u0_29 u0_30 x0_error_2 x0_errorAt_2 3 x0_from_2 x0_error_3 x0_errorAt_3 hc) gX9_readsRiver_X9_fails rfl hv_X9_fails ⟨nle rfl, nle rfl⟩ 9 0 rfl rfl rfl (rest := []) rfl rfl hl.1 (nle rfl) dX9_readsRiver_66 (fun H locs hP hD hS => ?_)
      cases hf
      exact ke_v hQ hexec hb hr hP hD hS dX9_readsRiver_69 hlocks
    · refine lv_aload_n (pc := 53) hexec hb dX9_readsRiver_53 rfl (lv_at hl 2 rfl) ?_
      obtain ⟨y2_s_1, hc, hf⟩ := bd1_e hf
      refine kVp (pc := 54) (S := ⟨hexec, hb, hml, hown, hts⟩) hP hD hG hA hS [0, 1, 2] [3, 4] [2, 3, 4, 0, 1] (w2 := (w_X9_readsRiver g a0 a1 a2 a3 a4 u0_1 u0_2 u0_3 u0_4 u0_5 u0_6 u0_7 u0_11 u0_12 u0_13 u0_14 u0_15 u0_16 u0_17 u0_18 u0_25 u0_26 u0_27 u0_28 u0_29 u0_30 x0_flowLong_1 x0_length x0_at_2 x0_from_2 x0_error_2 x0_errorAt_2 y1_flow_1 y2_s_1 y3_sums_1 y4_text)) rfl rfl rfl rfl rfl rfl (by decide) (c_X9_flows l g a0 a1 a2 _ u0_1 u0_2 u0_3 u0_4 u0_5 u0_6 u0_7 (.ref a3) u0_11 u0_12 u0_13 u0_14 u0_15 u0_16 u0_17 u0_18 (.ref a4) (.int x0_length) (.int x0_at_2) (.int x0_from_2) (.int x0_error_2) (.int x0_errorAt_2) u0_25 u0_26 u0_27 u0_28 u0_29 u0_30 x0_flowLong_1 y1_flow_1 y2_s y2_s_1 hc) gX9_readsRiver_X9_flows rfl hv_X9_flows ⟨nle rfl, nle rfl⟩ 9 0 rfl rfl rfl (rest := []) rfl rfl hl.1 (nle rfl) dX9_readsRiver_54 (fun H locs hP hD hS => ?_)
      refine lv_goto (pc := 57) hexec hb dX9_readsRiver_57 (tgt := 69) rfl ?_
      cases hf
      exact ke_v hQ hexec hb hr hP hD hS dX9_readsRiver_69 hlocks
  · cases hf
    exact ke_v hQ hexec hb hr hP hD hS dX9_readsRiver_35 hlocks
abbrev w_X9_readsVoyage (g : GE) (a0 a1 a2 : Nat) (u0_1 u0_2 u0_3 u0_4 u0_5 u0_6 u0_7 u0_8 u0_9 u0_10 u0_11 u0_12 u0_13 u0_14 u0_15 u0_16 u0_17 u0_18 u0_25 u0_26 u0_27 u0_28 u0_29 u0_30 : Value) (x0_length : Int32) (x0_at : Int32) (x0_from : Int32) (x0_error : Int32) (x0_errorAt : Int32) (y1_s : Nat → Int32) (y2_text : Nat → Int32) : va_W := [(a0, .inr (9, [.ref a1, u0_1, u0_2, u0_3, u0_4, u0_5, u0_6, u0_7, u0_8, u0_9, u0_10, u0_11, u0_12, u0_13, u0_14, u0_15, u0_16, u0_17, u0_18, .ref a2, .int x0_length, .int x0_at, .int x0_from, .int x0_error, .int x0_errorAt, u0_25, u0_26, u0_27, u0_28, u0_29, u0_30])), (a1, .inl (g.2.1 0, 552, .inl y1_s)), (a2, .inl (g.2.1 0, 500, .inl y2_text))]
noncomputable def f_X9_readsVoyage (x0_length : Int32) (x0_at : Int32) (x0_from : Int32) (x0_error : Int32) (x0_errorAt : Int32) (y1_s : Nat → Int32) (y2_text : Nat → Int32)  : Option (Int32 × Int32 × Int32 × Int32 × (Nat → Int32)) :=
  bv (fun (x0_at_1 : Int32) (x0_from_1 : Int32) (x0_error_1 : Int32) (x0_errorAt_1 : Int32) (y1_s_1 : Nat → Int32) => ((
    bd4 (f_X9_name x0_length x0_at_1 x0_from_1 x0_error_1 x0_errorAt_1 y2_text) fun (x0_at_3 : Int32) (x0_from_3 : Int32) (x0_error_3 : Int32) (x0_errorAt_3 : Int32) =>
    ar 4 552 <|
    bv (fun (t21 : Int32) => ((
      bd2 (f_X9_failsIf x0_from_3 x0_error_3 x0_errorAt_3 t21 3) fun (x0_error_4 : Int32) (x0_errorAt_4 : Int32) =>
      bd1 (f_X9_isFine x0_error_4) fun (r26 : Int32) =>
      bv (fun (t40 : Int32) => ((
        bv (fun (t52 : Int32) => ((
          bd2 (f_X9_failsIf x0_from_3 x0_error_4 x0_errorAt_4 t52 4) fun (x0_error_5 : Int32) (x0_errorAt_5 : Int32) =>
          bd1 (f_X9_isFine x0_error_5) fun (r57 : Int32) =>
          bv (fun (y1_s_3 : Nat → Int32) => ((
            bd1 (f_X9_isFine x0_error_5) fun (r90 : Int32) =>
            (if r90 = 0 then (
              some (.inr (x0_at_3, x0_from_3, x0_error_5, x0_errorAt_5, y1_s_3))
            ) else (
              bd3 (f_X9_looks x0_length x0_at_3 x0_from_3 x0_error_5 y2_text) fun (r97 : Int32) (x0_at_4 : Int32) (x0_from_4 : Int32) =>
              bd1 (f_X9_isLetter r97) fun (r100 : Int32) =>
              (if r100 = 0 then (
                some (.inr (x0_at_4, x0_from_4, x0_error_5, x0_errorAt_5, y1_s_3))
              ) else (
                some (.inl (x0_at_4, x0_from_4, x0_error_5, x0_errorAt_5, y1_s_3))
              ))
            ))
            ) : Option ((Int32 × Int32 × Int32 × Int32 × (Nat → Int32)) ⊕ (Int32 × Int32 × Int32 × Int32 × (Nat → Int32))))) fun j89 =>
          (if r57 = 0 then (
            j89 y1_s_1
          ) else (
            ar 4 552 <|
            ar (536 + (y1_s_1 (4 : Int32).toNatClampNeg)) 552 <| bv (upd y1_s_1 (536 + (y1_s_1 (4 : Int32).toNatClampNeg)).toNatClampNeg t40) fun y1_s_4 =>
            ar 4 552 <|
            ar 4 552 <| bv (upd y1_s_4 (4 : Int32).toNatClampNeg ((y1_s_4 (4 : Int32).toNatClampNeg) + 1)) fun y1_s_5 =>
            j89 y1_s_5
          ))
          ) : Option ((Int32 × Int32 × Int32 × Int32 × (Nat → Int32)) ⊕ (Int32 × Int32 × Int32 × Int32 × (Nat → Int32))))) fun j52 =>
        (if t40 = (-1) then (
          j52 1
        ) else (
          j52 0
        ))
        ) : Option ((Int32 × Int32 × Int32 × Int32 × (Nat → Int32)) ⊕ (Int32 × Int32 × Int32 × Int32 × (Nat → Int32))))) fun j40 =>
      (if r26 = 0 then (
        j40 (-1)
      ) else (
        bd1 (f_X9_named x0_at_3 x0_from_3 y1_s_1 y2_text) fun (r33 : Int32) =>
        j40 r33
      ))
      ) : Option ((Int32 × Int32 × Int32 × Int32 × (Nat → Int32)) ⊕ (Int32 × Int32 × Int32 × Int32 × (Nat → Int32))))) fun j21 =>
    (if (y1_s_1 (4 : Int32).toNatClampNeg) = 16 then (
      j21 1
    ) else (
      j21 0
    ))
    ) : Option ((Int32 × Int32 × Int32 × Int32 × (Nat → Int32)) ⊕ (Int32 × Int32 × Int32 × Int32 × (Nat → Int32))))) fun l0 =>
  bd5 (lq5 l0 x0_at x0_from x0_error x0_errorAt y1_s) fun (x0_at_2 : Int32) (x0_from_2 : Int32) (x0_error_2 : Int32) (x0_errorAt_2 : Int32) (y1_s_2 : Nat → Int32) =>
  some (x0_at_2, x0_from_2, x0_error_2, x0_errorAt_2, y1_s_2)
set_option maxRecDepth 4000 in
theorem c_X9_readsVoyage (l : Launch) (g : GE) (a0 a1 a2 : Nat) (sz : Nat) (u0_1 u0_2 u0_3 u0_4 u0_5 u0_6 u0_7 u0_8 u0_9 u0_10 u0_11 u0_12 u0_13 u0_14 u0_15 u0_16 u0_17 u0_18 u0_25 u0_26 u0_27 u0_28 u0_29 u0_30 : Value) (x0_length : Int32) (x0_at : Int32) (x0_from : Int32) (x0_error : Int32) (x0_errorAt : Int32) (y1_s : Nat → Int32) (y2_text : Nat → Int32)  (o_x0_at : Int32) (o_x0_from : Int32) (o_x0_error : Int32) (o_x0_errorAt : Int32) (o_y1_s : Nat → Int32) (hf : f_X9_readsVoyage x0_length x0_at x0_from x0_error x0_errorAt y1_s y2_text = some (o_x0_at, o_x0_from, o_x0_error, o_x0_errorAt, o_y1_s)) : MI l g yX9_readsVoyage wsX9_readsVoyage 5 109 [.ref a0] (w_X9_readsVoyage g a0 a1 a2 u0_1 u0_2 u0_3 u0_4 u0_5 u0_6 u0_7 u0_8 u0_9 u0_10 u0_11 u0_12 u0_13 u0_14 u0_15 u0_16 u0_17 u0_18 u0_25 u0_26 u0_27 u0_28 u0_29 u0_30 x0_length x0_at x0_from x0_error x0_errorAt y1_s y2_text) sz none (w_X9_readsVoyage g a0 a1 a2 u0_1 u0_2 u0_3 u0_4 u0_5 u0_6 u0_7 u0_8 u0_9 u0_10 u0_11 u0_12 u0_13 u0_14 u0_15 u0_16 u0_17 u0_18 u0_25 u0_26 u0_27 u0_28 u0_29 u0_30 x0_length o_x0_at o_x0_from o_x0_error o_x0_errorAt o_y1_s y2_text) := by
  refine MI.start (cc := cX9_readsVoyage) (maxL := 2) (ret := none) rfl rfl (nle rfl) ?_
  intro p e s m args below meth c A ls Q hQ hexec hb hr hts hown hlocks hml hA hP hD hG hS hl
  unfold f_X9_readsVoyage at hf
  have hWX9 : ∀ w ∈ wsX90, w.before args s = true := fun w h => hts w (List.mem_cons_of_mem _ (List.mem_append_right _ h))
  have hS : va_S A s.heap s.heap [] := hS
  obtain ⟨l0, el0, hf⟩ := bvf5 hf
  obtain ⟨x0_at_2, x0_from_2, x0_error_2, x0_errorAt_2, y1_s_2, hz, hf⟩ := bd5_e hf
  have hE0 : ∀ (H : Heap) (locs : List Loc) (ls : Array Slot), va_P g.1 vwCl (w_X9_readsVoyage g a0 a1 a2 u0_1 u0_2 u0_3 u0_4 u0_5 u0_6 u0_7 u0_8 u0_9 u0_10 u0_11 u0_12 u0_13 u0_14 u0_15 u0_16 u0_17 u0_18 u0_25 u0_26 u0_27 u0_28 u0_29 u0_30 x0_length x0_at_2 x0_from_2 x0_error_2 x0_errorAt_2 y1_s_2 y2_text) H → va_D A (w_X9_readsVoyage g a0 a1 a2 u0_1 u0_2 u0_3 u0_4 u0_5 u0_6 u0_7 u0_8 u0_9 u0_10 u0_11 u0_12 u0_13 u0_14 u0_15 u0_16 u0_17 u0_18 u0_25 u0_26 u0_27 u0_28 u0_29 u0_30 x0_length x0_at_2 x0_from_2 x0_error_2 x0_errorAt_2 y1_s_2 y2_text) → va_S A s.heap H locs → lv_has ls 2 [] → W p l e (RM 5 109) s m args below meth c H locs 0 0 Q (F0 m 106 ls []) := by
    intro H locs ls hP hD hS hl
    cases hf
    exact ke_v hQ hexec hb hr hP hD hS dX9_readsVoyage_106 hlocks
  obtain ⟨n, hz⟩ := lq5_e hz
  have hL0 : ∀ (n : Nat) (x0_at_1 : Int32) (x0_from_1 : Int32) (x0_error_1 : Int32) (x0_errorAt_1 : Int32) (y1_s_1 : Nat → Int32) (H : Heap) (locs : List Loc) (ls : Array Slot), it5 l0 n x0_at_1 x0_from_1 x0_error_1 x0_errorAt_1 y1_s_1 = some (x0_at_2, x0_from_2, x0_error_2, x0_errorAt_2, y1_s_2) → va_P g.1 vwCl (w_X9_readsVoyage g a0 a1 a2 u0_1 u0_2 u0_3 u0_4 u0_5 u0_6 u0_7 u0_8 u0_9 u0_10 u0_11 u0_12 u0_13 u0_14 u0_15 u0_16 u0_17 u0_18 u0_25 u0_26 u0_27 u0_28 u0_29 u0_30 x0_length x0_at_1 x0_from_1 x0_error_1 x0_errorAt_1 y1_s_1 y2_text) H → va_D A (w_X9_readsVoyage g a0 a1 a2 u0_1 u0_2 u0_3 u0_4 u0_5 u0_6 u0_7 u0_8 u0_9 u0_10 u0_11 u0_12 u0_13 u0_14 u0_15 u0_16 u0_17 u0_18 u0_25 u0_26 u0_27 u0_28 u0_29 u0_30 x0_length x0_at_1 x0_from_1 x0_error_1 x0_errorAt_1 y1_s_1 y2_text) → va_S A s.heap H locs → lv_has ls 2 [(0, .ref a0)] → W p l e (RM 5 109) s m args below meth c H locs 0 0 Q (F0 m 0 ls []) := by
    intro n
    induction n with
    | zero =>
      intro x0_at_1 x0_from_1 x0_error_1 x0_errorAt_1 y1_s_1 H locs ls hf hP hD hS hl
      exact it5_0 hf
    | succ n0 ih0 =>
      intro x0_at_1 x0_from_1 x0_error_1 x0_errorAt_1 y1_s_1 H locs ls hf hP hD hS hl
      obtain ⟨q0, hf, hk0⟩ := it5_e hf
      have hf := (el0 x0_at_1 x0_from_1 x0_error_1 x0_errorAt_1 y1_s_1).symm.trans hf
      refine lv_aload_n (pc := 0) hexec hb dX9_readsVoyage_0 rfl (lv_at hl 0 rfl) ?_
      obtain ⟨x0_at_3, x0_from_3, x0_error_3, x0_errorAt_3, hc, hf⟩ := bd4_e hf
      refine kVp (pc := 1) (S := ⟨hexec, hb, hml, hown, hts⟩) hP hD hG hA hS [0, 2] [1] [1, 0, 2] (w2 := (w_X9_readsVoyage g a0 a1 a2 u0_1 u0_2 u0_3 u0_4 u0_5 u0_6 u0_7 u0_8 u0_9 u0_10 u0_11 u0_12 u0_13 u0_14 u0_15 u0_16 u0_17 u0_18 u0_25 u0_26 u0_27 u0_28 u0_29 u0_30 x0_length x0_at_3 x0_from_3 x0_error_3 x0_errorAt_3 y1_s_1 y2_text)) rfl rfl rfl rfl rfl rfl (by decide) (c_X9_name l g a0 a2 _ (.ref a1) u0_1 u0_2 u0_3 u0_4 u0_5 u0_6 u0_7 u0_8 u0_9 u0_10 u0_11 u0_12 u0_13 u0_14 u0_15 u0_16 u0_17 u0_18 u0_25 u0_26 u0_27 u0_28 u0_29 u0_30 x0_length x0_at_1 x0_from_1 x0_error_1 x0_errorAt_1 y2_text x0_at_3 x0_from_3 x0_error_3 x0_errorAt_3 hc) gX9_readsVoyage_X9_name rfl hv_X9_name ⟨nle rfl, nle rfl⟩ 9 0 rfl rfl rfl (rest := []) rfl rfl hl.1 (nle rfl) dX9_readsVoyage_1 (fun H locs hP hD hS => ?_)
      refine lv_aload_n (pc := 4) hexec hb dX9_readsVoyage_4 rfl (lv_at hl 0 rfl) ?_
      refine lv_aload_n (pc := 5) hexec hb dX9_readsVoyage_5 rfl (lv_at hl 0 rfl) ?_
      refine kg_get (pc := 6) hexec hb (own := RX9) hWX9 hown hG hP 0 rfl rfl 0 (nle rfl) (hts _ (List.mem_cons_of_mem _ (List.mem_append_left _ (List.mem_append_left _ (List.mem_of_getElem? (i := 0) rfl))))) rfl rfl dX9_readsVoyage_6 ?_
      refine lv_iconst (pc := 9) hexec hb dX9_readsVoyage_9 ki_4 ?_
      refine kr_iald (pc := 10) hexec hb hG hP 1 rfl hf dX9_readsVoyage_10 (fun hf => ?_)
      refine lv_bipush (pc := 11) hexec hb dX9_readsVoyage_11 kb_16 ?_
      obtain ⟨j21, ej21, hf⟩ := bvf1 hf
      have hj21 : ∀ (t21 : Int32) (H : Heap) (locs : List Loc) (ls : Array Slot), j21 t21 = some q0 → va_P g.1 vwCl (w_X9_readsVoyage g a0 a1 a2 u0_1 u0_2 u0_3 u0_4 u0_5 u0_6 u0_7 u0_8 u0_9 u0_10 u0_11 u0_12 u0_13 u0_14 u0_15 u0_16 u0_17 u0_18 u0_25 u0_26 u0_27 u0_28 u0_29 u0_30 x0_length x0_at_3 x0_from_3 x0_error_3 x0_errorAt_3 y1_s_1 y2_text) H → va_D A (w_X9_readsVoyage g a0 a1 a2 u0_1 u0_2 u0_3 u0_4 u0_5 u0_6 u0_7 u0_8 u0_9 u0_10 u0_11 u0_12 u0_13 u0_14 u0_15 u0_16 u0_17 u0_18 u0_25 u0_26 u0_27 u0_28 u0_29 u0_30 x0_length x0_at_3 x0_from_3 x0_error_3 x0_errorAt_3 y1_s_1 y2_text) → va_S A s.heap H locs → lv_has ls 2 [(0, .ref a0)] → W p l e (RM 5 109) s m args below meth c H locs 0 0 Q (F0 m 21 ls [.int t21, .ref a0]) := by
        intro t21 H locs ls hf hP hD hS hl
        have hf := (ej21 t21).symm.trans hf
        refine lv_iconst (pc := 21) hexec hb dX9_readsVoyage_21 ki_3 ?_
        obtain ⟨x0_error_4, x0_errorAt_4, hc, hf⟩ := bd2_e hf
        refine kVp (pc := 22) (S := ⟨hexec, hb, hml, hown, hts⟩) hP hD hG hA hS [0] [1, 2] [2, 0, 1] (w2 := (w_X9_readsVoyage g a0 a1 a2 u0_1 u0_2 u0_3 u0_4 u0_5 u0_6 u0_7 u0_8 u0_9 u0_10 u0_11 u0_12 u0_13 u0_14 u0_15 u0_16 u0_17 u0_18 u0_25 u0_26 u0_27 u0_28 u0_29 u0_30 x0_length x0_at_3 x0_from_3 x0_error_4 x0_errorAt_4 y1_s_1 y2_text)) rfl rfl rfl rfl rfl rfl (by decide) (c_X9_failsIf l g a0 _ (.ref a1) u0_1 u0_2 u0_3 u0_4 u0_5 u0_6 u0_7 u0_8 u0_9 u0_10 u0_11 u0_12 u0_13 u0_14 u0_15 u0_16 u0_17 u0_18 (.ref a2) (.int x0_length) (.int x0_at_3) u0_25 u0_26 u0_27 u0_28 u0_29 u0_30 x0_from_3 x0_error_3 x0_errorAt_3 t21 3 x0_error_4 x0_errorAt_4 hc) gX9_readsVoyage_X9_failsIf rfl hv_X9_failsIf ⟨nle rfl, nle rfl⟩ 9 0 rfl rfl rfl (rest := []) rfl rfl hl.1 (nle rfl) dX9_readsVoyage_22 (fun H locs hP hD hS => ?_)
        refine lv_aload_n (pc := 25) hexec hb dX9_readsVoyage_25 rfl (lv_at hl 0 rfl) ?_
        obtain ⟨r26, hc, hf⟩ := bd1_e hf
        refine kVp (pc := 26) (S := ⟨hexec, hb, hml, hown, hts⟩) hP hD hG hA hS [0] [1, 2] [2, 0, 1] (w2 := (w_X9_readsVoyage g a0 a1 a2 u0_1 u0_2 u0_3 u0_4 u0_5 u0_6 u0_7 u0_8 u0_9 u0_10 u0_11 u0_12 u0_13 u0_14 u0_15 u0_16 u0_17 u0_18 u0_25 u0_26 u0_27 u0_28 u0_29 u0_30 x0_length x0_at_3 x0_from_3 x0_error_4 x0_errorAt_4 y1_s_1 y2_text)) rfl rfl rfl rfl rfl rfl (by decide) (c_X9_isFine l g a0 _ (.ref a1) u0_1 u0_2 u0_3 u0_4 u0_5 u0_6 u0_7 u0_8 u0_9 u0_10 u0_11 u0_12 u0_13 u0_14 u0_15 u0_16 u0_17 u0_18 (.ref a2) (.int x0_length) (.int x0_at_3) (.int x0_from_3) (.int x0_errorAt_4) u0_25 u0_26 u0_27 u0_28 u0_29 u0_30 x0_error_4 r26 hc) gX9_readsVoyage_X9_isFine rfl hv_X9_isFine ⟨nle rfl, nle rfl⟩ 9 0 rfl rfl rfl (rest := []) rfl rfl hl.1 (nle rfl) dX9_readsVoyage_26 (fun H locs hP hD hS => ?_)
        obtain ⟨j40, ej40, hf⟩ := bvf1 hf
        have hj40 : ∀ (t40 : Int32) (H : Heap) (locs : List Loc) (ls : Array Slot), j40 t40 = some q0 → va_P g.1 vwCl (w_X9_readsVoyage g a0 a1 a2 u0_1 u0_2 u0_3 u0_4 u0_5 u0_6 u0_7 u0_8 u0_9 u0_10 u0_11 u0_12 u0_13 u0_14 u0_15 u0_16 u0_17 u0_18 u0_25 u0_26 u0_27 u0_28 u0_29 u0_30 x0_length x0_at_3 x0_from_3 x0_error_4 x0_errorAt_4 y1_s_1 y2_text) H → va_D A (w_X9_readsVoyage g a0 a1 a2 u0_1 u0_2 u0_3 u0_4 u0_5 u0_6 u0_7 u0_8 u0_9 u0_10 u0_11 u0_12 u0_13 u0_14 u0_15 u0_16 u0_17 u0_18 u0_25 u0_26 u0_27 u0_28 u0_29 u0_30 x0_length x0_at_3 x0_from_3 x0_error_4 x0_errorAt_4 y1_s_1 y2_text) → va_S A s.heap H locs → lv_has ls 2 [(0, .ref a0)] → W p l e (RM 5 109) s m args below meth c H locs 0 0 Q (F0 m 40 ls [.int t40]) := by
          intro t40 H locs ls hf hP hD hS hl
          have hf := (ej40 t40).symm.trans hf
          refine lv_istore_n (pc := 40) hexec hb dX9_readsVoyage_40 rfl hl (nle rfl) rfl (fun ls (hl : lv_has ls 2 [(1, .int t40), (0, .ref a0)]) => ?_)
          refine lv_aload_n (pc := 41) hexec hb dX9_readsVoyage_41 rfl (lv_at hl 1 rfl) ?_
          refine lv_iload_n (pc := 42) hexec hb dX9_readsVoyage_42 rfl (lv_at hl 0 rfl) ?_
          refine lv_iconst (pc := 43) hexec hb dX9_readsVoyage_43 ki_m1 ?_
          obtain ⟨j52, ej52, hf⟩ := bvf1 hf
          have hj52 : ∀ (t52 : Int32) (H : Heap) (locs : List Loc) (ls : Array Slot), j52 t52 = some q0 → va_P g.1 vwCl (w_X9_readsVoyage g a0 a1 a2 u0_1 u0_2 u0_3 u0_4 u0_5 u0_6 u0_7 u0_8 u0_9 u0_10 u0_11 u0_12 u0_13 u0_14 u0_15 u0_16 u0_17 u0_18 u0_25 u0_26 u0_27 u0_28 u0_29 u0_30 x0_length x0_at_3 x0_from_3 x0_error_4 x0_errorAt_4 y1_s_1 y2_text) H → va_D A (w_X9_readsVoyage g a0 a1 a2 u0_1 u0_2 u0_3 u0_4 u0_5 u0_6 u0_7 u0_8 u0_9 u0_10 u0_11 u0_12 u0_13 u0_14 u0_15 u0_16 u0_17 u0_18 u0_25 u0_26 u0_27 u0_28 u0_29 u0_30 x0_length x0_at_3 x0_from_3 x0_error_4 x0_errorAt_4 y1_s_1 y2_text) → va_S A s.heap H locs → lv_has ls 2 [(0, .ref a0), (1, .int t40)] → W p l e (RM 5 109) s m args below meth c H locs 0 0 Q (F0 m 52 ls [.int t52, .ref a0]) := by
            intro t52 H locs ls hf hP hD hS hl
            have hf := (ej52 t52).symm.trans hf
            refine lv_iconst (pc := 52) hexec hb dX9_readsVoyage_52 ki_4 ?_
            obtain ⟨x0_error_5, x0_errorAt_5, hc, hf⟩ := bd2_e hf
            refine kVp (pc := 53) (S := ⟨hexec, hb, hml, hown, hts⟩) hP hD hG hA hS [0] [1, 2] [2, 0, 1] (w2 := (w_X9_readsVoyage g a0 a1 a2 u0_1 u0_2 u0_3 u0_4 u0_5 u0_6 u0_7 u0_8 u0_9 u0_10 u0_11 u0_12 u0_13 u0_14 u0_15 u0_16 u0_17 u0_18 u0_25 u0_26 u0_27 u0_28 u0_29 u0_30 x0_length x0_at_3 x0_from_3 x0_error_5 x0_errorAt_5 y1_s_1 y2_text)) rfl rfl rfl rfl rfl rfl (by decide) (c_X9_failsIf l g a0 _ (.ref a1) u0_1 u0_2 u0_3 u0_4 u0_5 u0_6 u0_7 u0_8 u0_9 u0_10 u0_11 u0_12 u0_13 u0_14 u0_15 u0_16 u0_17 u0_18 (.ref a2) (.int x0_length) (.int x0_at_3) u0_25 u0_26 u0_27 u0_28 u0_29 u0_30 x0_from_3 x0_error_4 x0_errorAt_4 t52 4 x0_error_5 x0_errorAt_5 hc) gX9_readsVoyage_X9_failsIf rfl hv_X9_failsIf ⟨nle rfl, nle rfl⟩ 9 0 rfl rfl rfl (rest := []) rfl rfl hl.1 (nle rfl) dX9_readsVoyage_53 (fun H locs hP hD hS => ?_)
            refine lv_aload_n (pc := 56) hexec hb dX9_readsVoyage_56 rfl (lv_at hl 0 rfl) ?_
            obtain ⟨r57, hc, hf⟩ := bd1_e hf
            refine kVp (pc := 57) (S := ⟨hexec, hb, hml, hown, hts⟩) hP hD hG hA hS [0] [1, 2] [2, 0, 1] (w2 := (w_X9_readsVoyage g a0 a1 a2 u0_1 u0_2 u0_3 u0_4 u0_5 u0_6 u0_7 u0_8 u0_9 u0_10 u0_11 u0_12 u0_13 u0_14 u0_15 u0_16 u0_17 u0_18 u0_25 u0_26 u0_27 u0_28 u0_29 u0_30 x0_length x0_at_3 x0_from_3 x0_error_5 x0_errorAt_5 y1_s_1 y2_text)) rfl rfl rfl rfl rfl rfl (by decide) (c_X9_isFine l g a0 _ (.ref a1) u0_1 u0_2 u0_3 u0_4 u0_5 u0_6 u0_7 u0_8 u0_9 u0_10 u0_11 u0_12 u0_13 u0_14 u0_15 u0_16 u0_17 u0_18 (.ref a2) (.int x0_length) (.int x0_at_3) (.int x0_from_3) (.int x0_errorAt_5) u0_25 u0_26 u0_27 u0_28 u0_29 u0_30 x0_error_5 r57 hc) gX9_readsVoyage_X9_isFine rfl hv_X9_isFine ⟨nle rfl, nle rfl⟩ 9 0 rfl rfl rfl (rest := []) rfl rfl hl.1 (nle rfl) dX9_readsVoyage_57 (fun H locs hP hD hS => ?_)
            obtain ⟨j89, ej89, hf⟩ := bvf1 hf
            have hj89 : ∀ (y1_s_3 : Nat → Int32) (H : Heap) (locs : List Loc) (ls : Array Slot), j89 y1_s_3 = some q0 → va_P g.1 vwCl (w_X9_readsVoyage g a0 a1 a2 u0_1 u0_2 u0_3 u0_4 u0_5 u0_6 u0_7 u0_8 u0_9 u0_10 u0_11 u0_12 u0_13 u0_14 u0_15 u0_16 u0_17 u0_18 u0_25 u0_26 u0_27 u0_28 u0_29 u0_30 x0_length x0_at_3 x0_from_3 x0_error_5 x0_errorAt_5 y1_s_3 y2_text) H → va_D A (w_X9_readsVoyage g a0 a1 a2 u0_1 u0_2 u0_3 u0_4 u0_5 u0_6 u0_7 u0_8 u0_9 u0_10 u0_11 u0_12 u0_13 u0_14 u0_15 u0_16 u0_17 u0_18 u0_25 u0_26 u0_27 u0_28 u0_29 u0_30 x0_length x0_at_3 x0_from_3 x0_error_5 x0_errorAt_5 y1_s_3 y2_text) → va_S A s.heap H locs → lv_has ls 2 [(0, .ref a0)] → W p l e (RM 5 109) s m args below meth c H locs 0 0 Q (F0 m 89 ls []) := by
              intro y1_s_3 H locs ls hf hP hD hS hl
              have hf := (ej89 y1_s_3).symm.trans hf
              refine lv_aload_n (pc := 89) hexec hb dX9_readsVoyage_89 rfl (lv_at hl 0 rfl) ?_
              obtain ⟨r90, hc, hf⟩ := bd1_e hf
              refine kVp (pc := 90) (S := ⟨hexec, hb, hml, hown, hts⟩) hP hD hG hA hS [0] [1, 2] [2, 0, 1] (w2 := (w_X9_readsVoyage g a0 a1 a2 u0_1 u0_2 u0_3 u0_4 u0_5 u0_6 u0_7 u0_8 u0_9 u0_10 u0_11 u0_12 u0_13 u0_14 u0_15 u0_16 u0_17 u0_18 u0_25 u0_26 u0_27 u0_28 u0_29 u0_30 x0_length x0_at_3 x0_from_3 x0_error_5 x0_errorAt_5 y1_s_3 y2_text)) rfl rfl rfl rfl rfl rfl (by decide) (c_X9_isFine l g a0 _ (.ref a1) u0_1 u0_2 u0_3 u0_4 u0_5 u0_6 u0_7 u0_8 u0_9 u0_10 u0_11 u0_12 u0_13 u0_14 u0_15 u0_16 u0_17 u0_18 (.ref a2) (.int x0_length) (.int x0_at_3) (.int x0_from_3) (.int x0_errorAt_5) u0_25 u0_26 u0_27 u0_28 u0_29 u0_30 x0_error_5 r90 hc) gX9_readsVoyage_X9_isFine rfl hv_X9_isFine ⟨nle rfl, nle rfl⟩ 9 0 rfl rfl rfl (rest := []) rfl rfl hl.1 (nle rfl) dX9_readsVoyage_90 (fun H locs hP hD hS => ?_)
              refine kb_eq (pc := 93) hexec hb dX9_readsVoyage_93 (tgt := 106) rfl hf (fun hc hf => ?_) (fun hc hf => ?_)
              · cases sr5 hf hk0
                exact hE0 _ _ _ hP hD hS (lv_sub hl [] rfl)
              · refine lv_aload_n (pc := 96) hexec hb dX9_readsVoyage_96 rfl (lv_at hl 0 rfl) ?_
                obtain ⟨r97, x0_at_4, x0_from_4, hc, hf⟩ := bd3_e hf
                refine kVp (pc := 97) (S := ⟨hexec, hb, hml, hown, hts⟩) hP hD hG hA hS [0, 2] [1] [1, 0, 2] (w2 := (w_X9_readsVoyage g a0 a1 a2 u0_1 u0_2 u0_3 u0_4 u0_5 u0_6 u0_7 u0_8 u0_9 u0_10 u0_11 u0_12 u0_13 u0_14 u0_15 u0_16 u0_17 u0_18 u0_25 u0_26 u0_27 u0_28 u0_29 u0_30 x0_length x0_at_4 x0_from_4 x0_error_5 x0_errorAt_5 y1_s_3 y2_text)) rfl rfl rfl rfl rfl rfl (by decide) (c_X9_looks l g a0 a2 _ (.ref a1) u0_1 u0_2 u0_3 u0_4 u0_5 u0_6 u0_7 u0_8 u0_9 u0_10 u0_11 u0_12 u0_13 u0_14 u0_15 u0_16 u0_17 u0_18 (.int x0_errorAt_5) u0_25 u0_26 u0_27 u0_28 u0_29 u0_30 x0_length x0_at_3 x0_from_3 x0_error_5 y2_text r97 x0_at_4 x0_from_4 hc) gX9_readsVoyage_X9_looks rfl hv_X9_looks ⟨nle rfl, nle rfl⟩ 9 0 rfl rfl rfl (rest := []) rfl rfl hl.1 (nle rfl) dX9_readsVoyage_97 (fun H locs hP hD hS => ?_)
                obtain ⟨r100, hc, hf⟩ := bd1_e hf
                refine kSp (pc := 100) (S := ⟨hexec, hb, hml, hown, hts⟩) hP hD hG hA hS [] [0, 1, 2] [0, 1, 2] (w2 := (w_X9_readsVoyage g a0 a1 a2 u0_1 u0_2 u0_3 u0_4 u0_5 u0_6 u0_7 u0_8 u0_9 u0_10 u0_11 u0_12 u0_13 u0_14 u0_15 u0_16 u0_17 u0_18 u0_25 u0_26 u0_27 u0_28 u0_29 u0_30 x0_length x0_at_4 x0_from_4 x0_error_5 x0_errorAt_5 y1_s_3 y2_text)) rfl rfl rfl rfl rfl rfl (by decide) (c_X9_isLetter l g _ r97 r100 hc) gX9_readsVoyage_X9_isLetter rfl hs_X9_isLetter ⟨nle rfl, nle rfl⟩ (rest := []) rfl rfl hl.1 (nle rfl) dX9_readsVoyage_100 (fun H locs hP hD hS => ?_)
                refine kb_ne (pc := 103) hexec hb dX9_readsVoyage_103 (tgt := 0) rfl hf (fun hc hf => ?_) (fun hc hf => ?_)
                · exact ih0 _ _ _ _ _ _ _ _ (sl5 hf hk0) hP hD hS (lv_sub hl [0] rfl)
                · cases sr5 hf hk0
                  exact hE0 _ _ _ hP hD hS (lv_sub hl [] rfl)
            refine kb_eq (pc := 60) hexec hb dX9_readsVoyage_60 (tgt := 89) rfl hf (fun hc hf => ?_) (fun hc hf => ?_)
            · exact hj89 _ _ _ _ hf hP hD hS (lv_sub hl [0] rfl)
            · refine lv_aload_n (pc := 63) hexec hb dX9_readsVoyage_63 rfl (lv_at hl 0 rfl) ?_
              refine kg_get (pc := 64) hexec hb (own := RX9) hWX9 hown hG hP 0 rfl rfl 0 (nle rfl) (hts _ (List.mem_cons_of_mem _ (List.mem_append_left _ (List.mem_append_left _ (List.mem_of_getElem? (i := 0) rfl))))) rfl rfl dX9_readsVoyage_64 ?_
              refine lv_sipush (pc := 67) hexec hb dX9_readsVoyage_67 ks_536 ?_
              refine lv_aload_n (pc := 70) hexec hb dX9_readsVoyage_70 rfl (lv_at hl 0 rfl) ?_
              refine kg_get (pc := 71) hexec hb (own := RX9) hWX9 hown hG hP 0 rfl rfl 0 (nle rfl) (hts _ (List.mem_cons_of_mem _ (List.mem_append_left _ (List.mem_append_left _ (List.mem_of_getElem? (i := 0) rfl))))) rfl rfl dX9_readsVoyage_71 ?_
              refine lv_iconst (pc := 74) hexec hb dX9_readsVoyage_74 ki_4 ?_
              refine kr_iald (pc := 75) hexec hb hG hP 1 rfl hf dX9_readsVoyage_75 (fun hf => ?_)
              refine lv_iadd (pc := 76) hexec hb dX9_readsVoyage_76 ?_
              refine lv_iload_n (pc := 77) hexec hb dX9_readsVoyage_77 rfl (lv_at hl 1 rfl) ?_
              refine kw_iast (pc := 78) hexec hb hG hP hD hS 1 rfl hf dX9_readsVoyage_78 (fun y1_s_4 H locs hf (hP : va_P g.1 vwCl (w_X9_readsVoyage g a0 a1 a2 u0_1 u0_2 u0_3 u0_4 u0_5 u0_6 u0_7 u0_8 u0_9 u0_10 u0_11 u0_12 u0_13 u0_14 u0_15 u0_16 u0_17 u0_18 u0_25 u0_26 u0_27 u0_28 u0_29 u0_30 x0_length x0_at_3 x0_from_3 x0_error_5 x0_errorAt_5 y1_s_4 y2_text) H) (hD : va_D A (w_X9_readsVoyage g a0 a1 a2 u0_1 u0_2 u0_3 u0_4 u0_5 u0_6 u0_7 u0_8 u0_9 u0_10 u0_11 u0_12 u0_13 u0_14 u0_15 u0_16 u0_17 u0_18 u0_25 u0_26 u0_27 u0_28 u0_29 u0_30 x0_length x0_at_3 x0_from_3 x0_error_5 x0_errorAt_5 y1_s_4 y2_text)) hS => ?_)
              refine lv_aload_n (pc := 79) hexec hb dX9_readsVoyage_79 rfl (lv_at hl 0 rfl) ?_
              refine kg_get (pc := 80) hexec hb (own := RX9) hWX9 hown hG hP 0 rfl rfl 0 (nle rfl) (hts _ (List.mem_cons_of_mem _ (List.mem_append_left _ (List.mem_append_left _ (List.mem_of_getElem? (i := 0) rfl))))) rfl rfl dX9_readsVoyage_80 ?_
              refine lv_iconst (pc := 83) hexec hb dX9_readsVoyage_83 ki_4 ?_
              refine lv_dup2_11 (pc := 84) hexec hb dX9_readsVoyage_84 rfl rfl ?_
              refine kr_iald (pc := 85) hexec hb hG hP 1 rfl hf dX9_readsVoyage_85 (fun hf => ?_)
              refine lv_iconst (pc := 86) hexec hb dX9_readsVoyage_86 ki_1 ?_
              refine lv_iadd (pc := 87) hexec hb dX9_readsVoyage_87 ?_
              refine kw_iast (pc := 88) hexec hb hG hP hD hS 1 rfl hf dX9_readsVoyage_88 (fun y1_s_5 H locs hf (hP : va_P g.1 vwCl (w_X9_readsVoyage g a0 a1 a2 u0_1 u0_2 u0_3 u0_4 u0_5 u0_6 u0_7 u0_8 u0_9 u0_10 u0_11 u0_12 u0_13 u0_14 u0_15 u0_16 u0_17 u0_18 u0_25 u0_26 u0_27 u0_28 u0_29 u0_30 x0_length x0_at_3 x0_from_3 x0_error_5 x0_errorAt_5 y1_s_5 y2_text) H) (hD : va_D A (w_X9_readsVoyage g a0 a1 a2 u0_1 u0_2 u0_3 u0_4 u0_5 u0_6 u0_7 u0_8 u0_9 u0_10 u0_11 u0_12 u0_13 u0_14 u0_15 u0_16 u0_17 u0_18 u0_25 u0_26 u0_27 u0_28 u0_29 u0_30 x0_length x0_at_3 x0_from_3 x0_error_5 x0_errorAt_5 y1_s_5 y2_text)) hS => ?_)
              exact hj89 _ _ _ _ hf hP hD hS (lv_sub hl [0] rfl)
          refine ki_ne (pc := 44) hexec hb dX9_readsVoyage_44 (tgt := 51) rfl hf (fun hc hf => ?_) (fun hc hf => ?_)
          · refine lv_iconst (pc := 51) hexec hb dX9_readsVoyage_51 ki_0 ?_
            exact hj52 _ _ _ _ hf hP hD hS (lv_sub hl [1, 0] rfl)
          · refine lv_iconst (pc := 47) hexec hb dX9_readsVoyage_47 ki_1 ?_
            refine lv_goto (pc := 48) hexec hb dX9_readsVoyage_48 (tgt := 52) rfl ?_
            exact hj52 _ _ _ _ hf hP hD hS (lv_sub hl [1, 0] rfl)
        refine kb_eq (pc := 29) hexec hb dX9_readsVoyage_29 (tgt := 39) rfl hf (fun hc hf => ?_) (fun hc hf => ?_)
        · refine lv_iconst (pc := 39) hexec hb dX9_readsVoyage_39 ki_m1 ?_
          exact hj40 _ _ _ _ hf hP hD hS (lv_sub hl [0] rfl)
        · refine lv_aload_n (pc := 32) hexec hb dX9_readsVoyage_32 rfl (lv_at hl 0 rfl) ?_
          obtain ⟨r33, hc, hf⟩ := bd1_e hf
          refine kVp (pc := 33) (S := ⟨hexec, hb, hml, hown, hts⟩) hP hD hG hA hS [0, 1, 2] [] [0, 1, 2] (w2 := (w_X9_readsVoyage g a0 a1 a2 u0_1 u0_2 u0_3 u0_4 u0_5 u0_6 u0_7 u0_8 u0_9 u0_10 u0_11 u0_12 u0_13 u0_14 u0_15 u0_16 u0_17 u0_18 u0_25 u0_26 u0_27 u0_28 u0_29 u0_30 x0_length x0_at_3 x0_from_3 x0_error_4 x0_errorAt_4 y1_s_1 y2_text)) rfl rfl rfl rfl rfl rfl (by decide) (c_X9_named l g a0 a1 a2 _ u0_1 u0_2 u0_3 u0_4 u0_5 u0_6 u0_7 u0_8 u0_9 u0_10 u0_11 u0_12 u0_13 u0_14 u0_15 u0_16 u0_17 u0_18 (.int x0_length) (.int x0_error_4) (.int x0_errorAt_4) u0_25 u0_26 u0_27 u0_28 u0_29 u0_30 x0_at_3 x0_from_3 y1_s_1 y2_text r33 hc) gX9_readsVoyage_X9_named rfl hv_X9_named ⟨nle rfl, nle rfl⟩ 9 0 rfl rfl rfl (rest := []) rfl rfl hl.1 (nle rfl) dX9_readsVoyage_33 (fun H locs hP hD hS => ?_)
          refine lv_goto (pc := 36) hexec hb dX9_readsVoyage_36 (tgt := 40) rfl ?_
          exact hj40 _ _ _ _ hf hP hD hS (lv_sub hl [0] rfl)
      refine ki_ne (pc := 13) hexec hb dX9_readsVoyage_13 (tgt := 20) rfl hf (fun hc hf => ?_) (fun hc hf => ?_)
      · refine lv_iconst (pc := 20) hexec hb dX9_readsVoyage_20 ki_0 ?_
        exact hj21 _ _ _ _ hf hP hD hS (lv_sub hl [0] rfl)
      · refine lv_iconst (pc := 16) hexec hb dX9_readsVoyage_16 ki_1 ?_
        refine lv_goto (pc := 17) hexec hb dX9_readsVoyage_17 (tgt := 21) rfl ?_
        exact hj21 _ _ _ _ hf hP hD hS (lv_sub hl [0] rfl)
  exact hL0 n _ _ _ _ _ _ _ _ hz hP hD hS (lv_sub hl [0] rfl)
abbrev w_X9_loadError (g : GE) (a0 : Nat) (u0_0 u0_1 u0_2 u0_3 u0_4 u0_5 u0_6 u0_8 u0_9 u0_10 u0_11 u0_12 u0_13 u0_14 u0_15 u0_16 u0_17 u0_18 u0_19 u0_20 u0_21 u0_22 u0_23 u0_24 u0_26 u0_27 u0_28 u0_29 u0_30 : Value) (x0_thrown : Int32) (x0_errorKind : Int32) : va_W := [(a0, .inr (9, [u0_0, u0_1, u0_2, u0_3, u0_4, u0_5, u0_6, .int x0_thrown, u0_8, u0_9, u0_10, u0_11, u0_12, u0_13, u0_14, u0_15, u0_16, u0_17, u0_18, u0_19, u0_20, u0_21, u0_22, u0_23, u0_24, .int x0_errorKind, u0_26, u0_27, u0_28, u0_29, u0_30]))]
noncomputable def f_X9_loadError (x0_thrown : Int32) (x0_errorKind : Int32)  : Option (Int32 × Int32) :=
  some (x0_errorKind, 0)
set_option maxRecDepth 4000 in
theorem c_X9_loadError (l : Launch) (g : GE) (a0 : Nat) (sz : Nat) (u0_0 u0_1 u0_2 u0_3 u0_4 u0_5 u0_6 u0_8 u0_9 u0_10 u0_11 u0_12 u0_13 u0_14 u0_15 u0_16 u0_17 u0_18 u0_19 u0_20 u0_21 u0_22 u0_23 u0_24 u0_26 u0_27 u0_28 u0_29 u0_30 : Value) (x0_thrown : Int32) (x0_errorKind : Int32)  (r : Int32) (o_x0_thrown : Int32) (hf : f_X9_loadError x0_thrown x0_errorKind = some (r, o_x0_thrown)) : MI l g yX9_loadError wsX9_loadError 1 24 [.ref a0] (w_X9_loadError g a0 u0_0 u0_1 u0_2 u0_3 u0_4 u0_5 u0_6 u0_8 u0_9 u0_10 u0_11 u0_12 u0_13 u0_14 u0_15 u0_16 u0_17 u0_18 u0_19 u0_20 u0_21 u0_22 u0_23 u0_24 u0_26 u0_27 u0_28 u0_29 u0_30 x0_thrown x0_errorKind) sz (some (.int r)) (w_X9_loadError g a0 u0_0 u0_1 u0_2 u0_3 u0_4 u0_5 u0_6 u0_8 u0_9 u0_10 u0_11 u0_12 u0_13 u0_14 u0_15 u0_16 u0_17 u0_18 u0_19 u0_20 u0_21 u0_22 u0_23 u0_24 u0_26 u0_27 u0_28 u0_29 u0_30 o_x0_thrown x0_errorKind) := by
  refine MI.start (cc := cX9_loadError) (maxL := 1) (ret := (some .int)) rfl rfl (nle rfl) ?_
  intro p e s m args below meth c A ls Q hQ hexec hb hr hts hown hlocks hml hA hP hD hG hS hl
  unfold f_X9_loadError at hf
  have hWX9 : ∀ w ∈ wsX90, w.before args s = true := fun w h => hts w (List.mem_cons_of_mem _ (List.mem_append_right _ h))
  have hS : va_S A s.heap s.heap [] := hS
  refine lv_aload_n (pc := 0) hexec hb dX9_loadError_0 rfl (lv_at hl 0 rfl) ?_
  refine lv_iconst (pc := 1) hexec hb dX9_loadError_1 ki_0 ?_
  refine kp_put (pc := 2) hexec hb (own := RX9) hWX9 tyX9 tyX9_ok nmX9 hown hG hP hD hS 0 rfl rfl 7 (nle rfl) (hts _ (List.mem_cons_of_mem _ (List.mem_append_left _ (List.mem_of_getElem? (i := 0) rfl)))) rfl rfl rfl rfl (nle rfl) dX9_loadError_2 (fun H locs (hP : va_P g.1 vwCl (w_X9_loadError g a0 u0_0 u0_1 u0_2 u0_3 u0_4 u0_5 u0_6 u0_8 u0_9 u0_10 u0_11 u0_12 u0_13 u0_14 u0_15 u0_16 u0_17 u0_18 u0_19 u0_20 u0_21 u0_22 u0_23 u0_24 u0_26 u0_27 u0_28 u0_29 u0_30 0 x0_errorKind) H) (hD : va_D A (w_X9_loadError g a0 u0_0 u0_1 u0_2 u0_3 u0_4 u0_5 u0_6 u0_8 u0_9 u0_10 u0_11 u0_12 u0_13 u0_14 u0_15 u0_16 u0_17 u0_18 u0_19 u0_20 u0_21 u0_22 u0_23 u0_24 u0_26 u0_27 u0_28 u0_29 u0_30 0 x0_errorKind)) hS => ?_)
  refine lv_aload_n (pc := 5) hexec hb dX9_loadError_5 rfl (lv_at hl 0 rfl) ?_
  refine kg_get (pc := 6) hexec hb (own := RX9) hWX9 hown hG hP 0 rfl rfl 25 (nle rfl) (hts _ (List.mem_cons_of_mem _ (List.mem_append_left _ (List.mem_of_getElem? (i := 1) rfl)))) rfl rfl dX9_loadError_6 ?_
  cases hf
  exact ke_i hQ hexec hb hr hP hD hS dX9_loadError_9 hlocks
abbrev w_X9_loadStatement (g : GE) (a0 : Nat) (u0_0 u0_1 u0_2 u0_3 u0_4 u0_5 u0_6 u0_8 u0_9 u0_10 u0_11 u0_12 u0_13 u0_14 u0_15 u0_16 u0_17 u0_18 u0_19 u0_20 u0_21 u0_22 u0_23 u0_24 u0_25 u0_27 u0_28 u0_29 u0_30 : Value) (x0_thrown : Int32) (x0_errorStatement : Int32) : va_W := [(a0, .inr (9, [u0_0, u0_1, u0_2, u0_3, u0_4, u0_5, u0_6, .int x0_thrown, u0_8, u0_9, u0_10, u0_11, u0_12, u0_13, u0_14, u0_15, u0_16, u0_17, u0_18, u0_19, u0_20, u0_21, u0_22, u0_23, u0_24, u0_25, .int x0_errorStatement, u0_27, u0_28, u0_29, u0_30]))]
noncomputable def f_X9_loadStatement (x0_thrown : Int32) (x0_errorStatement : Int32)  : Option (Int32 × Int32) :=
  some (x0_errorStatement, 0)
set_option maxRecDepth 4000 in
theorem c_X9_loadStatement (l : Launch) (g : GE) (a0 : Nat) (sz : Nat) (u0_0 u0_1 u0_2 u0_3 u0_4 u0_5 u0_6 u0_8 u0_9 u0_10 u0_11 u0_12 u0_13 u0_14 u0_15 u0_16 u0_17 u0_18 u0_19 u0_20 u0_21 u0_22 u0_23 u0_24 u0_25 u0_27 u0_28 u0_29 u0_30 : Value) (x0_thrown : Int32) (x0_errorStatement : Int32)  (r : Int32) (o_x0_thrown : Int32) (hf : f_X9_loadStatement x0_thrown x0_errorStatement = some (r, o_x0_thrown)) : MI l g yX9_loadStatement wsX9_loadStatement 1 24 [.ref a0] (w_X9_loadStatement g a0 u0_0 u0_1 u0_2 u0_3 u0_4 u0_5 u0_6 u0_8 u0_9 u0_10 u0_11 u0_12 u0_13 u0_14 u0_15 u0_16 u0_17 u0_18 u0_19 u0_20 u0_21 u0_22 u0_23 u0_24 u0_25 u0_27 u0_28 u0_29 u0_30 x0_thrown x0_errorStatement) sz (some (.int r)) (w_X9_loadStatement g a0 u0_0 u0_1 u0_2 u0_3 u0_4 u0_5 u0_6 u0_8 u0_9 u0_10 u0_11 u0_12 u0_13 u0_14 u0_15 u0_16 u0_17 u0_18 u0_19 u0_20 u0_21 u0_22 u0_23 u0_24 u0_25 u0_27 u0_28 u0_29 u0_30 o_x0_thrown x0_errorStatement) := by
  refine MI.start (cc := cX9_loadStatement) (maxL := 1) (ret := (some .int)) rfl rfl (nle rfl) ?_
  intro p e s m args below meth c A ls Q hQ hexec hb hr hts hown hlocks hml hA hP hD hG hS hl
  unfold f_X9_loadStatement at hf
  have hWX9 : ∀ w ∈ wsX90, w.before args s = true := fun w h => hts w (List.mem_cons_of_mem _ (List.mem_append_right _ h))
  have hS : va_S A s.heap s.heap [] := hS
  refine lv_aload_n (pc := 0) hexec hb dX9_loadStatement_0 rfl (lv_at hl 0 rfl) ?_
  refine lv_iconst (pc := 1) hexec hb dX9_loadStatement_1 ki_0 ?_
  refine kp_put (pc := 2) hexec hb (own := RX9) hWX9 tyX9 tyX9_ok nmX9 hown hG hP hD hS 0 rfl rfl 7 (nle rfl) (hts _ (List.mem_cons_of_mem _ (List.mem_append_left _ (List.mem_of_getElem? (i := 0) rfl)))) rfl rfl rfl rfl (nle rfl) dX9_loadStatement_2 (fun H locs (hP : va_P g.1 vwCl (w_X9_loadStatement g a0 u0_0 u0_1 u0_2 u0_3 u0_4 u0_5 u0_6 u0_8 u0_9 u0_10 u0_11 u0_12 u0_13 u0_14 u0_15 u0_16 u0_17 u0_18 u0_19 u0_20 u0_21 u0_22 u0_23 u0_24 u0_25 u0_27 u0_28 u0_29 u0_30 0 x0_errorStatement) H) (hD : va_D A (w_X9_loadStatement g a0 u0_0 u0_1 u0_2 u0_3 u0_4 u0_5 u0_6 u0_8 u0_9 u0_10 u0_11 u0_12 u0_13 u0_14 u0_15 u0_16 u0_17 u0_18 u0_19 u0_20 u0_21 u0_22 u0_23 u0_24 u0_25 u0_27 u0_28 u0_29 u0_30 0 x0_errorStatement)) hS => ?_)
  refine lv_aload_n (pc := 5) hexec hb dX9_loadStatement_5 rfl (lv_at hl 0 rfl) ?_
  refine kg_get (pc := 6) hexec hb (own := RX9) hWX9 hown hG hP 0 rfl rfl 26 (nle rfl) (hts _ (List.mem_cons_of_mem _ (List.mem_append_left _ (List.mem_of_getElem? (i := 1) rfl)))) rfl rfl dX9_loadStatement_6 ?_
  cases hf
  exact ke_i hQ hexec hb hr hP hD hS dX9_loadStatement_9 hlocks
abbrev w_X9_landCells (g : GE) (a0 a1 : Nat) (u0_1 u0_2 u0_3 u0_4 u0_5 u0_6 u0_7 u0_8 u0_9 u0_10 u0_11 u0_12 u0_13 u0_14 u0_15 u0_16 u0_17 u0_18 u0_19 u0_20 u0_21 u0_22 u0_23 u0_24 u0_25 u0_26 u0_27 u0_28 u0_29 u0_30 : Value) (y1_s : Nat → Int32) : va_W := [(a0, .inr (9, [.ref a1, u0_1, u0_2, u0_3, u0_4, u0_5, u0_6, u0_7, u0_8, u0_9, u0_10, u0_11, u0_12, u0_13, u0_14, u0_15, u0_16, u0_17, u0_18, u0_19, u0_20, u0_21, u0_22, u0_23, u0_24, u0_25, u0_26, u0_27, u0_28, u0_29, u0_30])), (a1, .inl (g.2.1 0, 552, .inl y1_s))]
noncomputable def f_X9_landCells (y1_s : Nat → Int32)  : Option (Int32) :=
  bv (fun (v1 : Int32) (v2 : Int32) => ((
    bd1 (f_X9_cells y1_s) fun (r6 : Int32) =>
    (if r6 ≤ v2 then (
      some (.inr v1)
    ) else (
      ar (8 + v2) 552 <|
      bv (v1 + (y1_s (8 + v2).toNatClampNeg)) fun v1_2 =>
      bv (v2 + 1) fun v2_1 =>
      some (.inl (v1_2, v2_1))
    ))
    ) : Option ((Int32 × Int32) ⊕ (Int32)))) fun l4 =>
  bd1 (lq2 l4 0 0) fun (v1_1 : Int32) =>
  some v1_1
set_option maxRecDepth 4000 in
theorem c_X9_landCells (l : Launch) (g : GE) (a0 a1 : Nat) (sz : Nat) (u0_1 u0_2 u0_3 u0_4 u0_5 u0_6 u0_7 u0_8 u0_9 u0_10 u0_11 u0_12 u0_13 u0_14 u0_15 u0_16 u0_17 u0_18 u0_19 u0_20 u0_21 u0_22 u0_23 u0_24 u0_25 u0_26 u0_27 u0_28 u0_29 u0_30 : Value) (y1_s : Nat → Int32)  (r : Int32) (hf : f_X9_landCells y1_s = some r) : MI l g yX9_landCells wsX9_landCells 2 44 [.ref a0] (w_X9_landCells g a0 a1 u0_1 u0_2 u0_3 u0_4 u0_5 u0_6 u0_7 u0_8 u0_9 u0_10 u0_11 u0_12 u0_13 u0_14 u0_15 u0_16 u0_17 u0_18 u0_19 u0_20 u0_21 u0_22 u0_23 u0_24 u0_25 u0_26 u0_27 u0_28 u0_29 u0_30 y1_s) sz (some (.int r)) (w_X9_landCells g a0 a1 u0_1 u0_2 u0_3 u0_4 u0_5 u0_6 u0_7 u0_8 u0_9 u0_10 u0_11 u0_12 u0_13 u0_14 u0_15 u0_16 u0_17 u0_18 u0_19 u0_20 u0_21 u0_22 u0_23 u0_24 u0_25 u0_26 u0_27 u0_28 u0_29 u0_30 y1_s) := by
  refine MI.start (cc := cX9_landCells) (maxL := 3) (ret := (some .int)) rfl rfl (nle rfl) ?_
  intro p e s m args below meth c A ls Q hQ hexec hb hr hts hown hlocks hml hA hP hD hG hS hl
  unfold f_X9_landCells at hf
  have hWX9 : ∀ w ∈ wsX90, w.before args s = true := fun w h => hts w (List.mem_cons_of_mem _ (List.mem_append_right _ h))
  have hS : va_S A s.heap s.heap [] := hS
  refine lv_iconst (pc := 0) hexec hb dX9_landCells_0 ki_0 ?_
  refine lv_istore_n (pc := 1) hexec hb dX9_landCells_1 rfl hl (nle rfl) rfl (fun ls (hl : lv_has ls 3 [(1, .int 0), (0, .ref a0)]) => ?_)
  refine lv_iconst (pc := 2) hexec hb dX9_landCells_2 ki_0 ?_
  refine lv_istore_n (pc := 3) hexec hb dX9_landCells_3 rfl hl (nle rfl) rfl (fun ls (hl : lv_has ls 3 [(2, .int 0), (1, .int 0), (0, .ref a0)]) => ?_)
  obtain ⟨l4, el4, hf⟩ := bvf2 hf
  obtain ⟨v1_1, hz, hf⟩ := bd1_e hf
  have hE4 : ∀ (H : Heap) (locs : List Loc) (ls : Array Slot), va_P g.1 vwCl (w_X9_landCells g a0 a1 u0_1 u0_2 u0_3 u0_4 u0_5 u0_6 u0_7 u0_8 u0_9 u0_10 u0_11 u0_12 u0_13 u0_14 u0_15 u0_16 u0_17 u0_18 u0_19 u0_20 u0_21 u0_22 u0_23 u0_24 u0_25 u0_26 u0_27 u0_28 u0_29 u0_30 y1_s) H → va_D A (w_X9_landCells g a0 a1 u0_1 u0_2 u0_3 u0_4 u0_5 u0_6 u0_7 u0_8 u0_9 u0_10 u0_11 u0_12 u0_13 u0_14 u0_15 u0_16 u0_17 u0_18 u0_19 u0_20 u0_21 u0_22 u0_23 u0_24 u0_25 u0_26 u0_27 u0_28 u0_29 u0_30 y1_s) → va_S A s.heap H locs → lv_has ls 3 [(1, .int v1_1)] → W p l e (RM 2 44) s m args below meth c H locs 0 0 Q (F0 m 30 ls []) := by
    intro H locs ls hP hD hS hl
    refine lv_iload_n (pc := 30) hexec hb dX9_landCells_30 rfl (lv_at hl 0 rfl) ?_
    cases hf
    exact ke_i hQ hexec hb hr hP hD hS dX9_landCells_31 hlocks
  obtain ⟨n, hz⟩ := lq2_e hz
  have hL4 : ∀ (n : Nat) (v1 : Int32) (v2 : Int32) (H : Heap) (locs : List Loc) (ls : Array Slot), it2 l4 n v1 v2 = some v1_1 → va_P g.1 vwCl (w_X9_landCells g a0 a1 u0_1 u0_2 u0_3 u0_4 u0_5 u0_6 u0_7 u0_8 u0_9 u0_10 u0_11 u0_12 u0_13 u0_14 u0_15 u0_16 u0_17 u0_18 u0_19 u0_20 u0_21 u0_22 u0_23 u0_24 u0_25 u0_26 u0_27 u0_28 u0_29 u0_30 y1_s) H → va_D A (w_X9_landCells g a0 a1 u0_1 u0_2 u0_3 u0_4 u0_5 u0_6 u0_7 u0_8 u0_9 u0_10 u0_11 u0_12 u0_13 u0_14 u0_15 u0_16 u0_17 u0_18 u0_19 u0_20 u0_21 u0_22 u0_23 u0_24 u0_25 u0_26 u0_27 u0_28 u0_29 u0_30 y1_s) → va_S A s.heap H locs → lv_has ls 3 [(0, .ref a0), (1, .int v1), (2, .int v2)] → W p l e (RM 2 44) s m args below meth c H locs 0 0 Q (F0 m 4 ls []) := by
    intro n
    induction n with
    | zero =>
      intro v1 v2 H locs ls hf hP hD hS hl
      exact it2_0 hf
    | succ n4 ih4 =>
      intro v1 v2 H locs ls hf hP hD hS hl
      obtain ⟨q4, hf, hk4⟩ := it2_e hf
      have hf := (el4 v1 v2).symm.trans hf
      refine lv_iload_n (pc := 4) hexec hb dX9_landCells_4 rfl (lv_at hl 2 rfl) ?_
      refine lv_aload_n (pc := 5) hexec hb dX9_landCells_5 rfl (lv_at hl 0 rfl) ?_
      obtain ⟨r6, hc, hf⟩ := bd1_e hf
      refine kVp (pc := 6) (S := ⟨hexec, hb, hml, hown, hts⟩) hP hD hG hA hS [0, 1] [] [0, 1] (w2 := (w_X9_landCells g a0 a1 u0_1 u0_2 u0_3 u0_4 u0_5 u0_6 u0_7 u0_8 u0_9 u0_10 u0_11 u0_12 u0_13 u0_14 u0_15 u0_16 u0_17 u0_18 u0_19 u0_20 u0_21 u0_22 u0_23 u0_24 u0_25 u0_26 u0_27 u0_28 u0_29 u0_30 y1_s)) rfl rfl rfl rfl rfl rfl (by decide) (c_X9_cells l g a0 a1 _ u0_1 u0_2 u0_3 u0_4 u0_5 u0_6 u0_7 u0_8 u0_9 u0_10 u0_11 u0_12 u0_13 u0_14 u0_15 u0_16 u0_17 u0_18 u0_19 u0_20 u0_21 u0_22 u0_23 u0_24 u0_25 u0_26 u0_27 u0_28 u0_29 u0_30 y1_s r6 hc) gX9_landCells_X9_cells rfl hv_X9_cells ⟨nle rfl, nle rfl⟩ 9 0 rfl rfl rfl (rest := [.int v2]) rfl rfl hl.1 (nle rfl) dX9_landCells_6 (fun H locs hP hD hS => ?_)
      refine ki_ge (pc := 9) hexec hb dX9_landCells_9 (tgt := 30) rfl hf (fun hc hf => ?_) (fun hc hf => ?_)
      · cases sr2 hf hk4
        exact hE4 _ _ _ hP hD hS (lv_sub hl [1] rfl)
      · refine lv_iload_n (pc := 12) hexec hb dX9_landCells_12 rfl (lv_at hl 1 rfl) ?_
        refine lv_aload_n (pc := 13) hexec hb dX9_landCells_13 rfl (lv_at hl 0 rfl) ?_
        refine kg_get (pc := 14) hexec hb (own := RX9) hWX9 hown hG hP 0 rfl rfl 0 (nle rfl) (hts _ (List.mem_cons_of_mem _ (List.mem_append_left _ (List.mem_of_getElem? (i := 0) rfl)))) rfl rfl dX9_landCells_14 ?_
        refine lv_bipush (pc := 17) hexec hb dX9_landCells_17 kb_8 ?_
        refine lv_iload_n (pc := 19) hexec hb dX9_landCells_19 rfl (lv_at hl 2 rfl) ?_
        refine lv_iadd (pc := 20) hexec hb dX9_landCells_20 ?_
        refine kr_iald (pc := 21) hexec hb hG hP 1 rfl hf dX9_landCells_21 (fun hf => ?_)
        refine lv_iadd (pc := 22) hexec hb dX9_landCells_22 ?_
        obtain ⟨v1_2, ev1_2, hf⟩ := bv_e hf
        refine kn_i ev1_2 ?_
        refine lv_istore_n (pc := 23) hexec hb dX9_landCells_23 rfl hl (nle rfl) rfl (fun ls (hl : lv_has ls 3 [(1, .int v1_2), (0, .ref a0), (2, .int v2)]) => ?_)
        obtain ⟨v2_1, ev2_1, hf⟩ := bv_e hf
        refine k_iinc (pc := 24) hexec hb dX9_landCells_24 kq_1 hl (k := 2) rfl ev2_1 (nle rfl) rfl (fun ls (hl : lv_has ls 3 [(2, .int v2_1), (1, .int v1_2), (0, .ref a0)]) => ?_)
        refine lv_goto (pc := 27) hexec hb dX9_landCells_27 (tgt := 4) rfl ?_
        exact ih4 _ _ _ _ _ (sl2 hf hk4) hP hD hS (lv_sub hl [2, 1, 0] rfl)
  exact hL4 n _ _ _ _ _ hz hP hD hS (lv_sub hl [2, 1, 0] rfl)
abbrev w_X9_placedNow (g : GE) (a0 a1 : Nat) (u0_1 u0_2 u0_3 u0_4 u0_5 u0_6 u0_7 u0_8 u0_9 u0_10 u0_11 u0_12 u0_13 u0_14 u0_15 u0_16 u0_17 u0_18 u0_19 u0_20 u0_21 u0_22 u0_23 u0_24 u0_25 u0_26 u0_27 u0_28 u0_29 u0_30 : Value) (y1_s : Nat → Int32) : va_W := [(a0, .inr (9, [.ref a1, u0_1, u0_2, u0_3, u0_4, u0_5, u0_6, u0_7, u0_8, u0_9, u0_10, u0_11, u0_12, u0_13, u0_14, u0_15, u0_16, u0_17, u0_18, u0_19, u0_20, u0_21, u0_22, u0_23, u0_24, u0_25, u0_26, u0_27, u0_28, u0_29, u0_30])), (a1, .inl (g.2.1 0, 552, .inl y1_s))]
noncomputable def f_X9_placedNow (y1_s : Nat → Int32) (p1 : Int32) : Option (Int32) :=
  bv (fun (v2 : Int32) (v3 : Int32) => ((
    ar 2 552 <|
    (if (y1_s (2 : Int32).toNatClampNeg) ≤ v3 then (
      some (.inr v2)
    ) else (
      bd1 (f_X9_isPlaced y1_s v3) fun (r17 : Int32) =>
      bv (fun (t40 : Int32) => ((
        bv (v2 + t40) fun v2_2 =>
        bv (v3 + 1) fun v3_1 =>
        some (.inl (v2_2, v3_1))
        ) : Option ((Int32 × Int32) ⊕ (Int32)))) fun j40 =>
      bv (fun (_ : Unit) => ((
        j40 0
        ) : Option ((Int32 × Int32) ⊕ (Int32)))) fun j39 =>
      (if r17 = 0 then (
        j39 ()
      ) else (
        bv (fun (_ : Unit) => ((
          j40 1
          ) : Option ((Int32 × Int32) ⊕ (Int32)))) fun j35 =>
        (if p1 = 0 then (
          j35 ()
        ) else (
          bd1 (f_X9_isRed y1_s v3) fun (r29 : Int32) =>
          (if r29 = 0 then (
            j39 ()
          ) else (
            j35 ()
          ))
        ))
      ))
    ))
    ) : Option ((Int32 × Int32) ⊕ (Int32)))) fun l4 =>
  bd1 (lq2 l4 0 0) fun (v2_1 : Int32) =>
  some v2_1
set_option maxRecDepth 4000 in
theorem c_X9_placedNow (l : Launch) (g : GE) (a0 a1 : Nat) (sz : Nat) (u0_1 u0_2 u0_3 u0_4 u0_5 u0_6 u0_7 u0_8 u0_9 u0_10 u0_11 u0_12 u0_13 u0_14 u0_15 u0_16 u0_17 u0_18 u0_19 u0_20 u0_21 u0_22 u0_23 u0_24 u0_25 u0_26 u0_27 u0_28 u0_29 u0_30 : Value) (y1_s : Nat → Int32) (p1 : Int32) (r : Int32) (hf : f_X9_placedNow y1_s p1 = some r) : MI l g yX9_placedNow wsX9_placedNow 3 67 [.ref a0, .int p1] (w_X9_placedNow g a0 a1 u0_1 u0_2 u0_3 u0_4 u0_5 u0_6 u0_7 u0_8 u0_9 u0_10 u0_11 u0_12 u0_13 u0_14 u0_15 u0_16 u0_17 u0_18 u0_19 u0_20 u0_21 u0_22 u0_23 u0_24 u0_25 u0_26 u0_27 u0_28 u0_29 u0_30 y1_s) sz (some (.int r)) (w_X9_placedNow g a0 a1 u0_1 u0_2 u0_3 u0_4 u0_5 u0_6 u0_7 u0_8 u0_9 u0_10 u0_11 u0_12 u0_13 u0_14 u0_15 u0_16 u0_17 u0_18 u0_19 u0_20 u0_21 u0_22 u0_23 u0_24 u0_25 u0_26 u0_27 u0_28 u0_29 u0_30 y1_s) := by
  refine MI.start (cc := cX9_placedNow) (maxL := 4) (ret := (some .int)) rfl rfl (nle rfl) ?_
  intro p e s m args below meth c A ls Q hQ hexec hb hr hts hown hlocks hml hA hP hD hG hS hl
  unfold f_X9_placedNow at hf
  have hWX9 : ∀ w ∈ wsX90, w.before args s = true := fun w h => hts w (List.mem_cons_of_mem _ (List.mem_append_right _ h))
  have hS : va_S A s.heap s.heap [] := hS
  refine lv_iconst (pc := 0) hexec hb dX9_placedNow_0 ki_0 ?_
  refine lv_istore_n (pc := 1) hexec hb dX9_placedNow_1 rfl hl (nle rfl) rfl (fun ls (hl : lv_has ls 4 [(2, .int 0), (0, .ref a0), (1, .int p1)]) => ?_)
  refine lv_iconst (pc := 2) hexec hb dX9_placedNow_2 ki_0 ?_
  refine lv_istore_n (pc := 3) hexec hb dX9_placedNow_3 rfl hl (nle rfl) rfl (fun ls (hl : lv_has ls 4 [(3, .int 0), (2, .int 0), (0, .ref a0), (1, .int p1)]) => ?_)
  obtain ⟨l4, el4, hf⟩ := bvf2 hf
  obtain ⟨v2_1, hz, hf⟩ := bd1_e hf
  have hE4 : ∀ (H : Heap) (locs : List Loc) (ls : Array Slot), va_P g.1 vwCl (w_X9_placedNow g a0 a1 u0_1 u0_2 u0_3 u0_4 u0_5 u0_6 u0_7 u0_8 u0_9 u0_10 u0_11 u0_12 u0_13 u0_14 u0_15 u0_16 u0_17 u0_18 u0_19 u0_20 u0_21 u0_22 u0_23 u0_24 u0_25 u0_26 u0_27 u0_28 u0_29 u0_30 y1_s) H → va_D A (w_X9_placedNow g a0 a1 u0_1 u0_2 u0_3 u0_4 u0_5 u0_6 u0_7 u0_8 u0_9 u0_10 u0_11 u0_12 u0_13 u0_14 u0_15 u0_16 u0_17 u0_18 u0_19 u0_20 u0_21 u0_22 u0_23 u0_24 u0_25 u0_26 u0_27 u0_28 u0_29 u0_30 y1_s) → va_S A s.heap H locs → lv_has ls 4 [(2, .int v2_1)] → W p l e (RM 3 67) s m args below meth c H locs 0 0 Q (F0 m 48 ls []) := by
    intro H locs ls hP hD hS hl
    refine lv_iload_n (pc := 48) hexec hb dX9_placedNow_48 rfl (lv_at hl 0 rfl) ?_
    cases hf
    exact ke_i hQ hexec hb hr hP hD hS dX9_placedNow_49 hlocks
  obtain ⟨n, hz⟩ := lq2_e hz
  have hL4 : ∀ (n : Nat) (v2 : Int32) (v3 : Int32) (H : Heap) (locs : List Loc) (ls : Array Slot), it2 l4 n v2 v3 = some v2_1 → va_P g.1 vwCl (w_X9_placedNow g a0 a1 u0_1 u0_2 u0_3 u0_4 u0_5 u0_6 u0_7 u0_8 u0_9 u0_10 u0_11 u0_12 u0_13 u0_14 u0_15 u0_16 u0_17 u0_18 u0_19 u0_20 u0_21 u0_22 u0_23 u0_24 u0_25 u0_26 u0_27 u0_28 u0_29 u0_30 y1_s) H → va_D A (w_X9_placedNow g a0 a1 u0_1 u0_2 u0_3 u0_4 u0_5 u0_6 u0_7 u0_8 u0_9 u0_10 u0_11 u0_12 u0_13 u0_14 u0_15 u0_16 u0_17 u0_18 u0_19 u0_20 u0_21 u0_22 u0_23 u0_24 u0_25 u0_26 u0_27 u0_28 u0_29 u0_30 y1_s) → va_S A s.heap H locs → lv_has ls 4 [(0, .ref a0), (1, .int p1), (2, .int v2), (3, .int v3)] → W p l e (RM 3 67) s m args below meth c H locs 0 0 Q (F0 m 4 ls []) := by
    intro n
    induction n with
    | zero =>
      intro v2 v3 H locs ls hf hP hD hS hl
      exact it2_0 hf
    | succ n4 ih4 =>
      intro v2 v3 H locs ls hf hP hD hS hl
      obtain ⟨q4, hf, hk4⟩ := it2_e hf
      have hf := (el4 v2 v3).symm.trans hf
      refine lv_iload_n (pc := 4) hexec hb dX9_placedNow_4 rfl (lv_at hl 3 rfl) ?_
      refine lv_aload_n (pc := 5) hexec hb dX9_placedNow_5 rfl (lv_at hl 0 rfl) ?_
      refine kg_get (pc := 6) hexec hb (own := RX9) hWX9 hown hG hP 0 rfl rfl 0 (nle rfl) (hts _ (List.mem_cons_of_mem _ (List.mem_append_left _ (List.mem_of_getElem? (i := 0) rfl)))) rfl rfl dX9_placedNow_6 ?_
      refine lv_iconst (pc := 9) hexec hb dX9_placedNow_9 ki_2 ?_
      refine kr_iald (pc := 10) hexec hb hG hP 1 rfl hf dX9_placedNow_10 (fun hf => ?_)
      refine ki_ge (pc := 11) hexec hb dX9_placedNow_11 (tgt := 48) rfl hf (fun hc hf => ?_) (fun hc hf => ?_)
      · cases sr2 hf hk4
        exact hE4 _ _ _ hP hD hS (lv_sub hl [2] rfl)
      · refine lv_iload_n (pc := 14) hexec hb dX9_placedNow_14 rfl (lv_at hl 2 rfl) ?_
        refine lv_aload_n (pc := 15) hexec hb dX9_placedNow_15 rfl (lv_at hl 0 rfl) ?_
        refine lv_iload_n (pc := 16) hexec hb dX9_placedNow_16 rfl (lv_at hl 3 rfl) ?_
        obtain ⟨r17, hc, hf⟩ := bd1_e hf
        refine kVp (pc := 17) (S := ⟨hexec, hb, hml, hown, hts⟩) hP hD hG hA hS [0, 1] [] [0, 1] (w2 := (w_X9_placedNow g a0 a1 u0_1 u0_2 u0_3 u0_4 u0_5 u0_6 u0_7 u0_8 u0_9 u0_10 u0_11 u0_12 u0_13 u0_14 u0_15 u0_16 u0_17 u0_18 u0_19 u0_20 u0_21 u0_22 u0_23 u0_24 u0_25 u0_26 u0_27 u0_28 u0_29 u0_30 y1_s)) rfl rfl rfl rfl rfl rfl (by decide) (c_X9_isPlaced l g a0 a1 _ u0_1 u0_2 u0_3 u0_4 u0_5 u0_6 u0_7 u0_8 u0_9 u0_10 u0_11 u0_12 u0_13 u0_14 u0_15 u0_16 u0_17 u0_18 u0_19 u0_20 u0_21 u0_22 u0_23 u0_24 u0_25 u0_26 u0_27 u0_28 u0_29 u0_30 y1_s v3 r17 hc) gX9_placedNow_X9_isPlaced rfl hv_X9_isPlaced ⟨nle rfl, nle rfl⟩ 9 0 rfl rfl rfl (rest := [.int v2]) rfl rfl hl.1 (nle rfl) dX9_placedNow_17 (fun H locs hP hD hS => ?_)
        obtain ⟨j40, ej40, hf⟩ := bvf1 hf
        have hj40 : ∀ (t40 : Int32) (H : Heap) (locs : List Loc) (ls : Array Slot), j40 t40 = some q4 → va_P g.1 vwCl (w_X9_placedNow g a0 a1 u0_1 u0_2 u0_3 u0_4 u0_5 u0_6 u0_7 u0_8 u0_9 u0_10 u0_11 u0_12 u0_13 u0_14 u0_15 u0_16 u0_17 u0_18 u0_19 u0_20 u0_21 u0_22 u0_23 u0_24 u0_25 u0_26 u0_27 u0_28 u0_29 u0_30 y1_s) H → va_D A (w_X9_placedNow g a0 a1 u0_1 u0_2 u0_3 u0_4 u0_5 u0_6 u0_7 u0_8 u0_9 u0_10 u0_11 u0_12 u0_13 u0_14 u0_15 u0_16 u0_17 u0_18 u0_19 u0_20 u0_21 u0_22 u0_23 u0_24 u0_25 u0_26 u0_27 u0_28 u0_29 u0_30 y1_s) → va_S A s.heap H locs → lv_has ls 4 [(0, .ref a0), (1, .int p1), (3, .int v3)] → W p l e (RM 3 67) s m args below meth c H locs 0 0 Q (F0 m 40 ls [.int t40, .int v2]) := by
          intro t40 H locs ls hf hP hD hS hl
          have hf := (ej40 t40).symm.trans hf
          refine lv_iadd (pc := 40) hexec hb dX9_placedNow_40 ?_
          obtain ⟨v2_2, ev2_2, hf⟩ := bv_e hf
          refine kn_i ev2_2 ?_
          refine lv_istore_n (pc := 41) hexec hb dX9_placedNow_41 rfl hl (nle rfl) rfl (fun ls (hl : lv_has ls 4 [(2, .int v2_2), (0, .ref a0), (1, .int p1), (3, .int v3)]) => ?_)
          obtain ⟨v3_1, ev3_1, hf⟩ := bv_e hf
          refine k_iinc (pc := 42) hexec hb dX9_placedNow_42 kq_1 hl (k := 3) rfl ev3_1 (nle rfl) rfl (fun ls (hl : lv_has ls 4 [(3, .int v3_1), (2, .int v2_2), (0, .ref a0), (1, .int p1)]) => ?_)
          refine lv_goto (pc := 45) hexec hb dX9_placedNow_45 (tgt := 4) rfl ?_
          exact ih4 _ _ _ _ _ (sl2 hf hk4) hP hD hS (lv_sub hl [2, 3, 1, 0] rfl)
        obtain ⟨j39, ej39, hf⟩ := bvf1 hf
        have hj39 : ∀ (u : Unit) (H : Heap) (locs : List Loc) (ls : Array Slot), j39 u = some q4 → va_P g.1 vwCl (w_X9_placedNow g a0 a1 u0_1 u0_2 u0_3 u0_4 u0_5 u0_6 u0_7 u0_8 u0_9 u0_10 u0_11 u0_12 u0_13 u0_14 u0_15 u0_16 u0_17 u0_18 u0_19 u0_20 u0_21 u0_22 u0_23 u0_24 u0_25 u0_26 u0_27 u0_28 u0_29 u0_30 y1_s) H → va_D A (w_X9_placedNow g a0 a1 u0_1 u0_2 u0_3 u0_4 u0_5 u0_6 u0_7 u0_8 u0_9 u0_10 u0_11 u0_12 u0_13 u0_14 u0_15 u0_16 u0_17 u0_18 u0_19 u0_20 u0_21 u0_22 u0_23 u0_24 u0_25 u0_26 u0_27 u0_28 u0_29 u0_30 y1_s) → va_S A s.heap H locs → lv_has ls 4 [(0, .ref a0), (1, .int p1), (3, .int v3)] → W p l e (RM 3 67) s m args below meth c H locs 0 0 Q (F0 m 39 ls [.int v2]) := by
          intro u H locs ls hf hP hD hS hl
          have hf := (ej39 u).symm.trans hf
          refine lv_iconst (pc := 39) hexec hb dX9_placedNow_39 ki_0 ?_
          exact hj40 _ _ _ _ hf hP hD hS (lv_sub hl [0, 1, 2] rfl)
        refine kb_eq (pc := 20) hexec hb dX9_placedNow_20 (tgt := 39) rfl hf (fun hc hf => ?_) (fun hc hf => ?_)
        · exact hj39 _ _ _ _ hf hP hD hS (lv_sub hl [0, 1, 3] rfl)
        · refine lv_iload_n (pc := 23) hexec hb dX9_placedNow_23 rfl (lv_at hl 1 rfl) ?_
          obtain ⟨j35, ej35, hf⟩ := bvf1 hf
          have hj35 : ∀ (u : Unit) (H : Heap) (locs : List Loc) (ls : Array Slot), j35 u = some q4 → va_P g.1 vwCl (w_X9_placedNow g a0 a1 u0_1 u0_2 u0_3 u0_4 u0_5 u0_6 u0_7 u0_8 u0_9 u0_10 u0_11 u0_12 u0_13 u0_14 u0_15 u0_16 u0_17 u0_18 u0_19 u0_20 u0_21 u0_22 u0_23 u0_24 u0_25 u0_26 u0_27 u0_28 u0_29 u0_30 y1_s) H → va_D A (w_X9_placedNow g a0 a1 u0_1 u0_2 u0_3 u0_4 u0_5 u0_6 u0_7 u0_8 u0_9 u0_10 u0_11 u0_12 u0_13 u0_14 u0_15 u0_16 u0_17 u0_18 u0_19 u0_20 u0_21 u0_22 u0_23 u0_24 u0_25 u0_26 u0_27 u0_28 u0_29 u0_30 y1_s) → va_S A s.heap H locs → lv_has ls 4 [(0, .ref a0), (1, .int p1), (3, .int v3)] → W p l e (RM 3 67) s m args below meth c H locs 0 0 Q (F0 m 35 ls [.int v2]) := by
            intro u H locs ls hf hP hD hS hl
            have hf := (ej35 u).symm.trans hf
            refine lv_iconst (pc := 35) hexec hb dX9_placedNow_35 ki_1 ?_
            refine lv_goto (pc := 36) hexec hb dX9_placedNow_36 (tgt := 40) rfl ?_
            exact hj40 _ _ _ _ hf hP hD hS (lv_sub hl [0, 1, 2] rfl)
          refine kb_eq (pc := 24) hexec hb dX9_placedNow_24 (tgt := 35) rfl hf (fun hc hf => ?_) (fun hc hf => ?_)
          · exact hj35 _ _ _ _ hf hP hD hS (lv_sub hl [0, 1, 3] rfl)
          · refine lv_aload_n (pc := 27) hexec hb dX9_placedNow_27 rfl (lv_at hl 0 rfl) ?_
            refine lv_iload_n (pc := 28) hexec hb dX9_placedNow_28 rfl (lv_at hl 3 rfl) ?_
            obtain ⟨r29, hc, hf⟩ := bd1_e hf
            refine kVp (pc := 29) (S := ⟨hexec, hb, hml, hown, hts⟩) hP hD hG hA hS [0, 1] [] [0, 1] (w2 := (w_X9_placedNow g a0 a1 u0_1 u0_2 u0_3 u0_4 u0_5 u0_6 u0_7 u0_8 u0_9 u0_10 u0_11 u0_12 u0_13 u0_14 u0_15 u0_16 u0_17 u0_18 u0_19 u0_20 u0_21 u0_22 u0_23 u0_24 u0_25 u0_26 u0_27 u0_28 u0_29 u0_30 y1_s)) rfl rfl rfl rfl rfl rfl (by decide) (c_X9_isRed l g a0 a1 _ u0_1 u0_2 u0_3 u0_4 u0_5 u0_6 u0_7 u0_8 u0_9 u0_10 u0_11 u0_12 u0_13 u0_14 u0_15 u0_16 u0_17 u0_18 u0_19 u0_20 u0_21 u0_22 u0_23 u0_24 u0_25 u0_26 u0_27 u0_28 u0_29 u0_30 y1_s v3 r29 hc) gX9_placedNow_X9_isRed rfl hv_X9_isRed ⟨nle rfl, nle rfl⟩ 9 0 rfl rfl rfl (rest := [.int v2]) rfl rfl hl.1 (nle rfl) dX9_placedNow_29 (fun H locs hP hD hS => ?_)
            refine kb_eq (pc := 32) hexec hb dX9_placedNow_32 (tgt := 39) rfl hf (fun hc hf => ?_) (fun hc hf => ?_)
            · exact hj39 _ _ _ _ hf hP hD hS (lv_sub hl [0, 1, 3] rfl)
            · exact hj35 _ _ _ _ hf hP hD hS (lv_sub hl [0, 1, 3] rfl)
  exact hL4 n _ _ _ _ _ hz hP hD hS (lv_sub hl [2, 3, 1, 0] rfl)
abbrev w_X9_size (g : GE) (a0 a1 : Nat) (u0_1 u0_2 u0_3 u0_4 u0_5 u0_8 u0_9 u0_10 u0_11 u0_12 u0_13 u0_14 u0_15 u0_16 u0_17 u0_18 u0_19 u0_20 u0_21 u0_22 u0_23 u0_24 u0_25 u0_26 u0_27 u0_28 u0_29 u0_30 : Value) (x0_acts : Int32) (x0_thrown : Int32) (y1_s : Nat → Int32) : va_W := [(a0, .inr (9, [.ref a1, u0_1, u0_2, u0_3, u0_4, u0_5, .int x0_acts, .int x0_thrown, u0_8, u0_9, u0_10, u0_11, u0_12, u0_13, u0_14, u0_15, u0_16, u0_17, u0_18, u0_19, u0_20, u0_21, u0_22, u0_23, u0_24, u0_25, u0_26, u0_27, u0_28, u0_29, u0_30])), (a1, .inl (g.2.1 0, 552, .inl y1_s))]
noncomputable def f_X9_size (x0_acts : Int32) (x0_thrown : Int32) (y1_s : Nat → Int32) (p1 : Int32) : Option (Int32 × Int32) :=
  bd1 (f_X9_isIn (p1.toInt64) 0 11) fun (r7 : Int32) =>
  bd2 (f_X9_passes x0_thrown r7 1) fun (r11 : Int32) (x0_thrown_1 : Int32) =>
  (if r11 = 0 then (
    some (0, x0_thrown_1)
  ) else (
    (if p1 = 0 then (
      ar 0 552 <|
      some ((y1_s (0 : Int32).toNatClampNeg), x0_thrown_1)
    ) else (
    (if p1 = 1 then (
      ar 1 552 <|
      some ((y1_s (1 : Int32).toNatClampNeg), x0_thrown_1)
    ) else (
    (if p1 = 2 then (
      bd1 (f_X9_landCells y1_s) fun (r95 : Int32) =>
      some (r95, x0_thrown_1)
    ) else (
    (if p1 = 3 then (
      ar 2 552 <|
      some ((y1_s (2 : Int32).toNatClampNeg), x0_thrown_1)
    ) else (
    (if p1 = 4 then (
      ar 3 552 <|
      some ((y1_s (3 : Int32).toNatClampNeg), x0_thrown_1)
    ) else (
    (if p1 = 5 then (
      bd1 (f_X9_placedNow y1_s 0) fun (r115 : Int32) =>
      some (r115, x0_thrown_1)
    ) else (
    (if p1 = 6 then (
      bd1 (f_X9_placedNow y1_s 1) fun (r121 : Int32) =>
      some (r121, x0_thrown_1)
    ) else (
    (if p1 = 7 then (
      ar 4 552 <|
      some ((y1_s (4 : Int32).toNatClampNeg), x0_thrown_1)
    ) else (
    (if p1 = 8 then (
      ar 5 552 <|
      some ((y1_s (5 : Int32).toNatClampNeg), x0_thrown_1)
    ) else (
    (if p1 = 9 then (
      ar 6 552 <|
      some ((y1_s (6 : Int32).toNatClampNeg), x0_thrown_1)
    ) else (
    (if p1 = 10 then (
      ar 7 552 <|
      some ((y1_s (7 : Int32).toNatClampNeg), x0_thrown_1)
    ) else (
    some (x0_acts, x0_thrown_1)
    ))
    ))
    ))
    ))
    ))
    ))
    ))
    ))
    ))
    ))
    ))
  ))
set_option maxRecDepth 4000 in
theorem c_X9_size (l : Launch) (g : GE) (a0 a1 : Nat) (sz : Nat) (u0_1 u0_2 u0_3 u0_4 u0_5 u0_8 u0_9 u0_10 u0_11 u0_12 u0_13 u0_14 u0_15 u0_16 u0_17 u0_18 u0_19 u0_20 u0_21 u0_22 u0_23 u0_24 u0_25 u0_26 u0_27 u0_28 u0_29 u0_30 : Value) (x0_acts : Int32) (x0_thrown : Int32) (y1_s : Nat → Int32) (p1 : Int32) (r : Int32) (o_x0_thrown : Int32) (hf : f_X9_size x0_acts x0_thrown y1_s p1 = some (r, o_x0_thrown)) : MI l g yX9_size wsX9_size 4 90 [.ref a0, .int p1] (w_X9_size g a0 a1 u0_1 u0_2 u0_3 u0_4 u0_5 u0_8 u0_9 u0_10 u0_11 u0_12 u0_13 u0_14 u0_15 u0_16 u0_17 u0_18 u0_19 u0_20 u0_21 u0_22 u0_23 u0_24 u0_25 u0_26 u0_27 u0_28 u0_29 u0_30 x0_acts x0_thrown y1_s) sz (some (.int r)) (w_X9_size g a0 a1 u0_1 u0_2 u0_3 u0_4 u0_5 u0_8 u0_9 u0_10 u0_11 u0_12 u0_13 u0_14 u0_15 u0_16 u0_17 u0_18 u0_19 u0_20 u0_21 u0_22 u0_23 u0_24 u0_25 u0_26 u0_27 u0_28 u0_29 u0_30 x0_acts o_x0_thrown y1_s) := by
  refine MI.start (cc := cX9_size) (maxL := 2) (ret := (some .int)) rfl rfl (nle rfl) ?_
  intro p e s m args below meth c A ls Q hQ hexec hb hr hts hown hlocks hml hA hP hD hG hS hl
  unfold f_X9_size at hf
  have hWX9 : ∀ w ∈ wsX90, w.before args s = true := fun w h => hts w (List.mem_cons_of_mem _ (List.mem_append_right _ h))
  have hS : va_S A s.heap s.heap [] := hS
  refine lv_aload_n (pc := 0) hexec hb dX9_size_0 rfl (lv_at hl 0 rfl) ?_
  refine lv_iload_n (pc := 1) hexec hb dX9_size_1 rfl (lv_at hl 1 rfl) ?_
  refine lv_i2l (pc := 2) hexec hb dX9_size_2 rfl ?_
  refine lv_lconst (pc := 3) hexec hb dX9_size_3 kl_0 ?_
  refine lv_ldc2 (pc := 4) hexec hb (own := RX9) hown (hts _ (List.mem_cons_of_mem _ (List.mem_append_left _ (List.mem_append_left _ (List.mem_of_getElem? (i := 0) rfl))))) dX9_size_4 ?_
  obtain ⟨r7, hc, hf⟩ := bd1_e hf
  refine kSp (pc := 7) (S := ⟨hexec, hb, hml, hown, hts⟩) hP hD hG hA hS [] [0, 1] [0, 1] (w2 := (w_X9_size g a0 a1 u0_1 u0_2 u0_3 u0_4 u0_5 u0_8 u0_9 u0_10 u0_11 u0_12 u0_13 u0_14 u0_15 u0_16 u0_17 u0_18 u0_19 u0_20 u0_21 u0_22 u0_23 u0_24 u0_25 u0_26 u0_27 u0_28 u0_29 u0_30 x0_acts x0_thrown y1_s)) rfl rfl rfl rfl rfl rfl (by decide) (c_X9_isIn l g _ (p1.toInt64) 0 11 r7 hc) gX9_size_X9_isIn rfl hs_X9_isIn ⟨nle rfl, nle rfl⟩ (rest := [.ref a0]) rfl rfl hl.1 (nle rfl) dX9_size_7 (fun H locs hP hD hS => ?_)
  refine lv_iconst (pc := 10) hexec hb dX9_size_10 ki_1 ?_
  obtain ⟨r11, x0_thrown_1, hc, hf⟩ := bd2_e hf
  refine kVp (pc := 11) (S := ⟨hexec, hb, hml, hown, hts⟩) hP hD hG hA hS [0] [1] [1, 0] (w2 := (w_X9_size g a0 a1 u0_1 u0_2 u0_3 u0_4 u0_5 u0_8 u0_9 u0_10 u0_11 u0_12 u0_13 u0_14 u0_15 u0_16 u0_17 u0_18 u0_19 u0_20 u0_21 u0_22 u0_23 u0_24 u0_25 u0_26 u0_27 u0_28 u0_29 u0_30 x0_acts x0_thrown_1 y1_s)) rfl rfl rfl rfl rfl rfl (by decide) (c_X9_passes l g a0 _ (.ref a1) u0_1 u0_2 u0_3 u0_4 u0_5 (.int x0_acts) u0_8 u0_9 u0_10 u0_11 u0_12 u0_13 u0_14 u0_15 u0_16 u0_17 u0_18 u0_19 u0_20 u0_21 u0_22 u0_23 u0_24 u0_25 u0_26 u0_27 u0_28 u0_29 u0_30 x0_thrown r7 1 r11 x0_thrown_1 hc) gX9_size_X9_passes rfl hv_X9_passes ⟨nle rfl, nle rfl⟩ 9 0 rfl rfl rfl (rest := []) rfl rfl hl.1 (nle rfl) dX9_size_11 (fun H locs hP hD hS => ?_)
  refine kb_ne (pc := 14) hexec hb dX9_size_14 (tgt := 19) rfl hf (fun hc hf => ?_) (fun hc hf => ?_)
  · refine lv_iload_n (pc := 19) hexec hb dX9_size_19 rfl (lv_at hl 1 rfl) ?_
    rcases ite_or hf with ⟨hc0, hf⟩ | ⟨hc0, hf⟩
    · refine lv_tableIn (pc := 20) hexec hb dX9_size_20 (by rw [hc0]; decide) (by rw [hc0]; decide) (by rw [hc0]; rfl) (tgt := 80) rfl ?_
      refine lv_aload_n (pc := 80) hexec hb dX9_size_80 rfl (lv_at hl 0 rfl) ?_
      refine kg_get (pc := 81) hexec hb (own := RX9) hWX9 hown hG hP 0 rfl rfl 0 (nle rfl) (hts _ (List.mem_cons_of_mem _ (List.mem_append_left _ (List.mem_append_left _ (List.mem_of_getElem? (i := 1) rfl))))) rfl rfl dX9_size_81 ?_
      refine lv_iconst (pc := 84) hexec hb dX9_size_84 ki_0 ?_
      refine kr_iald (pc := 85) hexec hb hG hP 1 rfl hf dX9_size_85 (fun hf => ?_)
      cases hf
      exact ke_i hQ hexec hb hr hP hD hS dX9_size_86 hlocks
    rcases ite_or hf with ⟨hc1, hf⟩ | ⟨hc1, hf⟩
    · refine lv_tableIn (pc := 20) hexec hb dX9_size_20 (by rw [hc1]; decide) (by rw [hc1]; decide) (by rw [hc1]; rfl) (tgt := 87) rfl ?_
      refine lv_aload_n (pc := 87) hexec hb dX9_size_87 rfl (lv_at hl 0 rfl) ?_
      refine kg_get (pc := 88) hexec hb (own := RX9) hWX9 hown hG hP 0 rfl rfl 0 (nle rfl) (hts _ (List.mem_cons_of_mem _ (List.mem_append_left _ (List.mem_append_left _ (List.mem_of_getElem? (i := 1) rfl))))) rfl rfl dX9_size_88 ?_
      refine lv_iconst (pc := 91) hexec hb dX9_size_91 ki_1 ?_
      refine kr_iald (pc := 92) hexec hb hG hP 1 rfl hf dX9_size_92 (fun hf => ?_)
      cases hf
      exact ke_i hQ hexec hb hr hP hD hS dX9_size_93 hlocks
    rcases ite_or hf with ⟨hc2, hf⟩ | ⟨hc2, hf⟩
    · refine lv_tableIn (pc := 20) hexec hb dX9_size_20 (by rw [hc2]; decide) (by rw [hc2]; decide) (by rw [hc2]; rfl) (tgt := 94) rfl ?_
      refine lv_aload_n (pc := 94) hexec hb dX9_size_94 rfl (lv_at hl 0 rfl) ?_
      obtain ⟨r95, hc, hf⟩ := bd1_e hf
      refine kVp (pc := 95) (S := ⟨hexec, hb, hml, hown, hts⟩) hP hD hG hA hS [0, 1] [] [0, 1] (w2 := (w_X9_size g a0 a1 u0_1 u0_2 u0_3 u0_4 u0_5 u0_8 u0_9 u0_10 u0_11 u0_12 u0_13 u0_14 u0_15 u0_16 u0_17 u0_18 u0_19 u0_20 u0_21 u0_22 u0_23 u0_24 u0_25 u0_26 u0_27 u0_28 u0_29 u0_30 x0_acts x0_thrown_1 y1_s)) rfl rfl rfl rfl rfl rfl (by decide) (c_X9_landCells l g a0 a1 _ u0_1 u0_2 u0_3 u0_4 u0_5 (.int x0_acts) (.int x0_thrown_1) u0_8 u0_9 u0_10 u0_11 u0_12 u0_13 u0_14 u0_15 u0_16 u0_17 u0_18 u0_19 u0_20 u0_21 u0_22 u0_23 u0_24 u0_25 u0_26 u0_27 u0_28 u0_29 u0_30 y1_s r95 hc) gX9_size_X9_landCells rfl hv_X9_landCells ⟨nle rfl, nle rfl⟩ 9 0 rfl rfl rfl (rest := []) rfl rfl hl.1 (nle rfl) dX9_size_95 (fun H locs hP hD hS => ?_)
      cases hf
      exact ke_i hQ hexec hb hr hP hD hS dX9_size_98 hlocks
    rcases ite_or hf with ⟨hc3, hf⟩ | ⟨hc3, hf⟩
    · refine lv_tableIn (pc := 20) hexec hb dX9_size_20 (by rw [hc3]; decide) (by rw [hc3]; decide) (by rw [hc3]; rfl) (tgt := 99) rfl ?_
      refine lv_aload_n (pc := 99) hexec hb dX9_size_99 rfl (lv_at hl 0 rfl) ?_
      refine kg_get (pc := 100) hexec hb (own := RX9) hWX9 hown hG hP 0 rfl rfl 0 (nle rfl) (hts _ (List.mem_cons_of_mem _ (List.mem_append_left _ (List.mem_append_left _ (List.mem_of_getElem? (i := 1) rfl))))) rfl rfl dX9_size_100 ?_
      refine lv_iconst (pc := 103) hexec hb dX9_size_103 ki_2 ?_
      refine kr_iald (pc := 104) hexec hb hG hP 1 rfl hf dX9_size_104 (fun hf => ?_)
      cases hf
      exact ke_i hQ hexec hb hr hP hD hS dX9_size_105 hlocks
    rcases ite_or hf with ⟨hc4, hf⟩ | ⟨hc4, hf⟩
    · refine lv_tableIn (pc := 20) hexec hb dX9_size_20 (by rw [hc4]; decide) (by rw [hc4]; decide) (by rw [hc4]; rfl) (tgt := 106) rfl ?_
      refine lv_aload_n (pc := 106) hexec hb dX9_size_106 rfl (lv_at hl 0 rfl) ?_
      refine kg_get (pc := 107) hexec hb (own := RX9) hWX9 hown hG hP 0 rfl rfl 0 (nle rfl) (hts _ (List.mem_cons_of_mem _ (List.mem_append_left _ (List.mem_append_left _ (List.mem_of_getElem? (i := 1) rfl))))) rfl rfl dX9_size_107 ?_
      refine lv_iconst (pc := 110) hexec hb dX9_size_110 ki_3 ?_
      refine kr_iald (pc := 111) hexec hb hG hP 1 rfl hf dX9_size_111 (fun hf => ?_)
      cases hf
      exact ke_i hQ hexec hb hr hP hD hS dX9_size_112 hlocks
    rcases ite_or hf with ⟨hc5, hf⟩ | ⟨hc5, hf⟩
    · refine lv_tableIn (pc := 20) hexec hb dX9_size_20 (by rw [hc5]; decide) (by rw [hc5]; decide) (by rw [hc5]; rfl) (tgt := 113) rfl ?_
      refine lv_aload_n (pc := 113) hexec hb dX9_size_113 rfl (lv_at hl 0 rfl) ?_
      refine lv_iconst (pc := 114) hexec hb dX9_size_114 ki_0 ?_
      obtain ⟨r115, hc, hf⟩ := bd1_e hf
      refine kVp (pc := 115) (S := ⟨hexec, hb, hml, hown, hts⟩) hP hD hG hA hS [0, 1] [] [0, 1] (w2 := (w_X9_size g a0 a1 u0_1 u0_2 u0_3 u0_4 u0_5 u0_8 u0_9 u0_10 u0_11 u0_12 u0_13 u0_14 u0_15 u0_16 u0_17 u0_18 u0_19 u0_20 u0_21 u0_22 u0_23 u0_24 u0_25 u0_26 u0_27 u0_28 u0_29 u0_30 x0_acts x0_thrown_1 y1_s)) rfl rfl rfl rfl rfl rfl (by decide) (c_X9_placedNow l g a0 a1 _ u0_1 u0_2 u0_3 u0_4 u0_5 (.int x0_acts) (.int x0_thrown_1) u0_8 u0_9 u0_10 u0_11 u0_12 u0_13 u0_14 u0_15 u0_16 u0_17 u0_18 u0_19 u0_20 u0_21 u0_22 u0_23 u0_24 u0_25 u0_26 u0_27 u0_28 u0_29 u0_30 y1_s 0 r115 hc) gX9_size_X9_placedNow rfl hv_X9_placedNow ⟨nle rfl, nle rfl⟩ 9 0 rfl rfl rfl (rest := []) rfl rfl hl.1 (nle rfl) dX9_size_115 (fun H locs hP hD hS => ?_)
      cases hf
      exact ke_i hQ hexec hb hr hP hD hS dX9_size_118 hlocks
    rcases ite_or hf with ⟨hc6, hf⟩ | ⟨hc6, hf⟩
    · refine lv_tableIn (pc := 20) hexec hb dX9_size_20 (by rw [hc6]; decide) (by rw [hc6]; decide) (by rw [hc6]; rfl) (tgt := 119) rfl ?_
      refine lv_aload_n (pc := 119) hexec hb dX9_size_119 rfl (lv_at hl 0 rfl) ?_
      refine lv_iconst (pc := 120) hexec hb dX9_size_120 ki_1 ?_
      obtain ⟨r121, hc, hf⟩ := bd1_e hf
      refine kVp (pc := 121) (S := ⟨hexec, hb, hml, hown, hts⟩) hP hD hG hA hS [0, 1] [] [0, 1] (w2 := (w_X9_size g a0 a1 u0_1 u0_2 u0_3 u0_4 u0_5 u0_8 u0_9 u0_10 u0_11 u0_12 u0_13 u0_14 u0_15 u0_16 u0_17 u0_18 u0_19 u0_20 u0_21 u0_22 u0_23 u0_24 u0_25 u0_26 u0_27 u0_28 u0_29 u0_30 x0_acts x0_thrown_1 y1_s)) rfl rfl rfl rfl rfl rfl (by decide) (c_X9_placedNow l g a0 a1 _ u0_1 u0_2 u0_3 u0_4 u0_5 (.int x0_acts) (.int x0_thrown_1) u0_8 u0_9 u0_10 u0_11 u0_12 u0_13 u0_14 u0_15 u0_16 u0_17 u0_18 u0_19 u0_20 u0_21 u0_22 u0_23 u0_24 u0_25 u0_26 u0_27 u0_28 u0_29 u0_30 y1_s 1 r121 hc) gX9_size_X9_placedNow rfl hv_X9_placedNow ⟨nle rfl, nle rfl⟩ 9 0 rfl rfl rfl (rest := []) rfl rfl hl.1 (nle rfl) dX9_size_121 (fun H locs hP hD hS => ?_)
      cases hf
      exact ke_i hQ hexec hb hr hP hD hS dX9_size_124 hlocks
    rcases ite_or hf with ⟨hc7, hf⟩ | ⟨hc7, hf⟩
    · refine lv_tableIn (pc := 20) hexec hb dX9_size_20 (by rw [hc7]; decide) (by rw [hc7]; decide) (by rw [hc7]; rfl) (tgt := 125) rfl ?_
      refine lv_aload_n (pc := 125) hexec hb dX9_size_125 rfl (lv_at hl 0 rfl) ?_
      refine kg_get (pc := 126) hexec hb (own := RX9) hWX9 hown hG hP 0 rfl rfl 0 (nle rfl) (hts _ (List.mem_cons_of_mem _ (List.mem_append_left _ (List.mem_append_left _ (List.mem_of_getElem? (i := 1) rfl))))) rfl rfl dX9_size_126 ?_
      refine lv_iconst (pc := 129) hexec hb dX9_size_129 ki_4 ?_
      refine kr_iald (pc := 130) hexec hb hG hP 1 rfl hf dX9_size_130 (fun hf => ?_)
      cases hf
      exact ke_i hQ hexec hb hr hP hD hS dX9_size_131 hlocks
    rcases ite_or hf with ⟨hc8, hf⟩ | ⟨hc8, hf⟩
    · refine lv_tableIn (pc := 20) hexec hb dX9_size_20 (by rw [hc8]; decide) (by rw [hc8]; decide) (by rw [hc8]; rfl) (tgt := 132) rfl ?_
      refine lv_aload_n (pc := 132) hexec hb dX9_size_132 rfl (lv_at hl 0 rfl) ?_
      refine kg_get (pc := 133) hexec hb (own := RX9) hWX9 hown hG hP 0 rfl rfl 0 (nle rfl) (hts _ (List.mem_cons_of_mem _ (List.mem_append_left _ (List.mem_append_left _ (List.mem_of_getElem? (i := 1) rfl))))) rfl rfl dX9_size_133 ?_
      refine lv_iconst (pc := 136) hexec hb dX9_size_136 ki_5 ?_
      refine kr_iald (pc := 137) hexec hb hG hP 1 rfl hf dX9_size_137 (fun hf => ?_)
      cases hf
      exact ke_i hQ hexec hb hr hP hD hS dX9_size_138 hlocks
    rcases ite_or hf with ⟨hc9, hf⟩ | ⟨hc9, hf⟩
    · refine lv_tableIn (pc := 20) hexec hb dX9_size_20 (by rw [hc9]; decide) (by rw [hc9]; decide) (by rw [hc9]; rfl) (tgt := 139) rfl ?_
      refine lv_aload_n (pc := 139) hexec hb dX9_size_139 rfl (lv_at hl 0 rfl) ?_
      refine kg_get (pc := 140) hexec hb (own := RX9) hWX9 hown hG hP 0 rfl rfl 0 (nle rfl) (hts _ (List.mem_cons_of_mem _ (List.mem_append_left _ (List.mem_append_left _ (List.mem_of_getElem? (i := 1) rfl))))) rfl rfl dX9_size_140 ?_
      refine lv_bipush (pc := 143) hexec hb dX9_size_143 kb_6 ?_
      refine kr_iald (pc := 145) hexec hb hG hP 1 rfl hf dX9_size_145 (fun hf => ?_)
      cases hf
      exact ke_i hQ hexec hb hr hP hD hS dX9_size_146 hlocks
    rcases ite_or hf with ⟨hc10, hf⟩ | ⟨hc10, hf⟩
    · refine lv_tableIn (pc := 20) hexec hb dX9_size_20 (by rw [hc10]; decide) (by rw [hc10]; decide) (by rw [hc10]; rfl) (tgt := 147) rfl ?_
      refine lv_aload_n (pc := 147) hexec hb dX9_size_147 rfl (lv_at hl 0 rfl) ?_
      refine kg_get (pc := 148) hexec hb (own := RX9) hWX9 hown hG hP 0 rfl rfl 0 (nle rfl) (hts _ (List.mem_cons_of_mem _ (List.mem_append_left _ (List.mem_append_left _ (List.mem_of_getElem? (i := 1) rfl))))) rfl rfl dX9_size_148 ?_
      refine lv_bipush (pc := 151) hexec hb dX9_size_151 kb_7 ?_
      refine kr_iald (pc := 153) hexec hb hG hP 1 rfl hf dX9_size_153 (fun hf => ?_)
      cases hf
      exact ke_i hQ hexec hb hr hP hD hS dX9_size_154 hlocks
    refine lv_tableOut (pc := 20) hexec hb dX9_size_20 (by have z := fun k : Int32 => @Int32.toInt_inj p1 k; have h0 := fun h => hc0 ((z 0).mp h); have h1 := fun h => hc1 ((z 1).mp h); have h2 := fun h => hc2 ((z 2).mp h); have h3 := fun h => hc3 ((z 3).mp h); have h4 := fun h => hc4 ((z 4).mp h); have h5 := fun h => hc5 ((z 5).mp h); have h6 := fun h => hc6 ((z 6).mp h); have h7 := fun h => hc7 ((z 7).mp h); have h8 := fun h => hc8 ((z 8).mp h); have h9 := fun h => hc9 ((z 9).mp h); have h10 := fun h => hc10 ((z 10).mp h); omega) (tgt := 155) rfl ?_
    refine lv_aload_n (pc := 155) hexec hb dX9_size_155 rfl (lv_at hl 0 rfl) ?_
    refine kg_get (pc := 156) hexec hb (own := RX9) hWX9 hown hG hP 0 rfl rfl 6 (nle rfl) (hts _ (List.mem_cons_of_mem _ (List.mem_append_left _ (List.mem_append_left _ (List.mem_of_getElem? (i := 2) rfl))))) rfl rfl dX9_size_156 ?_
    cases hf
    exact ke_i hQ hexec hb hr hP hD hS dX9_size_159 hlocks
  · refine lv_iconst (pc := 17) hexec hb dX9_size_17 ki_0 ?_
    cases hf
    exact ke_i hQ hexec hb hr hP hD hS dX9_size_18 hlocks
abbrev w_X9_cell (g : GE) (a0 a1 : Nat) (u0_1 u0_2 u0_3 u0_4 u0_5 u0_6 u0_8 u0_9 u0_10 u0_11 u0_12 u0_13 u0_14 u0_15 u0_16 u0_17 u0_18 u0_19 u0_20 u0_21 u0_22 u0_23 u0_24 u0_25 u0_26 u0_27 u0_28 u0_29 u0_30 : Value) (x0_thrown : Int32) (y1_s : Nat → Int32) : va_W := [(a0, .inr (9, [.ref a1, u0_1, u0_2, u0_3, u0_4, u0_5, u0_6, .int x0_thrown, u0_8, u0_9, u0_10, u0_11, u0_12, u0_13, u0_14, u0_15, u0_16, u0_17, u0_18, u0_19, u0_20, u0_21, u0_22, u0_23, u0_24, u0_25, u0_26, u0_27, u0_28, u0_29, u0_30])), (a1, .inl (g.2.1 0, 552, .inl y1_s))]
noncomputable def f_X9_cell (x0_thrown : Int32) (y1_s : Nat → Int32) (p1 : Int32) (p2 : Int32) : Option (Int32 × Int32) :=
  bd1 (f_X9_isCell y1_s p1) fun (r3 : Int32) =>
  bd1 (f_X9_isIn (p2.toInt64) 0 5) fun (r12 : Int32) =>
  bd2 (f_X9_passes x0_thrown r3 r12) fun (r15 : Int32) (x0_thrown_1 : Int32) =>
  (if r15 = 0 then (
    some (0, x0_thrown_1)
  ) else (
    (if p2 = 0 then (
      bd1 (f_X9_isRiver y1_s p1) fun (r62 : Int32) =>
      (if r62 = 0 then (
        ar (8 + p1) 552 <|
        some ((y1_s (8 + p1).toNatClampNeg), x0_thrown_1)
      ) else (
        some (2, x0_thrown_1)
      ))
    ) else (
    (if p2 = 1 then (
      bd1 (f_X9_harbourAt y1_s p1 (-1)) fun (r85 : Int32) =>
      some (r85, x0_thrown_1)
    ) else (
    (if p2 = 2 then (
      bd1 (f_X9_riverAt y1_s p1) fun (r91 : Int32) =>
      some (r91, x0_thrown_1)
    ) else (
    (if p2 = 3 then (
      bd1 (f_X9_letterAt y1_s p1) fun (r97 : Int32) =>
      some (r97, x0_thrown_1)
    ) else (
    (if p2 = 4 then (
      bd1 (f_X9_namesIn y1_s p1) fun (r103 : Int32) =>
      some (r103, x0_thrown_1)
    ) else (
    bd1 (f_X9_depthOf y1_s p1) fun (r109 : Int32) =>
    some (r109, x0_thrown_1)
    ))
    ))
    ))
    ))
    ))
  ))
set_option maxRecDepth 4000 in
theorem c_X9_cell (l : Launch) (g : GE) (a0 a1 : Nat) (sz : Nat) (u0_1 u0_2 u0_3 u0_4 u0_5 u0_6 u0_8 u0_9 u0_10 u0_11 u0_12 u0_13 u0_14 u0_15 u0_16 u0_17 u0_18 u0_19 u0_20 u0_21 u0_22 u0_23 u0_24 u0_25 u0_26 u0_27 u0_28 u0_29 u0_30 : Value) (x0_thrown : Int32) (y1_s : Nat → Int32) (p1 : Int32) (p2 : Int32) (r : Int32) (o_x0_thrown : Int32) (hf : f_X9_cell x0_thrown y1_s p1 p2 = some (r, o_x0_thrown)) : MI l g yX9_cell wsX9_cell 6 143 [.ref a0, .int p1, .int p2] (w_X9_cell g a0 a1 u0_1 u0_2 u0_3 u0_4 u0_5 u0_6 u0_8 u0_9 u0_10 u0_11 u0_12 u0_13 u0_14 u0_15 u0_16 u0_17 u0_18 u0_19 u0_20 u0_21 u0_22 u0_23 u0_24 u0_25 u0_26 u0_27 u0_28 u0_29 u0_30 x0_thrown y1_s) sz (some (.int r)) (w_X9_cell g a0 a1 u0_1 u0_2 u0_3 u0_4 u0_5 u0_6 u0_8 u0_9 u0_10 u0_11 u0_12 u0_13 u0_14 u0_15 u0_16 u0_17 u0_18 u0_19 u0_20 u0_21 u0_22 u0_23 u0_24 u0_25 u0_26 u0_27 u0_28 u0_29 u0_30 o_x0_thrown y1_s) := by
  refine MI.start (cc := cX9_cell) (maxL := 3) (ret := (some .int)) rfl rfl (nle rfl) ?_
  intro p e s m args below meth c A ls Q hQ hexec hb hr hts hown hlocks hml hA hP hD hG hS hl
  unfold f_X9_cell at hf
  have hWX9 : ∀ w ∈ wsX90, w.before args s = true := fun w h => hts w (List.mem_cons_of_mem _ (List.mem_append_right _ h))
  have hS : va_S A s.heap s.heap [] := hS
  refine lv_aload_n (pc := 0) hexec hb dX9_cell_0 rfl (lv_at hl 0 rfl) ?_
  refine lv_aload_n (pc := 1) hexec hb dX9_cell_1 rfl (lv_at hl 0 rfl) ?_
  refine lv_iload_n (pc := 2) hexec hb dX9_cell_2 rfl (lv_at hl 1 rfl) ?_
  obtain ⟨r3, hc, hf⟩ := bd1_e hf
  refine kVp (pc := 3) (S := ⟨hexec, hb, hml, hown, hts⟩) hP hD hG hA hS [0, 1] [] [0, 1] (w2 := (w_X9_cell g a0 a1 u0_1 u0_2 u0_3 u0_4 u0_5 u0_6 u0_8 u0_9 u0_10 u0_11 u0_12 u0_13 u0_14 u0_15 u0_16 u0_17 u0_18 u0_19 u0_20 u0_21 u0_22 u0_23 u0_24 u0_25 u0_26 u0_27 u0_28 u0_29 u0_30 x0_thrown y1_s)) rfl rfl rfl rfl rfl rfl (by decide) (c_X9_isCell l g a0 a1 _ u0_1 u0_2 u0_3 u0_4 u0_5 u0_6 (.int x0_thrown) u0_8 u0_9 u0_10 u0_11 u0_12 u0_13 u0_14 u0_15 u0_16 u0_17 u0_18 u0_19 u0_20 u0_21 u0_22 u0_23 u0_24 u0_25 u0_26 u0_27 u0_28 u0_29 u0_30 y1_s p1 r3 hc) gX9_cell_X9_isCell rfl hv_X9_isCell ⟨nle rfl, nle rfl⟩ 9 0 rfl rfl rfl (rest := [.ref a0]) rfl rfl hl.1 (nle rfl) dX9_cell_3 (fun H locs hP hD hS => ?_)
  refine lv_iload_n (pc := 6) hexec hb dX9_cell_6 rfl (lv_at hl 2 rfl) ?_
  refine lv_i2l (pc := 7) hexec hb dX9_cell_7 rfl ?_
  refine lv_lconst (pc := 8) hexec hb dX9_cell_8 kl_0 ?_
  refine lv_ldc2 (pc := 9) hexec hb (own := RX9) hown (hts _ (List.mem_cons_of_mem _ (List.mem_append_left _ (List.mem_append_left _ (List.mem_of_getElem? (i := 0) rfl))))) dX9_cell_9 ?_
  obtain ⟨r12, hc, hf⟩ := bd1_e hf
  refine kSp (pc := 12) (S := ⟨hexec, hb, hml, hown, hts⟩) hP hD hG hA hS [] [0, 1] [0, 1] (w2 := (w_X9_cell g a0 a1 u0_1 u0_2 u0_3 u0_4 u0_5 u0_6 u0_8 u0_9 u0_10 u0_11 u0_12 u0_13 u0_14 u0_15 u0_16 u0_17 u0_18 u0_19 u0_20 u0_21 u0_22 u0_23 u0_24 u0_25 u0_26 u0_27 u0_28 u0_29 u0_30 x0_thrown y1_s)) rfl rfl rfl rfl rfl rfl (by decide) (c_X9_isIn l g _ (p2.toInt64) 0 5 r12 hc) gX9_cell_X9_isIn rfl hs_X9_isIn ⟨nle rfl, nle rfl⟩ (rest := [.int r3, .ref a0]) rfl rfl hl.1 (nle rfl) dX9_cell_12 (fun H locs hP hD hS => ?_)
  obtain ⟨r15, x0_thrown_1, hc, hf⟩ := bd2_e hf
  refine kVp (pc := 15) (S := ⟨hexec, hb, hml, hown, hts⟩) hP hD hG hA hS [0] [1] [1, 0] (w2 := (w_X9_cell g a0 a1 u0_1 u0_2 u0_3 u0_4 u0_5 u0_6 u0_8 u0_9 u0_10 u0_11 u0_12 u0_13 u0_14 u0_15 u0_16 u0_17 u0_18 u0_19 u0_20 u0_21 u0_22 u0_23 u0_24 u0_25 u0_26 u0_27 u0_28 u0_29 u0_30 x0_thrown_1 y1_s)) rfl rfl rfl rfl rfl rfl (by decide) (c_X9_passes l g a0 _ (.ref a1) u0_1 u0_2 u0_3 u0_4 u0_5 u0_6 u0_8 u0_9 u0_10 u0_11 u0_12 u0_13 u0_14 u0_15 u0_16 u0_17 u0_18 u0_19 u0_20 u0_21 u0_22 u0_23 u0_24 u0_25 u0_26 u0_27 u0_28 u0_29 u0_30 x0_thrown r3 r12 r15 x0_thrown_1 hc) gX9_cell_X9_passes rfl hv_X9_passes ⟨nle rfl, nle rfl⟩ 9 0 rfl rfl rfl (rest := []) rfl rfl hl.1 (nle rfl) dX9_cell_15 (fun H locs hP hD hS => ?_)
  refine kb_ne (pc := 18) hexec hb dX9_cell_18 (tgt := 23) rfl hf (fun hc hf => ?_) (fun hc hf => ?_)
  · refine lv_iload_n (pc := 23) hexec hb dX9_cell_23 rfl (lv_at hl 2 rfl) ?_
    rcases ite_or hf with ⟨hc0, hf⟩ | ⟨hc0, hf⟩
    · refine lv_tableIn (pc := 24) hexec hb dX9_cell_24 (by rw [hc0]; decide) (by rw [hc0]; decide) (by rw [hc0]; rfl) (tgt := 60) rfl ?_
      refine lv_aload_n (pc := 60) hexec hb dX9_cell_60 rfl (lv_at hl 0 rfl) ?_
      refine lv_iload_n (pc := 61) hexec hb dX9_cell_61 rfl (lv_at hl 1 rfl) ?_
      obtain ⟨r62, hc, hf⟩ := bd1_e hf
      refine kVp (pc := 62) (S := ⟨hexec, hb, hml, hown, hts⟩) hP hD hG hA hS [0, 1] [] [0, 1] (w2 := (w_X9_cell g a0 a1 u0_1 u0_2 u0_3 u0_4 u0_5 u0_6 u0_8 u0_9 u0_10 u0_11 u0_12 u0_13 u0_14 u0_15 u0_16 u0_17 u0_18 u0_19 u0_20 u0_21 u0_22 u0_23 u0_24 u0_25 u0_26 u0_27 u0_28 u0_29 u0_30 x0_thrown_1 y1_s)) rfl rfl rfl rfl rfl rfl (by decide) (c_X9_isRiver l g a0 a1 _ u0_1 u0_2 u0_3 u0_4 u0_5 u0_6 (.int x0_thrown_1) u0_8 u0_9 u0_10 u0_11 u0_12 u0_13 u0_14 u0_15 u0_16 u0_17 u0_18 u0_19 u0_20 u0_21 u0_22 u0_23 u0_24 u0_25 u0_26 u0_27 u0_28 u0_29 u0_30 y1_s p1 r62 hc) gX9_cell_X9_isRiver rfl hv_X9_isRiver ⟨nle rfl, nle rfl⟩ 9 0 rfl rfl rfl (rest := []) rfl rfl hl.1 (nle rfl) dX9_cell_62 (fun H locs hP hD hS => ?_)
      refine kb_eq (pc := 65) hexec hb dX9_cell_65 (tgt := 72) rfl hf (fun hc hf => ?_) (fun hc hf => ?_)
      · refine lv_aload_n (pc := 72) hexec hb dX9_cell_72 rfl (lv_at hl 0 rfl) ?_
        refine kg_get (pc := 73) hexec hb (own := RX9) hWX9 hown hG hP 0 rfl rfl 0 (nle rfl) (hts _ (List.mem_cons_of_mem _ (List.mem_append_left _ (List.mem_append_left _ (List.mem_of_getElem? (i := 1) rfl))))) rfl rfl dX9_cell_73 ?_
        refine lv_bipush (pc := 76) hexec hb dX9_cell_76 kb_8 ?_
        refine lv_iload_n (pc := 78) hexec hb dX9_cell_78 rfl (lv_at hl 1 rfl) ?_
        refine lv_iadd (pc := 79) hexec hb dX9_cell_79 ?_
        refine kr_iald (pc := 80) hexec hb hG hP 1 rfl hf dX9_cell_80 (fun hf => ?_)
        cases hf
        exact ke_i hQ hexec hb hr hP hD hS dX9_cell_81 hlocks
      · refine lv_iconst (pc := 68) hexec hb dX9_cell_68 ki_2 ?_
        refine lv_goto (pc := 69) hexec hb dX9_cell_69 (tgt := 81) rfl ?_
        cases hf
        exact ke_i hQ hexec hb hr hP hD hS dX9_cell_81 hlocks
    rcases ite_or hf with ⟨hc1, hf⟩ | ⟨hc1, hf⟩
    · refine lv_tableIn (pc := 24) hexec hb dX9_cell_24 (by rw [hc1]; decide) (by rw [hc1]; decide) (by rw [hc1]; rfl) (tgt := 82) rfl ?_
      refine lv_aload_n (pc := 82) hexec hb dX9_cell_82 rfl (lv_at hl 0 rfl) ?_
      refine lv_iload_n (pc := 83) hexec hb dX9_cell_83 rfl (lv_at hl 1 rfl) ?_
      refine lv_iconst (pc := 84) hexec hb dX9_cell_84 ki_m1 ?_
      obtain ⟨r85, hc, hf⟩ := bd1_e hf
      refine kVp (pc := 85) (S := ⟨hexec, hb, hml, hown, hts⟩) hP hD hG hA hS [0, 1] [] [0, 1] (w2 := (w_X9_cell g a0 a1 u0_1 u0_2 u0_3 u0_4 u0_5 u0_6 u0_8 u0_9 u0_10 u0_11 u0_12 u0_13 u0_14 u0_15 u0_16 u0_17 u0_18 u0_19 u0_20 u0_21 u0_22 u0_23 u0_24 u0_25 u0_26 u0_27 u0_28 u0_29 u0_30 x0_thrown_1 y1_s)) rfl rfl rfl rfl rfl rfl (by decide) (c_X9_harbourAt l g a0 a1 _ u0_1 u0_2 u0_3 u0_4 u0_5 u0_6 (.int x0_thrown_1) u0_8 u0_9 u0_10 u0_11 u0_12 u0_13 u0_14 u0_15 u0_16 u0_17 u0_18 u0_19 u0_20 u0_21 u0_22 u0_23 u0_24 u0_25 u0_26 u0_27 u0_28 u0_29 u0_30 y1_s p1 (-1) r85 hc) gX9_cell_X9_harbourAt rfl hv_X9_harbourAt ⟨nle rfl, nle rfl⟩ 9 0 rfl rfl rfl (rest := []) rfl rfl hl.1 (nle rfl) dX9_cell_85 (fun H locs hP hD hS => ?_)
      cases hf
      exact ke_i hQ hexec hb hr hP hD hS dX9_cell_88 hlocks
    rcases ite_or hf with ⟨hc2, hf⟩ | ⟨hc2, hf⟩
    · refine lv_tableIn (pc := 24) hexec hb dX9_cell_24 (by rw [hc2]; decide) (by rw [hc2]; decide) (by rw [hc2]; rfl) (tgt := 89) rfl ?_
      refine lv_aload_n (pc := 89) hexec hb dX9_cell_89 rfl (lv_at hl 0 rfl) ?_
      refine lv_iload_n (pc := 90) hexec hb dX9_cell_90 rfl (lv_at hl 1 rfl) ?_
      obtain ⟨r91, hc, hf⟩ := bd1_e hf
      refine kVp (pc := 91) (S := ⟨hexec, hb, hml, hown, hts⟩) hP hD hG hA hS [0, 1] [] [0, 1] (w2 := (w_X9_cell g a0 a1 u0_1 u0_2 u0_3 u0_4 u0_5 u0_6 u0_8 u0_9 u0_10 u0_11 u0_12 u0_13 u0_14 u0_15 u0_16 u0_17 u0_18 u0_19 u0_20 u0_21 u0_22 u0_23 u0_24 u0_25 u0_26 u0_27 u0_28 u0_29 u0_30 x0_thrown_1 y1_s)) rfl rfl rfl rfl rfl rfl (by decide) (c_X9_riverAt l g a0 a1 _ u0_1 u0_2 u0_3 u0_4 u0_5 u0_6 (.int x0_thrown_1) u0_8 u0_9 u0_10 u0_11 u0_12 u0_13 u0_14 u0_15 u0_16 u0_17 u0_18 u0_19 u0_20 u0_21 u0_22 u0_23 u0_24 u0_25 u0_26 u0_27 u0_28 u0_29 u0_30 y1_s p1 r91 hc) gX9_cell_X9_riverAt rfl hv_X9_riverAt ⟨nle rfl, nle rfl⟩ 9 0 rfl rfl rfl (rest := []) rfl rfl hl.1 (nle rfl) dX9_cell_91 (fun H locs hP hD hS => ?_)
      cases hf
      exact ke_i hQ hexec hb hr hP hD hS dX9_cell_94 hlocks
    rcases ite_or hf with ⟨hc3, hf⟩ | ⟨hc3, hf⟩
    · refine lv_tableIn (pc := 24) hexec hb dX9_cell_24 (by rw [hc3]; decide) (by rw [hc3]; decide) (by rw [hc3]; rfl) (tgt := 95) rfl ?_
      refine lv_aload_n (pc := 95) hexec hb dX9_cell_95 rfl (lv_at hl 0 rfl) ?_
      refine lv_iload_n (pc := 96) hexec hb dX9_cell_96 rfl (lv_at hl 1 rfl) ?_
      obtain ⟨r97, hc, hf⟩ := bd1_e hf
      refine kVp (pc := 97) (S := ⟨hexec, hb, hml, hown, hts⟩) hP hD hG hA hS [0, 1] [] [0, 1] (w2 := (w_X9_cell g a0 a1 u0_1 u0_2 u0_3 u0_4 u0_5 u0_6 u0_8 u0_9 u0_10 u0_11 u0_12 u0_13 u0_14 u0_15 u0_16 u0_17 u0_18 u0_19 u0_20 u0_21 u0_22 u0_23 u0_24 u0_25 u0_26 u0_27 u0_28 u0_29 u0_30 x0_thrown_1 y1_s)) rfl rfl rfl rfl rfl rfl (by decide) (c_X9_letterAt l g a0 a1 _ u0_1 u0_2 u0_3 u0_4 u0_5 u0_6 (.int x0_thrown_1) u0_8 u0_9 u0_10 u0_11 u0_12 u0_13 u0_14 u0_15 u0_16 u0_17 u0_18 u0_19 u0_20 u0_21 u0_22 u0_23 u0_24 u0_25 u0_26 u0_27 u0_28 u0_29 u0_30 y1_s p1 r97 hc) gX9_cell_X9_letterAt rfl hv_X9_letterAt ⟨nle rfl, nle rfl⟩ 9 0 rfl rfl rfl (rest := []) rfl rfl hl.1 (nle rfl) dX9_cell_97 (fun H locs hP hD hS => ?_)
      cases hf
      exact ke_i hQ hexec hb hr hP hD hS dX9_cell_100 hlocks
    rcases ite_or hf with ⟨hc4, hf⟩ | ⟨hc4, hf⟩
    · refine lv_tableIn (pc := 24) hexec hb dX9_cell_24 (by rw [hc4]; decide) (by rw [hc4]; decide) (by rw [hc4]; rfl) (tgt := 101) rfl ?_
      refine lv_aload_n (pc := 101) hexec hb dX9_cell_101 rfl (lv_at hl 0 rfl) ?_
      refine lv_iload_n (pc := 102) hexec hb dX9_cell_102 rfl (lv_at hl 1 rfl) ?_
      obtain ⟨r103, hc, hf⟩ := bd1_e hf
      refine kVp (pc := 103) (S := ⟨hexec, hb, hml, hown, hts⟩) hP hD hG hA hS [0, 1] [] [0, 1] (w2 := (w_X9_cell g a0 a1 u0_1 u0_2 u0_3 u0_4 u0_5 u0_6 u0_8 u0_9 u0_10 u0_11 u0_12 u0_13 u0_14 u0_15 u0_16 u0_17 u0_18 u0_19 u0_20 u0_21 u0_22 u0_23 u0_24 u0_25 u0_26 u0_27 u0_28 u0_29 u0_30 x0_thrown_1 y1_s)) rfl rfl rfl rfl rfl rfl (by decide) (c_X9_namesIn l g a0 a1 _ u0_1 u0_2 u0_3 u0_4 u0_5 u0_6 (.int x0_thrown_1) u0_8 u0_9 u0_10 u0_11 u0_12 u0_13 u0_14 u0_15 u0_16 u0_17 u0_18 u0_19 u0_20 u0_21 u0_22 u0_23 u0_24 u0_25 u0_26 u0_27 u0_28 u0_29 u0_30 y1_s p1 r103 hc) gX9_cell_X9_namesIn rfl hv_X9_namesIn ⟨nle rfl, nle rfl⟩ 9 0 rfl rfl rfl (rest := []) rfl rfl hl.1 (nle rfl) dX9_cell_103 (fun H locs hP hD hS => ?_)
      cases hf
      exact ke_i hQ hexec hb hr hP hD hS dX9_cell_106 hlocks
    refine lv_tableOut (pc := 24) hexec hb dX9_cell_24 (by have z := fun k : Int32 => @Int32.toInt_inj p2 k; have h0 := fun h => hc0 ((z 0).mp h); have h1 := fun h => hc1 ((z 1).mp h); have h2 := fun h => hc2 ((z 2).mp h); have h3 := fun h => hc3 ((z 3).mp h); have h4 := fun h => hc4 ((z 4).mp h); omega) (tgt := 107) rfl ?_
    refine lv_aload_n (pc := 107) hexec hb dX9_cell_107 rfl (lv_at hl 0 rfl) ?_
    refine lv_iload_n (pc := 108) hexec hb dX9_cell_108 rfl (lv_at hl 1 rfl) ?_
    obtain ⟨r109, hc, hf⟩ := bd1_e hf
    refine kVp (pc := 109) (S := ⟨hexec, hb, hml, hown, hts⟩) hP hD hG hA hS [0, 1] [] [0, 1] (w2 := (w_X9_cell g a0 a1 u0_1 u0_2 u0_3 u0_4 u0_5 u0_6 u0_8 u0_9 u0_10 u0_11 u0_12 u0_13 u0_14 u0_15 u0_16 u0_17 u0_18 u0_19 u0_20 u0_21 u0_22 u0_23 u0_24 u0_25 u0_26 u0_27 u0_28 u0_29 u0_30 x0_thrown_1 y1_s)) rfl rfl rfl rfl rfl rfl (by decide) (c_X9_depthOf l g a0 a1 _ u0_1 u0_2 u0_3 u0_4 u0_5 u0_6 (.int x0_thrown_1) u0_8 u0_9 u0_10 u0_11 u0_12 u0_13 u0_14 u0_15 u0_16 u0_17 u0_18 u0_19 u0_20 u0_21 u0_22 u0_23 u0_24 u0_25 u0_26 u0_27 u0_28 u0_29 u0_30 y1_s p1 r109 hc) gX9_cell_X9_depthOf rfl hv_X9_depthOf ⟨nle rfl, nle rfl⟩ 9 0 rfl rfl rfl (rest := []) rfl rfl hl.1 (nle rfl) dX9_cell_109 (fun H locs hP hD hS => ?_)
    cases hf
    exact ke_i hQ hexec hb hr hP hD hS dX9_cell_112 hlocks
  · refine lv_iconst (pc := 21) hexec hb dX9_cell_21 ki_0 ?_
    cases hf
    exact ke_i hQ hexec hb hr hP hD hS dX9_cell_22 hlocks
abbrev w_X9_timesIn (g : GE) (a0 a1 : Nat) (u0_1 u0_2 u0_3 u0_4 u0_5 u0_6 u0_7 u0_8 u0_9 u0_10 u0_11 u0_12 u0_13 u0_14 u0_15 u0_16 u0_17 u0_18 u0_19 u0_20 u0_21 u0_22 u0_23 u0_24 u0_25 u0_26 u0_27 u0_28 u0_29 u0_30 : Value) (y1_s : Nat → Int32) : va_W := [(a0, .inr (9, [.ref a1, u0_1, u0_2, u0_3, u0_4, u0_5, u0_6, u0_7, u0_8, u0_9, u0_10, u0_11, u0_12, u0_13, u0_14, u0_15, u0_16, u0_17, u0_18, u0_19, u0_20, u0_21, u0_22, u0_23, u0_24, u0_25, u0_26, u0_27, u0_28, u0_29, u0_30])), (a1, .inl (g.2.1 0, 552, .inl y1_s))]
noncomputable def f_X9_timesIn (y1_s : Nat → Int32) (p1 : Int32) : Option (Int32) :=
  bv (fun (v2 : Int32) (v3 : Int32) => ((
    ar 4 552 <|
    (if (y1_s (4 : Int32).toNatClampNeg) ≤ v3 then (
      some (.inr v2)
    ) else (
      ar (536 + v3) 552 <|
      bv (fun (t34 : Int32) => ((
        bv (v2 + t34) fun v2_2 =>
        bv (v3 + 1) fun v3_1 =>
        some (.inl (v2_2, v3_1))
        ) : Option ((Int32 × Int32) ⊕ (Int32)))) fun j34 =>
      (if (y1_s (536 + v3).toNatClampNeg) = p1 then (
        j34 1
      ) else (
        j34 0
      ))
    ))
    ) : Option ((Int32 × Int32) ⊕ (Int32)))) fun l4 =>
  bd1 (lq2 l4 0 0) fun (v2_1 : Int32) =>
  some v2_1
set_option maxRecDepth 4000 in
theorem c_X9_timesIn (l : Launch) (g : GE) (a0 a1 : Nat) (sz : Nat) (u0_1 u0_2 u0_3 u0_4 u0_5 u0_6 u0_7 u0_8 u0_9 u0_10 u0_11 u0_12 u0_13 u0_14 u0_15 u0_16 u0_17 u0_18 u0_19 u0_20 u0_21 u0_22 u0_23 u0_24 u0_25 u0_26 u0_27 u0_28 u0_29 u0_30 : Value) (y1_s : Nat → Int32) (p1 : Int32) (r : Int32) (hf : f_X9_timesIn y1_s p1 = some r) : MI l g yX9_timesIn wsX9_timesIn 1 24 [.ref a0, .int p1] (w_X9_timesIn g a0 a1 u0_1 u0_2 u0_3 u0_4 u0_5 u0_6 u0_7 u0_8 u0_9 u0_10 u0_11 u0_12 u0_13 u0_14 u0_15 u0_16 u0_17 u0_18 u0_19 u0_20 u0_21 u0_22 u0_23 u0_24 u0_25 u0_26 u0_27 u0_28 u0_29 u0_30 y1_s) sz (some (.int r)) (w_X9_timesIn g a0 a1 u0_1 u0_2 u0_3 u0_4 u0_5 u0_6 u0_7 u0_8 u0_9 u0_10 u0_11 u0_12 u0_13 u0_14 u0_15 u0_16 u0_17 u0_18 u0_19 u0_20 u0_21 u0_22 u0_23 u0_24 u0_25 u0_26 u0_27 u0_28 u0_29 u0_30 y1_s) := by
  refine MI.start (cc := cX9_timesIn) (maxL := 4) (ret := (some .int)) rfl rfl (nle rfl) ?_
  intro p e s m args below meth c A ls Q hQ hexec hb hr hts hown hlocks hml hA hP hD hG hS hl
  unfold f_X9_timesIn at hf
  have hWX9 : ∀ w ∈ wsX90, w.before args s = true := fun w h => hts w (List.mem_cons_of_mem _ (List.mem_append_right _ h))
  have hS : va_S A s.heap s.heap [] := hS
  refine lv_iconst (pc := 0) hexec hb dX9_timesIn_0 ki_0 ?_
  refine lv_istore_n (pc := 1) hexec hb dX9_timesIn_1 rfl hl (nle rfl) rfl (fun ls (hl : lv_has ls 4 [(2, .int 0), (0, .ref a0), (1, .int p1)]) => ?_)
  refine lv_iconst (pc := 2) hexec hb dX9_timesIn_2 ki_0 ?_
  refine lv_istore_n (pc := 3) hexec hb dX9_timesIn_3 rfl hl (nle rfl) rfl (fun ls (hl : lv_has ls 4 [(3, .int 0), (2, .int 0), (0, .ref a0), (1, .int p1)]) => ?_)
  obtain ⟨l4, el4, hf⟩ := bvf2 hf
  obtain ⟨v2_1, hz, hf⟩ := bd1_e hf
  have hE4 : ∀ (H : Heap) (locs : List Loc) (ls : Array Slot), va_P g.1 vwCl (w_X9_timesIn g a0 a1 u0_1 u0_2 u0_3 u0_4 u0_5 u0_6 u0_7 u0_8 u0_9 u0_10 u0_11 u0_12 u0_13 u0_14 u0_15 u0_16 u0_17 u0_18 u0_19 u0_20 u0_21 u0_22 u0_23 u0_24 u0_25 u0_26 u0_27 u0_28 u0_29 u0_30 y1_s) H → va_D A (w_X9_timesIn g a0 a1 u0_1 u0_2 u0_3 u0_4 u0_5 u0_6 u0_7 u0_8 u0_9 u0_10 u0_11 u0_12 u0_13 u0_14 u0_15 u0_16 u0_17 u0_18 u0_19 u0_20 u0_21 u0_22 u0_23 u0_24 u0_25 u0_26 u0_27 u0_28 u0_29 u0_30 y1_s) → va_S A s.heap H locs → lv_has ls 4 [(2, .int v2_1)] → W p l e (RM 1 24) s m args below meth c H locs 0 0 Q (F0 m 42 ls []) := by
    intro H locs ls hP hD hS hl
    refine lv_iload_n (pc := 42) hexec hb dX9_timesIn_42 rfl (lv_at hl 0 rfl) ?_
    cases hf
    exact ke_i hQ hexec hb hr hP hD hS dX9_timesIn_43 hlocks
  obtain ⟨n, hz⟩ := lq2_e hz
  have hL4 : ∀ (n : Nat) (v2 : Int32) (v3 : Int32) (H : Heap) (locs : List Loc) (ls : Array Slot), it2 l4 n v2 v3 = some v2_1 → va_P g.1 vwCl (w_X9_timesIn g a0 a1 u0_1 u0_2 u0_3 u0_4 u0_5 u0_6 u0_7 u0_8 u0_9 u0_10 u0_11 u0_12 u0_13 u0_14 u0_15 u0_16 u0_17 u0_18 u0_19 u0_20 u0_21 u0_22 u0_23 u0_24 u0_25 u0_26 u0_27 u0_28 u0_29 u0_30 y1_s) H → va_D A (w_X9_timesIn g a0 a1 u0_1 u0_2 u0_3 u0_4 u0_5 u0_6 u0_7 u0_8 u0_9 u0_10 u0_11 u0_12 u0_13 u0_14 u0_15 u0_16 u0_17 u0_18 u0_19 u0_20 u0_21 u0_22 u0_23 u0_24 u0_25 u0_26 u0_27 u0_28 u0_29 u0_30 y1_s) → va_S A s.heap H locs → lv_has ls 4 [(0, .ref a0), (1, .int p1), (2, .int v2), (3, .int v3)] → W p l e (RM 1 24) s m args below meth c H locs 0 0 Q (F0 m 4 ls []) := by
    intro n
    induction n with
    | zero =>
      intro v2 v3 H locs ls hf hP hD hS hl
      exact it2_0 hf
    | succ n4 ih4 =>
      intro v2 v3 H locs ls hf hP hD hS hl
      obtain ⟨q4, hf, hk4⟩ := it2_e hf
      have hf := (el4 v2 v3).symm.trans hf
      refine lv_iload_n (pc := 4) hexec hb dX9_timesIn_4 rfl (lv_at hl 3 rfl) ?_
      refine lv_aload_n (pc := 5) hexec hb dX9_timesIn_5 rfl (lv_at hl 0 rfl) ?_
      refine kg_get (pc := 6) hexec hb (own := RX9) hWX9 hown hG hP 0 rfl rfl 0 (nle rfl) (hts _ (List.mem_cons_of_mem _ (List.mem_append_left _ (List.mem_of_getElem? (i := 0) rfl)))) rfl rfl dX9_timesIn_6 ?_
      refine lv_iconst (pc := 9) hexec hb dX9_timesIn_9 ki_4 ?_
      refine kr_iald (pc := 10) hexec hb hG hP 1 rfl hf dX9_timesIn_10 (fun hf => ?_)
      refine ki_ge (pc := 11) hexec hb dX9_timesIn_11 (tgt := 42) rfl hf (fun hc hf => ?_) (fun hc hf => ?_)
      · cases sr2 hf hk4
        exact hE4 _ _ _ hP hD hS (lv_sub hl [2] rfl)
      · refine lv_iload_n (pc := 14) hexec hb dX9_timesIn_14 rfl (lv_at hl 2 rfl) ?_
        refine lv_aload_n (pc := 15) hexec hb dX9_timesIn_15 rfl (lv_at hl 0 rfl) ?_
        refine kg_get (pc := 16) hexec hb (own := RX9) hWX9 hown hG hP 0 rfl rfl 0 (nle rfl) (hts _ (List.mem_cons_of_mem _ (List.mem_append_left _ (List.mem_of_getElem? (i := 0) rfl)))) rfl rfl dX9_timesIn_16 ?_
        refine lv_sipush (pc := 19) hexec hb dX9_timesIn_19 ks_536 ?_
        refine lv_iload_n (pc := 22) hexec hb dX9_timesIn_22 rfl (lv_at hl 3 rfl) ?_
        refine lv_iadd (pc := 23) hexec hb dX9_timesIn_23 ?_
        refine kr_iald (pc := 24) hexec hb hG hP 1 rfl hf dX9_timesIn_24 (fun hf => ?_)
        refine lv_iload_n (pc := 25) hexec hb dX9_timesIn_25 rfl (lv_at hl 1 rfl) ?_
        obtain ⟨j34, ej34, hf⟩ := bvf1 hf
        have hj34 : ∀ (t34 : Int32) (H : Heap) (locs : List Loc) (ls : Array Slot), j34 t34 = some q4 → va_P g.1 vwCl (w_X9_timesIn g a0 a1 u0_1 u0_2 u0_3 u0_4 u0_5 u0_6 u0_7 u0_8 u0_9 u0_10 u0_11 u0_12 u0_13 u0_14 u0_15 u0_16 u0_17 u0_18 u0_19 u0_20 u0_21 u0_22 u0_23 u0_24 u0_25 u0_26 u0_27 u0_28 u0_29 u0_30 y1_s) H → va_D A (w_X9_timesIn g a0 a1 u0_1 u0_2 u0_3 u0_4 u0_5 u0_6 u0_7 u0_8 u0_9 u0_10 u0_11 u0_12 u0_13 u0_14 u0_15 u0_16 u0_17 u0_18 u0_19 u0_20 u0_21 u0_22 u0_23 u0_24 u0_25 u0_26 u0_27 u0_28 u0_29 u0_30 y1_s) → va_S A s.heap H locs → lv_has ls 4 [(0, .ref a0), (1, .int p1), (3, .int v3)] → W p l e (RM 1 24) s m args below meth c H locs 0 0 Q (F0 m 34 ls [.int t34, .int v2]) := by
          intro t34 H locs ls hf hP hD hS hl
          have hf := (ej34 t34).symm.trans hf
          refine lv_iadd (pc := 34) hexec hb dX9_timesIn_34 ?_
          obtain ⟨v2_2, ev2_2, hf⟩ := bv_e hf
          refine kn_i ev2_2 ?_
          refine lv_istore_n (pc := 35) hexec hb dX9_timesIn_35 rfl hl (nle rfl) rfl (fun ls (hl : lv_has ls 4 [(2, .int v2_2), (0, .ref a0), (1, .int p1), (3, .int v3)]) => ?_)
          obtain ⟨v3_1, ev3_1, hf⟩ := bv_e hf
          refine k_iinc (pc := 36) hexec hb dX9_timesIn_36 kq_1 hl (k := 3) rfl ev3_1 (nle rfl) rfl (fun ls (hl : lv_has ls 4 [(3, .int v3_1), (2, .int v2_2), (0, .ref a0), (1, .int p1)]) => ?_)
          refine lv_goto (pc := 39) hexec hb dX9_timesIn_39 (tgt := 4) rfl ?_
          exact ih4 _ _ _ _ _ (sl2 hf hk4) hP hD hS (lv_sub hl [2, 3, 1, 0] rfl)
        refine ki_ne (pc := 26) hexec hb dX9_timesIn_26 (tgt := 33) rfl hf (fun hc hf => ?_) (fun hc hf => ?_)
        · refine lv_iconst (pc := 33) hexec hb dX9_timesIn_33 ki_0 ?_
          exact hj34 _ _ _ _ hf hP hD hS (lv_sub hl [0, 1, 3] rfl)
        · refine lv_iconst (pc := 29) hexec hb dX9_timesIn_29 ki_1 ?_
          refine lv_goto (pc := 30) hexec hb dX9_timesIn_30 (tgt := 34) rfl ?_
          exact hj34 _ _ _ _ hf hP hD hS (lv_sub hl [0, 1, 3] rfl)
  exact hL4 n _ _ _ _ _ hz hP hD hS (lv_sub hl [2, 3, 1, 0] rfl)
abbrev w_X9_harbour (g : GE) (a0 a1 : Nat) (u0_1 u0_2 u0_3 u0_4 u0_5 u0_6 u0_8 u0_9 u0_10 u0_11 u0_12 u0_13 u0_14 u0_15 u0_16 u0_17 u0_18 u0_19 u0_20 u0_21 u0_22 u0_23 u0_24 u0_25 u0_26 u0_27 u0_28 u0_29 u0_30 : Value) (x0_thrown : Int32) (y1_s : Nat → Int32) : va_W := [(a0, .inr (9, [.ref a1, u0_1, u0_2, u0_3, u0_4, u0_5, u0_6, .int x0_thrown, u0_8, u0_9, u0_10, u0_11, u0_12, u0_13, u0_14, u0_15, u0_16, u0_17, u0_18, u0_19, u0_20, u0_21, u0_22, u0_23, u0_24, u0_25, u0_26, u0_27, u0_28, u0_29, u0_30])), (a1, .inl (g.2.1 0, 552, .inl y1_s))]
noncomputable def f_X9_harbour (x0_thrown : Int32) (y1_s : Nat → Int32) (p1 : Int32) (p2 : Int32) : Option (Int32 × Int32) :=
  bd1 (f_X9_isHarbour y1_s p1) fun (r3 : Int32) =>
  bd1 (f_X9_isIn (p2.toInt64) 0 4) fun (r12 : Int32) =>
  bd2 (f_X9_passes x0_thrown r3 r12) fun (r15 : Int32) (x0_thrown_1 : Int32) =>
  (if r15 = 0 then (
    some (0, x0_thrown_1)
  ) else (
    (if p2 = 4 then (
      bd1 (f_X9_timesIn y1_s p1) fun (r30 : Int32) =>
      some (r30, x0_thrown_1)
    ) else (
      bd1 (f_X9_of y1_s p1 p2) fun (r39 : Int32) =>
      some (r39, x0_thrown_1)
    ))
  ))
set_option maxRecDepth 4000 in
theorem c_X9_harbour (l : Launch) (g : GE) (a0 a1 : Nat) (sz : Nat) (u0_1 u0_2 u0_3 u0_4 u0_5 u0_6 u0_8 u0_9 u0_10 u0_11 u0_12 u0_13 u0_14 u0_15 u0_16 u0_17 u0_18 u0_19 u0_20 u0_21 u0_22 u0_23 u0_24 u0_25 u0_26 u0_27 u0_28 u0_29 u0_30 : Value) (x0_thrown : Int32) (y1_s : Nat → Int32) (p1 : Int32) (p2 : Int32) (r : Int32) (o_x0_thrown : Int32) (hf : f_X9_harbour x0_thrown y1_s p1 p2 = some (r, o_x0_thrown)) : MI l g yX9_harbour wsX9_harbour 3 70 [.ref a0, .int p1, .int p2] (w_X9_harbour g a0 a1 u0_1 u0_2 u0_3 u0_4 u0_5 u0_6 u0_8 u0_9 u0_10 u0_11 u0_12 u0_13 u0_14 u0_15 u0_16 u0_17 u0_18 u0_19 u0_20 u0_21 u0_22 u0_23 u0_24 u0_25 u0_26 u0_27 u0_28 u0_29 u0_30 x0_thrown y1_s) sz (some (.int r)) (w_X9_harbour g a0 a1 u0_1 u0_2 u0_3 u0_4 u0_5 u0_6 u0_8 u0_9 u0_10 u0_11 u0_12 u0_13 u0_14 u0_15 u0_16 u0_17 u0_18 u0_19 u0_20 u0_21 u0_22 u0_23 u0_24 u0_25 u0_26 u0_27 u0_28 u0_29 u0_30 o_x0_thrown y1_s) := by
  refine MI.start (cc := cX9_harbour) (maxL := 3) (ret := (some .int)) rfl rfl (nle rfl) ?_
  intro p e s m args below meth c A ls Q hQ hexec hb hr hts hown hlocks hml hA hP hD hG hS hl
  unfold f_X9_harbour at hf
  have hWX9 : ∀ w ∈ wsX90, w.before args s = true := fun w h => hts w (List.mem_cons_of_mem _ (List.mem_append_right _ h))
  have hS : va_S A s.heap s.heap [] := hS
  refine lv_aload_n (pc := 0) hexec hb dX9_harbour_0 rfl (lv_at hl 0 rfl) ?_
  refine lv_aload_n (pc := 1) hexec hb dX9_harbour_1 rfl (lv_at hl 0 rfl) ?_
  refine lv_iload_n (pc := 2) hexec hb dX9_harbour_2 rfl (lv_at hl 1 rfl) ?_
  obtain ⟨r3, hc, hf⟩ := bd1_e hf
  refine kVp (pc := 3) (S := ⟨hexec, hb, hml, hown, hts⟩) hP hD hG hA hS [0, 1] [] [0, 1] (w2 := (w_X9_harbour g a0 a1 u0_1 u0_2 u0_3 u0_4 u0_5 u0_6 u0_8 u0_9 u0_10 u0_11 u0_12 u0_13 u0_14 u0_15 u0_16 u0_17 u0_18 u0_19 u0_20 u0_21 u0_22 u0_23 u0_24 u0_25 u0_26 u0_27 u0_28 u0_29 u0_30 x0_thrown y1_s)) rfl rfl rfl rfl rfl rfl (by decide) (c_X9_isHarbour l g a0 a1 _ u0_1 u0_2 u0_3 u0_4 u0_5 u0_6 (.int x0_thrown) u0_8 u0_9 u0_10 u0_11 u0_12 u0_13 u0_14 u0_15 u0_16 u0_17 u0_18 u0_19 u0_20 u0_21 u0_22 u0_23 u0_24 u0_25 u0_26 u0_27 u0_28 u0_29 u0_30 y1_s p1 r3 hc) gX9_harbour_X9_isHarbour rfl hv_X9_isHarbour ⟨nle rfl, nle rfl⟩ 9 0 rfl rfl rfl (rest := [.ref a0]) rfl rfl hl.1 (nle rfl) dX9_harbour_3 (fun H locs hP hD hS => ?_)
  refine lv_iload_n (pc := 6) hexec hb dX9_harbour_6 rfl (lv_at hl 2 rfl) ?_
  refine lv_i2l (pc := 7) hexec hb dX9_harbour_7 rfl ?_
  refine lv_lconst (pc := 8) hexec hb dX9_harbour_8 kl_0 ?_
  refine lv_ldc2 (pc := 9) hexec hb (own := RX9) hown (hts _ (List.mem_cons_of_mem _ (List.mem_append_left _ (List.mem_of_getElem? (i := 0) rfl)))) dX9_harbour_9 ?_
  obtain ⟨r12, hc, hf⟩ := bd1_e hf
  refine kSp (pc := 12) (S := ⟨hexec, hb, hml, hown, hts⟩) hP hD hG hA hS [] [0, 1] [0, 1] (w2 := (w_X9_harbour g a0 a1 u0_1 u0_2 u0_3 u0_4 u0_5 u0_6 u0_8 u0_9 u0_10 u0_11 u0_12 u0_13 u0_14 u0_15 u0_16 u0_17 u0_18 u0_19 u0_20 u0_21 u0_22 u0_23 u0_24 u0_25 u0_26 u0_27 u0_28 u0_29 u0_30 x0_thrown y1_s)) rfl rfl rfl rfl rfl rfl (by decide) (c_X9_isIn l g _ (p2.toInt64) 0 4 r12 hc) gX9_harbour_X9_isIn rfl hs_X9_isIn ⟨nle rfl, nle rfl⟩ (rest := [.int r3, .ref a0]) rfl rfl hl.1 (nle rfl) dX9_harbour_12 (fun H locs hP hD hS => ?_)
  obtain ⟨r15, x0_thrown_1, hc, hf⟩ := bd2_e hf
  refine kVp (pc := 15) (S := ⟨hexec, hb, hml, hown, hts⟩) hP hD hG hA hS [0] [1] [1, 0] (w2 := (w_X9_harbour g a0 a1 u0_1 u0_2 u0_3 u0_4 u0_5 u0_6 u0_8 u0_9 u0_10 u0_11 u0_12 u0_13 u0_14 u0_15 u0_16 u0_17 u0_18 u0_19 u0_20 u0_21 u0_22 u0_23 u0_24 u0_25 u0_26 u0_27 u0_28 u0_29 u0_30 x0_thrown_1 y1_s)) rfl rfl rfl rfl rfl rfl (by decide) (c_X9_passes l g a0 _ (.ref a1) u0_1 u0_2 u0_3 u0_4 u0_5 u0_6 u0_8 u0_9 u0_10 u0_11 u0_12 u0_13 u0_14 u0_15 u0_16 u0_17 u0_18 u0_19 u0_20 u0_21 u0_22 u0_23 u0_24 u0_25 u0_26 u0_27 u0_28 u0_29 u0_30 x0_thrown r3 r12 r15 x0_thrown_1 hc) gX9_harbour_X9_passes rfl hv_X9_passes ⟨nle rfl, nle rfl⟩ 9 0 rfl rfl rfl (rest := []) rfl rfl hl.1 (nle rfl) dX9_harbour_15 (fun H locs hP hD hS => ?_)
  refine kb_ne (pc := 18) hexec hb dX9_harbour_18 (tgt := 23) rfl hf (fun hc hf => ?_) (fun hc hf => ?_)
  · refine lv_iload_n (pc := 23) hexec hb dX9_harbour_23 rfl (lv_at hl 2 rfl) ?_
    refine lv_iconst (pc := 24) hexec hb dX9_harbour_24 ki_4 ?_
    refine ki_ne (pc := 25) hexec hb dX9_harbour_25 (tgt := 36) rfl hf (fun hc hf => ?_) (fun hc hf => ?_)
    · refine lv_aload_n (pc := 36) hexec hb dX9_harbour_36 rfl (lv_at hl 0 rfl) ?_
      refine lv_iload_n (pc := 37) hexec hb dX9_harbour_37 rfl (lv_at hl 1 rfl) ?_
      refine lv_iload_n (pc := 38) hexec hb dX9_harbour_38 rfl (lv_at hl 2 rfl) ?_
      obtain ⟨r39, hc, hf⟩ := bd1_e hf
      refine kVp (pc := 39) (S := ⟨hexec, hb, hml, hown, hts⟩) hP hD hG hA hS [0, 1] [] [0, 1] (w2 := (w_X9_harbour g a0 a1 u0_1 u0_2 u0_3 u0_4 u0_5 u0_6 u0_8 u0_9 u0_10 u0_11 u0_12 u0_13 u0_14 u0_15 u0_16 u0_17 u0_18 u0_19 u0_20 u0_21 u0_22 u0_23 u0_24 u0_25 u0_26 u0_27 u0_28 u0_29 u0_30 x0_thrown_1 y1_s)) rfl rfl rfl rfl rfl rfl (by decide) (c_X9_of l g a0 a1 _ u0_1 u0_2 u0_3 u0_4 u0_5 u0_6 (.int x0_thrown_1) u0_8 u0_9 u0_10 u0_11 u0_12 u0_13 u0_14 u0_15 u0_16 u0_17 u0_18 u0_19 u0_20 u0_21 u0_22 u0_23 u0_24 u0_25 u0_26 u0_27 u0_28 u0_29 u0_30 y1_s p1 p2 r39 hc) gX9_harbour_X9_of rfl hv_X9_of ⟨nle rfl, nle rfl⟩ 9 0 rfl rfl rfl (rest := []) rfl rfl hl.1 (nle rfl) dX9_harbour_39 (fun H locs hP hD hS => ?_)
      cases hf
      exact ke_i hQ hexec hb hr hP hD hS dX9_harbour_42 hlocks
    · refine lv_aload_n (pc := 28) hexec hb dX9_harbour_28 rfl (lv_at hl 0 rfl) ?_
      refine lv_iload_n (pc := 29) hexec hb dX9_harbour_29 rfl (lv_at hl 1 rfl) ?_
      obtain ⟨r30, hc, hf⟩ := bd1_e hf
      refine kVp (pc := 30) (S := ⟨hexec, hb, hml, hown, hts⟩) hP hD hG hA hS [0, 1] [] [0, 1] (w2 := (w_X9_harbour g a0 a1 u0_1 u0_2 u0_3 u0_4 u0_5 u0_6 u0_8 u0_9 u0_10 u0_11 u0_12 u0_13 u0_14 u0_15 u0_16 u0_17 u0_18 u0_19 u0_20 u0_21 u0_22 u0_23 u0_24 u0_25 u0_26 u0_27 u0_28 u0_29 u0_30 x0_thrown_1 y1_s)) rfl rfl rfl rfl rfl rfl (by decide) (c_X9_timesIn l g a0 a1 _ u0_1 u0_2 u0_3 u0_4 u0_5 u0_6 (.int x0_thrown_1) u0_8 u0_9 u0_10 u0_11 u0_12 u0_13 u0_14 u0_15 u0_16 u0_17 u0_18 u0_19 u0_20 u0_21 u0_22 u0_23 u0_24 u0_25 u0_26 u0_27 u0_28 u0_29 u0_30 y1_s p1 r30 hc) gX9_harbour_X9_timesIn rfl hv_X9_timesIn ⟨nle rfl, nle rfl⟩ 9 0 rfl rfl rfl (rest := []) rfl rfl hl.1 (nle rfl) dX9_harbour_30 (fun H locs hP hD hS => ?_)
      refine lv_goto (pc := 33) hexec hb dX9_harbour_33 (tgt := 42) rfl ?_
      cases hf
      exact ke_i hQ hexec hb hr hP hD hS dX9_harbour_42 hlocks
  · refine lv_iconst (pc := 21) hexec hb dX9_harbour_21 ki_0 ?_
    cases hf
    exact ke_i hQ hexec hb hr hP hD hS dX9_harbour_22 hlocks
abbrev w_X9_mayHarbour (g : GE) (a0 a1 : Nat) (u0_1 u0_2 u0_3 u0_4 u0_5 u0_6 u0_8 u0_9 u0_10 u0_11 u0_12 u0_13 u0_14 u0_15 u0_16 u0_17 u0_18 u0_19 u0_20 u0_21 u0_22 u0_23 u0_24 u0_25 u0_26 u0_27 u0_28 u0_29 u0_30 : Value) (x0_thrown : Int32) (y1_s : Nat → Int32) : va_W := [(a0, .inr (9, [.ref a1, u0_1, u0_2, u0_3, u0_4, u0_5, u0_6, .int x0_thrown, u0_8, u0_9, u0_10, u0_11, u0_12, u0_13, u0_14, u0_15, u0_16, u0_17, u0_18, u0_19, u0_20, u0_21, u0_22, u0_23, u0_24, u0_25, u0_26, u0_27, u0_28, u0_29, u0_30])), (a1, .inl (g.2.1 0, 552, .inl y1_s))]
noncomputable def f_X9_mayHarbour (x0_thrown : Int32) (y1_s : Nat → Int32) (p1 : Int32) : Option (Int32 × Int32) :=
  bd1 (f_X9_isHarbour y1_s p1) fun (r3 : Int32) =>
  bd2 (f_X9_passes x0_thrown r3 1) fun (r7 : Int32) (x0_thrown_1 : Int32) =>
  zb r7 (some (r7, x0_thrown_1))
set_option maxRecDepth 4000 in
theorem c_X9_mayHarbour (l : Launch) (g : GE) (a0 a1 : Nat) (sz : Nat) (u0_1 u0_2 u0_3 u0_4 u0_5 u0_6 u0_8 u0_9 u0_10 u0_11 u0_12 u0_13 u0_14 u0_15 u0_16 u0_17 u0_18 u0_19 u0_20 u0_21 u0_22 u0_23 u0_24 u0_25 u0_26 u0_27 u0_28 u0_29 u0_30 : Value) (x0_thrown : Int32) (y1_s : Nat → Int32) (p1 : Int32) (r : Int32) (o_x0_thrown : Int32) (hf : f_X9_mayHarbour x0_thrown y1_s p1 = some (r, o_x0_thrown)) : MI l g yX9_mayHarbour wsX9_mayHarbour 3 70 [.ref a0, .int p1] (w_X9_mayHarbour g a0 a1 u0_1 u0_2 u0_3 u0_4 u0_5 u0_6 u0_8 u0_9 u0_10 u0_11 u0_12 u0_13 u0_14 u0_15 u0_16 u0_17 u0_18 u0_19 u0_20 u0_21 u0_22 u0_23 u0_24 u0_25 u0_26 u0_27 u0_28 u0_29 u0_30 x0_thrown y1_s) sz (some (.int r)) (w_X9_mayHarbour g a0 a1 u0_1 u0_2 u0_3 u0_4 u0_5 u0_6 u0_8 u0_9 u0_10 u0_11 u0_12 u0_13 u0_14 u0_15 u0_16 u0_17 u0_18 u0_19 u0_20 u0_21 u0_22 u0_23 u0_24 u0_25 u0_26 u0_27 u0_28 u0_29 u0_30 o_x0_thrown y1_s) := by
  refine MI.start (cc := cX9_mayHarbour) (maxL := 2) (ret := (some .boolean)) rfl rfl (nle rfl) ?_
  intro p e s m args below meth c A ls Q hQ hexec hb hr hts hown hlocks hml hA hP hD hG hS hl
  unfold f_X9_mayHarbour at hf
  have hWX9 : ∀ w ∈ wsX90, w.before args s = true := fun w h => hts w (List.mem_cons_of_mem _ (List.mem_append_right _ h))
  have hS : va_S A s.heap s.heap [] := hS
  refine lv_aload_n (pc := 0) hexec hb dX9_mayHarbour_0 rfl (lv_at hl 0 rfl) ?_
  refine lv_aload_n (pc := 1) hexec hb dX9_mayHarbour_1 rfl (lv_at hl 0 rfl) ?_
  refine lv_iload_n (pc := 2) hexec hb dX9_mayHarbour_2 rfl (lv_at hl 1 rfl) ?_
  obtain ⟨r3, hc, hf⟩ := bd1_e hf
  refine kVp (pc := 3) (S := ⟨hexec, hb, hml, hown, hts⟩) hP hD hG hA hS [0, 1] [] [0, 1] (w2 := (w_X9_mayHarbour g a0 a1 u0_1 u0_2 u0_3 u0_4 u0_5 u0_6 u0_8 u0_9 u0_10 u0_11 u0_12 u0_13 u0_14 u0_15 u0_16 u0_17 u0_18 u0_19 u0_20 u0_21 u0_22 u0_23 u0_24 u0_25 u0_26 u0_27 u0_28 u0_29 u0_30 x0_thrown y1_s)) rfl rfl rfl rfl rfl rfl (by decide) (c_X9_isHarbour l g a0 a1 _ u0_1 u0_2 u0_3 u0_4 u0_5 u0_6 (.int x0_thrown) u0_8 u0_9 u0_10 u0_11 u0_12 u0_13 u0_14 u0_15 u0_16 u0_17 u0_18 u0_19 u0_20 u0_21 u0_22 u0_23 u0_24 u0_25 u0_26 u0_27 u0_28 u0_29 u0_30 y1_s p1 r3 hc) gX9_mayHarbour_X9_isHarbour rfl hv_X9_isHarbour ⟨nle rfl, nle rfl⟩ 9 0 rfl rfl rfl (rest := [.ref a0]) rfl rfl hl.1 (nle rfl) dX9_mayHarbour_3 (fun H locs hP hD hS => ?_)
  refine lv_iconst (pc := 6) hexec hb dX9_mayHarbour_6 ki_1 ?_
  obtain ⟨r7, x0_thrown_1, hc, hf⟩ := bd2_e hf
  refine kVp (pc := 7) (S := ⟨hexec, hb, hml, hown, hts⟩) hP hD hG hA hS [0] [1] [1, 0] (w2 := (w_X9_mayHarbour g a0 a1 u0_1 u0_2 u0_3 u0_4 u0_5 u0_6 u0_8 u0_9 u0_10 u0_11 u0_12 u0_13 u0_14 u0_15 u0_16 u0_17 u0_18 u0_19 u0_20 u0_21 u0_22 u0_23 u0_24 u0_25 u0_26 u0_27 u0_28 u0_29 u0_30 x0_thrown_1 y1_s)) rfl rfl rfl rfl rfl rfl (by decide) (c_X9_passes l g a0 _ (.ref a1) u0_1 u0_2 u0_3 u0_4 u0_5 u0_6 u0_8 u0_9 u0_10 u0_11 u0_12 u0_13 u0_14 u0_15 u0_16 u0_17 u0_18 u0_19 u0_20 u0_21 u0_22 u0_23 u0_24 u0_25 u0_26 u0_27 u0_28 u0_29 u0_30 x0_thrown r3 1 r7 x0_thrown_1 hc) gX9_mayHarbour_X9_passes rfl hv_X9_passes ⟨nle rfl, nle rfl⟩ 9 0 rfl rfl rfl (rest := []) rfl rfl hl.1 (nle rfl) dX9_mayHarbour_7 (fun H locs hP hD hS => ?_)
  obtain ⟨hx, hf⟩ := zb_e hf
  cases hf
  exact ke_z hQ hexec hb hr hx hP hD hS dX9_mayHarbour_10 hlocks
abbrev w_X9_letter (g : GE) (a0 a1 : Nat) (u0_1 u0_2 u0_3 u0_4 u0_5 u0_6 u0_8 u0_9 u0_10 u0_11 u0_12 u0_13 u0_14 u0_15 u0_16 u0_17 u0_18 u0_19 u0_20 u0_21 u0_22 u0_23 u0_24 u0_25 u0_26 u0_27 u0_28 u0_29 u0_30 : Value) (x0_thrown : Int32) (y1_s : Nat → Int32) : va_W := [(a0, .inr (9, [.ref a1, u0_1, u0_2, u0_3, u0_4, u0_5, u0_6, .int x0_thrown, u0_8, u0_9, u0_10, u0_11, u0_12, u0_13, u0_14, u0_15, u0_16, u0_17, u0_18, u0_19, u0_20, u0_21, u0_22, u0_23, u0_24, u0_25, u0_26, u0_27, u0_28, u0_29, u0_30])), (a1, .inl (g.2.1 0, 552, .inl y1_s))]
noncomputable def f_X9_letter (x0_thrown : Int32) (y1_s : Nat → Int32) (p1 : Int32) (p2 : Int32) : Option (Int32 × Int32) :=
  bd2 (f_X9_mayHarbour x0_thrown y1_s p1) fun (r2 : Int32) (x0_thrown_1 : Int32) =>
  (if r2 = 0 then (
    some (0, x0_thrown_1)
  ) else (
    bd1 (f_X9_of y1_s p1 3) fun (r16 : Int32) =>
    bd1 (f_X9_isIn (p2.toInt64) 0 (((r16 - 1)).toInt64)) fun (r22 : Int32) =>
    (if r22 = 0 then (
      some ((-1), x0_thrown_1)
    ) else (
      bd1 (f_X9_of y1_s p1 (4 + p2)) fun (r33 : Int32) =>
      some (r33, x0_thrown_1)
    ))
  ))
set_option maxRecDepth 4000 in
theorem c_X9_letter (l : Launch) (g : GE) (a0 a1 : Nat) (sz : Nat) (u0_1 u0_2 u0_3 u0_4 u0_5 u0_6 u0_8 u0_9 u0_10 u0_11 u0_12 u0_13 u0_14 u0_15 u0_16 u0_17 u0_18 u0_19 u0_20 u0_21 u0_22 u0_23 u0_24 u0_25 u0_26 u0_27 u0_28 u0_29 u0_30 : Value) (x0_thrown : Int32) (y1_s : Nat → Int32) (p1 : Int32) (p2 : Int32) (r : Int32) (o_x0_thrown : Int32) (hf : f_X9_letter x0_thrown y1_s p1 p2 = some (r, o_x0_thrown)) : MI l g yX9_letter wsX9_letter 4 91 [.ref a0, .int p1, .int p2] (w_X9_letter g a0 a1 u0_1 u0_2 u0_3 u0_4 u0_5 u0_6 u0_8 u0_9 u0_10 u0_11 u0_12 u0_13 u0_14 u0_15 u0_16 u0_17 u0_18 u0_19 u0_20 u0_21 u0_22 u0_23 u0_24 u0_25 u0_26 u0_27 u0_28 u0_29 u0_30 x0_thrown y1_s) sz (some (.int r)) (w_X9_letter g a0 a1 u0_1 u0_2 u0_3 u0_4 u0_5 u0_6 u0_8 u0_9 u0_10 u0_11 u0_12 u0_13 u0_14 u0_15 u0_16 u0_17 u0_18 u0_19 u0_20 u0_21 u0_22 u0_23 u0_24 u0_25 u0_26 u0_27 u0_28 u0_29 u0_30 o_x0_thrown y1_s) := by
  refine MI.start (cc := cX9_letter) (maxL := 3) (ret := (some .int)) rfl rfl (nle rfl) ?_
  intro p e s m args below meth c A ls Q hQ hexec hb hr hts hown hlocks hml hA hP hD hG hS hl
  unfold f_X9_letter at hf
  have hWX9 : ∀ w ∈ wsX90, w.before args s = true := fun w h => hts w (List.mem_cons_of_mem _ (List.mem_append_right _ h))
  have hS : va_S A s.heap s.heap [] := hS
  refine lv_aload_n (pc := 0) hexec hb dX9_letter_0 rfl (lv_at hl 0 rfl) ?_
  refine lv_iload_n (pc := 1) hexec hb dX9_letter_1 rfl (lv_at hl 1 rfl) ?_
  obtain ⟨r2, x0_thrown_1, hc, hf⟩ := bd2_e hf
  refine kVp (pc := 2) (S := ⟨hexec, hb, hml, hown, hts⟩) hP hD hG hA hS [0, 1] [] [0, 1] (w2 := (w_X9_letter g a0 a1 u0_1 u0_2 u0_3 u0_4 u0_5 u0_6 u0_8 u0_9 u0_10 u0_11 u0_12 u0_13 u0_14 u0_15 u0_16 u0_17 u0_18 u0_19 u0_20 u0_21 u0_22 u0_23 u0_24 u0_25 u0_26 u0_27 u0_28 u0_29 u0_30 x0_thrown_1 y1_s)) rfl rfl rfl rfl rfl rfl (by decide) (c_X9_mayHarbour l g a0 a1 _ u0_1 u0_2 u0_3 u0_4 u0_5 u0_6 u0_8 u0_9 u0_10 u0_11 u0_12 u0_13 u0_14 u0_15 u0_16 u0_17 u0_18 u0_19 u0_20 u0_21 u0_22 u0_23 u0_24 u0_25 u0_26 u0_27 u0_28 u0_29 u0_30 x0_thrown y1_s p1 r2 x0_thrown_1 hc) gX9_letter_X9_mayHarbour rfl hv_X9_mayHarbour ⟨nle rfl, nle rfl⟩ 9 0 rfl rfl rfl (rest := []) rfl rfl hl.1 (nle rfl) dX9_letter_2 (fun H locs hP hD hS => ?_)
  refine kb_ne (pc := 5) hexec hb dX9_letter_5 (tgt := 10) rfl hf (fun hc hf => ?_) (fun hc hf => ?_)
  · refine lv_iload_n (pc := 10) hexec hb dX9_letter_10 rfl (lv_at hl 2 rfl) ?_
    refine lv_i2l (pc := 11) hexec hb dX9_letter_11 rfl ?_
    refine lv_lconst (pc := 12) hexec hb dX9_letter_12 kl_0 ?_
    refine lv_aload_n (pc := 13) hexec hb dX9_letter_13 rfl (lv_at hl 0 rfl) ?_
    refine lv_iload_n (pc := 14) hexec hb dX9_letter_14 rfl (lv_at hl 1 rfl) ?_
    refine lv_iconst (pc := 15) hexec hb dX9_letter_15 ki_3 ?_
    obtain ⟨r16, hc, hf⟩ := bd1_e hf
    refine kVp (pc := 16) (S := ⟨hexec, hb, hml, hown, hts⟩) hP hD hG hA hS [0, 1] [] [0, 1] (w2 := (w_X9_letter g a0 a1 u0_1 u0_2 u0_3 u0_4 u0_5 u0_6 u0_8 u0_9 u0_10 u0_11 u0_12 u0_13 u0_14 u0_15 u0_16 u0_17 u0_18 u0_19 u0_20 u0_21 u0_22 u0_23 u0_24 u0_25 u0_26 u0_27 u0_28 u0_29 u0_30 x0_thrown_1 y1_s)) rfl rfl rfl rfl rfl rfl (by decide) (c_X9_of l g a0 a1 _ u0_1 u0_2 u0_3 u0_4 u0_5 u0_6 (.int x0_thrown_1) u0_8 u0_9 u0_10 u0_11 u0_12 u0_13 u0_14 u0_15 u0_16 u0_17 u0_18 u0_19 u0_20 u0_21 u0_22 u0_23 u0_24 u0_25 u0_26 u0_27 u0_28 u0_29 u0_30 y1_s p1 3 r16 hc) gX9_letter_X9_of rfl hv_X9_of ⟨nle rfl, nle rfl⟩ 9 0 rfl rfl rfl (rest := [.long 0, .long (p2.toInt64)]) rfl rfl hl.1 (nle rfl) dX9_letter_16 (fun H locs hP hD hS => ?_)
    refine lv_iconst (pc := 19) hexec hb dX9_letter_19 ki_1 ?_
    refine lv_isub (pc := 20) hexec hb dX9_letter_20 ?_
    refine lv_i2l (pc := 21) hexec hb dX9_letter_21 rfl ?_
    obtain ⟨r22, hc, hf⟩ := bd1_e hf
    refine kSp (pc := 22) (S := ⟨hexec, hb, hml, hown, hts⟩) hP hD hG hA hS [] [0, 1] [0, 1] (w2 := (w_X9_letter g a0 a1 u0_1 u0_2 u0_3 u0_4 u0_5 u0_6 u0_8 u0_9 u0_10 u0_11 u0_12 u0_13 u0_14 u0_15 u0_16 u0_17 u0_18 u0_19 u0_20 u0_21 u0_22 u0_23 u0_24 u0_25 u0_26 u0_27 u0_28 u0_29 u0_30 x0_thrown_1 y1_s)) rfl rfl rfl rfl rfl rfl (by decide) (c_X9_isIn l g _ (p2.toInt64) 0 (((r16 - 1)).toInt64) r22 hc) gX9_letter_X9_isIn rfl hs_X9_isIn ⟨nle rfl, nle rfl⟩ (rest := []) rfl rfl hl.1 (nle rfl) dX9_letter_22 (fun H locs hP hD hS => ?_)
    refine kb_eq (pc := 25) hexec hb dX9_letter_25 (tgt := 39) rfl hf (fun hc hf => ?_) (fun hc hf => ?_)
    · refine lv_iconst (pc := 39) hexec hb dX9_letter_39 ki_m1 ?_
      cases hf
      exact ke_i hQ hexec hb hr hP hD hS dX9_letter_40 hlocks
    · refine lv_aload_n (pc := 28) hexec hb dX9_letter_28 rfl (lv_at hl 0 rfl) ?_
      refine lv_iload_n (pc := 29) hexec hb dX9_letter_29 rfl (lv_at hl 1 rfl) ?_
      refine lv_iconst (pc := 30) hexec hb dX9_letter_30 ki_4 ?_
      refine lv_iload_n (pc := 31) hexec hb dX9_letter_31 rfl (lv_at hl 2 rfl) ?_
      refine lv_iadd (pc := 32) hexec hb dX9_letter_32 ?_
      obtain ⟨r33, hc, hf⟩ := bd1_e hf
      refine kVp (pc := 33) (S := ⟨hexec, hb, hml, hown, hts⟩) hP hD hG hA hS [0, 1] [] [0, 1] (w2 := (w_X9_letter g a0 a1 u0_1 u0_2 u0_3 u0_4 u0_5 u0_6 u0_8 u0_9 u0_10 u0_11 u0_12 u0_13 u0_14 u0_15 u0_16 u0_17 u0_18 u0_19 u0_20 u0_21 u0_22 u0_23 u0_24 u0_25 u0_26 u0_27 u0_28 u0_29 u0_30 x0_thrown_1 y1_s)) rfl rfl rfl rfl rfl rfl (by decide) (c_X9_of l g a0 a1 _ u0_1 u0_2 u0_3 u0_4 u0_5 u0_6 (.int x0_thrown_1) u0_8 u0_9 u0_10 u0_11 u0_12 u0_13 u0_14 u0_15 u0_16 u0_17 u0_18 u0_19 u0_20 u0_21 u0_22 u0_23 u0_24 u0_25 u0_26 u0_27 u0_28 u0_29 u0_30 y1_s p1 (4 + p2) r33 hc) gX9_letter_X9_of rfl hv_X9_of ⟨nle rfl, nle rfl⟩ 9 0 rfl rfl rfl (rest := []) rfl rfl hl.1 (nle rfl) dX9_letter_33 (fun H locs hP hD hS => ?_)
      refine lv_goto (pc := 36) hexec hb dX9_letter_36 (tgt := 40) rfl ?_
      cases hf
      exact ke_i hQ hexec hb hr hP hD hS dX9_letter_40 hlocks
  · refine lv_iconst (pc := 8) hexec hb dX9_letter_8 ki_0 ?_
    cases hf
    exact ke_i hQ hexec hb hr hP hD hS dX9_letter_9 hlocks
abbrev w_X9_mayRiver (g : GE) (a0 a1 : Nat) (u0_1 u0_2 u0_3 u0_4 u0_5 u0_6 u0_8 u0_9 u0_10 u0_11 u0_12 u0_13 u0_14 u0_15 u0_16 u0_17 u0_18 u0_19 u0_20 u0_21 u0_22 u0_23 u0_24 u0_25 u0_26 u0_27 u0_28 u0_29 u0_30 : Value) (x0_thrown : Int32) (y1_s : Nat → Int32) : va_W := [(a0, .inr (9, [.ref a1, u0_1, u0_2, u0_3, u0_4, u0_5, u0_6, .int x0_thrown, u0_8, u0_9, u0_10, u0_11, u0_12, u0_13, u0_14, u0_15, u0_16, u0_17, u0_18, u0_19, u0_20, u0_21, u0_22, u0_23, u0_24, u0_25, u0_26, u0_27, u0_28, u0_29, u0_30])), (a1, .inl (g.2.1 0, 552, .inl y1_s))]
noncomputable def f_X9_mayRiver (x0_thrown : Int32) (y1_s : Nat → Int32) (p1 : Int32) : Option (Int32 × Int32) :=
  ar 3 552 <|
  bd1 (f_X9_isIn (p1.toInt64) 0 ((((y1_s (3 : Int32).toNatClampNeg) - 1)).toInt64)) fun (r13 : Int32) =>
  bd2 (f_X9_passes x0_thrown r13 1) fun (r17 : Int32) (x0_thrown_1 : Int32) =>
  zb r17 (some (r17, x0_thrown_1))
set_option maxRecDepth 4000 in
theorem c_X9_mayRiver (l : Launch) (g : GE) (a0 a1 : Nat) (sz : Nat) (u0_1 u0_2 u0_3 u0_4 u0_5 u0_6 u0_8 u0_9 u0_10 u0_11 u0_12 u0_13 u0_14 u0_15 u0_16 u0_17 u0_18 u0_19 u0_20 u0_21 u0_22 u0_23 u0_24 u0_25 u0_26 u0_27 u0_28 u0_29 u0_30 : Value) (x0_thrown : Int32) (y1_s : Nat → Int32) (p1 : Int32) (r : Int32) (o_x0_thrown : Int32) (hf : f_X9_mayRiver x0_thrown y1_s p1 = some (r, o_x0_thrown)) : MI l g yX9_mayRiver wsX9_mayRiver 2 49 [.ref a0, .int p1] (w_X9_mayRiver g a0 a1 u0_1 u0_2 u0_3 u0_4 u0_5 u0_6 u0_8 u0_9 u0_10 u0_11 u0_12 u0_13 u0_14 u0_15 u0_16 u0_17 u0_18 u0_19 u0_20 u0_21 u0_22 u0_23 u0_24 u0_25 u0_26 u0_27 u0_28 u0_29 u0_30 x0_thrown y1_s) sz (some (.int r)) (w_X9_mayRiver g a0 a1 u0_1 u0_2 u0_3 u0_4 u0_5 u0_6 u0_8 u0_9 u0_10 u0_11 u0_12 u0_13 u0_14 u0_15 u0_16 u0_17 u0_18 u0_19 u0_20 u0_21 u0_22 u0_23 u0_24 u0_25 u0_26 u0_27 u0_28 u0_29 u0_30 o_x0_thrown y1_s) := by
  refine MI.start (cc := cX9_mayRiver) (maxL := 2) (ret := (some .boolean)) rfl rfl (nle rfl) ?_
  intro p e s m args below meth c A ls Q hQ hexec hb hr hts hown hlocks hml hA hP hD hG hS hl
  unfold f_X9_mayRiver at hf
  have hWX9 : ∀ w ∈ wsX90, w.before args s = true := fun w h => hts w (List.mem_cons_of_mem _ (List.mem_append_right _ h))
  have hS : va_S A s.heap s.heap [] := hS
  refine lv_aload_n (pc := 0) hexec hb dX9_mayRiver_0 rfl (lv_at hl 0 rfl) ?_
  refine lv_iload_n (pc := 1) hexec hb dX9_mayRiver_1 rfl (lv_at hl 1 rfl) ?_
  refine lv_i2l (pc := 2) hexec hb dX9_mayRiver_2 rfl ?_
  refine lv_lconst (pc := 3) hexec hb dX9_mayRiver_3 kl_0 ?_
  refine lv_aload_n (pc := 4) hexec hb dX9_mayRiver_4 rfl (lv_at hl 0 rfl) ?_
  refine kg_get (pc := 5) hexec hb (own := RX9) hWX9 hown hG hP 0 rfl rfl 0 (nle rfl) (hts _ (List.mem_cons_of_mem _ (List.mem_append_left _ (List.mem_of_getElem? (i := 0) rfl)))) rfl rfl dX9_mayRiver_5 ?_
  refine lv_iconst (pc := 8) hexec hb dX9_mayRiver_8 ki_3 ?_
  refine kr_iald (pc := 9) hexec hb hG hP 1 rfl hf dX9_mayRiver_9 (fun hf => ?_)
  refine lv_iconst (pc := 10) hexec hb dX9_mayRiver_10 ki_1 ?_
  refine lv_isub (pc := 11) hexec hb dX9_mayRiver_11 ?_
  refine lv_i2l (pc := 12) hexec hb dX9_mayRiver_12 rfl ?_
  obtain ⟨r13, hc, hf⟩ := bd1_e hf
  refine kSp (pc := 13) (S := ⟨hexec, hb, hml, hown, hts⟩) hP hD hG hA hS [] [0, 1] [0, 1] (w2 := (w_X9_mayRiver g a0 a1 u0_1 u0_2 u0_3 u0_4 u0_5 u0_6 u0_8 u0_9 u0_10 u0_11 u0_12 u0_13 u0_14 u0_15 u0_16 u0_17 u0_18 u0_19 u0_20 u0_21 u0_22 u0_23 u0_24 u0_25 u0_26 u0_27 u0_28 u0_29 u0_30 x0_thrown y1_s)) rfl rfl rfl rfl rfl rfl (by decide) (c_X9_isIn l g _ (p1.toInt64) 0 ((((y1_s (3 : Int32).toNatClampNeg) - 1)).toInt64) r13 hc) gX9_mayRiver_X9_isIn rfl hs_X9_isIn ⟨nle rfl, nle rfl⟩ (rest := [.ref a0]) rfl rfl hl.1 (nle rfl) dX9_mayRiver_13 (fun H locs hP hD hS => ?_)
  refine lv_iconst (pc := 16) hexec hb dX9_mayRiver_16 ki_1 ?_
  obtain ⟨r17, x0_thrown_1, hc, hf⟩ := bd2_e hf
  refine kVp (pc := 17) (S := ⟨hexec, hb, hml, hown, hts⟩) hP hD hG hA hS [0] [1] [1, 0] (w2 := (w_X9_mayRiver g a0 a1 u0_1 u0_2 u0_3 u0_4 u0_5 u0_6 u0_8 u0_9 u0_10 u0_11 u0_12 u0_13 u0_14 u0_15 u0_16 u0_17 u0_18 u0_19 u0_20 u0_21 u0_22 u0_23 u0_24 u0_25 u0_26 u0_27 u0_28 u0_29 u0_30 x0_thrown_1 y1_s)) rfl rfl rfl rfl rfl rfl (by decide) (c_X9_passes l g a0 _ (.ref a1) u0_1 u0_2 u0_3 u0_4 u0_5 u0_6 u0_8 u0_9 u0_10 u0_11 u0_12 u0_13 u0_14 u0_15 u0_16 u0_17 u0_18 u0_19 u0_20 u0_21 u0_22 u0_23 u0_24 u0_25 u0_26 u0_27 u0_28 u0_29 u0_30 x0_thrown r13 1 r17 x0_thrown_1 hc) gX9_mayRiver_X9_passes rfl hv_X9_passes ⟨nle rfl, nle rfl⟩ 9 0 rfl rfl rfl (rest := []) rfl rfl hl.1 (nle rfl) dX9_mayRiver_17 (fun H locs hP hD hS => ?_)
  obtain ⟨hx, hf⟩ := zb_e hf
  cases hf
  exact ke_z hQ hexec hb hr hx hP hD hS dX9_mayRiver_20 hlocks
abbrev w_X9_river (g : GE) (a0 a1 : Nat) (u0_1 u0_2 u0_3 u0_4 u0_5 u0_6 u0_8 u0_9 u0_10 u0_11 u0_12 u0_13 u0_14 u0_15 u0_16 u0_17 u0_18 u0_19 u0_20 u0_21 u0_22 u0_23 u0_24 u0_25 u0_26 u0_27 u0_28 u0_29 u0_30 : Value) (x0_thrown : Int32) (y1_s : Nat → Int32) : va_W := [(a0, .inr (9, [.ref a1, u0_1, u0_2, u0_3, u0_4, u0_5, u0_6, .int x0_thrown, u0_8, u0_9, u0_10, u0_11, u0_12, u0_13, u0_14, u0_15, u0_16, u0_17, u0_18, u0_19, u0_20, u0_21, u0_22, u0_23, u0_24, u0_25, u0_26, u0_27, u0_28, u0_29, u0_30])), (a1, .inl (g.2.1 0, 552, .inl y1_s))]
noncomputable def f_X9_river (x0_thrown : Int32) (y1_s : Nat → Int32) (p1 : Int32) (p2 : Int32) : Option (Int32 × Int32) :=
  bd2 (f_X9_mayRiver x0_thrown y1_s p1) fun (r2 : Int32) (x0_thrown_1 : Int32) =>
  (if r2 = 0 then (
    some (0, x0_thrown_1)
  ) else (
    bv (fun (v3 : Int32) => ((
      bd1 (f_X9_cells y1_s) fun (r14 : Int32) =>
      (if r14 ≤ v3 then (
        mr (some ((-1), x0_thrown_1))
      ) else (
        bd1 (f_X9_riverAt y1_s v3) fun (r22 : Int32) =>
        bv (fun (_ : Unit) => ((
          bv (v3 + 1) fun v3_1 =>
          some (.inl v3_1)
          ) : Option ((Int32) ⊕ (Int32 × Int32)))) fun j45 =>
        (if r22 = p1 then (
          ar (296 + v3) 552 <|
          (if (y1_s (296 + v3).toNatClampNeg) = p2 then (
            mr (some (v3, x0_thrown_1))
          ) else (
            j45 ()
          ))
        ) else (
          j45 ()
        ))
      ))
      ) : Option ((Int32) ⊕ (Int32 × Int32)))) fun l12 =>
    lq1 l12 0
  ))
set_option maxRecDepth 4000 in
theorem c_X9_river (l : Launch) (g : GE) (a0 a1 : Nat) (sz : Nat) (u0_1 u0_2 u0_3 u0_4 u0_5 u0_6 u0_8 u0_9 u0_10 u0_11 u0_12 u0_13 u0_14 u0_15 u0_16 u0_17 u0_18 u0_19 u0_20 u0_21 u0_22 u0_23 u0_24 u0_25 u0_26 u0_27 u0_28 u0_29 u0_30 : Value) (x0_thrown : Int32) (y1_s : Nat → Int32) (p1 : Int32) (p2 : Int32) (r : Int32) (o_x0_thrown : Int32) (hf : f_X9_river x0_thrown y1_s p1 p2 = some (r, o_x0_thrown)) : MI l g yX9_river wsX9_river 3 70 [.ref a0, .int p1, .int p2] (w_X9_river g a0 a1 u0_1 u0_2 u0_3 u0_4 u0_5 u0_6 u0_8 u0_9 u0_10 u0_11 u0_12 u0_13 u0_14 u0_15 u0_16 u0_17 u0_18 u0_19 u0_20 u0_21 u0_22 u0_23 u0_24 u0_25 u0_26 u0_27 u0_28 u0_29 u0_30 x0_thrown y1_s) sz (some (.int r)) (w_X9_river g a0 a1 u0_1 u0_2 u0_3 u0_4 u0_5 u0_6 u0_8 u0_9 u0_10 u0_11 u0_12 u0_13 u0_14 u0_15 u0_16 u0_17 u0_18 u0_19 u0_20 u0_21 u0_22 u0_23 u0_24 u0_25 u0_26 u0_27 u0_28 u0_29 u0_30 o_x0_thrown y1_s) := by
  refine MI.start (cc := cX9_river) (maxL := 4) (ret := (some .int)) rfl rfl (nle rfl) ?_
  intro p e s m args below meth c A ls Q hQ hexec hb hr hts hown hlocks hml hA hP hD hG hS hl
  unfold f_X9_river at hf
  have hWX9 : ∀ w ∈ wsX90, w.before args s = true := fun w h => hts w (List.mem_cons_of_mem _ (List.mem_append_right _ h))
  have hS : va_S A s.heap s.heap [] := hS
  refine lv_aload_n (pc := 0) hexec hb dX9_river_0 rfl (lv_at hl 0 rfl) ?_
  refine lv_iload_n (pc := 1) hexec hb dX9_river_1 rfl (lv_at hl 1 rfl) ?_
  obtain ⟨r2, x0_thrown_1, hc, hf⟩ := bd2_e hf
  refine kVp (pc := 2) (S := ⟨hexec, hb, hml, hown, hts⟩) hP hD hG hA hS [0, 1] [] [0, 1] (w2 := (w_X9_river g a0 a1 u0_1 u0_2 u0_3 u0_4 u0_5 u0_6 u0_8 u0_9 u0_10 u0_11 u0_12 u0_13 u0_14 u0_15 u0_16 u0_17 u0_18 u0_19 u0_20 u0_21 u0_22 u0_23 u0_24 u0_25 u0_26 u0_27 u0_28 u0_29 u0_30 x0_thrown_1 y1_s)) rfl rfl rfl rfl rfl rfl (by decide) (c_X9_mayRiver l g a0 a1 _ u0_1 u0_2 u0_3 u0_4 u0_5 u0_6 u0_8 u0_9 u0_10 u0_11 u0_12 u0_13 u0_14 u0_15 u0_16 u0_17 u0_18 u0_19 u0_20 u0_21 u0_22 u0_23 u0_24 u0_25 u0_26 u0_27 u0_28 u0_29 u0_30 x0_thrown y1_s p1 r2 x0_thrown_1 hc) gX9_river_X9_mayRiver rfl hv_X9_mayRiver ⟨nle rfl, nle rfl⟩ 9 0 rfl rfl rfl (rest := []) rfl rfl hl.1 (nle rfl) dX9_river_2 (fun H locs hP hD hS => ?_)
  refine kb_ne (pc := 5) hexec hb dX9_river_5 (tgt := 10) rfl hf (fun hc hf => ?_) (fun hc hf => ?_)
  · refine lv_iconst (pc := 10) hexec hb dX9_river_10 ki_0 ?_
    refine lv_istore_n (pc := 11) hexec hb dX9_river_11 rfl hl (nle rfl) rfl (fun ls (hl : lv_has ls 4 [(3, .int 0), (0, .ref a0), (1, .int p1), (2, .int p2)]) => ?_)
    obtain ⟨l12, el12, hf⟩ := bvf1 hf
    obtain ⟨n, hz⟩ := lq1_e hf
    have hL12 : ∀ (n : Nat) (v3 : Int32) (H : Heap) (locs : List Loc) (ls : Array Slot), it1 l12 n v3 = some (r, o_x0_thrown) → va_P g.1 vwCl (w_X9_river g a0 a1 u0_1 u0_2 u0_3 u0_4 u0_5 u0_6 u0_8 u0_9 u0_10 u0_11 u0_12 u0_13 u0_14 u0_15 u0_16 u0_17 u0_18 u0_19 u0_20 u0_21 u0_22 u0_23 u0_24 u0_25 u0_26 u0_27 u0_28 u0_29 u0_30 x0_thrown_1 y1_s) H → va_D A (w_X9_river g a0 a1 u0_1 u0_2 u0_3 u0_4 u0_5 u0_6 u0_8 u0_9 u0_10 u0_11 u0_12 u0_13 u0_14 u0_15 u0_16 u0_17 u0_18 u0_19 u0_20 u0_21 u0_22 u0_23 u0_24 u0_25 u0_26 u0_27 u0_28 u0_29 u0_30 x0_thrown_1 y1_s) → va_S A s.heap H locs → lv_has ls 4 [(0, .ref a0), (1, .int p1), (2, .int p2), (3, .int v3)] → W p l e (RM 3 70) s m args below meth c H locs 0 0 Q (F0 m 12 ls []) := by
      intro n
      induction n with
      | zero =>
        intro v3 H locs ls hf hP hD hS hl
        exact it1_0 hf
      | succ n12 ih12 =>
        intro v3 H locs ls hf hP hD hS hl
        obtain ⟨q12, hf, hk12⟩ := it1_e hf
        have hf := (el12 v3).symm.trans hf
        refine lv_iload_n (pc := 12) hexec hb dX9_river_12 rfl (lv_at hl 3 rfl) ?_
        refine lv_aload_n (pc := 13) hexec hb dX9_river_13 rfl (lv_at hl 0 rfl) ?_
        obtain ⟨r14, hc, hf⟩ := bd1_e hf
        refine kVp (pc := 14) (S := ⟨hexec, hb, hml, hown, hts⟩) hP hD hG hA hS [0, 1] [] [0, 1] (w2 := (w_X9_river g a0 a1 u0_1 u0_2 u0_3 u0_4 u0_5 u0_6 u0_8 u0_9 u0_10 u0_11 u0_12 u0_13 u0_14 u0_15 u0_16 u0_17 u0_18 u0_19 u0_20 u0_21 u0_22 u0_23 u0_24 u0_25 u0_26 u0_27 u0_28 u0_29 u0_30 x0_thrown_1 y1_s)) rfl rfl rfl rfl rfl rfl (by decide) (c_X9_cells l g a0 a1 _ u0_1 u0_2 u0_3 u0_4 u0_5 u0_6 (.int x0_thrown_1) u0_8 u0_9 u0_10 u0_11 u0_12 u0_13 u0_14 u0_15 u0_16 u0_17 u0_18 u0_19 u0_20 u0_21 u0_22 u0_23 u0_24 u0_25 u0_26 u0_27 u0_28 u0_29 u0_30 y1_s r14 hc) gX9_river_X9_cells rfl hv_X9_cells ⟨nle rfl, nle rfl⟩ 9 0 rfl rfl rfl (rest := [.int v3]) rfl rfl hl.1 (nle rfl) dX9_river_14 (fun H locs hP hD hS => ?_)
        refine ki_ge (pc := 17) hexec hb dX9_river_17 (tgt := 51) rfl hf (fun hc hf => ?_) (fun hc hf => ?_)
        · have hf := mk1 hf hk12
          refine lv_iconst (pc := 51) hexec hb dX9_river_51 ki_m1 ?_
          cases hf
          exact ke_i hQ hexec hb hr hP hD hS dX9_river_52 hlocks
        · refine lv_aload_n (pc := 20) hexec hb dX9_river_20 rfl (lv_at hl 0 rfl) ?_
          refine lv_iload_n (pc := 21) hexec hb dX9_river_21 rfl (lv_at hl 3 rfl) ?_
          obtain ⟨r22, hc, hf⟩ := bd1_e hf
          refine kVp (pc := 22) (S := ⟨hexec, hb, hml, hown, hts⟩) hP hD hG hA hS [0, 1] [] [0, 1] (w2 := (w_X9_river g a0 a1 u0_1 u0_2 u0_3 u0_4 u0_5 u0_6 u0_8 u0_9 u0_10 u0_11 u0_12 u0_13 u0_14 u0_15 u0_16 u0_17 u0_18 u0_19 u0_20 u0_21 u0_22 u0_23 u0_24 u0_25 u0_26 u0_27 u0_28 u0_29 u0_30 x0_thrown_1 y1_s)) rfl rfl rfl rfl rfl rfl (by decide) (c_X9_riverAt l g a0 a1 _ u0_1 u0_2 u0_3 u0_4 u0_5 u0_6 (.int x0_thrown_1) u0_8 u0_9 u0_10 u0_11 u0_12 u0_13 u0_14 u0_15 u0_16 u0_17 u0_18 u0_19 u0_20 u0_21 u0_22 u0_23 u0_24 u0_25 u0_26 u0_27 u0_28 u0_29 u0_30 y1_s v3 r22 hc) gX9_river_X9_riverAt rfl hv_X9_riverAt ⟨nle rfl, nle rfl⟩ 9 0 rfl rfl rfl (rest := []) rfl rfl hl.1 (nle rfl) dX9_river_22 (fun H locs hP hD hS => ?_)
          refine lv_iload_n (pc := 25) hexec hb dX9_river_25 rfl (lv_at hl 1 rfl) ?_
          obtain ⟨j45, ej45, hf⟩ := bvf1 hf
          have hj45 : ∀ (u : Unit) (H : Heap) (locs : List Loc) (ls : Array Slot), j45 u = some q12 → va_P g.1 vwCl (w_X9_river g a0 a1 u0_1 u0_2 u0_3 u0_4 u0_5 u0_6 u0_8 u0_9 u0_10 u0_11 u0_12 u0_13 u0_14 u0_15 u0_16 u0_17 u0_18 u0_19 u0_20 u0_21 u0_22 u0_23 u0_24 u0_25 u0_26 u0_27 u0_28 u0_29 u0_30 x0_thrown_1 y1_s) H → va_D A (w_X9_river g a0 a1 u0_1 u0_2 u0_3 u0_4 u0_5 u0_6 u0_8 u0_9 u0_10 u0_11 u0_12 u0_13 u0_14 u0_15 u0_16 u0_17 u0_18 u0_19 u0_20 u0_21 u0_22 u0_23 u0_24 u0_25 u0_26 u0_27 u0_28 u0_29 u0_30 x0_thrown_1 y1_s) → va_S A s.heap H locs → lv_has ls 4 [(0, .ref a0), (1, .int p1), (2, .int p2), (3, .int v3)] → W p l e (RM 3 70) s m args below meth c H locs 0 0 Q (F0 m 45 ls []) := by
            intro u H locs ls hf hP hD hS hl
            have hf := (ej45 u).symm.trans hf
            obtain ⟨v3_1, ev3_1, hf⟩ := bv_e hf
            refine k_iinc (pc := 45) hexec hb dX9_river_45 kq_1 hl (k := 3) rfl ev3_1 (nle rfl) rfl (fun ls (hl : lv_has ls 4 [(3, .int v3_1), (0, .ref a0), (1, .int p1), (2, .int p2)]) => ?_)
            refine lv_goto (pc := 48) hexec hb dX9_river_48 (tgt := 12) rfl ?_
            exact ih12 _ _ _ _ (sl1 hf hk12) hP hD hS (lv_sub hl [1, 2, 3, 0] rfl)
          refine ki_ne (pc := 26) hexec hb dX9_river_26 (tgt := 45) rfl hf (fun hc hf => ?_) (fun hc hf => ?_)
          · exact hj45 _ _ _ _ hf hP hD hS (lv_sub hl [0, 1, 2, 3] rfl)
          · refine lv_aload_n (pc := 29) hexec hb dX9_river_29 rfl (lv_at hl 0 rfl) ?_
            refine kg_get (pc := 30) hexec hb (own := RX9) hWX9 hown hG hP 0 rfl rfl 0 (nle rfl) (hts _ (List.mem_cons_of_mem _ (List.mem_append_left _ (List.mem_of_getElem? (i := 0) rfl)))) rfl rfl dX9_river_30 ?_
            refine lv_sipush (pc := 33) hexec hb dX9_river_33 ks_296 ?_
            refine lv_iload_n (pc := 36) hexec hb dX9_river_36 rfl (lv_at hl 3 rfl) ?_
            refine lv_iadd (pc := 37) hexec hb dX9_river_37 ?_
            refine kr_iald (pc := 38) hexec hb hG hP 1 rfl hf dX9_river_38 (fun hf => ?_)
            refine lv_iload_n (pc := 39) hexec hb dX9_river_39 rfl (lv_at hl 2 rfl) ?_
            refine ki_ne (pc := 40) hexec hb dX9_river_40 (tgt := 45) rfl hf (fun hc hf => ?_) (fun hc hf => ?_)
            · exact hj45 _ _ _ _ hf hP hD hS (lv_sub hl [0, 1, 2, 3] rfl)
            · have hf := mk1 hf hk12
              refine lv_iload_n (pc := 43) hexec hb dX9_river_43 rfl (lv_at hl 3 rfl) ?_
              cases hf
              exact ke_i hQ hexec hb hr hP hD hS dX9_river_44 hlocks
    exact hL12 n _ _ _ _ hz hP hD hS (lv_sub hl [1, 2, 3, 0] rfl)
  · refine lv_iconst (pc := 8) hexec hb dX9_river_8 ki_0 ?_
    cases hf
    exact ke_i hQ hexec hb hr hP hD hS dX9_river_9 hlocks
abbrev w_X9_voyage (g : GE) (a0 a1 : Nat) (u0_1 u0_2 u0_3 u0_4 u0_5 u0_6 u0_8 u0_9 u0_10 u0_11 u0_12 u0_13 u0_14 u0_15 u0_16 u0_17 u0_18 u0_19 u0_20 u0_21 u0_22 u0_23 u0_24 u0_25 u0_26 u0_27 u0_28 u0_29 u0_30 : Value) (x0_thrown : Int32) (y1_s : Nat → Int32) : va_W := [(a0, .inr (9, [.ref a1, u0_1, u0_2, u0_3, u0_4, u0_5, u0_6, .int x0_thrown, u0_8, u0_9, u0_10, u0_11, u0_12, u0_13, u0_14, u0_15, u0_16, u0_17, u0_18, u0_19, u0_20, u0_21, u0_22, u0_23, u0_24, u0_25, u0_26, u0_27, u0_28, u0_29, u0_30])), (a1, .inl (g.2.1 0, 552, .inl y1_s))]
noncomputable def f_X9_voyage (x0_thrown : Int32) (y1_s : Nat → Int32) (p1 : Int32) : Option (Int32 × Int32) :=
  ar 4 552 <|
  bd1 (f_X9_isIn (p1.toInt64) 0 ((((y1_s (4 : Int32).toNatClampNeg) - 1)).toInt64)) fun (r17 : Int32) =>
  (if r17 = 0 then (
    some ((-1), 0)
  ) else (
    ar (536 + p1) 552 <|
    some ((y1_s (536 + p1).toNatClampNeg), 0)
  ))
set_option maxRecDepth 4000 in
theorem c_X9_voyage (l : Launch) (g : GE) (a0 a1 : Nat) (sz : Nat) (u0_1 u0_2 u0_3 u0_4 u0_5 u0_6 u0_8 u0_9 u0_10 u0_11 u0_12 u0_13 u0_14 u0_15 u0_16 u0_17 u0_18 u0_19 u0_20 u0_21 u0_22 u0_23 u0_24 u0_25 u0_26 u0_27 u0_28 u0_29 u0_30 : Value) (x0_thrown : Int32) (y1_s : Nat → Int32) (p1 : Int32) (r : Int32) (o_x0_thrown : Int32) (hf : f_X9_voyage x0_thrown y1_s p1 = some (r, o_x0_thrown)) : MI l g yX9_voyage wsX9_voyage 2 49 [.ref a0, .int p1] (w_X9_voyage g a0 a1 u0_1 u0_2 u0_3 u0_4 u0_5 u0_6 u0_8 u0_9 u0_10 u0_11 u0_12 u0_13 u0_14 u0_15 u0_16 u0_17 u0_18 u0_19 u0_20 u0_21 u0_22 u0_23 u0_24 u0_25 u0_26 u0_27 u0_28 u0_29 u0_30 x0_thrown y1_s) sz (some (.int r)) (w_X9_voyage g a0 a1 u0_1 u0_2 u0_3 u0_4 u0_5 u0_6 u0_8 u0_9 u0_10 u0_11 u0_12 u0_13 u0_14 u0_15 u0_16 u0_17 u0_18 u0_19 u0_20 u0_21 u0_22 u0_23 u0_24 u0_25 u0_26 u0_27 u0_28 u0_29 u0_30 o_x0_thrown y1_s) := by
  refine MI.start (cc := cX9_voyage) (maxL := 2) (ret := (some .int)) rfl rfl (nle rfl) ?_
  intro p e s m args below meth c A ls Q hQ hexec hb hr hts hown hlocks hml hA hP hD hG hS hl
  unfold f_X9_voyage at hf
  have hWX9 : ∀ w ∈ wsX90, w.before args s = true := fun w h => hts w (List.mem_cons_of_mem _ (List.mem_append_right _ h))
  have hS : va_S A s.heap s.heap [] := hS
  refine lv_aload_n (pc := 0) hexec hb dX9_voyage_0 rfl (lv_at hl 0 rfl) ?_
  refine lv_iconst (pc := 1) hexec hb dX9_voyage_1 ki_0 ?_
  refine kp_put (pc := 2) hexec hb (own := RX9) hWX9 tyX9 tyX9_ok nmX9 hown hG hP hD hS 0 rfl rfl 7 (nle rfl) (hts _ (List.mem_cons_of_mem _ (List.mem_append_left _ (List.mem_of_getElem? (i := 0) rfl)))) rfl rfl rfl rfl (nle rfl) dX9_voyage_2 (fun H locs (hP : va_P g.1 vwCl (w_X9_voyage g a0 a1 u0_1 u0_2 u0_3 u0_4 u0_5 u0_6 u0_8 u0_9 u0_10 u0_11 u0_12 u0_13 u0_14 u0_15 u0_16 u0_17 u0_18 u0_19 u0_20 u0_21 u0_22 u0_23 u0_24 u0_25 u0_26 u0_27 u0_28 u0_29 u0_30 0 y1_s) H) (hD : va_D A (w_X9_voyage g a0 a1 u0_1 u0_2 u0_3 u0_4 u0_5 u0_6 u0_8 u0_9 u0_10 u0_11 u0_12 u0_13 u0_14 u0_15 u0_16 u0_17 u0_18 u0_19 u0_20 u0_21 u0_22 u0_23 u0_24 u0_25 u0_26 u0_27 u0_28 u0_29 u0_30 0 y1_s)) hS => ?_)
  refine lv_iload_n (pc := 5) hexec hb dX9_voyage_5 rfl (lv_at hl 1 rfl) ?_
  refine lv_i2l (pc := 6) hexec hb dX9_voyage_6 rfl ?_
  refine lv_lconst (pc := 7) hexec hb dX9_voyage_7 kl_0 ?_
  refine lv_aload_n (pc := 8) hexec hb dX9_voyage_8 rfl (lv_at hl 0 rfl) ?_
  refine kg_get (pc := 9) hexec hb (own := RX9) hWX9 hown hG hP 0 rfl rfl 0 (nle rfl) (hts _ (List.mem_cons_of_mem _ (List.mem_append_left _ (List.mem_of_getElem? (i := 1) rfl)))) rfl rfl dX9_voyage_9 ?_
  refine lv_iconst (pc := 12) hexec hb dX9_voyage_12 ki_4 ?_
  refine kr_iald (pc := 13) hexec hb hG hP 1 rfl hf dX9_voyage_13 (fun hf => ?_)
  refine lv_iconst (pc := 14) hexec hb dX9_voyage_14 ki_1 ?_
  refine lv_isub (pc := 15) hexec hb dX9_voyage_15 ?_
  refine lv_i2l (pc := 16) hexec hb dX9_voyage_16 rfl ?_
  obtain ⟨r17, hc, hf⟩ := bd1_e hf
  refine kSp (pc := 17) (S := ⟨hexec, hb, hml, hown, hts⟩) hP hD hG hA hS [] [0, 1] [0, 1] (w2 := (w_X9_voyage g a0 a1 u0_1 u0_2 u0_3 u0_4 u0_5 u0_6 u0_8 u0_9 u0_10 u0_11 u0_12 u0_13 u0_14 u0_15 u0_16 u0_17 u0_18 u0_19 u0_20 u0_21 u0_22 u0_23 u0_24 u0_25 u0_26 u0_27 u0_28 u0_29 u0_30 0 y1_s)) rfl rfl rfl rfl rfl rfl (by decide) (c_X9_isIn l g _ (p1.toInt64) 0 ((((y1_s (4 : Int32).toNatClampNeg) - 1)).toInt64) r17 hc) gX9_voyage_X9_isIn rfl hs_X9_isIn ⟨nle rfl, nle rfl⟩ (rest := []) rfl rfl hl.1 (nle rfl) dX9_voyage_17 (fun H locs hP hD hS => ?_)
  refine kb_eq (pc := 20) hexec hb dX9_voyage_20 (tgt := 36) rfl hf (fun hc hf => ?_) (fun hc hf => ?_)
  · refine lv_iconst (pc := 36) hexec hb dX9_voyage_36 ki_m1 ?_
    cases hf
    exact ke_i hQ hexec hb hr hP hD hS dX9_voyage_37 hlocks
  · refine lv_aload_n (pc := 23) hexec hb dX9_voyage_23 rfl (lv_at hl 0 rfl) ?_
    refine kg_get (pc := 24) hexec hb (own := RX9) hWX9 hown hG hP 0 rfl rfl 0 (nle rfl) (hts _ (List.mem_cons_of_mem _ (List.mem_append_left _ (List.mem_of_getElem? (i := 1) rfl)))) rfl rfl dX9_voyage_24 ?_
    refine lv_sipush (pc := 27) hexec hb dX9_voyage_27 ks_536 ?_
    refine lv_iload_n (pc := 30) hexec hb dX9_voyage_30 rfl (lv_at hl 1 rfl) ?_
    refine lv_iadd (pc := 31) hexec hb dX9_voyage_31 ?_
    refine kr_iald (pc := 32) hexec hb hG hP 1 rfl hf dX9_voyage_32 (fun hf => ?_)
    refine lv_goto (pc := 33) hexec hb dX9_voyage_33 (tgt := 37) rfl ?_
    cases hf
    exact ke_i hQ hexec hb hr hP hD hS dX9_voyage_37 hlocks
abbrev w_X9_isWay (g : GE) : va_W := []
noncomputable def f_X9_isWay  (p0 : Int32) : Option (Int32) :=
  bd1 (f_X9_isIn (p0.toInt64) 0 3) fun (r6 : Int32) =>
  zb r6 (some r6)
set_option maxRecDepth 4000 in
theorem c_X9_isWay (l : Launch) (g : GE) (sz : Nat)  (p0 : Int32) (r : Int32) (hf : f_X9_isWay p0 = some r) : MI l g yX9_isWay wsX9_isWay 2 49 [.int p0] (w_X9_isWay g ) sz (some (.int r)) (w_X9_isWay g ) := by
  refine MI.start (cc := cX9_isWay) (maxL := 1) (ret := (some .boolean)) rfl rfl (nle rfl) ?_
  intro p e s m args below meth c A ls Q hQ hexec hb hr hts hown hlocks hml hA hP hD hG hS hl
  unfold f_X9_isWay at hf
  have hS : va_S A s.heap s.heap [] := hS
  refine lv_iload_n (pc := 0) hexec hb dX9_isWay_0 rfl (lv_at hl 0 rfl) ?_
  refine lv_i2l (pc := 1) hexec hb dX9_isWay_1 rfl ?_
  refine lv_lconst (pc := 2) hexec hb dX9_isWay_2 kl_0 ?_
  refine lv_ldc2 (pc := 3) hexec hb (own := RX9) hown (hts _ (List.mem_cons_of_mem _ (List.mem_of_getElem? (i := 0) rfl))) dX9_isWay_3 ?_
  obtain ⟨r6, hc, hf⟩ := bd1_e hf
  refine kSp (pc := 6) (S := ⟨hexec, hb, hml, hown, hts⟩) hP hD hG hA hS [] [] [] (w2 := (w_X9_isWay g )) rfl rfl rfl rfl rfl rfl (by decide) (c_X9_isIn l g _ (p0.toInt64) 0 3 r6 hc) gX9_isWay_X9_isIn rfl hs_X9_isIn ⟨nle rfl, nle rfl⟩ (rest := []) rfl rfl hl.1 (nle rfl) dX9_isWay_6 (fun H locs hP hD hS => ?_)
  obtain ⟨hx, hf⟩ := zb_e hf
  cases hf
  exact ke_z hQ hexec hb hr hx hP hD hS dX9_isWay_9 hlocks
abbrev w_X9_why (g : GE) (a0 a1 : Nat) (u0_1 u0_2 u0_3 u0_4 u0_5 u0_6 u0_8 u0_9 u0_10 u0_11 u0_12 u0_13 u0_14 u0_15 u0_16 u0_17 u0_18 u0_19 u0_20 u0_21 u0_22 u0_23 u0_24 u0_25 u0_26 u0_27 u0_28 u0_29 u0_30 : Value) (x0_thrown : Int32) (y1_s : Nat → Int32) : va_W := [(a0, .inr (9, [.ref a1, u0_1, u0_2, u0_3, u0_4, u0_5, u0_6, .int x0_thrown, u0_8, u0_9, u0_10, u0_11, u0_12, u0_13, u0_14, u0_15, u0_16, u0_17, u0_18, u0_19, u0_20, u0_21, u0_22, u0_23, u0_24, u0_25, u0_26, u0_27, u0_28, u0_29, u0_30])), (a1, .inl (g.2.1 0, 552, .inl y1_s))]
noncomputable def f_X9_why (x0_thrown : Int32) (y1_s : Nat → Int32) (p1 : Int32) (p2 : Int32) : Option (Int32 × Int32) :=
  bd1 (f_X9_isHarbour y1_s p1) fun (r3 : Int32) =>
  bd1 (f_X9_isWay p2) fun (r7 : Int32) =>
  bd2 (f_X9_passes x0_thrown r3 r7) fun (r10 : Int32) (x0_thrown_1 : Int32) =>
  (if r10 = 0 then (
    some (0, x0_thrown_1)
  ) else (
    bd1 (f_X9_reason y1_s p1 p2) fun (r19 : Int32) =>
    some (r19, x0_thrown_1)
  ))
set_option maxRecDepth 4000 in
theorem c_X9_why (l : Launch) (g : GE) (a0 a1 : Nat) (sz : Nat) (u0_1 u0_2 u0_3 u0_4 u0_5 u0_6 u0_8 u0_9 u0_10 u0_11 u0_12 u0_13 u0_14 u0_15 u0_16 u0_17 u0_18 u0_19 u0_20 u0_21 u0_22 u0_23 u0_24 u0_25 u0_26 u0_27 u0_28 u0_29 u0_30 : Value) (x0_thrown : Int32) (y1_s : Nat → Int32) (p1 : Int32) (p2 : Int32) (r : Int32) (o_x0_thrown : Int32) (hf : f_X9_why x0_thrown y1_s p1 p2 = some (r, o_x0_thrown)) : MI l g yX9_why wsX9_why 6 151 [.ref a0, .int p1, .int p2] (w_X9_why g a0 a1 u0_1 u0_2 u0_3 u0_4 u0_5 u0_6 u0_8 u0_9 u0_10 u0_11 u0_12 u0_13 u0_14 u0_15 u0_16 u0_17 u0_18 u0_19 u0_20 u0_21 u0_22 u0_23 u0_24 u0_25 u0_26 u0_27 u0_28 u0_29 u0_30 x0_thrown y1_s) sz (some (.int r)) (w_X9_why g a0 a1 u0_1 u0_2 u0_3 u0_4 u0_5 u0_6 u0_8 u0_9 u0_10 u0_11 u0_12 u0_13 u0_14 u0_15 u0_16 u0_17 u0_18 u0_19 u0_20 u0_21 u0_22 u0_23 u0_24 u0_25 u0_26 u0_27 u0_28 u0_29 u0_30 o_x0_thrown y1_s) := by
  refine MI.start (cc := cX9_why) (maxL := 3) (ret := (some .int)) rfl rfl (nle rfl) ?_
  intro p e s m args below meth c A ls Q hQ hexec hb hr hts hown hlocks hml hA hP hD hG hS hl
  unfold f_X9_why at hf
  have hWX9 : ∀ w ∈ wsX90, w.before args s = true := fun w h => hts w (List.mem_cons_of_mem _ (List.mem_append_right _ h))
  have hS : va_S A s.heap s.heap [] := hS
  refine lv_aload_n (pc := 0) hexec hb dX9_why_0 rfl (lv_at hl 0 rfl) ?_
  refine lv_aload_n (pc := 1) hexec hb dX9_why_1 rfl (lv_at hl 0 rfl) ?_
  refine lv_iload_n (pc := 2) hexec hb dX9_why_2 rfl (lv_at hl 1 rfl) ?_
  obtain ⟨r3, hc, hf⟩ := bd1_e hf
  refine kVp (pc := 3) (S := ⟨hexec, hb, hml, hown, hts⟩) hP hD hG hA hS [0, 1] [] [0, 1] (w2 := (w_X9_why g a0 a1 u0_1 u0_2 u0_3 u0_4 u0_5 u0_6 u0_8 u0_9 u0_10 u0_11 u0_12 u0_13 u0_14 u0_15 u0_16 u0_17 u0_18 u0_19 u0_20 u0_21 u0_22 u0_23 u0_24 u0_25 u0_26 u0_27 u0_28 u0_29 u0_30 x0_thrown y1_s)) rfl rfl rfl rfl rfl rfl (by decide) (c_X9_isHarbour l g a0 a1 _ u0_1 u0_2 u0_3 u0_4 u0_5 u0_6 (.int x0_thrown) u0_8 u0_9 u0_10 u0_11 u0_12 u0_13 u0_14 u0_15 u0_16 u0_17 u0_18 u0_19 u0_20 u0_21 u0_22 u0_23 u0_24 u0_25 u0_26 u0_27 u0_28 u0_29 u0_30 y1_s p1 r3 hc) gX9_why_X9_isHarbour rfl hv_X9_isHarbour ⟨nle rfl, nle rfl⟩ 9 0 rfl rfl rfl (rest := [.ref a0]) rfl rfl hl.1 (nle rfl) dX9_why_3 (fun H locs hP hD hS => ?_)
  refine lv_iload_n (pc := 6) hexec hb dX9_why_6 rfl (lv_at hl 2 rfl) ?_
  obtain ⟨r7, hc, hf⟩ := bd1_e hf
  refine kSp (pc := 7) (S := ⟨hexec, hb, hml, hown, hts⟩) hP hD hG hA hS [] [0, 1] [0, 1] (w2 := (w_X9_why g a0 a1 u0_1 u0_2 u0_3 u0_4 u0_5 u0_6 u0_8 u0_9 u0_10 u0_11 u0_12 u0_13 u0_14 u0_15 u0_16 u0_17 u0_18 u0_19 u0_20 u0_21 u0_22 u0_23 u0_24 u0_25 u0_26 u0_27 u0_28 u0_29 u0_30 x0_thrown y1_s)) rfl rfl rfl rfl rfl rfl (by decide) (c_X9_isWay l g _ p2 r7 hc) gX9_why_X9_isWay rfl hs_X9_isWay ⟨nle rfl, nle rfl⟩ (rest := [.int r3, .ref a0]) rfl rfl hl.1 (nle rfl) dX9_why_7 (fun H locs hP hD hS => ?_)
  obtain ⟨r10, x0_thrown_1, hc, hf⟩ := bd2_e hf
  refine kVp (pc := 10) (S := ⟨hexec, hb, hml, hown, hts⟩) hP hD hG hA hS [0] [1] [1, 0] (w2 := (w_X9_why g a0 a1 u0_1 u0_2 u0_3 u0_4 u0_5 u0_6 u0_8 u0_9 u0_10 u0_11 u0_12 u0_13 u0_14 u0_15 u0_16 u0_17 u0_18 u0_19 u0_20 u0_21 u0_22 u0_23 u0_24 u0_25 u0_26 u0_27 u0_28 u0_29 u0_30 x0_thrown_1 y1_s)) rfl rfl rfl rfl rfl rfl (by decide) (c_X9_passes l g a0 _ (.ref a1) u0_1 u0_2 u0_3 u0_4 u0_5 u0_6 u0_8 u0_9 u0_10 u0_11 u0_12 u0_13 u0_14 u0_15 u0_16 u0_17 u0_18 u0_19 u0_20 u0_21 u0_22 u0_23 u0_24 u0_25 u0_26 u0_27 u0_28 u0_29 u0_30 x0_thrown r3 r7 r10 x0_thrown_1 hc) gX9_why_X9_passes rfl hv_X9_passes ⟨nle rfl, nle rfl⟩ 9 0 rfl rfl rfl (rest := []) rfl rfl hl.1 (nle rfl) dX9_why_10 (fun H locs hP hD hS => ?_)
  refine kb_eq (pc := 13) hexec hb dX9_why_13 (tgt := 25) rfl hf (fun hc hf => ?_) (fun hc hf => ?_)
  · refine lv_iconst (pc := 25) hexec hb dX9_why_25 ki_0 ?_
    cases hf
    exact ke_i hQ hexec hb hr hP hD hS dX9_why_26 hlocks
  · refine lv_aload_n (pc := 16) hexec hb dX9_why_16 rfl (lv_at hl 0 rfl) ?_
    refine lv_iload_n (pc := 17) hexec hb dX9_why_17 rfl (lv_at hl 1 rfl) ?_
    refine lv_iload_n (pc := 18) hexec hb dX9_why_18 rfl (lv_at hl 2 rfl) ?_
    obtain ⟨r19, hc, hf⟩ := bd1_e hf
    refine kVp (pc := 19) (S := ⟨hexec, hb, hml, hown, hts⟩) hP hD hG hA hS [0, 1] [] [0, 1] (w2 := (w_X9_why g a0 a1 u0_1 u0_2 u0_3 u0_4 u0_5 u0_6 u0_8 u0_9 u0_10 u0_11 u0_12 u0_13 u0_14 u0_15 u0_16 u0_17 u0_18 u0_19 u0_20 u0_21 u0_22 u0_23 u0_24 u0_25 u0_26 u0_27 u0_28 u0_29 u0_30 x0_thrown_1 y1_s)) rfl rfl rfl rfl rfl rfl (by decide) (c_X9_reason l g a0 a1 _ u0_1 u0_2 u0_3 u0_4 u0_5 u0_6 (.int x0_thrown_1) u0_8 u0_9 u0_10 u0_11 u0_12 u0_13 u0_14 u0_15 u0_16 u0_17 u0_18 u0_19 u0_20 u0_21 u0_22 u0_23 u0_24 u0_25 u0_26 u0_27 u0_28 u0_29 u0_30 y1_s p1 p2 r19 hc) gX9_why_X9_reason rfl hv_X9_reason ⟨nle rfl, nle rfl⟩ 9 0 rfl rfl rfl (rest := []) rfl rfl hl.1 (nle rfl) dX9_why_19 (fun H locs hP hD hS => ?_)
    refine lv_goto (pc := 22) hexec hb dX9_why_22 (tgt := 26) rfl ?_
    cases hf
    exact ke_i hQ hexec hb hr hP hD hS dX9_why_26 hlocks
abbrev w_X9_ways (g : GE) (a0 a1 : Nat) (u0_1 u0_2 u0_3 u0_4 u0_5 u0_6 u0_8 u0_9 u0_10 u0_11 u0_12 u0_13 u0_14 u0_15 u0_16 u0_17 u0_18 u0_19 u0_20 u0_21 u0_22 u0_23 u0_24 u0_25 u0_26 u0_27 u0_28 u0_29 u0_30 : Value) (x0_thrown : Int32) (y1_s : Nat → Int32) : va_W := [(a0, .inr (9, [.ref a1, u0_1, u0_2, u0_3, u0_4, u0_5, u0_6, .int x0_thrown, u0_8, u0_9, u0_10, u0_11, u0_12, u0_13, u0_14, u0_15, u0_16, u0_17, u0_18, u0_19, u0_20, u0_21, u0_22, u0_23, u0_24, u0_25, u0_26, u0_27, u0_28, u0_29, u0_30])), (a1, .inl (g.2.1 0, 552, .inl y1_s))]
noncomputable def f_X9_ways (x0_thrown : Int32) (y1_s : Nat → Int32) (p1 : Int32) : Option (Int32 × Int32) :=
  bd2 (f_X9_mayHarbour x0_thrown y1_s p1) fun (r2 : Int32) (x0_thrown_1 : Int32) =>
  (if r2 = 0 then (
    some (0, x0_thrown_1)
  ) else (
    bv (fun (v2 : Int32) (v3 : Int32) => ((
      (if 4 ≤ v3 then (
        some (.inr v2)
      ) else (
        bd1 (f_X9_reason y1_s p1 v3) fun (r23 : Int32) =>
        bv (fun (t36 : Int32) => ((
          bv (v2 ||| t36) fun v2_2 =>
          bv (v3 + 1) fun v3_1 =>
          some (.inl (v2_2, v3_1))
          ) : Option ((Int32 × Int32) ⊕ (Int32)))) fun j36 =>
        (if r23 = 0 then (
          j36 (1 <<< (v3 &&& 31))
        ) else (
          j36 0
        ))
      ))
      ) : Option ((Int32 × Int32) ⊕ (Int32)))) fun l14 =>
    bd1 (lq2 l14 0 0) fun (v2_1 : Int32) =>
    some (v2_1, x0_thrown_1)
  ))
set_option maxRecDepth 4000 in
theorem c_X9_ways (l : Launch) (g : GE) (a0 a1 : Nat) (sz : Nat) (u0_1 u0_2 u0_3 u0_4 u0_5 u0_6 u0_8 u0_9 u0_10 u0_11 u0_12 u0_13 u0_14 u0_15 u0_16 u0_17 u0_18 u0_19 u0_20 u0_21 u0_22 u0_23 u0_24 u0_25 u0_26 u0_27 u0_28 u0_29 u0_30 : Value) (x0_thrown : Int32) (y1_s : Nat → Int32) (p1 : Int32) (r : Int32) (o_x0_thrown : Int32) (hf : f_X9_ways x0_thrown y1_s p1 = some (r, o_x0_thrown)) : MI l g yX9_ways wsX9_ways 6 151 [.ref a0, .int p1] (w_X9_ways g a0 a1 u0_1 u0_2 u0_3 u0_4 u0_5 u0_6 u0_8 u0_9 u0_10 u0_11 u0_12 u0_13 u0_14 u0_15 u0_16 u0_17 u0_18 u0_19 u0_20 u0_21 u0_22 u0_23 u0_24 u0_25 u0_26 u0_27 u0_28 u0_29 u0_30 x0_thrown y1_s) sz (some (.int r)) (w_X9_ways g a0 a1 u0_1 u0_2 u0_3 u0_4 u0_5 u0_6 u0_8 u0_9 u0_10 u0_11 u0_12 u0_13 u0_14 u0_15 u0_16 u0_17 u0_18 u0_19 u0_20 u0_21 u0_22 u0_23 u0_24 u0_25 u0_26 u0_27 u0_28 u0_29 u0_30 o_x0_thrown y1_s) := by
  refine MI.start (cc := cX9_ways) (maxL := 4) (ret := (some .int)) rfl rfl (nle rfl) ?_
  intro p e s m args below meth c A ls Q hQ hexec hb hr hts hown hlocks hml hA hP hD hG hS hl
  unfold f_X9_ways at hf
  have hWX9 : ∀ w ∈ wsX90, w.before args s = true := fun w h => hts w (List.mem_cons_of_mem _ (List.mem_append_right _ h))
  have hS : va_S A s.heap s.heap [] := hS
  refine lv_aload_n (pc := 0) hexec hb dX9_ways_0 rfl (lv_at hl 0 rfl) ?_
  refine lv_iload_n (pc := 1) hexec hb dX9_ways_1 rfl (lv_at hl 1 rfl) ?_
  obtain ⟨r2, x0_thrown_1, hc, hf⟩ := bd2_e hf
  refine kVp (pc := 2) (S := ⟨hexec, hb, hml, hown, hts⟩) hP hD hG hA hS [0, 1] [] [0, 1] (w2 := (w_X9_ways g a0 a1 u0_1 u0_2 u0_3 u0_4 u0_5 u0_6 u0_8 u0_9 u0_10 u0_11 u0_12 u0_13 u0_14 u0_15 u0_16 u0_17 u0_18 u0_19 u0_20 u0_21 u0_22 u0_23 u0_24 u0_25 u0_26 u0_27 u0_28 u0_29 u0_30 x0_thrown_1 y1_s)) rfl rfl rfl rfl rfl rfl (by decide) (c_X9_mayHarbour l g a0 a1 _ u0_1 u0_2 u0_3 u0_4 u0_5 u0_6 u0_8 u0_9 u0_10 u0_11 u0_12 u0_13 u0_14 u0_15 u0_16 u0_17 u0_18 u0_19 u0_20 u0_21 u0_22 u0_23 u0_24 u0_25 u0_26 u0_27 u0_28 u0_29 u0_30 x0_thrown y1_s p1 r2 x0_thrown_1 hc) gX9_ways_X9_mayHarbour rfl hv_X9_mayHarbour ⟨nle rfl, nle rfl⟩ 9 0 rfl rfl rfl (rest := []) rfl rfl hl.1 (nle rfl) dX9_ways_2 (fun H locs hP hD hS => ?_)
  refine kb_ne (pc := 5) hexec hb dX9_ways_5 (tgt := 10) rfl hf (fun hc hf => ?_) (fun hc hf => ?_)
  · refine lv_iconst (pc := 10) hexec hb dX9_ways_10 ki_0 ?_
    refine lv_istore_n (pc := 11) hexec hb dX9_ways_11 rfl hl (nle rfl) rfl (fun ls (hl : lv_has ls 4 [(2, .int 0), (0, .ref a0), (1, .int p1)]) => ?_)
    refine lv_iconst (pc := 12) hexec hb dX9_ways_12 ki_0 ?_
    refine lv_istore_n (pc := 13) hexec hb dX9_ways_13 rfl hl (nle rfl) rfl (fun ls (hl : lv_has ls 4 [(3, .int 0), (2, .int 0), (0, .ref a0), (1, .int p1)]) => ?_)
    obtain ⟨l14, el14, hf⟩ := bvf2 hf
    obtain ⟨v2_1, hz, hf⟩ := bd1_e hf
    have hE14 : ∀ (H : Heap) (locs : List Loc) (ls : Array Slot), va_P g.1 vwCl (w_X9_ways g a0 a1 u0_1 u0_2 u0_3 u0_4 u0_5 u0_6 u0_8 u0_9 u0_10 u0_11 u0_12 u0_13 u0_14 u0_15 u0_16 u0_17 u0_18 u0_19 u0_20 u0_21 u0_22 u0_23 u0_24 u0_25 u0_26 u0_27 u0_28 u0_29 u0_30 x0_thrown_1 y1_s) H → va_D A (w_X9_ways g a0 a1 u0_1 u0_2 u0_3 u0_4 u0_5 u0_6 u0_8 u0_9 u0_10 u0_11 u0_12 u0_13 u0_14 u0_15 u0_16 u0_17 u0_18 u0_19 u0_20 u0_21 u0_22 u0_23 u0_24 u0_25 u0_26 u0_27 u0_28 u0_29 u0_30 x0_thrown_1 y1_s) → va_S A s.heap H locs → lv_has ls 4 [(2, .int v2_1)] → W p l e (RM 6 151) s m args below meth c H locs 0 0 Q (F0 m 44 ls []) := by
      intro H locs ls hP hD hS hl
      refine lv_iload_n (pc := 44) hexec hb dX9_ways_44 rfl (lv_at hl 0 rfl) ?_
      cases hf
      exact ke_i hQ hexec hb hr hP hD hS dX9_ways_45 hlocks
    obtain ⟨n, hz⟩ := lq2_e hz
    have hL14 : ∀ (n : Nat) (v2 : Int32) (v3 : Int32) (H : Heap) (locs : List Loc) (ls : Array Slot), it2 l14 n v2 v3 = some v2_1 → va_P g.1 vwCl (w_X9_ways g a0 a1 u0_1 u0_2 u0_3 u0_4 u0_5 u0_6 u0_8 u0_9 u0_10 u0_11 u0_12 u0_13 u0_14 u0_15 u0_16 u0_17 u0_18 u0_19 u0_20 u0_21 u0_22 u0_23 u0_24 u0_25 u0_26 u0_27 u0_28 u0_29 u0_30 x0_thrown_1 y1_s) H → va_D A (w_X9_ways g a0 a1 u0_1 u0_2 u0_3 u0_4 u0_5 u0_6 u0_8 u0_9 u0_10 u0_11 u0_12 u0_13 u0_14 u0_15 u0_16 u0_17 u0_18 u0_19 u0_20 u0_21 u0_22 u0_23 u0_24 u0_25 u0_26 u0_27 u0_28 u0_29 u0_30 x0_thrown_1 y1_s) → va_S A s.heap H locs → lv_has ls 4 [(0, .ref a0), (1, .int p1), (2, .int v2), (3, .int v3)] → W p l e (RM 6 151) s m args below meth c H locs 0 0 Q (F0 m 14 ls []) := by
      intro n
      induction n with
      | zero =>
        intro v2 v3 H locs ls hf hP hD hS hl
        exact it2_0 hf
      | succ n14 ih14 =>
        intro v2 v3 H locs ls hf hP hD hS hl
        obtain ⟨q14, hf, hk14⟩ := it2_e hf
        have hf := (el14 v2 v3).symm.trans hf
        refine lv_iload_n (pc := 14) hexec hb dX9_ways_14 rfl (lv_at hl 3 rfl) ?_
        refine lv_iconst (pc := 15) hexec hb dX9_ways_15 ki_4 ?_
        refine ki_ge (pc := 16) hexec hb dX9_ways_16 (tgt := 44) rfl hf (fun hc hf => ?_) (fun hc hf => ?_)
        · cases sr2 hf hk14
          exact hE14 _ _ _ hP hD hS (lv_sub hl [2] rfl)
        · refine lv_iload_n (pc := 19) hexec hb dX9_ways_19 rfl (lv_at hl 2 rfl) ?_
          refine lv_aload_n (pc := 20) hexec hb dX9_ways_20 rfl (lv_at hl 0 rfl) ?_
          refine lv_iload_n (pc := 21) hexec hb dX9_ways_21 rfl (lv_at hl 1 rfl) ?_
          refine lv_iload_n (pc := 22) hexec hb dX9_ways_22 rfl (lv_at hl 3 rfl) ?_
          obtain ⟨r23, hc, hf⟩ := bd1_e hf
          refine kVp (pc := 23) (S := ⟨hexec, hb, hml, hown, hts⟩) hP hD hG hA hS [0, 1] [] [0, 1] (w2 := (w_X9_ways g a0 a1 u0_1 u0_2 u0_3 u0_4 u0_5 u0_6 u0_8 u0_9 u0_10 u0_11 u0_12 u0_13 u0_14 u0_15 u0_16 u0_17 u0_18 u0_19 u0_20 u0_21 u0_22 u0_23 u0_24 u0_25 u0_26 u0_27 u0_28 u0_29 u0_30 x0_thrown_1 y1_s)) rfl rfl rfl rfl rfl rfl (by decide) (c_X9_reason l g a0 a1 _ u0_1 u0_2 u0_3 u0_4 u0_5 u0_6 (.int x0_thrown_1) u0_8 u0_9 u0_10 u0_11 u0_12 u0_13 u0_14 u0_15 u0_16 u0_17 u0_18 u0_19 u0_20 u0_21 u0_22 u0_23 u0_24 u0_25 u0_26 u0_27 u0_28 u0_29 u0_30 y1_s p1 v3 r23 hc) gX9_ways_X9_reason rfl hv_X9_reason ⟨nle rfl, nle rfl⟩ 9 0 rfl rfl rfl (rest := [.int v2]) rfl rfl hl.1 (nle rfl) dX9_ways_23 (fun H locs hP hD hS => ?_)
          obtain ⟨j36, ej36, hf⟩ := bvf1 hf
          have hj36 : ∀ (t36 : Int32) (H : Heap) (locs : List Loc) (ls : Array Slot), j36 t36 = some q14 → va_P g.1 vwCl (w_X9_ways g a0 a1 u0_1 u0_2 u0_3 u0_4 u0_5 u0_6 u0_8 u0_9 u0_10 u0_11 u0_12 u0_13 u0_14 u0_15 u0_16 u0_17 u0_18 u0_19 u0_20 u0_21 u0_22 u0_23 u0_24 u0_25 u0_26 u0_27 u0_28 u0_29 u0_30 x0_thrown_1 y1_s) H → va_D A (w_X9_ways g a0 a1 u0_1 u0_2 u0_3 u0_4 u0_5 u0_6 u0_8 u0_9 u0_10 u0_11 u0_12 u0_13 u0_14 u0_15 u0_16 u0_17 u0_18 u0_19 u0_20 u0_21 u0_22 u0_23 u0_24 u0_25 u0_26 u0_27 u0_28 u0_29 u0_30 x0_thrown_1 y1_s) → va_S A s.heap H locs → lv_has ls 4 [(0, .ref a0), (1, .int p1), (3, .int v3)] → W p l e (RM 6 151) s m args below meth c H locs 0 0 Q (F0 m 36 ls [.int t36, .int v2]) := by
            intro t36 H locs ls hf hP hD hS hl
            have hf := (ej36 t36).symm.trans hf
            refine lv_ior (pc := 36) hexec hb dX9_ways_36 ?_
            obtain ⟨v2_2, ev2_2, hf⟩ := bv_e hf
            refine kn_i ev2_2 ?_
            refine lv_istore_n (pc := 37) hexec hb dX9_ways_37 rfl hl (nle rfl) rfl (fun ls (hl : lv_has ls 4 [(2, .int v2_2), (0, .ref a0), (1, .int p1), (3, .int v3)]) => ?_)
            obtain ⟨v3_1, ev3_1, hf⟩ := bv_e hf
            refine k_iinc (pc := 38) hexec hb dX9_ways_38 kq_1 hl (k := 3) rfl ev3_1 (nle rfl) rfl (fun ls (hl : lv_has ls 4 [(3, .int v3_1), (2, .int v2_2), (0, .ref a0), (1, .int p1)]) => ?_)
            refine lv_goto (pc := 41) hexec hb dX9_ways_41 (tgt := 14) rfl ?_
            exact ih14 _ _ _ _ _ (sl2 hf hk14) hP hD hS (lv_sub hl [2, 3, 1, 0] rfl)
          refine kb_ne (pc := 26) hexec hb dX9_ways_26 (tgt := 35) rfl hf (fun hc hf => ?_) (fun hc hf => ?_)
          · refine lv_iconst (pc := 35) hexec hb dX9_ways_35 ki_0 ?_
            exact hj36 _ _ _ _ hf hP hD hS (lv_sub hl [0, 1, 3] rfl)
          · refine lv_iconst (pc := 29) hexec hb dX9_ways_29 ki_1 ?_
            refine lv_iload_n (pc := 30) hexec hb dX9_ways_30 rfl (lv_at hl 3 rfl) ?_
            refine lv_ishl (pc := 31) hexec hb dX9_ways_31 ?_
            refine lv_goto (pc := 32) hexec hb dX9_ways_32 (tgt := 36) rfl ?_
            exact hj36 _ _ _ _ hf hP hD hS (lv_sub hl [0, 1, 3] rfl)
    exact hL14 n _ _ _ _ _ hz hP hD hS (lv_sub hl [2, 3, 1, 0] rfl)
  · refine lv_iconst (pc := 8) hexec hb dX9_ways_8 ki_0 ?_
    cases hf
    exact ke_i hQ hexec hb hr hP hD hS dX9_ways_9 hlocks
abbrev w_X9_room (g : GE) (a0 a1 : Nat) (u0_1 u0_2 u0_3 u0_4 u0_5 u0_6 u0_8 u0_9 u0_10 u0_11 u0_12 u0_13 u0_14 u0_15 u0_16 u0_17 u0_18 u0_19 u0_20 u0_21 u0_22 u0_23 u0_24 u0_25 u0_26 u0_27 u0_28 u0_29 u0_30 : Value) (x0_thrown : Int32) (y1_s : Nat → Int32) : va_W := [(a0, .inr (9, [.ref a1, u0_1, u0_2, u0_3, u0_4, u0_5, u0_6, .int x0_thrown, u0_8, u0_9, u0_10, u0_11, u0_12, u0_13, u0_14, u0_15, u0_16, u0_17, u0_18, u0_19, u0_20, u0_21, u0_22, u0_23, u0_24, u0_25, u0_26, u0_27, u0_28, u0_29, u0_30])), (a1, .inl (g.2.1 0, 552, .inl y1_s))]
noncomputable def f_X9_room (x0_thrown : Int32) (y1_s : Nat → Int32) (p1 : Int32) (p2 : Int32) : Option (Int32 × Int32) :=
  bd1 (f_X9_isHarbour y1_s p1) fun (r3 : Int32) =>
  bd1 (f_X9_isWay p2) fun (r7 : Int32) =>
  bd2 (f_X9_passes x0_thrown r3 r7) fun (r10 : Int32) (x0_thrown_1 : Int32) =>
  (if r10 = 0 then (
    some (0, x0_thrown_1)
  ) else (
    bd1 (f_X9_of y1_s p1 0) fun (r24 : Int32) =>
    bd1 (f_X9_away y1_s r24 p2 1) fun (r29 : Int32) =>
    bv (fun (v3 : Int32) (v4 : Int32) => ((
      bd1 (f_X9_isLand y1_s v4) fun (r37 : Int32) =>
      (if r37 = 0 then (
        some (.inr v3)
      ) else (
        bd1 (f_X9_isRiver y1_s v4) fun (r46 : Int32) =>
        (if r46 = 0 then (
          bd1 (f_X9_harbourAt y1_s v4 (-1)) fun (r56 : Int32) =>
          (if r56 = (-1) then (
            bv (v3 + 1) fun v3_2 =>
            bd1 (f_X9_away y1_s v4 p2 1) fun (r71 : Int32) =>
            some (.inl (v3_2, r71))
          ) else (
            some (.inr v3)
          ))
        ) else (
          some (.inr v3)
        ))
      ))
      ) : Option ((Int32 × Int32) ⊕ (Int32)))) fun l34 =>
    bd1 (lq2 l34 0 r29) fun (v3_1 : Int32) =>
    some (v3_1, x0_thrown_1)
  ))
set_option maxRecDepth 4000 in
theorem c_X9_room (l : Launch) (g : GE) (a0 a1 : Nat) (sz : Nat) (u0_1 u0_2 u0_3 u0_4 u0_5 u0_6 u0_8 u0_9 u0_10 u0_11 u0_12 u0_13 u0_14 u0_15 u0_16 u0_17 u0_18 u0_19 u0_20 u0_21 u0_22 u0_23 u0_24 u0_25 u0_26 u0_27 u0_28 u0_29 u0_30 : Value) (x0_thrown : Int32) (y1_s : Nat → Int32) (p1 : Int32) (p2 : Int32) (r : Int32) (o_x0_thrown : Int32) (hf : f_X9_room x0_thrown y1_s p1 p2 = some (r, o_x0_thrown)) : MI l g yX9_room wsX9_room 3 74 [.ref a0, .int p1, .int p2] (w_X9_room g a0 a1 u0_1 u0_2 u0_3 u0_4 u0_5 u0_6 u0_8 u0_9 u0_10 u0_11 u0_12 u0_13 u0_14 u0_15 u0_16 u0_17 u0_18 u0_19 u0_20 u0_21 u0_22 u0_23 u0_24 u0_25 u0_26 u0_27 u0_28 u0_29 u0_30 x0_thrown y1_s) sz (some (.int r)) (w_X9_room g a0 a1 u0_1 u0_2 u0_3 u0_4 u0_5 u0_6 u0_8 u0_9 u0_10 u0_11 u0_12 u0_13 u0_14 u0_15 u0_16 u0_17 u0_18 u0_19 u0_20 u0_21 u0_22 u0_23 u0_24 u0_25 u0_26 u0_27 u0_28 u0_29 u0_30 o_x0_thrown y1_s) := by
  refine MI.start (cc := cX9_room) (maxL := 5) (ret := (some .int)) rfl rfl (nle rfl) ?_
  intro p e s m args below meth c A ls Q hQ hexec hb hr hts hown hlocks hml hA hP hD hG hS hl
  unfold f_X9_room at hf
  have hWX9 : ∀ w ∈ wsX90, w.before args s = true := fun w h => hts w (List.mem_cons_of_mem _ (List.mem_append_right _ h))
  have hS : va_S A s.heap s.heap [] := hS
  refine lv_aload_n (pc := 0) hexec hb dX9_room_0 rfl (lv_at hl 0 rfl) ?_
  refine lv_aload_n (pc := 1) hexec hb dX9_room_1 rfl (lv_at hl 0 rfl) ?_
  refine lv_iload_n (pc := 2) hexec hb dX9_room_2 rfl (lv_at hl 1 rfl) ?_
  obtain ⟨r3, hc, hf⟩ := bd1_e hf
  refine kVp (pc := 3) (S := ⟨hexec, hb, hml, hown, hts⟩) hP hD hG hA hS [0, 1] [] [0, 1] (w2 := (w_X9_room g a0 a1 u0_1 u0_2 u0_3 u0_4 u0_5 u0_6 u0_8 u0_9 u0_10 u0_11 u0_12 u0_13 u0_14 u0_15 u0_16 u0_17 u0_18 u0_19 u0_20 u0_21 u0_22 u0_23 u0_24 u0_25 u0_26 u0_27 u0_28 u0_29 u0_30 x0_thrown y1_s)) rfl rfl rfl rfl rfl rfl (by decide) (c_X9_isHarbour l g a0 a1 _ u0_1 u0_2 u0_3 u0_4 u0_5 u0_6 (.int x0_thrown) u0_8 u0_9 u0_10 u0_11 u0_12 u0_13 u0_14 u0_15 u0_16 u0_17 u0_18 u0_19 u0_20 u0_21 u0_22 u0_23 u0_24 u0_25 u0_26 u0_27 u0_28 u0_29 u0_30 y1_s p1 r3 hc) gX9_room_X9_isHarbour rfl hv_X9_isHarbour ⟨nle rfl, nle rfl⟩ 9 0 rfl rfl rfl (rest := [.ref a0]) rfl rfl hl.1 (nle rfl) dX9_room_3 (fun H locs hP hD hS => ?_)
  refine lv_iload_n (pc := 6) hexec hb dX9_room_6 rfl (lv_at hl 2 rfl) ?_
  obtain ⟨r7, hc, hf⟩ := bd1_e hf
  refine kSp (pc := 7) (S := ⟨hexec, hb, hml, hown, hts⟩) hP hD hG hA hS [] [0, 1] [0, 1] (w2 := (w_X9_room g a0 a1 u0_1 u0_2 u0_3 u0_4 u0_5 u0_6 u0_8 u0_9 u0_10 u0_11 u0_12 u0_13 u0_14 u0_15 u0_16 u0_17 u0_18 u0_19 u0_20 u0_21 u0_22 u0_23 u0_24 u0_25 u0_26 u0_27 u0_28 u0_29 u0_30 x0_thrown y1_s)) rfl rfl rfl rfl rfl rfl (by decide) (c_X9_isWay l g _ p2 r7 hc) gX9_room_X9_isWay rfl hs_X9_isWay ⟨nle rfl, nle rfl⟩ (rest := [.int r3, .ref a0]) rfl rfl hl.1 (nle rfl) dX9_room_7 (fun H locs hP hD hS => ?_)
  obtain ⟨r10, x0_thrown_1, hc, hf⟩ := bd2_e hf
  refine kVp (pc := 10) (S := ⟨hexec, hb, hml, hown, hts⟩) hP hD hG hA hS [0] [1] [1, 0] (w2 := (w_X9_room g a0 a1 u0_1 u0_2 u0_3 u0_4 u0_5 u0_6 u0_8 u0_9 u0_10 u0_11 u0_12 u0_13 u0_14 u0_15 u0_16 u0_17 u0_18 u0_19 u0_20 u0_21 u0_22 u0_23 u0_24 u0_25 u0_26 u0_27 u0_28 u0_29 u0_30 x0_thrown_1 y1_s)) rfl rfl rfl rfl rfl rfl (by decide) (c_X9_passes l g a0 _ (.ref a1) u0_1 u0_2 u0_3 u0_4 u0_5 u0_6 u0_8 u0_9 u0_10 u0_11 u0_12 u0_13 u0_14 u0_15 u0_16 u0_17 u0_18 u0_19 u0_20 u0_21 u0_22 u0_23 u0_24 u0_25 u0_26 u0_27 u0_28 u0_29 u0_30 x0_thrown r3 r7 r10 x0_thrown_1 hc) gX9_room_X9_passes rfl hv_X9_passes ⟨nle rfl, nle rfl⟩ 9 0 rfl rfl rfl (rest := []) rfl rfl hl.1 (nle rfl) dX9_room_10 (fun H locs hP hD hS => ?_)
  refine kb_ne (pc := 13) hexec hb dX9_room_13 (tgt := 18) rfl hf (fun hc hf => ?_) (fun hc hf => ?_)
  · refine lv_iconst (pc := 18) hexec hb dX9_room_18 ki_0 ?_
    refine lv_istore_n (pc := 19) hexec hb dX9_room_19 rfl hl (nle rfl) rfl (fun ls (hl : lv_has ls 5 [(3, .int 0), (0, .ref a0), (1, .int p1), (2, .int p2)]) => ?_)
    refine lv_aload_n (pc := 20) hexec hb dX9_room_20 rfl (lv_at hl 1 rfl) ?_
    refine lv_aload_n (pc := 21) hexec hb dX9_room_21 rfl (lv_at hl 1 rfl) ?_
    refine lv_iload_n (pc := 22) hexec hb dX9_room_22 rfl (lv_at hl 2 rfl) ?_
    refine lv_iconst (pc := 23) hexec hb dX9_room_23 ki_0 ?_
    obtain ⟨r24, hc, hf⟩ := bd1_e hf
    refine kVp (pc := 24) (S := ⟨hexec, hb, hml, hown, hts⟩) hP hD hG hA hS [0, 1] [] [0, 1] (w2 := (w_X9_room g a0 a1 u0_1 u0_2 u0_3 u0_4 u0_5 u0_6 u0_8 u0_9 u0_10 u0_11 u0_12 u0_13 u0_14 u0_15 u0_16 u0_17 u0_18 u0_19 u0_20 u0_21 u0_22 u0_23 u0_24 u0_25 u0_26 u0_27 u0_28 u0_29 u0_30 x0_thrown_1 y1_s)) rfl rfl rfl rfl rfl rfl (by decide) (c_X9_of l g a0 a1 _ u0_1 u0_2 u0_3 u0_4 u0_5 u0_6 (.int x0_thrown_1) u0_8 u0_9 u0_10 u0_11 u0_12 u0_13 u0_14 u0_15 u0_16 u0_17 u0_18 u0_19 u0_20 u0_21 u0_22 u0_23 u0_24 u0_25 u0_26 u0_27 u0_28 u0_29 u0_30 y1_s p1 0 r24 hc) gX9_room_X9_of rfl hv_X9_of ⟨nle rfl, nle rfl⟩ 9 0 rfl rfl rfl (rest := [.ref a0]) rfl rfl hl.1 (nle rfl) dX9_room_24 (fun H locs hP hD hS => ?_)
    refine lv_iload_n (pc := 27) hexec hb dX9_room_27 rfl (lv_at hl 3 rfl) ?_
    refine lv_iconst (pc := 28) hexec hb dX9_room_28 ki_1 ?_
    obtain ⟨r29, hc, hf⟩ := bd1_e hf
    refine kVp (pc := 29) (S := ⟨hexec, hb, hml, hown, hts⟩) hP hD hG hA hS [0, 1] [] [0, 1] (w2 := (w_X9_room g a0 a1 u0_1 u0_2 u0_3 u0_4 u0_5 u0_6 u0_8 u0_9 u0_10 u0_11 u0_12 u0_13 u0_14 u0_15 u0_16 u0_17 u0_18 u0_19 u0_20 u0_21 u0_22 u0_23 u0_24 u0_25 u0_26 u0_27 u0_28 u0_29 u0_30 x0_thrown_1 y1_s)) rfl rfl rfl rfl rfl rfl (by decide) (c_X9_away l g a0 a1 _ u0_1 u0_2 u0_3 u0_4 u0_5 u0_6 (.int x0_thrown_1) u0_8 u0_9 u0_10 u0_11 u0_12 u0_13 u0_14 u0_15 u0_16 u0_17 u0_18 u0_19 u0_20 u0_21 u0_22 u0_23 u0_24 u0_25 u0_26 u0_27 u0_28 u0_29 u0_30 y1_s r24 p2 1 r29 hc) gX9_room_X9_away rfl hv_X9_away ⟨nle rfl, nle rfl⟩ 9 0 rfl rfl rfl (rest := []) rfl rfl hl.1 (nle rfl) dX9_room_29 (fun H locs hP hD hS => ?_)
    refine lv_istore (pc := 32) hexec hb dX9_room_32 hl (nle rfl) rfl (fun ls (hl : lv_has ls 5 [(4, .int r29), (3, .int 0), (0, .ref a0), (1, .int p1), (2, .int p2)]) => ?_)
    obtain ⟨l34, el34, hf⟩ := bvf2 hf
    obtain ⟨v3_1, hz, hf⟩ := bd1_e hf
    have hE34 : ∀ (H : Heap) (locs : List Loc) (ls : Array Slot), va_P g.1 vwCl (w_X9_room g a0 a1 u0_1 u0_2 u0_3 u0_4 u0_5 u0_6 u0_8 u0_9 u0_10 u0_11 u0_12 u0_13 u0_14 u0_15 u0_16 u0_17 u0_18 u0_19 u0_20 u0_21 u0_22 u0_23 u0_24 u0_25 u0_26 u0_27 u0_28 u0_29 u0_30 x0_thrown_1 y1_s) H → va_D A (w_X9_room g a0 a1 u0_1 u0_2 u0_3 u0_4 u0_5 u0_6 u0_8 u0_9 u0_10 u0_11 u0_12 u0_13 u0_14 u0_15 u0_16 u0_17 u0_18 u0_19 u0_20 u0_21 u0_22 u0_23 u0_24 u0_25 u0_26 u0_27 u0_28 u0_29 u0_30 x0_thrown_1 y1_s) → va_S A s.heap H locs → lv_has ls 5 [(3, .int v3_1)] → W p l e (RM 3 74) s m args below meth c H locs 0 0 Q (F0 m 79 ls []) := by
      intro H locs ls hP hD hS hl
      refine lv_iload_n (pc := 79) hexec hb dX9_room_79 rfl (lv_at hl 0 rfl) ?_
      cases hf
      exact ke_i hQ hexec hb hr hP hD hS dX9_room_80 hlocks
    obtain ⟨n, hz⟩ := lq2_e hz
    have hL34 : ∀ (n : Nat) (v3 : Int32) (v4 : Int32) (H : Heap) (locs : List Loc) (ls : Array Slot), it2 l34 n v3 v4 = some v3_1 → va_P g.1 vwCl (w_X9_room g a0 a1 u0_1 u0_2 u0_3 u0_4 u0_5 u0_6 u0_8 u0_9 u0_10 u0_11 u0_12 u0_13 u0_14 u0_15 u0_16 u0_17 u0_18 u0_19 u0_20 u0_21 u0_22 u0_23 u0_24 u0_25 u0_26 u0_27 u0_28 u0_29 u0_30 x0_thrown_1 y1_s) H → va_D A (w_X9_room g a0 a1 u0_1 u0_2 u0_3 u0_4 u0_5 u0_6 u0_8 u0_9 u0_10 u0_11 u0_12 u0_13 u0_14 u0_15 u0_16 u0_17 u0_18 u0_19 u0_20 u0_21 u0_22 u0_23 u0_24 u0_25 u0_26 u0_27 u0_28 u0_29 u0_30 x0_thrown_1 y1_s) → va_S A s.heap H locs → lv_has ls 5 [(0, .ref a0), (2, .int p2), (3, .int v3), (4, .int v4)] → W p l e (RM 3 74) s m args below meth c H locs 0 0 Q (F0 m 34 ls []) := by
      intro n
      induction n with
      | zero =>
        intro v3 v4 H locs ls hf hP hD hS hl
        exact it2_0 hf
      | succ n34 ih34 =>
        intro v3 v4 H locs ls hf hP hD hS hl
        obtain ⟨q34, hf, hk34⟩ := it2_e hf
        have hf := (el34 v3 v4).symm.trans hf
        refine lv_aload_n (pc := 34) hexec hb dX9_room_34 rfl (lv_at hl 0 rfl) ?_
        refine lv_iload (pc := 35) hexec hb dX9_room_35 (lv_at hl 3 rfl) ?_
        obtain ⟨r37, hc, hf⟩ := bd1_e hf
        refine kVp (pc := 37) (S := ⟨hexec, hb, hml, hown, hts⟩) hP hD hG hA hS [0, 1] [] [0, 1] (w2 := (w_X9_room g a0 a1 u0_1 u0_2 u0_3 u0_4 u0_5 u0_6 u0_8 u0_9 u0_10 u0_11 u0_12 u0_13 u0_14 u0_15 u0_16 u0_17 u0_18 u0_19 u0_20 u0_21 u0_22 u0_23 u0_24 u0_25 u0_26 u0_27 u0_28 u0_29 u0_30 x0_thrown_1 y1_s)) rfl rfl rfl rfl rfl rfl (by decide) (c_X9_isLand l g a0 a1 _ u0_1 u0_2 u0_3 u0_4 u0_5 u0_6 (.int x0_thrown_1) u0_8 u0_9 u0_10 u0_11 u0_12 u0_13 u0_14 u0_15 u0_16 u0_17 u0_18 u0_19 u0_20 u0_21 u0_22 u0_23 u0_24 u0_25 u0_26 u0_27 u0_28 u0_29 u0_30 y1_s v4 r37 hc) gX9_room_X9_isLand rfl hv_X9_isLand ⟨nle rfl, nle rfl⟩ 9 0 rfl rfl rfl (rest := []) rfl rfl hl.1 (nle rfl) dX9_room_37 (fun H locs hP hD hS => ?_)
        refine kb_eq (pc := 40) hexec hb dX9_room_40 (tgt := 79) rfl hf (fun hc hf => ?_) (fun hc hf => ?_)
        · cases sr2 hf hk34
          exact hE34 _ _ _ hP hD hS (lv_sub hl [2] rfl)
        · refine lv_aload_n (pc := 43) hexec hb dX9_room_43 rfl (lv_at hl 0 rfl) ?_
          refine lv_iload (pc := 44) hexec hb dX9_room_44 (lv_at hl 3 rfl) ?_
          obtain ⟨r46, hc, hf⟩ := bd1_e hf
          refine kVp (pc := 46) (S := ⟨hexec, hb, hml, hown, hts⟩) hP hD hG hA hS [0, 1] [] [0, 1] (w2 := (w_X9_room g a0 a1 u0_1 u0_2 u0_3 u0_4 u0_5 u0_6 u0_8 u0_9 u0_10 u0_11 u0_12 u0_13 u0_14 u0_15 u0_16 u0_17 u0_18 u0_19 u0_20 u0_21 u0_22 u0_23 u0_24 u0_25 u0_26 u0_27 u0_28 u0_29 u0_30 x0_thrown_1 y1_s)) rfl rfl rfl rfl rfl rfl (by decide) (c_X9_isRiver l g a0 a1 _ u0_1 u0_2 u0_3 u0_4 u0_5 u0_6 (.int x0_thrown_1) u0_8 u0_9 u0_10 u0_11 u0_12 u0_13 u0_14 u0_15 u0_16 u0_17 u0_18 u0_19 u0_20 u0_21 u0_22 u0_23 u0_24 u0_25 u0_26 u0_27 u0_28 u0_29 u0_30 y1_s v4 r46 hc) gX9_room_X9_isRiver rfl hv_X9_isRiver ⟨nle rfl, nle rfl⟩ 9 0 rfl rfl rfl (rest := []) rfl rfl hl.1 (nle rfl) dX9_room_46 (fun H locs hP hD hS => ?_)
          refine kb_ne (pc := 49) hexec hb dX9_room_49 (tgt := 79) rfl hf (fun hc hf => ?_) (fun hc hf => ?_)
          · cases sr2 hf hk34
            exact hE34 _ _ _ hP hD hS (lv_sub hl [2] rfl)
          · refine lv_aload_n (pc := 52) hexec hb dX9_room_52 rfl (lv_at hl 0 rfl) ?_
            refine lv_iload (pc := 53) hexec hb dX9_room_53 (lv_at hl 3 rfl) ?_
            refine lv_iconst (pc := 55) hexec hb dX9_room_55 ki_m1 ?_
            obtain ⟨r56, hc, hf⟩ := bd1_e hf
            refine kVp (pc := 56) (S := ⟨hexec, hb, hml, hown, hts⟩) hP hD hG hA hS [0, 1] [] [0, 1] (w2 := (w_X9_room g a0 a1 u0_1 u0_2 u0_3 u0_4 u0_5 u0_6 u0_8 u0_9 u0_10 u0_11 u0_12 u0_13 u0_14 u0_15 u0_16 u0_17 u0_18 u0_19 u0_20 u0_21 u0_22 u0_23 u0_24 u0_25 u0_26 u0_27 u0_28 u0_29 u0_30 x0_thrown_1 y1_s)) rfl rfl rfl rfl rfl rfl (by decide) (c_X9_harbourAt l g a0 a1 _ u0_1 u0_2 u0_3 u0_4 u0_5 u0_6 (.int x0_thrown_1) u0_8 u0_9 u0_10 u0_11 u0_12 u0_13 u0_14 u0_15 u0_16 u0_17 u0_18 u0_19 u0_20 u0_21 u0_22 u0_23 u0_24 u0_25 u0_26 u0_27 u0_28 u0_29 u0_30 y1_s v4 (-1) r56 hc) gX9_room_X9_harbourAt rfl hv_X9_harbourAt ⟨nle rfl, nle rfl⟩ 9 0 rfl rfl rfl (rest := []) rfl rfl hl.1 (nle rfl) dX9_room_56 (fun H locs hP hD hS => ?_)
            refine lv_iconst (pc := 59) hexec hb dX9_room_59 ki_m1 ?_
            refine ki_ne (pc := 60) hexec hb dX9_room_60 (tgt := 79) rfl hf (fun hc hf => ?_) (fun hc hf => ?_)
            · cases sr2 hf hk34
              exact hE34 _ _ _ hP hD hS (lv_sub hl [2] rfl)
            · obtain ⟨v3_2, ev3_2, hf⟩ := bv_e hf
              refine k_iinc (pc := 63) hexec hb dX9_room_63 kq_1 hl (k := 2) rfl ev3_2 (nle rfl) rfl (fun ls (hl : lv_has ls 5 [(3, .int v3_2), (0, .ref a0), (2, .int p2), (4, .int v4)]) => ?_)
              refine lv_aload_n (pc := 66) hexec hb dX9_room_66 rfl (lv_at hl 1 rfl) ?_
              refine lv_iload (pc := 67) hexec hb dX9_room_67 (lv_at hl 3 rfl) ?_
              refine lv_iload_n (pc := 69) hexec hb dX9_room_69 rfl (lv_at hl 2 rfl) ?_
              refine lv_iconst (pc := 70) hexec hb dX9_room_70 ki_1 ?_
              obtain ⟨r71, hc, hf⟩ := bd1_e hf
              refine kVp (pc := 71) (S := ⟨hexec, hb, hml, hown, hts⟩) hP hD hG hA hS [0, 1] [] [0, 1] (w2 := (w_X9_room g a0 a1 u0_1 u0_2 u0_3 u0_4 u0_5 u0_6 u0_8 u0_9 u0_10 u0_11 u0_12 u0_13 u0_14 u0_15 u0_16 u0_17 u0_18 u0_19 u0_20 u0_21 u0_22 u0_23 u0_24 u0_25 u0_26 u0_27 u0_28 u0_29 u0_30 x0_thrown_1 y1_s)) rfl rfl rfl rfl rfl rfl (by decide) (c_X9_away l g a0 a1 _ u0_1 u0_2 u0_3 u0_4 u0_5 u0_6 (.int x0_thrown_1) u0_8 u0_9 u0_10 u0_11 u0_12 u0_13 u0_14 u0_15 u0_16 u0_17 u0_18 u0_19 u0_20 u0_21 u0_22 u0_23 u0_24 u0_25 u0_26 u0_27 u0_28 u0_29 u0_30 y1_s v4 p2 1 r71 hc) gX9_room_X9_away rfl hv_X9_away ⟨nle rfl, nle rfl⟩ 9 0 rfl rfl rfl (rest := []) rfl rfl hl.1 (nle rfl) dX9_room_71 (fun H locs hP hD hS => ?_)
              refine lv_istore (pc := 74) hexec hb dX9_room_74 hl (nle rfl) rfl (fun ls (hl : lv_has ls 5 [(4, .int r71), (3, .int v3_2), (0, .ref a0), (2, .int p2)]) => ?_)
              refine lv_goto (pc := 76) hexec hb dX9_room_76 (tgt := 34) rfl ?_
              exact ih34 _ _ _ _ _ (sl2 hf hk34) hP hD hS (lv_sub hl [2, 3, 1, 0] rfl)
    exact hL34 n _ _ _ _ _ hz hP hD hS (lv_sub hl [2, 4, 1, 0] rfl)
  · refine lv_iconst (pc := 16) hexec hb dX9_room_16 ki_0 ?_
    cases hf
    exact ke_i hQ hexec hb hr hP hD hS dX9_room_17 hlocks
abbrev w_X9_crossings (g : GE) (a0 a1 : Nat) (u0_1 u0_2 u0_3 u0_4 u0_5 u0_6 u0_8 u0_9 u0_10 u0_11 u0_12 u0_13 u0_14 u0_15 u0_16 u0_17 u0_18 u0_19 u0_20 u0_21 u0_22 u0_23 u0_24 u0_25 u0_26 u0_27 u0_28 u0_29 u0_30 : Value) (x0_thrown : Int32) (y1_s : Nat → Int32) : va_W := [(a0, .inr (9, [.ref a1, u0_1, u0_2, u0_3, u0_4, u0_5, u0_6, .int x0_thrown, u0_8, u0_9, u0_10, u0_11, u0_12, u0_13, u0_14, u0_15, u0_16, u0_17, u0_18, u0_19, u0_20, u0_21, u0_22, u0_23, u0_24, u0_25, u0_26, u0_27, u0_28, u0_29, u0_30])), (a1, .inl (g.2.1 0, 552, .inl y1_s))]
noncomputable def f_X9_crossings (x0_thrown : Int32) (y1_s : Nat → Int32)  : Option (Int32 × Int32) :=
  bv (fun (v1 : Int32) (v2 : Int32) => ((
    ar 2 552 <|
    (if (y1_s (2 : Int32).toNatClampNeg) ≤ v2 then (
      some (.inr v1)
    ) else (
      bd1 (f_X9_crossedBy y1_s v2) fun (r22 : Int32) =>
      bd1 (f_X9_ones r22) fun (r25 : Int32) =>
      bv (v1 + r25) fun v1_2 =>
      bv (v2 + 1) fun v2_1 =>
      some (.inl (v1_2, v2_1))
    ))
    ) : Option ((Int32 × Int32) ⊕ (Int32)))) fun l9 =>
  bd1 (lq2 l9 0 0) fun (v1_1 : Int32) =>
  some ((v1_1 / 2), 0)
set_option maxRecDepth 4000 in
theorem c_X9_crossings (l : Launch) (g : GE) (a0 a1 : Nat) (sz : Nat) (u0_1 u0_2 u0_3 u0_4 u0_5 u0_6 u0_8 u0_9 u0_10 u0_11 u0_12 u0_13 u0_14 u0_15 u0_16 u0_17 u0_18 u0_19 u0_20 u0_21 u0_22 u0_23 u0_24 u0_25 u0_26 u0_27 u0_28 u0_29 u0_30 : Value) (x0_thrown : Int32) (y1_s : Nat → Int32)  (r : Int32) (o_x0_thrown : Int32) (hf : f_X9_crossings x0_thrown y1_s = some (r, o_x0_thrown)) : MI l g yX9_crossings wsX9_crossings 7 167 [.ref a0] (w_X9_crossings g a0 a1 u0_1 u0_2 u0_3 u0_4 u0_5 u0_6 u0_8 u0_9 u0_10 u0_11 u0_12 u0_13 u0_14 u0_15 u0_16 u0_17 u0_18 u0_19 u0_20 u0_21 u0_22 u0_23 u0_24 u0_25 u0_26 u0_27 u0_28 u0_29 u0_30 x0_thrown y1_s) sz (some (.int r)) (w_X9_crossings g a0 a1 u0_1 u0_2 u0_3 u0_4 u0_5 u0_6 u0_8 u0_9 u0_10 u0_11 u0_12 u0_13 u0_14 u0_15 u0_16 u0_17 u0_18 u0_19 u0_20 u0_21 u0_22 u0_23 u0_24 u0_25 u0_26 u0_27 u0_28 u0_29 u0_30 o_x0_thrown y1_s) := by
  refine MI.start (cc := cX9_crossings) (maxL := 3) (ret := (some .int)) rfl rfl (nle rfl) ?_
  intro p e s m args below meth c A ls Q hQ hexec hb hr hts hown hlocks hml hA hP hD hG hS hl
  unfold f_X9_crossings at hf
  have hWX9 : ∀ w ∈ wsX90, w.before args s = true := fun w h => hts w (List.mem_cons_of_mem _ (List.mem_append_right _ h))
  have hS : va_S A s.heap s.heap [] := hS
  refine lv_aload_n (pc := 0) hexec hb dX9_crossings_0 rfl (lv_at hl 0 rfl) ?_
  refine lv_iconst (pc := 1) hexec hb dX9_crossings_1 ki_0 ?_
  refine kp_put (pc := 2) hexec hb (own := RX9) hWX9 tyX9 tyX9_ok nmX9 hown hG hP hD hS 0 rfl rfl 7 (nle rfl) (hts _ (List.mem_cons_of_mem _ (List.mem_append_left _ (List.mem_append_left _ (List.mem_of_getElem? (i := 0) rfl))))) rfl rfl rfl rfl (nle rfl) dX9_crossings_2 (fun H locs (hP : va_P g.1 vwCl (w_X9_crossings g a0 a1 u0_1 u0_2 u0_3 u0_4 u0_5 u0_6 u0_8 u0_9 u0_10 u0_11 u0_12 u0_13 u0_14 u0_15 u0_16 u0_17 u0_18 u0_19 u0_20 u0_21 u0_22 u0_23 u0_24 u0_25 u0_26 u0_27 u0_28 u0_29 u0_30 0 y1_s) H) (hD : va_D A (w_X9_crossings g a0 a1 u0_1 u0_2 u0_3 u0_4 u0_5 u0_6 u0_8 u0_9 u0_10 u0_11 u0_12 u0_13 u0_14 u0_15 u0_16 u0_17 u0_18 u0_19 u0_20 u0_21 u0_22 u0_23 u0_24 u0_25 u0_26 u0_27 u0_28 u0_29 u0_30 0 y1_s)) hS => ?_)
  refine lv_iconst (pc := 5) hexec hb dX9_crossings_5 ki_0 ?_
  refine lv_istore_n (pc := 6) hexec hb dX9_crossings_6 rfl hl (nle rfl) rfl (fun ls (hl : lv_has ls 3 [(1, .int 0), (0, .ref a0)]) => ?_)
  refine lv_iconst (pc := 7) hexec hb dX9_crossings_7 ki_0 ?_
  refine lv_istore_n (pc := 8) hexec hb dX9_crossings_8 rfl hl (nle rfl) rfl (fun ls (hl : lv_has ls 3 [(2, .int 0), (1, .int 0), (0, .ref a0)]) => ?_)
  obtain ⟨l9, el9, hf⟩ := bvf2 hf
  obtain ⟨v1_1, hz, hf⟩ := bd1_e hf
  have hE9 : ∀ (H : Heap) (locs : List Loc) (ls : Array Slot), va_P g.1 vwCl (w_X9_crossings g a0 a1 u0_1 u0_2 u0_3 u0_4 u0_5 u0_6 u0_8 u0_9 u0_10 u0_11 u0_12 u0_13 u0_14 u0_15 u0_16 u0_17 u0_18 u0_19 u0_20 u0_21 u0_22 u0_23 u0_24 u0_25 u0_26 u0_27 u0_28 u0_29 u0_30 0 y1_s) H → va_D A (w_X9_crossings g a0 a1 u0_1 u0_2 u0_3 u0_4 u0_5 u0_6 u0_8 u0_9 u0_10 u0_11 u0_12 u0_13 u0_14 u0_15 u0_16 u0_17 u0_18 u0_19 u0_20 u0_21 u0_22 u0_23 u0_24 u0_25 u0_26 u0_27 u0_28 u0_29 u0_30 0 y1_s) → va_S A s.heap H locs → lv_has ls 3 [(1, .int v1_1)] → W p l e (RM 7 167) s m args below meth c H locs 0 0 Q (F0 m 36 ls []) := by
    intro H locs ls hP hD hS hl
    refine lv_iload_n (pc := 36) hexec hb dX9_crossings_36 rfl (lv_at hl 0 rfl) ?_
    refine lv_iconst (pc := 37) hexec hb dX9_crossings_37 ki_2 ?_
    refine lv_idiv (pc := 38) hexec hb dX9_crossings_38 (by decide) ?_
    cases hf
    exact ke_i hQ hexec hb hr hP hD hS dX9_crossings_39 hlocks
  obtain ⟨n, hz⟩ := lq2_e hz
  have hL9 : ∀ (n : Nat) (v1 : Int32) (v2 : Int32) (H : Heap) (locs : List Loc) (ls : Array Slot), it2 l9 n v1 v2 = some v1_1 → va_P g.1 vwCl (w_X9_crossings g a0 a1 u0_1 u0_2 u0_3 u0_4 u0_5 u0_6 u0_8 u0_9 u0_10 u0_11 u0_12 u0_13 u0_14 u0_15 u0_16 u0_17 u0_18 u0_19 u0_20 u0_21 u0_22 u0_23 u0_24 u0_25 u0_26 u0_27 u0_28 u0_29 u0_30 0 y1_s) H → va_D A (w_X9_crossings g a0 a1 u0_1 u0_2 u0_3 u0_4 u0_5 u0_6 u0_8 u0_9 u0_10 u0_11 u0_12 u0_13 u0_14 u0_15 u0_16 u0_17 u0_18 u0_19 u0_20 u0_21 u0_22 u0_23 u0_24 u0_25 u0_26 u0_27 u0_28 u0_29 u0_30 0 y1_s) → va_S A s.heap H locs → lv_has ls 3 [(0, .ref a0), (1, .int v1), (2, .int v2)] → W p l e (RM 7 167) s m args below meth c H locs 0 0 Q (F0 m 9 ls []) := by
    intro n
    induction n with
    | zero =>
      intro v1 v2 H locs ls hf hP hD hS hl
      exact it2_0 hf
    | succ n9 ih9 =>
      intro v1 v2 H locs ls hf hP hD hS hl
      obtain ⟨q9, hf, hk9⟩ := it2_e hf
      have hf := (el9 v1 v2).symm.trans hf
      refine lv_iload_n (pc := 9) hexec hb dX9_crossings_9 rfl (lv_at hl 2 rfl) ?_
      refine lv_aload_n (pc := 10) hexec hb dX9_crossings_10 rfl (lv_at hl 0 rfl) ?_
      refine kg_get (pc := 11) hexec hb (own := RX9) hWX9 hown hG hP 0 rfl rfl 0 (nle rfl) (hts _ (List.mem_cons_of_mem _ (List.mem_append_left _ (List.mem_append_left _ (List.mem_of_getElem? (i := 1) rfl))))) rfl rfl dX9_crossings_11 ?_
      refine lv_iconst (pc := 14) hexec hb dX9_crossings_14 ki_2 ?_
      refine kr_iald (pc := 15) hexec hb hG hP 1 rfl hf dX9_crossings_15 (fun hf => ?_)
      refine ki_ge (pc := 16) hexec hb dX9_crossings_16 (tgt := 36) rfl hf (fun hc hf => ?_) (fun hc hf => ?_)
      · cases sr2 hf hk9
        exact hE9 _ _ _ hP hD hS (lv_sub hl [1] rfl)
      · refine lv_iload_n (pc := 19) hexec hb dX9_crossings_19 rfl (lv_at hl 1 rfl) ?_
        refine lv_aload_n (pc := 20) hexec hb dX9_crossings_20 rfl (lv_at hl 0 rfl) ?_
        refine lv_iload_n (pc := 21) hexec hb dX9_crossings_21 rfl (lv_at hl 2 rfl) ?_
        obtain ⟨r22, hc, hf⟩ := bd1_e hf
        refine kVp (pc := 22) (S := ⟨hexec, hb, hml, hown, hts⟩) hP hD hG hA hS [0, 1] [] [0, 1] (w2 := (w_X9_crossings g a0 a1 u0_1 u0_2 u0_3 u0_4 u0_5 u0_6 u0_8 u0_9 u0_10 u0_11 u0_12 u0_13 u0_14 u0_15 u0_16 u0_17 u0_18 u0_19 u0_20 u0_21 u0_22 u0_23 u0_24 u0_25 u0_26 u0_27 u0_28 u0_29 u0_30 0 y1_s)) rfl rfl rfl rfl rfl rfl (by decide) (c_X9_crossedBy l g a0 a1 _ u0_1 u0_2 u0_3 u0_4 u0_5 u0_6 (.int 0) u0_8 u0_9 u0_10 u0_11 u0_12 u0_13 u0_14 u0_15 u0_16 u0_17 u0_18 u0_19 u0_20 u0_21 u0_22 u0_23 u0_24 u0_25 u0_26 u0_27 u0_28 u0_29 u0_30 y1_s v2 r22 hc) gX9_crossings_X9_crossedBy rfl hv_X9_crossedBy ⟨nle rfl, nle rfl⟩ 9 0 rfl rfl rfl (rest := [.int v1]) rfl rfl hl.1 (nle rfl) dX9_crossings_22 (fun H locs hP hD hS => ?_)
        obtain ⟨r25, hc, hf⟩ := bd1_e hf
        refine kSp (pc := 25) (S := ⟨hexec, hb, hml, hown, hts⟩) hP hD hG hA hS [] [0, 1] [0, 1] (w2 := (w_X9_crossings g a0 a1 u0_1 u0_2 u0_3 u0_4 u0_5 u0_6 u0_8 u0_9 u0_10 u0_11 u0_12 u0_13 u0_14 u0_15 u0_16 u0_17 u0_18 u0_19 u0_20 u0_21 u0_22 u0_23 u0_24 u0_25 u0_26 u0_27 u0_28 u0_29 u0_30 0 y1_s)) rfl rfl rfl rfl rfl rfl (by decide) (c_X9_ones l g _ r22 r25 hc) gX9_crossings_X9_ones rfl hs_X9_ones ⟨nle rfl, nle rfl⟩ (rest := [.int v1]) rfl rfl hl.1 (nle rfl) dX9_crossings_25 (fun H locs hP hD hS => ?_)
        refine lv_iadd (pc := 28) hexec hb dX9_crossings_28 ?_
        obtain ⟨v1_2, ev1_2, hf⟩ := bv_e hf
        refine kn_i ev1_2 ?_
        refine lv_istore_n (pc := 29) hexec hb dX9_crossings_29 rfl hl (nle rfl) rfl (fun ls (hl : lv_has ls 3 [(1, .int v1_2), (0, .ref a0), (2, .int v2)]) => ?_)
        obtain ⟨v2_1, ev2_1, hf⟩ := bv_e hf
        refine k_iinc (pc := 30) hexec hb dX9_crossings_30 kq_1 hl (k := 2) rfl ev2_1 (nle rfl) rfl (fun ls (hl : lv_has ls 3 [(2, .int v2_1), (1, .int v1_2), (0, .ref a0)]) => ?_)
        refine lv_goto (pc := 33) hexec hb dX9_crossings_33 (tgt := 9) rfl ?_
        exact ih9 _ _ _ _ _ (sl2 hf hk9) hP hD hS (lv_sub hl [2, 1, 0] rfl)
  exact hL9 n _ _ _ _ _ hz hP hD hS (lv_sub hl [2, 1, 0] rfl)
abbrev w_X9_crossed (g : GE) (a0 a1 : Nat) (u0_1 u0_2 u0_3 u0_4 u0_5 u0_6 u0_8 u0_9 u0_10 u0_11 u0_12 u0_13 u0_14 u0_15 u0_16 u0_17 u0_18 u0_19 u0_20 u0_21 u0_22 u0_23 u0_24 u0_25 u0_26 u0_27 u0_28 u0_29 u0_30 : Value) (x0_thrown : Int32) (y1_s : Nat → Int32) : va_W := [(a0, .inr (9, [.ref a1, u0_1, u0_2, u0_3, u0_4, u0_5, u0_6, .int x0_thrown, u0_8, u0_9, u0_10, u0_11, u0_12, u0_13, u0_14, u0_15, u0_16, u0_17, u0_18, u0_19, u0_20, u0_21, u0_22, u0_23, u0_24, u0_25, u0_26, u0_27, u0_28, u0_29, u0_30])), (a1, .inl (g.2.1 0, 552, .inl y1_s))]
noncomputable def f_X9_crossed (x0_thrown : Int32) (y1_s : Nat → Int32) (p1 : Int32) : Option (Int32 × Int32) :=
  bd2 (f_X9_mayHarbour x0_thrown y1_s p1) fun (r2 : Int32) (x0_thrown_1 : Int32) =>
  (if r2 = 0 then (
    some (0, x0_thrown_1)
  ) else (
    bd1 (f_X9_crossedBy y1_s p1) fun (r10 : Int32) =>
    some (r10, x0_thrown_1)
  ))
set_option maxRecDepth 4000 in
theorem c_X9_crossed (l : Launch) (g : GE) (a0 a1 : Nat) (sz : Nat) (u0_1 u0_2 u0_3 u0_4 u0_5 u0_6 u0_8 u0_9 u0_10 u0_11 u0_12 u0_13 u0_14 u0_15 u0_16 u0_17 u0_18 u0_19 u0_20 u0_21 u0_22 u0_23 u0_24 u0_25 u0_26 u0_27 u0_28 u0_29 u0_30 : Value) (x0_thrown : Int32) (y1_s : Nat → Int32) (p1 : Int32) (r : Int32) (o_x0_thrown : Int32) (hf : f_X9_crossed x0_thrown y1_s p1 = some (r, o_x0_thrown)) : MI l g yX9_crossed wsX9_crossed 7 167 [.ref a0, .int p1] (w_X9_crossed g a0 a1 u0_1 u0_2 u0_3 u0_4 u0_5 u0_6 u0_8 u0_9 u0_10 u0_11 u0_12 u0_13 u0_14 u0_15 u0_16 u0_17 u0_18 u0_19 u0_20 u0_21 u0_22 u0_23 u0_24 u0_25 u0_26 u0_27 u0_28 u0_29 u0_30 x0_thrown y1_s) sz (some (.int r)) (w_X9_crossed g a0 a1 u0_1 u0_2 u0_3 u0_4 u0_5 u0_6 u0_8 u0_9 u0_10 u0_11 u0_12 u0_13 u0_14 u0_15 u0_16 u0_17 u0_18 u0_19 u0_20 u0_21 u0_22 u0_23 u0_24 u0_25 u0_26 u0_27 u0_28 u0_29 u0_30 o_x0_thrown y1_s) := by
  refine MI.start (cc := cX9_crossed) (maxL := 2) (ret := (some .int)) rfl rfl (nle rfl) ?_
  intro p e s m args below meth c A ls Q hQ hexec hb hr hts hown hlocks hml hA hP hD hG hS hl
  unfold f_X9_crossed at hf
  have hWX9 : ∀ w ∈ wsX90, w.before args s = true := fun w h => hts w (List.mem_cons_of_mem _ (List.mem_append_right _ h))
  have hS : va_S A s.heap s.heap [] := hS
  refine lv_aload_n (pc := 0) hexec hb dX9_crossed_0 rfl (lv_at hl 0 rfl) ?_
  refine lv_iload_n (pc := 1) hexec hb dX9_crossed_1 rfl (lv_at hl 1 rfl) ?_
  obtain ⟨r2, x0_thrown_1, hc, hf⟩ := bd2_e hf
  refine kVp (pc := 2) (S := ⟨hexec, hb, hml, hown, hts⟩) hP hD hG hA hS [0, 1] [] [0, 1] (w2 := (w_X9_crossed g a0 a1 u0_1 u0_2 u0_3 u0_4 u0_5 u0_6 u0_8 u0_9 u0_10 u0_11 u0_12 u0_13 u0_14 u0_15 u0_16 u0_17 u0_18 u0_19 u0_20 u0_21 u0_22 u0_23 u0_24 u0_25 u0_26 u0_27 u0_28 u0_29 u0_30 x0_thrown_1 y1_s)) rfl rfl rfl rfl rfl rfl (by decide) (c_X9_mayHarbour l g a0 a1 _ u0_1 u0_2 u0_3 u0_4 u0_5 u0_6 u0_8 u0_9 u0_10 u0_11 u0_12 u0_13 u0_14 u0_15 u0_16 u0_17 u0_18 u0_19 u0_20 u0_21 u0_22 u0_23 u0_24 u0_25 u0_26 u0_27 u0_28 u0_29 u0_30 x0_thrown y1_s p1 r2 x0_thrown_1 hc) gX9_crossed_X9_mayHarbour rfl hv_X9_mayHarbour ⟨nle rfl, nle rfl⟩ 9 0 rfl rfl rfl (rest := []) rfl rfl hl.1 (nle rfl) dX9_crossed_2 (fun H locs hP hD hS => ?_)
  refine kb_eq (pc := 5) hexec hb dX9_crossed_5 (tgt := 16) rfl hf (fun hc hf => ?_) (fun hc hf => ?_)
  · refine lv_iconst (pc := 16) hexec hb dX9_crossed_16 ki_0 ?_
    cases hf
    exact ke_i hQ hexec hb hr hP hD hS dX9_crossed_17 hlocks
  · refine lv_aload_n (pc := 8) hexec hb dX9_crossed_8 rfl (lv_at hl 0 rfl) ?_
    refine lv_iload_n (pc := 9) hexec hb dX9_crossed_9 rfl (lv_at hl 1 rfl) ?_
    obtain ⟨r10, hc, hf⟩ := bd1_e hf
    refine kVp (pc := 10) (S := ⟨hexec, hb, hml, hown, hts⟩) hP hD hG hA hS [0, 1] [] [0, 1] (w2 := (w_X9_crossed g a0 a1 u0_1 u0_2 u0_3 u0_4 u0_5 u0_6 u0_8 u0_9 u0_10 u0_11 u0_12 u0_13 u0_14 u0_15 u0_16 u0_17 u0_18 u0_19 u0_20 u0_21 u0_22 u0_23 u0_24 u0_25 u0_26 u0_27 u0_28 u0_29 u0_30 x0_thrown_1 y1_s)) rfl rfl rfl rfl rfl rfl (by decide) (c_X9_crossedBy l g a0 a1 _ u0_1 u0_2 u0_3 u0_4 u0_5 u0_6 (.int x0_thrown_1) u0_8 u0_9 u0_10 u0_11 u0_12 u0_13 u0_14 u0_15 u0_16 u0_17 u0_18 u0_19 u0_20 u0_21 u0_22 u0_23 u0_24 u0_25 u0_26 u0_27 u0_28 u0_29 u0_30 y1_s p1 r10 hc) gX9_crossed_X9_crossedBy rfl hv_X9_crossedBy ⟨nle rfl, nle rfl⟩ 9 0 rfl rfl rfl (rest := []) rfl rfl hl.1 (nle rfl) dX9_crossed_10 (fun H locs hP hD hS => ?_)
    refine lv_goto (pc := 13) hexec hb dX9_crossed_13 (tgt := 17) rfl ?_
    cases hf
    exact ke_i hQ hexec hb hr hP hD hS dX9_crossed_17 hlocks
abbrev w_X9_free (g : GE) (a0 a1 : Nat) (u0_1 u0_2 u0_3 u0_4 u0_5 u0_6 u0_8 u0_9 u0_10 u0_11 u0_12 u0_13 u0_14 u0_15 u0_16 u0_17 u0_18 u0_19 u0_20 u0_21 u0_22 u0_23 u0_24 u0_25 u0_26 u0_27 u0_28 u0_29 u0_30 : Value) (x0_thrown : Int32) (y1_s : Nat → Int32) : va_W := [(a0, .inr (9, [.ref a1, u0_1, u0_2, u0_3, u0_4, u0_5, u0_6, .int x0_thrown, u0_8, u0_9, u0_10, u0_11, u0_12, u0_13, u0_14, u0_15, u0_16, u0_17, u0_18, u0_19, u0_20, u0_21, u0_22, u0_23, u0_24, u0_25, u0_26, u0_27, u0_28, u0_29, u0_30])), (a1, .inl (g.2.1 0, 552, .inl y1_s))]
noncomputable def f_X9_free (x0_thrown : Int32) (y1_s : Nat → Int32)  : Option (Int32 × Int32) :=
  bv (fun (v1 : Int32) (v2 : Int32) => ((
    bd1 (f_X9_cells y1_s) fun (r11 : Int32) =>
    (if r11 ≤ v2 then (
      some (.inr v1)
    ) else (
      bd1 (f_X9_canBegin y1_s v2) fun (r20 : Int32) =>
      bv (fun (t39 : Int32) => ((
        bv (v1 + t39) fun v1_2 =>
        bv (v2 + 1) fun v2_1 =>
        some (.inl (v1_2, v2_1))
        ) : Option ((Int32 × Int32) ⊕ (Int32)))) fun j39 =>
      bv (fun (_ : Unit) => ((
        j39 0
        ) : Option ((Int32 × Int32) ⊕ (Int32)))) fun j38 =>
      (if r20 = 0 then (
        j38 ()
      ) else (
        bd1 (f_X9_namesIn y1_s v2) fun (r28 : Int32) =>
        (if r28 = 0 then (
          j39 1
        ) else (
          j38 ()
        ))
      ))
    ))
    ) : Option ((Int32 × Int32) ⊕ (Int32)))) fun l9 =>
  bd1 (lq2 l9 0 0) fun (v1_1 : Int32) =>
  some (v1_1, 0)
set_option maxRecDepth 4000 in
theorem c_X9_free (l : Launch) (g : GE) (a0 a1 : Nat) (sz : Nat) (u0_1 u0_2 u0_3 u0_4 u0_5 u0_6 u0_8 u0_9 u0_10 u0_11 u0_12 u0_13 u0_14 u0_15 u0_16 u0_17 u0_18 u0_19 u0_20 u0_21 u0_22 u0_23 u0_24 u0_25 u0_26 u0_27 u0_28 u0_29 u0_30 : Value) (x0_thrown : Int32) (y1_s : Nat → Int32)  (r : Int32) (o_x0_thrown : Int32) (hf : f_X9_free x0_thrown y1_s = some (r, o_x0_thrown)) : MI l g yX9_free wsX9_free 6 143 [.ref a0] (w_X9_free g a0 a1 u0_1 u0_2 u0_3 u0_4 u0_5 u0_6 u0_8 u0_9 u0_10 u0_11 u0_12 u0_13 u0_14 u0_15 u0_16 u0_17 u0_18 u0_19 u0_20 u0_21 u0_22 u0_23 u0_24 u0_25 u0_26 u0_27 u0_28 u0_29 u0_30 x0_thrown y1_s) sz (some (.int r)) (w_X9_free g a0 a1 u0_1 u0_2 u0_3 u0_4 u0_5 u0_6 u0_8 u0_9 u0_10 u0_11 u0_12 u0_13 u0_14 u0_15 u0_16 u0_17 u0_18 u0_19 u0_20 u0_21 u0_22 u0_23 u0_24 u0_25 u0_26 u0_27 u0_28 u0_29 u0_30 o_x0_thrown y1_s) := by
  refine MI.start (cc := cX9_free) (maxL := 3) (ret := (some .int)) rfl rfl (nle rfl) ?_
  intro p e s m args below meth c A ls Q hQ hexec hb hr hts hown hlocks hml hA hP hD hG hS hl
  unfold f_X9_free at hf
  have hWX9 : ∀ w ∈ wsX90, w.before args s = true := fun w h => hts w (List.mem_cons_of_mem _ (List.mem_append_right _ h))
  have hS : va_S A s.heap s.heap [] := hS
  refine lv_aload_n (pc := 0) hexec hb dX9_free_0 rfl (lv_at hl 0 rfl) ?_
  refine lv_iconst (pc := 1) hexec hb dX9_free_1 ki_0 ?_
  refine kp_put (pc := 2) hexec hb (own := RX9) hWX9 tyX9 tyX9_ok nmX9 hown hG hP hD hS 0 rfl rfl 7 (nle rfl) (hts _ (List.mem_cons_of_mem _ (List.mem_append_left _ (List.mem_append_left _ (List.mem_of_getElem? (i := 0) rfl))))) rfl rfl rfl rfl (nle rfl) dX9_free_2 (fun H locs (hP : va_P g.1 vwCl (w_X9_free g a0 a1 u0_1 u0_2 u0_3 u0_4 u0_5 u0_6 u0_8 u0_9 u0_10 u0_11 u0_12 u0_13 u0_14 u0_15 u0_16 u0_17 u0_18 u0_19 u0_20 u0_21 u0_22 u0_23 u0_24 u0_25 u0_26 u0_27 u0_28 u0_29 u0_30 0 y1_s) H) (hD : va_D A (w_X9_free g a0 a1 u0_1 u0_2 u0_3 u0_4 u0_5 u0_6 u0_8 u0_9 u0_10 u0_11 u0_12 u0_13 u0_14 u0_15 u0_16 u0_17 u0_18 u0_19 u0_20 u0_21 u0_22 u0_23 u0_24 u0_25 u0_26 u0_27 u0_28 u0_29 u0_30 0 y1_s)) hS => ?_)
  refine lv_iconst (pc := 5) hexec hb dX9_free_5 ki_0 ?_
  refine lv_istore_n (pc := 6) hexec hb dX9_free_6 rfl hl (nle rfl) rfl (fun ls (hl : lv_has ls 3 [(1, .int 0), (0, .ref a0)]) => ?_)
  refine lv_iconst (pc := 7) hexec hb dX9_free_7 ki_0 ?_
  refine lv_istore_n (pc := 8) hexec hb dX9_free_8 rfl hl (nle rfl) rfl (fun ls (hl : lv_has ls 3 [(2, .int 0), (1, .int 0), (0, .ref a0)]) => ?_)
  obtain ⟨l9, el9, hf⟩ := bvf2 hf
  obtain ⟨v1_1, hz, hf⟩ := bd1_e hf
  have hE9 : ∀ (H : Heap) (locs : List Loc) (ls : Array Slot), va_P g.1 vwCl (w_X9_free g a0 a1 u0_1 u0_2 u0_3 u0_4 u0_5 u0_6 u0_8 u0_9 u0_10 u0_11 u0_12 u0_13 u0_14 u0_15 u0_16 u0_17 u0_18 u0_19 u0_20 u0_21 u0_22 u0_23 u0_24 u0_25 u0_26 u0_27 u0_28 u0_29 u0_30 0 y1_s) H → va_D A (w_X9_free g a0 a1 u0_1 u0_2 u0_3 u0_4 u0_5 u0_6 u0_8 u0_9 u0_10 u0_11 u0_12 u0_13 u0_14 u0_15 u0_16 u0_17 u0_18 u0_19 u0_20 u0_21 u0_22 u0_23 u0_24 u0_25 u0_26 u0_27 u0_28 u0_29 u0_30 0 y1_s) → va_S A s.heap H locs → lv_has ls 3 [(1, .int v1_1)] → W p l e (RM 6 143) s m args below meth c H locs 0 0 Q (F0 m 47 ls []) := by
    intro H locs ls hP hD hS hl
    refine lv_iload_n (pc := 47) hexec hb dX9_free_47 rfl (lv_at hl 0 rfl) ?_
    cases hf
    exact ke_i hQ hexec hb hr hP hD hS dX9_free_48 hlocks
  obtain ⟨n, hz⟩ := lq2_e hz
  have hL9 : ∀ (n : Nat) (v1 : Int32) (v2 : Int32) (H : Heap) (locs : List Loc) (ls : Array Slot), it2 l9 n v1 v2 = some v1_1 → va_P g.1 vwCl (w_X9_free g a0 a1 u0_1 u0_2 u0_3 u0_4 u0_5 u0_6 u0_8 u0_9 u0_10 u0_11 u0_12 u0_13 u0_14 u0_15 u0_16 u0_17 u0_18 u0_19 u0_20 u0_21 u0_22 u0_23 u0_24 u0_25 u0_26 u0_27 u0_28 u0_29 u0_30 0 y1_s) H → va_D A (w_X9_free g a0 a1 u0_1 u0_2 u0_3 u0_4 u0_5 u0_6 u0_8 u0_9 u0_10 u0_11 u0_12 u0_13 u0_14 u0_15 u0_16 u0_17 u0_18 u0_19 u0_20 u0_21 u0_22 u0_23 u0_24 u0_25 u0_26 u0_27 u0_28 u0_29 u0_30 0 y1_s) → va_S A s.heap H locs → lv_has ls 3 [(0, .ref a0), (1, .int v1), (2, .int v2)] → W p l e (RM 6 143) s m args below meth c H locs 0 0 Q (F0 m 9 ls []) := by
    intro n
    induction n with
    | zero =>
      intro v1 v2 H locs ls hf hP hD hS hl
      exact it2_0 hf
    | succ n9 ih9 =>
      intro v1 v2 H locs ls hf hP hD hS hl
      obtain ⟨q9, hf, hk9⟩ := it2_e hf
      have hf := (el9 v1 v2).symm.trans hf
      refine lv_iload_n (pc := 9) hexec hb dX9_free_9 rfl (lv_at hl 2 rfl) ?_
      refine lv_aload_n (pc := 10) hexec hb dX9_free_10 rfl (lv_at hl 0 rfl) ?_
      obtain ⟨r11, hc, hf⟩ := bd1_e hf
      refine kVp (pc := 11) (S := ⟨hexec, hb, hml, hown, hts⟩) hP hD hG hA hS [0, 1] [] [0, 1] (w2 := (w_X9_free g a0 a1 u0_1 u0_2 u0_3 u0_4 u0_5 u0_6 u0_8 u0_9 u0_10 u0_11 u0_12 u0_13 u0_14 u0_15 u0_16 u0_17 u0_18 u0_19 u0_20 u0_21 u0_22 u0_23 u0_24 u0_25 u0_26 u0_27 u0_28 u0_29 u0_30 0 y1_s)) rfl rfl rfl rfl rfl rfl (by decide) (c_X9_cells l g a0 a1 _ u0_1 u0_2 u0_3 u0_4 u0_5 u0_6 (.int 0) u0_8 u0_9 u0_10 u0_11 u0_12 u0_13 u0_14 u0_15 u0_16 u0_17 u0_18 u0_19 u0_20 u0_21 u0_22 u0_23 u0_24 u0_25 u0_26 u0_27 u0_28 u0_29 u0_30 y1_s r11 hc) gX9_free_X9_cells rfl hv_X9_cells ⟨nle rfl, nle rfl⟩ 9 0 rfl rfl rfl (rest := [.int v2]) rfl rfl hl.1 (nle rfl) dX9_free_11 (fun H locs hP hD hS => ?_)
      refine ki_ge (pc := 14) hexec hb dX9_free_14 (tgt := 47) rfl hf (fun hc hf => ?_) (fun hc hf => ?_)
      · cases sr2 hf hk9
        exact hE9 _ _ _ hP hD hS (lv_sub hl [1] rfl)
      · refine lv_iload_n (pc := 17) hexec hb dX9_free_17 rfl (lv_at hl 1 rfl) ?_
        refine lv_aload_n (pc := 18) hexec hb dX9_free_18 rfl (lv_at hl 0 rfl) ?_
        refine lv_iload_n (pc := 19) hexec hb dX9_free_19 rfl (lv_at hl 2 rfl) ?_
        obtain ⟨r20, hc, hf⟩ := bd1_e hf
        refine kVp (pc := 20) (S := ⟨hexec, hb, hml, hown, hts⟩) hP hD hG hA hS [0, 1] [] [0, 1] (w2 := (w_X9_free g a0 a1 u0_1 u0_2 u0_3 u0_4 u0_5 u0_6 u0_8 u0_9 u0_10 u0_11 u0_12 u0_13 u0_14 u0_15 u0_16 u0_17 u0_18 u0_19 u0_20 u0_21 u0_22 u0_23 u0_24 u0_25 u0_26 u0_27 u0_28 u0_29 u0_30 0 y1_s)) rfl rfl rfl rfl rfl rfl (by decide) (c_X9_canBegin l g a0 a1 _ u0_1 u0_2 u0_3 u0_4 u0_5 u0_6 (.int 0) u0_8 u0_9 u0_10 u0_11 u0_12 u0_13 u0_14 u0_15 u0_16 u0_17 u0_18 u0_19 u0_20 u0_21 u0_22 u0_23 u0_24 u0_25 u0_26 u0_27 u0_28 u0_29 u0_30 y1_s v2 r20 hc) gX9_free_X9_canBegin rfl hv_X9_canBegin ⟨nle rfl, nle rfl⟩ 9 0 rfl rfl rfl (rest := [.int v1]) rfl rfl hl.1 (nle rfl) dX9_free_20 (fun H locs hP hD hS => ?_)
        obtain ⟨j39, ej39, hf⟩ := bvf1 hf
        have hj39 : ∀ (t39 : Int32) (H : Heap) (locs : List Loc) (ls : Array Slot), j39 t39 = some q9 → va_P g.1 vwCl (w_X9_free g a0 a1 u0_1 u0_2 u0_3 u0_4 u0_5 u0_6 u0_8 u0_9 u0_10 u0_11 u0_12 u0_13 u0_14 u0_15 u0_16 u0_17 u0_18 u0_19 u0_20 u0_21 u0_22 u0_23 u0_24 u0_25 u0_26 u0_27 u0_28 u0_29 u0_30 0 y1_s) H → va_D A (w_X9_free g a0 a1 u0_1 u0_2 u0_3 u0_4 u0_5 u0_6 u0_8 u0_9 u0_10 u0_11 u0_12 u0_13 u0_14 u0_15 u0_16 u0_17 u0_18 u0_19 u0_20 u0_21 u0_22 u0_23 u0_24 u0_25 u0_26 u0_27 u0_28 u0_29 u0_30 0 y1_s) → va_S A s.heap H locs → lv_has ls 3 [(0, .ref a0), (2, .int v2)] → W p l e (RM 6 143) s m args below meth c H locs 0 0 Q (F0 m 39 ls [.int t39, .int v1]) := by
          intro t39 H locs ls hf hP hD hS hl
          have hf := (ej39 t39).symm.trans hf
          refine lv_iadd (pc := 39) hexec hb dX9_free_39 ?_
          obtain ⟨v1_2, ev1_2, hf⟩ := bv_e hf
          refine kn_i ev1_2 ?_
          refine lv_istore_n (pc := 40) hexec hb dX9_free_40 rfl hl (nle rfl) rfl (fun ls (hl : lv_has ls 3 [(1, .int v1_2), (0, .ref a0), (2, .int v2)]) => ?_)
          obtain ⟨v2_1, ev2_1, hf⟩ := bv_e hf
          refine k_iinc (pc := 41) hexec hb dX9_free_41 kq_1 hl (k := 2) rfl ev2_1 (nle rfl) rfl (fun ls (hl : lv_has ls 3 [(2, .int v2_1), (1, .int v1_2), (0, .ref a0)]) => ?_)
          refine lv_goto (pc := 44) hexec hb dX9_free_44 (tgt := 9) rfl ?_
          exact ih9 _ _ _ _ _ (sl2 hf hk9) hP hD hS (lv_sub hl [2, 1, 0] rfl)
        obtain ⟨j38, ej38, hf⟩ := bvf1 hf
        have hj38 : ∀ (u : Unit) (H : Heap) (locs : List Loc) (ls : Array Slot), j38 u = some q9 → va_P g.1 vwCl (w_X9_free g a0 a1 u0_1 u0_2 u0_3 u0_4 u0_5 u0_6 u0_8 u0_9 u0_10 u0_11 u0_12 u0_13 u0_14 u0_15 u0_16 u0_17 u0_18 u0_19 u0_20 u0_21 u0_22 u0_23 u0_24 u0_25 u0_26 u0_27 u0_28 u0_29 u0_30 0 y1_s) H → va_D A (w_X9_free g a0 a1 u0_1 u0_2 u0_3 u0_4 u0_5 u0_6 u0_8 u0_9 u0_10 u0_11 u0_12 u0_13 u0_14 u0_15 u0_16 u0_17 u0_18 u0_19 u0_20 u0_21 u0_22 u0_23 u0_24 u0_25 u0_26 u0_27 u0_28 u0_29 u0_30 0 y1_s) → va_S A s.heap H locs → lv_has ls 3 [(0, .ref a0), (2, .int v2)] → W p l e (RM 6 143) s m args below meth c H locs 0 0 Q (F0 m 38 ls [.int v1]) := by
          intro u H locs ls hf hP hD hS hl
          have hf := (ej38 u).symm.trans hf
          refine lv_iconst (pc := 38) hexec hb dX9_free_38 ki_0 ?_
          exact hj39 _ _ _ _ hf hP hD hS (lv_sub hl [0, 1] rfl)
        refine kb_eq (pc := 23) hexec hb dX9_free_23 (tgt := 38) rfl hf (fun hc hf => ?_) (fun hc hf => ?_)
        · exact hj38 _ _ _ _ hf hP hD hS (lv_sub hl [0, 2] rfl)
        · refine lv_aload_n (pc := 26) hexec hb dX9_free_26 rfl (lv_at hl 0 rfl) ?_
          refine lv_iload_n (pc := 27) hexec hb dX9_free_27 rfl (lv_at hl 2 rfl) ?_
          obtain ⟨r28, hc, hf⟩ := bd1_e hf
          refine kVp (pc := 28) (S := ⟨hexec, hb, hml, hown, hts⟩) hP hD hG hA hS [0, 1] [] [0, 1] (w2 := (w_X9_free g a0 a1 u0_1 u0_2 u0_3 u0_4 u0_5 u0_6 u0_8 u0_9 u0_10 u0_11 u0_12 u0_13 u0_14 u0_15 u0_16 u0_17 u0_18 u0_19 u0_20 u0_21 u0_22 u0_23 u0_24 u0_25 u0_26 u0_27 u0_28 u0_29 u0_30 0 y1_s)) rfl rfl rfl rfl rfl rfl (by decide) (c_X9_namesIn l g a0 a1 _ u0_1 u0_2 u0_3 u0_4 u0_5 u0_6 (.int 0) u0_8 u0_9 u0_10 u0_11 u0_12 u0_13 u0_14 u0_15 u0_16 u0_17 u0_18 u0_19 u0_20 u0_21 u0_22 u0_23 u0_24 u0_25 u0_26 u0_27 u0_28 u0_29 u0_30 y1_s v2 r28 hc) gX9_free_X9_namesIn rfl hv_X9_namesIn ⟨nle rfl, nle rfl⟩ 9 0 rfl rfl rfl (rest := [.int v1]) rfl rfl hl.1 (nle rfl) dX9_free_28 (fun H locs hP hD hS => ?_)
          refine kb_ne (pc := 31) hexec hb dX9_free_31 (tgt := 38) rfl hf (fun hc hf => ?_) (fun hc hf => ?_)
          · exact hj38 _ _ _ _ hf hP hD hS (lv_sub hl [0, 2] rfl)
          · refine lv_iconst (pc := 34) hexec hb dX9_free_34 ki_1 ?_
            refine lv_goto (pc := 35) hexec hb dX9_free_35 (tgt := 39) rfl ?_
            exact hj39 _ _ _ _ hf hP hD hS (lv_sub hl [0, 2] rfl)
  exact hL9 n _ _ _ _ _ hz hP hD hS (lv_sub hl [2, 1, 0] rfl)
abbrev w_X9_mayTurn (g : GE) (a0 : Nat) (u0_0 u0_1 u0_2 u0_3 u0_4 u0_5 u0_6 u0_8 u0_9 u0_10 u0_11 u0_12 u0_13 u0_14 u0_15 u0_16 u0_17 u0_18 u0_19 u0_20 u0_21 u0_22 u0_23 u0_24 u0_25 u0_26 u0_27 u0_28 u0_29 u0_30 : Value) (x0_thrown : Int32) : va_W := [(a0, .inr (9, [u0_0, u0_1, u0_2, u0_3, u0_4, u0_5, u0_6, .int x0_thrown, u0_8, u0_9, u0_10, u0_11, u0_12, u0_13, u0_14, u0_15, u0_16, u0_17, u0_18, u0_19, u0_20, u0_21, u0_22, u0_23, u0_24, u0_25, u0_26, u0_27, u0_28, u0_29, u0_30]))]
noncomputable def f_X9_mayTurn (x0_thrown : Int32) (p1 : Int32) : Option (Int32 × Int32) :=
  bd1 (f_X9_isIn (p1.toInt64) 0 3) fun (r7 : Int32) =>
  bd2 (f_X9_passes x0_thrown r7 1) fun (r11 : Int32) (x0_thrown_1 : Int32) =>
  zb r11 (some (r11, x0_thrown_1))
set_option maxRecDepth 4000 in
theorem c_X9_mayTurn (l : Launch) (g : GE) (a0 : Nat) (sz : Nat) (u0_0 u0_1 u0_2 u0_3 u0_4 u0_5 u0_6 u0_8 u0_9 u0_10 u0_11 u0_12 u0_13 u0_14 u0_15 u0_16 u0_17 u0_18 u0_19 u0_20 u0_21 u0_22 u0_23 u0_24 u0_25 u0_26 u0_27 u0_28 u0_29 u0_30 : Value) (x0_thrown : Int32) (p1 : Int32) (r : Int32) (o_x0_thrown : Int32) (hf : f_X9_mayTurn x0_thrown p1 = some (r, o_x0_thrown)) : MI l g yX9_mayTurn wsX9_mayTurn 2 49 [.ref a0, .int p1] (w_X9_mayTurn g a0 u0_0 u0_1 u0_2 u0_3 u0_4 u0_5 u0_6 u0_8 u0_9 u0_10 u0_11 u0_12 u0_13 u0_14 u0_15 u0_16 u0_17 u0_18 u0_19 u0_20 u0_21 u0_22 u0_23 u0_24 u0_25 u0_26 u0_27 u0_28 u0_29 u0_30 x0_thrown) sz (some (.int r)) (w_X9_mayTurn g a0 u0_0 u0_1 u0_2 u0_3 u0_4 u0_5 u0_6 u0_8 u0_9 u0_10 u0_11 u0_12 u0_13 u0_14 u0_15 u0_16 u0_17 u0_18 u0_19 u0_20 u0_21 u0_22 u0_23 u0_24 u0_25 u0_26 u0_27 u0_28 u0_29 u0_30 o_x0_thrown) := by
  refine MI.start (cc := cX9_mayTurn) (maxL := 2) (ret := (some .boolean)) rfl rfl (nle rfl) ?_
  intro p e s m args below meth c A ls Q hQ hexec hb hr hts hown hlocks hml hA hP hD hG hS hl
  unfold f_X9_mayTurn at hf
  have hWX9 : ∀ w ∈ wsX90, w.before args s = true := fun w h => hts w (List.mem_cons_of_mem _ (List.mem_append_right _ h))
  have hS : va_S A s.heap s.heap [] := hS
  refine lv_aload_n (pc := 0) hexec hb dX9_mayTurn_0 rfl (lv_at hl 0 rfl) ?_
  refine lv_iload_n (pc := 1) hexec hb dX9_mayTurn_1 rfl (lv_at hl 1 rfl) ?_
  refine lv_i2l (pc := 2) hexec hb dX9_mayTurn_2 rfl ?_
  refine lv_lconst (pc := 3) hexec hb dX9_mayTurn_3 kl_0 ?_
  refine lv_ldc2 (pc := 4) hexec hb (own := RX9) hown (hts _ (List.mem_cons_of_mem _ (List.mem_append_left _ (List.mem_of_getElem? (i := 0) rfl)))) dX9_mayTurn_4 ?_
  obtain ⟨r7, hc, hf⟩ := bd1_e hf
  refine kSp (pc := 7) (S := ⟨hexec, hb, hml, hown, hts⟩) hP hD hG hA hS [] [0] [0] (w2 := (w_X9_mayTurn g a0 u0_0 u0_1 u0_2 u0_3 u0_4 u0_5 u0_6 u0_8 u0_9 u0_10 u0_11 u0_12 u0_13 u0_14 u0_15 u0_16 u0_17 u0_18 u0_19 u0_20 u0_21 u0_22 u0_23 u0_24 u0_25 u0_26 u0_27 u0_28 u0_29 u0_30 x0_thrown)) rfl rfl rfl rfl rfl rfl (by decide) (c_X9_isIn l g _ (p1.toInt64) 0 3 r7 hc) gX9_mayTurn_X9_isIn rfl hs_X9_isIn ⟨nle rfl, nle rfl⟩ (rest := [.ref a0]) rfl rfl hl.1 (nle rfl) dX9_mayTurn_7 (fun H locs hP hD hS => ?_)
  refine lv_iconst (pc := 10) hexec hb dX9_mayTurn_10 ki_1 ?_
  obtain ⟨r11, x0_thrown_1, hc, hf⟩ := bd2_e hf
  refine kVp (pc := 11) (S := ⟨hexec, hb, hml, hown, hts⟩) hP hD hG hA hS [0] [] [0] (w2 := (w_X9_mayTurn g a0 u0_0 u0_1 u0_2 u0_3 u0_4 u0_5 u0_6 u0_8 u0_9 u0_10 u0_11 u0_12 u0_13 u0_14 u0_15 u0_16 u0_17 u0_18 u0_19 u0_20 u0_21 u0_22 u0_23 u0_24 u0_25 u0_26 u0_27 u0_28 u0_29 u0_30 x0_thrown_1)) rfl rfl rfl rfl rfl rfl (by decide) (c_X9_passes l g a0 _ u0_0 u0_1 u0_2 u0_3 u0_4 u0_5 u0_6 u0_8 u0_9 u0_10 u0_11 u0_12 u0_13 u0_14 u0_15 u0_16 u0_17 u0_18 u0_19 u0_20 u0_21 u0_22 u0_23 u0_24 u0_25 u0_26 u0_27 u0_28 u0_29 u0_30 x0_thrown r7 1 r11 x0_thrown_1 hc) gX9_mayTurn_X9_passes rfl hv_X9_passes ⟨nle rfl, nle rfl⟩ 9 0 rfl rfl rfl (rest := []) rfl rfl hl.1 (nle rfl) dX9_mayTurn_11 (fun H locs hP hD hS => ?_)
  obtain ⟨hx, hf⟩ := zb_e hf
  cases hf
  exact ke_z hQ hexec hb hr hx hP hD hS dX9_mayTurn_14 hlocks
abbrev w_X9_upright (g : GE) (a0 a1 : Nat) (u0_1 u0_2 u0_3 u0_4 u0_5 u0_6 u0_8 u0_9 u0_10 u0_11 u0_12 u0_13 u0_14 u0_15 u0_16 u0_17 u0_18 u0_19 u0_20 u0_21 u0_22 u0_23 u0_24 u0_25 u0_26 u0_27 u0_28 u0_29 u0_30 : Value) (x0_thrown : Int32) (y1_s : Nat → Int32) : va_W := [(a0, .inr (9, [.ref a1, u0_1, u0_2, u0_3, u0_4, u0_5, u0_6, .int x0_thrown, u0_8, u0_9, u0_10, u0_11, u0_12, u0_13, u0_14, u0_15, u0_16, u0_17, u0_18, u0_19, u0_20, u0_21, u0_22, u0_23, u0_24, u0_25, u0_26, u0_27, u0_28, u0_29, u0_30])), (a1, .inl (g.2.1 0, 552, .inl y1_s))]
noncomputable def f_X9_upright (x0_thrown : Int32) (y1_s : Nat → Int32) (p1 : Int32) : Option (Int32 × Int32) :=
  bd2 (f_X9_mayTurn x0_thrown p1) fun (r2 : Int32) (x0_thrown_1 : Int32) =>
  (if r2 = 0 then (
    some (0, x0_thrown_1)
  ) else (
    bv (fun (v2 : Int32) (v3 : Int32) => ((
      ar 2 552 <|
      (if (y1_s (2 : Int32).toNatClampNeg) ≤ v3 then (
        some (.inr v2)
      ) else (
        bd1 (f_X9_isPlaced y1_s v3) fun (r27 : Int32) =>
        bv (fun (t53 : Int32) => ((
          bv (v2 ||| t53) fun v2_2 =>
          bv (v3 + 1) fun v3_1 =>
          some (.inl (v2_2, v3_1))
          ) : Option ((Int32 × Int32) ⊕ (Int32)))) fun j53 =>
        bv (fun (_ : Unit) => ((
          j53 0
          ) : Option ((Int32 × Int32) ⊕ (Int32)))) fun j52 =>
        (if r27 = 0 then (
          j52 ()
        ) else (
          bd1 (f_X9_of y1_s v3 2) fun (r36 : Int32) =>
          bd1 (f_X9_uprightBy r36) fun (r39 : Int32) =>
          (if r39 = p1 then (
            j53 (1 <<< (v3 &&& 31))
          ) else (
            j52 ()
          ))
        ))
      ))
      ) : Option ((Int32 × Int32) ⊕ (Int32)))) fun l14 =>
    bd1 (lq2 l14 0 0) fun (v2_1 : Int32) =>
    some (v2_1, x0_thrown_1)
  ))
set_option maxRecDepth 4000 in
theorem c_X9_upright (l : Launch) (g : GE) (a0 a1 : Nat) (sz : Nat) (u0_1 u0_2 u0_3 u0_4 u0_5 u0_6 u0_8 u0_9 u0_10 u0_11 u0_12 u0_13 u0_14 u0_15 u0_16 u0_17 u0_18 u0_19 u0_20 u0_21 u0_22 u0_23 u0_24 u0_25 u0_26 u0_27 u0_28 u0_29 u0_30 : Value) (x0_thrown : Int32) (y1_s : Nat → Int32) (p1 : Int32) (r : Int32) (o_x0_thrown : Int32) (hf : f_X9_upright x0_thrown y1_s p1 = some (r, o_x0_thrown)) : MI l g yX9_upright wsX9_upright 3 70 [.ref a0, .int p1] (w_X9_upright g a0 a1 u0_1 u0_2 u0_3 u0_4 u0_5 u0_6 u0_8 u0_9 u0_10 u0_11 u0_12 u0_13 u0_14 u0_15 u0_16 u0_17 u0_18 u0_19 u0_20 u0_21 u0_22 u0_23 u0_24 u0_25 u0_26 u0_27 u0_28 u0_29 u0_30 x0_thrown y1_s) sz (some (.int r)) (w_X9_upright g a0 a1 u0_1 u0_2 u0_3 u0_4 u0_5 u0_6 u0_8 u0_9 u0_10 u0_11 u0_12 u0_13 u0_14 u0_15 u0_16 u0_17 u0_18 u0_19 u0_20 u0_21 u0_22 u0_23 u0_24 u0_25 u0_26 u0_27 u0_28 u0_29 u0_30 o_x0_thrown y1_s) := by
  refine MI.start (cc := cX9_upright) (maxL := 4) (ret := (some .int)) rfl rfl (nle rfl) ?_
  intro p e s m args below meth c A ls Q hQ hexec hb hr hts hown hlocks hml hA hP hD hG hS hl
  unfold f_X9_upright at hf
  have hWX9 : ∀ w ∈ wsX90, w.before args s = true := fun w h => hts w (List.mem_cons_of_mem _ (List.mem_append_right _ h))
  have hS : va_S A s.heap s.heap [] := hS
  refine lv_aload_n (pc := 0) hexec hb dX9_upright_0 rfl (lv_at hl 0 rfl) ?_
  refine lv_iload_n (pc := 1) hexec hb dX9_upright_1 rfl (lv_at hl 1 rfl) ?_
  obtain ⟨r2, x0_thrown_1, hc, hf⟩ := bd2_e hf
  refine kVp (pc := 2) (S := ⟨hexec, hb, hml, hown, hts⟩) hP hD hG hA hS [0] [1] [1, 0] (w2 := (w_X9_upright g a0 a1 u0_1 u0_2 u0_3 u0_4 u0_5 u0_6 u0_8 u0_9 u0_10 u0_11 u0_12 u0_13 u0_14 u0_15 u0_16 u0_17 u0_18 u0_19 u0_20 u0_21 u0_22 u0_23 u0_24 u0_25 u0_26 u0_27 u0_28 u0_29 u0_30 x0_thrown_1 y1_s)) rfl rfl rfl rfl rfl rfl (by decide) (c_X9_mayTurn l g a0 _ (.ref a1) u0_1 u0_2 u0_3 u0_4 u0_5 u0_6 u0_8 u0_9 u0_10 u0_11 u0_12 u0_13 u0_14 u0_15 u0_16 u0_17 u0_18 u0_19 u0_20 u0_21 u0_22 u0_23 u0_24 u0_25 u0_26 u0_27 u0_28 u0_29 u0_30 x0_thrown p1 r2 x0_thrown_1 hc) gX9_upright_X9_mayTurn rfl hv_X9_mayTurn ⟨nle rfl, nle rfl⟩ 9 0 rfl rfl rfl (rest := []) rfl rfl hl.1 (nle rfl) dX9_upright_2 (fun H locs hP hD hS => ?_)
  refine kb_ne (pc := 5) hexec hb dX9_upright_5 (tgt := 10) rfl hf (fun hc hf => ?_) (fun hc hf => ?_)
  · refine lv_iconst (pc := 10) hexec hb dX9_upright_10 ki_0 ?_
    refine lv_istore_n (pc := 11) hexec hb dX9_upright_11 rfl hl (nle rfl) rfl (fun ls (hl : lv_has ls 4 [(2, .int 0), (0, .ref a0), (1, .int p1)]) => ?_)
    refine lv_iconst (pc := 12) hexec hb dX9_upright_12 ki_0 ?_
    refine lv_istore_n (pc := 13) hexec hb dX9_upright_13 rfl hl (nle rfl) rfl (fun ls (hl : lv_has ls 4 [(3, .int 0), (2, .int 0), (0, .ref a0), (1, .int p1)]) => ?_)
    obtain ⟨l14, el14, hf⟩ := bvf2 hf
    obtain ⟨v2_1, hz, hf⟩ := bd1_e hf
    have hE14 : ∀ (H : Heap) (locs : List Loc) (ls : Array Slot), va_P g.1 vwCl (w_X9_upright g a0 a1 u0_1 u0_2 u0_3 u0_4 u0_5 u0_6 u0_8 u0_9 u0_10 u0_11 u0_12 u0_13 u0_14 u0_15 u0_16 u0_17 u0_18 u0_19 u0_20 u0_21 u0_22 u0_23 u0_24 u0_25 u0_26 u0_27 u0_28 u0_29 u0_30 x0_thrown_1 y1_s) H → va_D A (w_X9_upright g a0 a1 u0_1 u0_2 u0_3 u0_4 u0_5 u0_6 u0_8 u0_9 u0_10 u0_11 u0_12 u0_13 u0_14 u0_15 u0_16 u0_17 u0_18 u0_19 u0_20 u0_21 u0_22 u0_23 u0_24 u0_25 u0_26 u0_27 u0_28 u0_29 u0_30 x0_thrown_1 y1_s) → va_S A s.heap H locs → lv_has ls 4 [(2, .int v2_1)] → W p l e (RM 3 70) s m args below meth c H locs 0 0 Q (F0 m 61 ls []) := by
      intro H locs ls hP hD hS hl
      refine lv_iload_n (pc := 61) hexec hb dX9_upright_61 rfl (lv_at hl 0 rfl) ?_
      cases hf
      exact ke_i hQ hexec hb hr hP hD hS dX9_upright_62 hlocks
    obtain ⟨n, hz⟩ := lq2_e hz
    have hL14 : ∀ (n : Nat) (v2 : Int32) (v3 : Int32) (H : Heap) (locs : List Loc) (ls : Array Slot), it2 l14 n v2 v3 = some v2_1 → va_P g.1 vwCl (w_X9_upright g a0 a1 u0_1 u0_2 u0_3 u0_4 u0_5 u0_6 u0_8 u0_9 u0_10 u0_11 u0_12 u0_13 u0_14 u0_15 u0_16 u0_17 u0_18 u0_19 u0_20 u0_21 u0_22 u0_23 u0_24 u0_25 u0_26 u0_27 u0_28 u0_29 u0_30 x0_thrown_1 y1_s) H → va_D A (w_X9_upright g a0 a1 u0_1 u0_2 u0_3 u0_4 u0_5 u0_6 u0_8 u0_9 u0_10 u0_11 u0_12 u0_13 u0_14 u0_15 u0_16 u0_17 u0_18 u0_19 u0_20 u0_21 u0_22 u0_23 u0_24 u0_25 u0_26 u0_27 u0_28 u0_29 u0_30 x0_thrown_1 y1_s) → va_S A s.heap H locs → lv_has ls 4 [(0, .ref a0), (1, .int p1), (2, .int v2), (3, .int v3)] → W p l e (RM 3 70) s m args below meth c H locs 0 0 Q (F0 m 14 ls []) := by
      intro n
      induction n with
      | zero =>
        intro v2 v3 H locs ls hf hP hD hS hl
        exact it2_0 hf
      | succ n14 ih14 =>
        intro v2 v3 H locs ls hf hP hD hS hl
        obtain ⟨q14, hf, hk14⟩ := it2_e hf
        have hf := (el14 v2 v3).symm.trans hf
        refine lv_iload_n (pc := 14) hexec hb dX9_upright_14 rfl (lv_at hl 3 rfl) ?_
        refine lv_aload_n (pc := 15) hexec hb dX9_upright_15 rfl (lv_at hl 0 rfl) ?_
        refine kg_get (pc := 16) hexec hb (own := RX9) hWX9 hown hG hP 0 rfl rfl 0 (nle rfl) (hts _ (List.mem_cons_of_mem _ (List.mem_append_left _ (List.mem_append_left _ (List.mem_of_getElem? (i := 0) rfl))))) rfl rfl dX9_upright_16 ?_
        refine lv_iconst (pc := 19) hexec hb dX9_upright_19 ki_2 ?_
        refine kr_iald (pc := 20) hexec hb hG hP 1 rfl hf dX9_upright_20 (fun hf => ?_)
        refine ki_ge (pc := 21) hexec hb dX9_upright_21 (tgt := 61) rfl hf (fun hc hf => ?_) (fun hc hf => ?_)
        · cases sr2 hf hk14
          exact hE14 _ _ _ hP hD hS (lv_sub hl [2] rfl)
        · refine lv_iload_n (pc := 24) hexec hb dX9_upright_24 rfl (lv_at hl 2 rfl) ?_
          refine lv_aload_n (pc := 25) hexec hb dX9_upright_25 rfl (lv_at hl 0 rfl) ?_
          refine lv_iload_n (pc := 26) hexec hb dX9_upright_26 rfl (lv_at hl 3 rfl) ?_
          obtain ⟨r27, hc, hf⟩ := bd1_e hf
          refine kVp (pc := 27) (S := ⟨hexec, hb, hml, hown, hts⟩) hP hD hG hA hS [0, 1] [] [0, 1] (w2 := (w_X9_upright g a0 a1 u0_1 u0_2 u0_3 u0_4 u0_5 u0_6 u0_8 u0_9 u0_10 u0_11 u0_12 u0_13 u0_14 u0_15 u0_16 u0_17 u0_18 u0_19 u0_20 u0_21 u0_22 u0_23 u0_24 u0_25 u0_26 u0_27 u0_28 u0_29 u0_30 x0_thrown_1 y1_s)) rfl rfl rfl rfl rfl rfl (by decide) (c_X9_isPlaced l g a0 a1 _ u0_1 u0_2 u0_3 u0_4 u0_5 u0_6 (.int x0_thrown_1) u0_8 u0_9 u0_10 u0_11 u0_12 u0_13 u0_14 u0_15 u0_16 u0_17 u0_18 u0_19 u0_20 u0_21 u0_22 u0_23 u0_24 u0_25 u0_26 u0_27 u0_28 u0_29 u0_30 y1_s v3 r27 hc) gX9_upright_X9_isPlaced rfl hv_X9_isPlaced ⟨nle rfl, nle rfl⟩ 9 0 rfl rfl rfl (rest := [.int v2]) rfl rfl hl.1 (nle rfl) dX9_upright_27 (fun H locs hP hD hS => ?_)
          obtain ⟨j53, ej53, hf⟩ := bvf1 hf
          have hj53 : ∀ (t53 : Int32) (H : Heap) (locs : List Loc) (ls : Array Slot), j53 t53 = some q14 → va_P g.1 vwCl (w_X9_upright g a0 a1 u0_1 u0_2 u0_3 u0_4 u0_5 u0_6 u0_8 u0_9 u0_10 u0_11 u0_12 u0_13 u0_14 u0_15 u0_16 u0_17 u0_18 u0_19 u0_20 u0_21 u0_22 u0_23 u0_24 u0_25 u0_26 u0_27 u0_28 u0_29 u0_30 x0_thrown_1 y1_s) H → va_D A (w_X9_upright g a0 a1 u0_1 u0_2 u0_3 u0_4 u0_5 u0_6 u0_8 u0_9 u0_10 u0_11 u0_12 u0_13 u0_14 u0_15 u0_16 u0_17 u0_18 u0_19 u0_20 u0_21 u0_22 u0_23 u0_24 u0_25 u0_26 u0_27 u0_28 u0_29 u0_30 x0_thrown_1 y1_s) → va_S A s.heap H locs → lv_has ls 4 [(0, .ref a0), (1, .int p1), (3, .int v3)] → W p l e (RM 3 70) s m args below meth c H locs 0 0 Q (F0 m 53 ls [.int t53, .int v2]) := by
            intro t53 H locs ls hf hP hD hS hl
            have hf := (ej53 t53).symm.trans hf
            refine lv_ior (pc := 53) hexec hb dX9_upright_53 ?_
            obtain ⟨v2_2, ev2_2, hf⟩ := bv_e hf
            refine kn_i ev2_2 ?_
            refine lv_istore_n (pc := 54) hexec hb dX9_upright_54 rfl hl (nle rfl) rfl (fun ls (hl : lv_has ls 4 [(2, .int v2_2), (0, .ref a0), (1, .int p1), (3, .int v3)]) => ?_)
            obtain ⟨v3_1, ev3_1, hf⟩ := bv_e hf
            refine k_iinc (pc := 55) hexec hb dX9_upright_55 kq_1 hl (k := 3) rfl ev3_1 (nle rfl) rfl (fun ls (hl : lv_has ls 4 [(3, .int v3_1), (2, .int v2_2), (0, .ref a0), (1, .int p1)]) => ?_)
            refine lv_goto (pc := 58) hexec hb dX9_upright_58 (tgt := 14) rfl ?_
            exact ih14 _ _ _ _ _ (sl2 hf hk14) hP hD hS (lv_sub hl [2, 3, 1, 0] rfl)
          obtain ⟨j52, ej52, hf⟩ := bvf1 hf
          have hj52 : ∀ (u : Unit) (H : Heap) (locs : List Loc) (ls : Array Slot), j52 u = some q14 → va_P g.1 vwCl (w_X9_upright g a0 a1 u0_1 u0_2 u0_3 u0_4 u0_5 u0_6 u0_8 u0_9 u0_10 u0_11 u0_12 u0_13 u0_14 u0_15 u0_16 u0_17 u0_18 u0_19 u0_20 u0_21 u0_22 u0_23 u0_24 u0_25 u0_26 u0_27 u0_28 u0_29 u0_30 x0_thrown_1 y1_s) H → va_D A (w_X9_upright g a0 a1 u0_1 u0_2 u0_3 u0_4 u0_5 u0_6 u0_8 u0_9 u0_10 u0_11 u0_12 u0_13 u0_14 u0_15 u0_16 u0_17 u0_18 u0_19 u0_20 u0_21 u0_22 u0_23 u0_24 u0_25 u0_26 u0_27 u0_28 u0_29 u0_30 x0_thrown_1 y1_s) → va_S A s.heap H locs → lv_has ls 4 [(0, .ref a0), (1, .int p1), (3, .int v3)] → W p l e (RM 3 70) s m args below meth c H locs 0 0 Q (F0 m 52 ls [.int v2]) := by
            intro u H locs ls hf hP hD hS hl
            have hf := (ej52 u).symm.trans hf
            refine lv_iconst (pc := 52) hexec hb dX9_upright_52 ki_0 ?_
            exact hj53 _ _ _ _ hf hP hD hS (lv_sub hl [0, 1, 2] rfl)
          refine kb_eq (pc := 30) hexec hb dX9_upright_30 (tgt := 52) rfl hf (fun hc hf => ?_) (fun hc hf => ?_)
          · exact hj52 _ _ _ _ hf hP hD hS (lv_sub hl [0, 1, 3] rfl)
          · refine lv_aload_n (pc := 33) hexec hb dX9_upright_33 rfl (lv_at hl 0 rfl) ?_
            refine lv_iload_n (pc := 34) hexec hb dX9_upright_34 rfl (lv_at hl 3 rfl) ?_
            refine lv_iconst (pc := 35) hexec hb dX9_upright_35 ki_2 ?_
            obtain ⟨r36, hc, hf⟩ := bd1_e hf
            refine kVp (pc := 36) (S := ⟨hexec, hb, hml, hown, hts⟩) hP hD hG hA hS [0, 1] [] [0, 1] (w2 := (w_X9_upright g a0 a1 u0_1 u0_2 u0_3 u0_4 u0_5 u0_6 u0_8 u0_9 u0_10 u0_11 u0_12 u0_13 u0_14 u0_15 u0_16 u0_17 u0_18 u0_19 u0_20 u0_21 u0_22 u0_23 u0_24 u0_25 u0_26 u0_27 u0_28 u0_29 u0_30 x0_thrown_1 y1_s)) rfl rfl rfl rfl rfl rfl (by decide) (c_X9_of l g a0 a1 _ u0_1 u0_2 u0_3 u0_4 u0_5 u0_6 (.int x0_thrown_1) u0_8 u0_9 u0_10 u0_11 u0_12 u0_13 u0_14 u0_15 u0_16 u0_17 u0_18 u0_19 u0_20 u0_21 u0_22 u0_23 u0_24 u0_25 u0_26 u0_27 u0_28 u0_29 u0_30 y1_s v3 2 r36 hc) gX9_upright_X9_of rfl hv_X9_of ⟨nle rfl, nle rfl⟩ 9 0 rfl rfl rfl (rest := [.int v2]) rfl rfl hl.1 (nle rfl) dX9_upright_36 (fun H locs hP hD hS => ?_)
            obtain ⟨r39, hc, hf⟩ := bd1_e hf
            refine kSp (pc := 39) (S := ⟨hexec, hb, hml, hown, hts⟩) hP hD hG hA hS [] [0, 1] [0, 1] (w2 := (w_X9_upright g a0 a1 u0_1 u0_2 u0_3 u0_4 u0_5 u0_6 u0_8 u0_9 u0_10 u0_11 u0_12 u0_13 u0_14 u0_15 u0_16 u0_17 u0_18 u0_19 u0_20 u0_21 u0_22 u0_23 u0_24 u0_25 u0_26 u0_27 u0_28 u0_29 u0_30 x0_thrown_1 y1_s)) rfl rfl rfl rfl rfl rfl (by decide) (c_X9_uprightBy l g _ r36 r39 hc) gX9_upright_X9_uprightBy rfl hs_X9_uprightBy ⟨nle rfl, nle rfl⟩ (rest := [.int v2]) rfl rfl hl.1 (nle rfl) dX9_upright_39 (fun H locs hP hD hS => ?_)
            refine lv_iload_n (pc := 42) hexec hb dX9_upright_42 rfl (lv_at hl 1 rfl) ?_
            refine ki_ne (pc := 43) hexec hb dX9_upright_43 (tgt := 52) rfl hf (fun hc hf => ?_) (fun hc hf => ?_)
            · exact hj52 _ _ _ _ hf hP hD hS (lv_sub hl [0, 1, 3] rfl)
            · refine lv_iconst (pc := 46) hexec hb dX9_upright_46 ki_1 ?_
              refine lv_iload_n (pc := 47) hexec hb dX9_upright_47 rfl (lv_at hl 3 rfl) ?_
              refine lv_ishl (pc := 48) hexec hb dX9_upright_48 ?_
              refine lv_goto (pc := 49) hexec hb dX9_upright_49 (tgt := 53) rfl ?_
              exact hj53 _ _ _ _ hf hP hD hS (lv_sub hl [0, 1, 3] rfl)
    exact hL14 n _ _ _ _ _ hz hP hD hS (lv_sub hl [2, 3, 1, 0] rfl)
  · refine lv_iconst (pc := 8) hexec hb dX9_upright_8 ki_0 ?_
    cases hf
    exact ke_i hQ hexec hb hr hP hD hS dX9_upright_9 hlocks
abbrev w_X9_turning (g : GE) (a0 a1 a2 : Nat) (u0_1 u0_2 u0_3 u0_4 u0_5 u0_6 u0_8 u0_9 u0_10 u0_12 u0_13 u0_14 u0_15 u0_16 u0_17 u0_18 u0_19 u0_20 u0_21 u0_22 u0_23 u0_24 u0_25 u0_26 u0_27 u0_28 u0_29 u0_30 : Value) (x0_thrown : Int32) (y1_s : Nat → Int32) (y2_ways : Nat → Int32) : va_W := [(a0, .inr (9, [.ref a1, u0_1, u0_2, u0_3, u0_4, u0_5, u0_6, .int x0_thrown, u0_8, u0_9, u0_10, .ref a2, u0_12, u0_13, u0_14, u0_15, u0_16, u0_17, u0_18, u0_19, u0_20, u0_21, u0_22, u0_23, u0_24, u0_25, u0_26, u0_27, u0_28, u0_29, u0_30])), (a1, .inl (g.2.1 0, 552, .inl y1_s)), (a2, .inl (g.2.1 0, 8, .inl y2_ways))]
noncomputable def f_X9_turning (x0_thrown : Int32) (y1_s : Nat → Int32) (y2_ways : Nat → Int32)  : Option (Int32 × Int32 × (Nat → Int32)) :=
  ar 5 552 <|
  bd2 (f_X9_turningNow y1_s y2_ways (y1_s (5 : Int32).toNatClampNeg)) fun (r12 : Int32) (y2_ways_1 : Nat → Int32) =>
  some (r12, 0, y2_ways_1)
set_option maxRecDepth 4000 in
theorem c_X9_turning (l : Launch) (g : GE) (a0 a1 a2 : Nat) (sz : Nat) (u0_1 u0_2 u0_3 u0_4 u0_5 u0_6 u0_8 u0_9 u0_10 u0_12 u0_13 u0_14 u0_15 u0_16 u0_17 u0_18 u0_19 u0_20 u0_21 u0_22 u0_23 u0_24 u0_25 u0_26 u0_27 u0_28 u0_29 u0_30 : Value) (x0_thrown : Int32) (y1_s : Nat → Int32) (y2_ways : Nat → Int32)  (r : Int32) (o_x0_thrown : Int32) (o_y2_ways : Nat → Int32) (hf : f_X9_turning x0_thrown y1_s y2_ways = some (r, o_x0_thrown, o_y2_ways)) : MI l g yX9_turning wsX9_turning 4 93 [.ref a0] (w_X9_turning g a0 a1 a2 u0_1 u0_2 u0_3 u0_4 u0_5 u0_6 u0_8 u0_9 u0_10 u0_12 u0_13 u0_14 u0_15 u0_16 u0_17 u0_18 u0_19 u0_20 u0_21 u0_22 u0_23 u0_24 u0_25 u0_26 u0_27 u0_28 u0_29 u0_30 x0_thrown y1_s y2_ways) sz (some (.int r)) (w_X9_turning g a0 a1 a2 u0_1 u0_2 u0_3 u0_4 u0_5 u0_6 u0_8 u0_9 u0_10 u0_12 u0_13 u0_14 u0_15 u0_16 u0_17 u0_18 u0_19 u0_20 u0_21 u0_22 u0_23 u0_24 u0_25 u0_26 u0_27 u0_28 u0_29 u0_30 o_x0_thrown y1_s o_y2_ways) := by
  refine MI.start (cc := cX9_turning) (maxL := 1) (ret := (some .int)) rfl rfl (nle rfl) ?_
  intro p e s m args below meth c A ls Q hQ hexec hb hr hts hown hlocks hml hA hP hD hG hS hl
  unfold f_X9_turning at hf
  have hWX9 : ∀ w ∈ wsX90, w.before args s = true := fun w h => hts w (List.mem_cons_of_mem _ (List.mem_append_right _ h))
  have hS : va_S A s.heap s.heap [] := hS
  refine lv_aload_n (pc := 0) hexec hb dX9_turning_0 rfl (lv_at hl 0 rfl) ?_
  refine lv_iconst (pc := 1) hexec hb dX9_turning_1 ki_0 ?_
  refine kp_put (pc := 2) hexec hb (own := RX9) hWX9 tyX9 tyX9_ok nmX9 hown hG hP hD hS 0 rfl rfl 7 (nle rfl) (hts _ (List.mem_cons_of_mem _ (List.mem_append_left _ (List.mem_append_left _ (List.mem_of_getElem? (i := 0) rfl))))) rfl rfl rfl rfl (nle rfl) dX9_turning_2 (fun H locs (hP : va_P g.1 vwCl (w_X9_turning g a0 a1 a2 u0_1 u0_2 u0_3 u0_4 u0_5 u0_6 u0_8 u0_9 u0_10 u0_12 u0_13 u0_14 u0_15 u0_16 u0_17 u0_18 u0_19 u0_20 u0_21 u0_22 u0_23 u0_24 u0_25 u0_26 u0_27 u0_28 u0_29 u0_30 0 y1_s y2_ways) H) (hD : va_D A (w_X9_turning g a0 a1 a2 u0_1 u0_2 u0_3 u0_4 u0_5 u0_6 u0_8 u0_9 u0_10 u0_12 u0_13 u0_14 u0_15 u0_16 u0_17 u0_18 u0_19 u0_20 u0_21 u0_22 u0_23 u0_24 u0_25 u0_26 u0_27 u0_28 u0_29 u0_30 0 y1_s y2_ways)) hS => ?_)
  refine lv_aload_n (pc := 5) hexec hb dX9_turning_5 rfl (lv_at hl 0 rfl) ?_
  refine lv_aload_n (pc := 6) hexec hb dX9_turning_6 rfl (lv_at hl 0 rfl) ?_
  refine kg_get (pc := 7) hexec hb (own := RX9) hWX9 hown hG hP 0 rfl rfl 0 (nle rfl) (hts _ (List.mem_cons_of_mem _ (List.mem_append_left _ (List.mem_append_left _ (List.mem_of_getElem? (i := 1) rfl))))) rfl rfl dX9_turning_7 ?_
  refine lv_iconst (pc := 10) hexec hb dX9_turning_10 ki_5 ?_
  refine kr_iald (pc := 11) hexec hb hG hP 1 rfl hf dX9_turning_11 (fun hf => ?_)
  obtain ⟨r12, y2_ways_1, hc, hf⟩ := bd2_e hf
  refine kVp (pc := 12) (S := ⟨hexec, hb, hml, hown, hts⟩) hP hD hG hA hS [0, 1, 2] [] [0, 1, 2] (w2 := (w_X9_turning g a0 a1 a2 u0_1 u0_2 u0_3 u0_4 u0_5 u0_6 u0_8 u0_9 u0_10 u0_12 u0_13 u0_14 u0_15 u0_16 u0_17 u0_18 u0_19 u0_20 u0_21 u0_22 u0_23 u0_24 u0_25 u0_26 u0_27 u0_28 u0_29 u0_30 0 y1_s y2_ways_1)) rfl rfl rfl rfl rfl rfl (by decide) (c_X9_turningNow l g a0 a1 a2 _ u0_1 u0_2 u0_3 u0_4 u0_5 u0_6 (.int 0) u0_8 u0_9 u0_10 u0_12 u0_13 u0_14 u0_15 u0_16 u0_17 u0_18 u0_19 u0_20 u0_21 u0_22 u0_23 u0_24 u0_25 u0_26 u0_27 u0_28 u0_29 u0_30 y1_s y2_ways (y1_s (5 : Int32).toNatClampNeg) r12 y2_ways_1 hc) gX9_turning_X9_turningNow rfl hv_X9_turningNow ⟨nle rfl, nle rfl⟩ 9 0 rfl rfl rfl (rest := []) rfl rfl hl.1 (nle rfl) dX9_turning_12 (fun H locs hP hD hS => ?_)
  cases hf
  exact ke_i hQ hexec hb hr hP hD hS dX9_turning_15 hlocks
abbrev w_X9_turningFrom (g : GE) (a0 a1 a2 : Nat) (u0_1 u0_2 u0_3 u0_4 u0_5 u0_6 u0_8 u0_9 u0_10 u0_12 u0_13 u0_14 u0_15 u0_16 u0_17 u0_18 u0_19 u0_20 u0_21 u0_22 u0_23 u0_24 u0_25 u0_26 u0_27 u0_28 u0_29 u0_30 : Value) (x0_thrown : Int32) (y1_s : Nat → Int32) (y2_ways : Nat → Int32) : va_W := [(a0, .inr (9, [.ref a1, u0_1, u0_2, u0_3, u0_4, u0_5, u0_6, .int x0_thrown, u0_8, u0_9, u0_10, .ref a2, u0_12, u0_13, u0_14, u0_15, u0_16, u0_17, u0_18, u0_19, u0_20, u0_21, u0_22, u0_23, u0_24, u0_25, u0_26, u0_27, u0_28, u0_29, u0_30])), (a1, .inl (g.2.1 0, 552, .inl y1_s)), (a2, .inl (g.2.1 0, 8, .inl y2_ways))]
noncomputable def f_X9_turningFrom (x0_thrown : Int32) (y1_s : Nat → Int32) (y2_ways : Nat → Int32) (p1 : Int32) : Option (Int32 × Int32 × (Nat → Int32)) :=
  bd2 (f_X9_mayTurn x0_thrown p1) fun (r2 : Int32) (x0_thrown_1 : Int32) =>
  (if r2 = 0 then (
    some (0, x0_thrown_1, y2_ways)
  ) else (
    bd2 (f_X9_turningNow y1_s y2_ways p1) fun (r10 : Int32) (y2_ways_1 : Nat → Int32) =>
    some (r10, x0_thrown_1, y2_ways_1)
  ))
set_option maxRecDepth 4000 in
theorem c_X9_turningFrom (l : Launch) (g : GE) (a0 a1 a2 : Nat) (sz : Nat) (u0_1 u0_2 u0_3 u0_4 u0_5 u0_6 u0_8 u0_9 u0_10 u0_12 u0_13 u0_14 u0_15 u0_16 u0_17 u0_18 u0_19 u0_20 u0_21 u0_22 u0_23 u0_24 u0_25 u0_26 u0_27 u0_28 u0_29 u0_30 : Value) (x0_thrown : Int32) (y1_s : Nat → Int32) (y2_ways : Nat → Int32) (p1 : Int32) (r : Int32) (o_x0_thrown : Int32) (o_y2_ways : Nat → Int32) (hf : f_X9_turningFrom x0_thrown y1_s y2_ways p1 = some (r, o_x0_thrown, o_y2_ways)) : MI l g yX9_turningFrom wsX9_turningFrom 4 93 [.ref a0, .int p1] (w_X9_turningFrom g a0 a1 a2 u0_1 u0_2 u0_3 u0_4 u0_5 u0_6 u0_8 u0_9 u0_10 u0_12 u0_13 u0_14 u0_15 u0_16 u0_17 u0_18 u0_19 u0_20 u0_21 u0_22 u0_23 u0_24 u0_25 u0_26 u0_27 u0_28 u0_29 u0_30 x0_thrown y1_s y2_ways) sz (some (.int r)) (w_X9_turningFrom g a0 a1 a2 u0_1 u0_2 u0_3 u0_4 u0_5 u0_6 u0_8 u0_9 u0_10 u0_12 u0_13 u0_14 u0_15 u0_16 u0_17 u0_18 u0_19 u0_20 u0_21 u0_22 u0_23 u0_24 u0_25 u0_26 u0_27 u0_28 u0_29 u0_30 o_x0_thrown y1_s o_y2_ways) := by
  refine MI.start (cc := cX9_turningFrom) (maxL := 2) (ret := (some .int)) rfl rfl (nle rfl) ?_
  intro p e s m args below meth c A ls Q hQ hexec hb hr hts hown hlocks hml hA hP hD hG hS hl
  unfold f_X9_turningFrom at hf
  have hWX9 : ∀ w ∈ wsX90, w.before args s = true := fun w h => hts w (List.mem_cons_of_mem _ (List.mem_append_right _ h))
  have hS : va_S A s.heap s.heap [] := hS
  refine lv_aload_n (pc := 0) hexec hb dX9_turningFrom_0 rfl (lv_at hl 0 rfl) ?_
  refine lv_iload_n (pc := 1) hexec hb dX9_turningFrom_1 rfl (lv_at hl 1 rfl) ?_
  obtain ⟨r2, x0_thrown_1, hc, hf⟩ := bd2_e hf
  refine kVp (pc := 2) (S := ⟨hexec, hb, hml, hown, hts⟩) hP hD hG hA hS [0] [1, 2] [2, 0, 1] (w2 := (w_X9_turningFrom g a0 a1 a2 u0_1 u0_2 u0_3 u0_4 u0_5 u0_6 u0_8 u0_9 u0_10 u0_12 u0_13 u0_14 u0_15 u0_16 u0_17 u0_18 u0_19 u0_20 u0_21 u0_22 u0_23 u0_24 u0_25 u0_26 u0_27 u0_28 u0_29 u0_30 x0_thrown_1 y1_s y2_ways)) rfl rfl rfl rfl rfl rfl (by decide) (c_X9_mayTurn l g a0 _ (.ref a1) u0_1 u0_2 u0_3 u0_4 u0_5 u0_6 u0_8 u0_9 u0_10 (.ref a2) u0_12 u0_13 u0_14 u0_15 u0_16 u0_17 u0_18 u0_19 u0_20 u0_21 u0_22 u0_23 u0_24 u0_25 u0_26 u0_27 u0_28 u0_29 u0_30 x0_thrown p1 r2 x0_thrown_1 hc) gX9_turningFrom_X9_mayTurn rfl hv_X9_mayTurn ⟨nle rfl, nle rfl⟩ 9 0 rfl rfl rfl (rest := []) rfl rfl hl.1 (nle rfl) dX9_turningFrom_2 (fun H locs hP hD hS => ?_)
  refine kb_eq (pc := 5) hexec hb dX9_turningFrom_5 (tgt := 16) rfl hf (fun hc hf => ?_) (fun hc hf => ?_)
  · refine lv_iconst (pc := 16) hexec hb dX9_turningFrom_16 ki_0 ?_
    cases hf
    exact ke_i hQ hexec hb hr hP hD hS dX9_turningFrom_17 hlocks
  · refine lv_aload_n (pc := 8) hexec hb dX9_turningFrom_8 rfl (lv_at hl 0 rfl) ?_
    refine lv_iload_n (pc := 9) hexec hb dX9_turningFrom_9 rfl (lv_at hl 1 rfl) ?_
    obtain ⟨r10, y2_ways_1, hc, hf⟩ := bd2_e hf
    refine kVp (pc := 10) (S := ⟨hexec, hb, hml, hown, hts⟩) hP hD hG hA hS [0, 1, 2] [] [0, 1, 2] (w2 := (w_X9_turningFrom g a0 a1 a2 u0_1 u0_2 u0_3 u0_4 u0_5 u0_6 u0_8 u0_9 u0_10 u0_12 u0_13 u0_14 u0_15 u0_16 u0_17 u0_18 u0_19 u0_20 u0_21 u0_22 u0_23 u0_24 u0_25 u0_26 u0_27 u0_28 u0_29 u0_30 x0_thrown_1 y1_s y2_ways_1)) rfl rfl rfl rfl rfl rfl (by decide) (c_X9_turningNow l g a0 a1 a2 _ u0_1 u0_2 u0_3 u0_4 u0_5 u0_6 (.int x0_thrown_1) u0_8 u0_9 u0_10 u0_12 u0_13 u0_14 u0_15 u0_16 u0_17 u0_18 u0_19 u0_20 u0_21 u0_22 u0_23 u0_24 u0_25 u0_26 u0_27 u0_28 u0_29 u0_30 y1_s y2_ways p1 r10 y2_ways_1 hc) gX9_turningFrom_X9_turningNow rfl hv_X9_turningNow ⟨nle rfl, nle rfl⟩ 9 0 rfl rfl rfl (rest := []) rfl rfl hl.1 (nle rfl) dX9_turningFrom_10 (fun H locs hP hD hS => ?_)
    refine lv_goto (pc := 13) hexec hb dX9_turningFrom_13 (tgt := 17) rfl ?_
    cases hf
    exact ke_i hQ hexec hb hr hP hD hS dX9_turningFrom_17 hlocks
abbrev w_X9_bestTurn (g : GE) (a0 a1 a2 : Nat) (u0_1 u0_2 u0_3 u0_4 u0_5 u0_6 u0_8 u0_9 u0_10 u0_12 u0_13 u0_14 u0_15 u0_16 u0_17 u0_18 u0_19 u0_20 u0_21 u0_22 u0_23 u0_24 u0_25 u0_26 u0_27 u0_28 u0_29 u0_30 : Value) (x0_thrown : Int32) (y1_s : Nat → Int32) (y2_ways : Nat → Int32) : va_W := [(a0, .inr (9, [.ref a1, u0_1, u0_2, u0_3, u0_4, u0_5, u0_6, .int x0_thrown, u0_8, u0_9, u0_10, .ref a2, u0_12, u0_13, u0_14, u0_15, u0_16, u0_17, u0_18, u0_19, u0_20, u0_21, u0_22, u0_23, u0_24, u0_25, u0_26, u0_27, u0_28, u0_29, u0_30])), (a1, .inl (g.2.1 0, 552, .inl y1_s)), (a2, .inl (g.2.1 0, 8, .inl y2_ways))]
noncomputable def f_X9_bestTurn (x0_thrown : Int32) (y1_s : Nat → Int32) (y2_ways : Nat → Int32)  : Option (Int32 × Int32 × (Nat → Int32)) :=
  bv (fun (v1 : Int32) (v2 : Int32) (y2_ways_1 : Nat → Int32) => ((
    (if 4 ≤ v2 then (
      some (.inr (v1, y2_ways_1))
    ) else (
      bd2 (f_X9_turningNow y1_s y2_ways_1 v2) fun (r16 : Int32) (y2_ways_3 : Nat → Int32) =>
      bd2 (f_X9_turningNow y1_s y2_ways_3 v1) fun (r21 : Int32) (y2_ways_4 : Nat → Int32) =>
      bv (fun (t32 : Int32) => ((
        bv (v2 + 1) fun v2_1 =>
        some (.inl (t32, v2_1, y2_ways_4))
        ) : Option ((Int32 × Int32 × (Nat → Int32)) ⊕ (Int32 × (Nat → Int32))))) fun j32 =>
      (if r21 ≤ r16 then (
        j32 v1
      ) else (
        j32 v2
      ))
    ))
    ) : Option ((Int32 × Int32 × (Nat → Int32)) ⊕ (Int32 × (Nat → Int32))))) fun l9 =>
  bd2 (lq3 l9 0 1 y2_ways) fun (v1_1 : Int32) (y2_ways_2 : Nat → Int32) =>
  some (v1_1, 0, y2_ways_2)
set_option maxRecDepth 4000 in
theorem c_X9_bestTurn (l : Launch) (g : GE) (a0 a1 a2 : Nat) (sz : Nat) (u0_1 u0_2 u0_3 u0_4 u0_5 u0_6 u0_8 u0_9 u0_10 u0_12 u0_13 u0_14 u0_15 u0_16 u0_17 u0_18 u0_19 u0_20 u0_21 u0_22 u0_23 u0_24 u0_25 u0_26 u0_27 u0_28 u0_29 u0_30 : Value) (x0_thrown : Int32) (y1_s : Nat → Int32) (y2_ways : Nat → Int32)  (r : Int32) (o_x0_thrown : Int32) (o_y2_ways : Nat → Int32) (hf : f_X9_bestTurn x0_thrown y1_s y2_ways = some (r, o_x0_thrown, o_y2_ways)) : MI l g yX9_bestTurn wsX9_bestTurn 4 93 [.ref a0] (w_X9_bestTurn g a0 a1 a2 u0_1 u0_2 u0_3 u0_4 u0_5 u0_6 u0_8 u0_9 u0_10 u0_12 u0_13 u0_14 u0_15 u0_16 u0_17 u0_18 u0_19 u0_20 u0_21 u0_22 u0_23 u0_24 u0_25 u0_26 u0_27 u0_28 u0_29 u0_30 x0_thrown y1_s y2_ways) sz (some (.int r)) (w_X9_bestTurn g a0 a1 a2 u0_1 u0_2 u0_3 u0_4 u0_5 u0_6 u0_8 u0_9 u0_10 u0_12 u0_13 u0_14 u0_15 u0_16 u0_17 u0_18 u0_19 u0_20 u0_21 u0_22 u0_23 u0_24 u0_25 u0_26 u0_27 u0_28 u0_29 u0_30 o_x0_thrown y1_s o_y2_ways) := by
  refine MI.start (cc := cX9_bestTurn) (maxL := 3) (ret := (some .int)) rfl rfl (nle rfl) ?_
  intro p e s m args below meth c A ls Q hQ hexec hb hr hts hown hlocks hml hA hP hD hG hS hl
  unfold f_X9_bestTurn at hf
  have hWX9 : ∀ w ∈ wsX90, w.before args s = true := fun w h => hts w (List.mem_cons_of_mem _ (List.mem_append_right _ h))
  have hS : va_S A s.heap s.heap [] := hS
  refine lv_aload_n (pc := 0) hexec hb dX9_bestTurn_0 rfl (lv_at hl 0 rfl) ?_
  refine lv_iconst (pc := 1) hexec hb dX9_bestTurn_1 ki_0 ?_
  refine kp_put (pc := 2) hexec hb (own := RX9) hWX9 tyX9 tyX9_ok nmX9 hown hG hP hD hS 0 rfl rfl 7 (nle rfl) (hts _ (List.mem_cons_of_mem _ (List.mem_append_left _ (List.mem_append_left _ (List.mem_of_getElem? (i := 0) rfl))))) rfl rfl rfl rfl (nle rfl) dX9_bestTurn_2 (fun H locs (hP : va_P g.1 vwCl (w_X9_bestTurn g a0 a1 a2 u0_1 u0_2 u0_3 u0_4 u0_5 u0_6 u0_8 u0_9 u0_10 u0_12 u0_13 u0_14 u0_15 u0_16 u0_17 u0_18 u0_19 u0_20 u0_21 u0_22 u0_23 u0_24 u0_25 u0_26 u0_27 u0_28 u0_29 u0_30 0 y1_s y2_ways) H) (hD : va_D A (w_X9_bestTurn g a0 a1 a2 u0_1 u0_2 u0_3 u0_4 u0_5 u0_6 u0_8 u0_9 u0_10 u0_12 u0_13 u0_14 u0_15 u0_16 u0_17 u0_18 u0_19 u0_20 u0_21 u0_22 u0_23 u0_24 u0_25 u0_26 u0_27 u0_28 u0_29 u0_30 0 y1_s y2_ways)) hS => ?_)
  refine lv_iconst (pc := 5) hexec hb dX9_bestTurn_5 ki_0 ?_
  refine lv_istore_n (pc := 6) hexec hb dX9_bestTurn_6 rfl hl (nle rfl) rfl (fun ls (hl : lv_has ls 3 [(1, .int 0), (0, .ref a0)]) => ?_)
  refine lv_iconst (pc := 7) hexec hb dX9_bestTurn_7 ki_1 ?_
  refine lv_istore_n (pc := 8) hexec hb dX9_bestTurn_8 rfl hl (nle rfl) rfl (fun ls (hl : lv_has ls 3 [(2, .int 1), (1, .int 0), (0, .ref a0)]) => ?_)
  obtain ⟨l9, el9, hf⟩ := bvf3 hf
  obtain ⟨v1_1, y2_ways_2, hz, hf⟩ := bd2_e hf
  have hE9 : ∀ (H : Heap) (locs : List Loc) (ls : Array Slot), va_P g.1 vwCl (w_X9_bestTurn g a0 a1 a2 u0_1 u0_2 u0_3 u0_4 u0_5 u0_6 u0_8 u0_9 u0_10 u0_12 u0_13 u0_14 u0_15 u0_16 u0_17 u0_18 u0_19 u0_20 u0_21 u0_22 u0_23 u0_24 u0_25 u0_26 u0_27 u0_28 u0_29 u0_30 0 y1_s y2_ways_2) H → va_D A (w_X9_bestTurn g a0 a1 a2 u0_1 u0_2 u0_3 u0_4 u0_5 u0_6 u0_8 u0_9 u0_10 u0_12 u0_13 u0_14 u0_15 u0_16 u0_17 u0_18 u0_19 u0_20 u0_21 u0_22 u0_23 u0_24 u0_25 u0_26 u0_27 u0_28 u0_29 u0_30 0 y1_s y2_ways_2) → va_S A s.heap H locs → lv_has ls 3 [(1, .int v1_1)] → W p l e (RM 4 93) s m args below meth c H locs 0 0 Q (F0 m 39 ls []) := by
    intro H locs ls hP hD hS hl
    refine lv_iload_n (pc := 39) hexec hb dX9_bestTurn_39 rfl (lv_at hl 0 rfl) ?_
    cases hf
    exact ke_i hQ hexec hb hr hP hD hS dX9_bestTurn_40 hlocks
  obtain ⟨n, hz⟩ := lq3_e hz
  have hL9 : ∀ (n : Nat) (v1 : Int32) (v2 : Int32) (y2_ways_1 : Nat → Int32) (H : Heap) (locs : List Loc) (ls : Array Slot), it3 l9 n v1 v2 y2_ways_1 = some (v1_1, y2_ways_2) → va_P g.1 vwCl (w_X9_bestTurn g a0 a1 a2 u0_1 u0_2 u0_3 u0_4 u0_5 u0_6 u0_8 u0_9 u0_10 u0_12 u0_13 u0_14 u0_15 u0_16 u0_17 u0_18 u0_19 u0_20 u0_21 u0_22 u0_23 u0_24 u0_25 u0_26 u0_27 u0_28 u0_29 u0_30 0 y1_s y2_ways_1) H → va_D A (w_X9_bestTurn g a0 a1 a2 u0_1 u0_2 u0_3 u0_4 u0_5 u0_6 u0_8 u0_9 u0_10 u0_12 u0_13 u0_14 u0_15 u0_16 u0_17 u0_18 u0_19 u0_20 u0_21 u0_22 u0_23 u0_24 u0_25 u0_26 u0_27 u0_28 u0_29 u0_30 0 y1_s y2_ways_1) → va_S A s.heap H locs → lv_has ls 3 [(0, .ref a0), (1, .int v1), (2, .int v2)] → W p l e (RM 4 93) s m args below meth c H locs 0 0 Q (F0 m 9 ls []) := by
    intro n
    induction n with
    | zero =>
      intro v1 v2 y2_ways_1 H locs ls hf hP hD hS hl
      exact it3_0 hf
    | succ n9 ih9 =>
      intro v1 v2 y2_ways_1 H locs ls hf hP hD hS hl
      obtain ⟨q9, hf, hk9⟩ := it3_e hf
      have hf := (el9 v1 v2 y2_ways_1).symm.trans hf
      refine lv_iload_n (pc := 9) hexec hb dX9_bestTurn_9 rfl (lv_at hl 2 rfl) ?_
      refine lv_iconst (pc := 10) hexec hb dX9_bestTurn_10 ki_4 ?_
      refine ki_ge (pc := 11) hexec hb dX9_bestTurn_11 (tgt := 39) rfl hf (fun hc hf => ?_) (fun hc hf => ?_)
      · cases sr3 hf hk9
        exact hE9 _ _ _ hP hD hS (lv_sub hl [1] rfl)
      · refine lv_aload_n (pc := 14) hexec hb dX9_bestTurn_14 rfl (lv_at hl 0 rfl) ?_
        refine lv_iload_n (pc := 15) hexec hb dX9_bestTurn_15 rfl (lv_at hl 2 rfl) ?_
        obtain ⟨r16, y2_ways_3, hc, hf⟩ := bd2_e hf
        refine kVp (pc := 16) (S := ⟨hexec, hb, hml, hown, hts⟩) hP hD hG hA hS [0, 1, 2] [] [0, 1, 2] (w2 := (w_X9_bestTurn g a0 a1 a2 u0_1 u0_2 u0_3 u0_4 u0_5 u0_6 u0_8 u0_9 u0_10 u0_12 u0_13 u0_14 u0_15 u0_16 u0_17 u0_18 u0_19 u0_20 u0_21 u0_22 u0_23 u0_24 u0_25 u0_26 u0_27 u0_28 u0_29 u0_30 0 y1_s y2_ways_3)) rfl rfl rfl rfl rfl rfl (by decide) (c_X9_turningNow l g a0 a1 a2 _ u0_1 u0_2 u0_3 u0_4 u0_5 u0_6 (.int 0) u0_8 u0_9 u0_10 u0_12 u0_13 u0_14 u0_15 u0_16 u0_17 u0_18 u0_19 u0_20 u0_21 u0_22 u0_23 u0_24 u0_25 u0_26 u0_27 u0_28 u0_29 u0_30 y1_s y2_ways_1 v2 r16 y2_ways_3 hc) gX9_bestTurn_X9_turningNow rfl hv_X9_turningNow ⟨nle rfl, nle rfl⟩ 9 0 rfl rfl rfl (rest := []) rfl rfl hl.1 (nle rfl) dX9_bestTurn_16 (fun H locs hP hD hS => ?_)
        refine lv_aload_n (pc := 19) hexec hb dX9_bestTurn_19 rfl (lv_at hl 0 rfl) ?_
        refine lv_iload_n (pc := 20) hexec hb dX9_bestTurn_20 rfl (lv_at hl 1 rfl) ?_
        obtain ⟨r21, y2_ways_4, hc, hf⟩ := bd2_e hf
        refine kVp (pc := 21) (S := ⟨hexec, hb, hml, hown, hts⟩) hP hD hG hA hS [0, 1, 2] [] [0, 1, 2] (w2 := (w_X9_bestTurn g a0 a1 a2 u0_1 u0_2 u0_3 u0_4 u0_5 u0_6 u0_8 u0_9 u0_10 u0_12 u0_13 u0_14 u0_15 u0_16 u0_17 u0_18 u0_19 u0_20 u0_21 u0_22 u0_23 u0_24 u0_25 u0_26 u0_27 u0_28 u0_29 u0_30 0 y1_s y2_ways_4)) rfl rfl rfl rfl rfl rfl (by decide) (c_X9_turningNow l g a0 a1 a2 _ u0_1 u0_2 u0_3 u0_4 u0_5 u0_6 (.int 0) u0_8 u0_9 u0_10 u0_12 u0_13 u0_14 u0_15 u0_16 u0_17 u0_18 u0_19 u0_20 u0_21 u0_22 u0_23 u0_24 u0_25 u0_26 u0_27 u0_28 u0_29 u0_30 y1_s y2_ways_3 v1 r21 y2_ways_4 hc) gX9_bestTurn_X9_turningNow rfl hv_X9_turningNow ⟨nle rfl, nle rfl⟩ 9 0 rfl rfl rfl (rest := [.int r16]) rfl rfl hl.1 (nle rfl) dX9_bestTurn_21 (fun H locs hP hD hS => ?_)
        obtain ⟨j32, ej32, hf⟩ := bvf1 hf
        have hj32 : ∀ (t32 : Int32) (H : Heap) (locs : List Loc) (ls : Array Slot), j32 t32 = some q9 → va_P g.1 vwCl (w_X9_bestTurn g a0 a1 a2 u0_1 u0_2 u0_3 u0_4 u0_5 u0_6 u0_8 u0_9 u0_10 u0_12 u0_13 u0_14 u0_15 u0_16 u0_17 u0_18 u0_19 u0_20 u0_21 u0_22 u0_23 u0_24 u0_25 u0_26 u0_27 u0_28 u0_29 u0_30 0 y1_s y2_ways_4) H → va_D A (w_X9_bestTurn g a0 a1 a2 u0_1 u0_2 u0_3 u0_4 u0_5 u0_6 u0_8 u0_9 u0_10 u0_12 u0_13 u0_14 u0_15 u0_16 u0_17 u0_18 u0_19 u0_20 u0_21 u0_22 u0_23 u0_24 u0_25 u0_26 u0_27 u0_28 u0_29 u0_30 0 y1_s y2_ways_4) → va_S A s.heap H locs → lv_has ls 3 [(0, .ref a0), (2, .int v2)] → W p l e (RM 4 93) s m args below meth c H locs 0 0 Q (F0 m 32 ls [.int t32]) := by
          intro t32 H locs ls hf hP hD hS hl
          have hf := (ej32 t32).symm.trans hf
          refine lv_istore_n (pc := 32) hexec hb dX9_bestTurn_32 rfl hl (nle rfl) rfl (fun ls (hl : lv_has ls 3 [(1, .int t32), (0, .ref a0), (2, .int v2)]) => ?_)
          obtain ⟨v2_1, ev2_1, hf⟩ := bv_e hf
          refine k_iinc (pc := 33) hexec hb dX9_bestTurn_33 kq_1 hl (k := 2) rfl ev2_1 (nle rfl) rfl (fun ls (hl : lv_has ls 3 [(2, .int v2_1), (1, .int t32), (0, .ref a0)]) => ?_)
          refine lv_goto (pc := 36) hexec hb dX9_bestTurn_36 (tgt := 9) rfl ?_
          exact ih9 _ _ _ _ _ _ (sl3 hf hk9) hP hD hS (lv_sub hl [2, 1, 0] rfl)
        refine ki_ge (pc := 24) hexec hb dX9_bestTurn_24 (tgt := 31) rfl hf (fun hc hf => ?_) (fun hc hf => ?_)
        · refine lv_iload_n (pc := 31) hexec hb dX9_bestTurn_31 rfl (lv_at hl 1 rfl) ?_
          exact hj32 _ _ _ _ hf hP hD hS (lv_sub hl [0, 2] rfl)
        · refine lv_iload_n (pc := 27) hexec hb dX9_bestTurn_27 rfl (lv_at hl 2 rfl) ?_
          refine lv_goto (pc := 28) hexec hb dX9_bestTurn_28 (tgt := 32) rfl ?_
          exact hj32 _ _ _ _ hf hP hD hS (lv_sub hl [0, 2] rfl)
  exact hL9 n _ _ _ _ _ _ hz hP hD hS (lv_sub hl [2, 1, 0] rfl)
abbrev w_X9_hardest (g : GE) (a0 a1 : Nat) (u0_1 u0_2 u0_3 u0_4 u0_5 u0_6 u0_8 u0_9 u0_10 u0_11 u0_12 u0_13 u0_14 u0_15 u0_16 u0_17 u0_18 u0_19 u0_20 u0_21 u0_22 u0_23 u0_24 u0_25 u0_26 u0_27 u0_28 u0_29 u0_30 : Value) (x0_thrown : Int32) (y1_s : Nat → Int32) : va_W := [(a0, .inr (9, [.ref a1, u0_1, u0_2, u0_3, u0_4, u0_5, u0_6, .int x0_thrown, u0_8, u0_9, u0_10, u0_11, u0_12, u0_13, u0_14, u0_15, u0_16, u0_17, u0_18, u0_19, u0_20, u0_21, u0_22, u0_23, u0_24, u0_25, u0_26, u0_27, u0_28, u0_29, u0_30])), (a1, .inl (g.2.1 0, 552, .inl y1_s))]
noncomputable def f_X9_hardest (x0_thrown : Int32) (y1_s : Nat → Int32)  : Option (Int32 × Int32) :=
  ar 5 552 <|
  bv (y1_s (5 : Int32).toNatClampNeg) fun v3 =>
  bv (fun (v1 : Int32) (v2 : Int32) (v3_1 : Int32) (v4 : Int32) => ((
    ar 4 552 <|
    (if (y1_s (4 : Int32).toNatClampNeg) ≤ v4 then (
      some (.inr v1)
    ) else (
      ar (536 + v4) 552 <|
      bv (y1_s (536 + v4).toNatClampNeg) fun v5 =>
      bd1 (f_X9_isPlaced y1_s v5) fun (r46 : Int32) =>
      bv (fun (v1_2 : Int32) (v2_1 : Int32) (v3_2 : Int32) => ((
        bv (v4 + 1) fun v4_1 =>
        some (.inl (v1_2, v2_1, v3_2, v4_1))
        ) : Option ((Int32 × Int32 × Int32 × Int32) ⊕ (Int32)))) fun j102 =>
      (if r46 = 0 then (
        j102 v1 v2 v3_1
      ) else (
        bd1 (f_X9_of y1_s v5 2) fun (r60 : Int32) =>
        bd1 (f_X9_uprightBy r60) fun (r63 : Int32) =>
        bd1 (f_X9_quarters v3_1 r63) fun (r66 : Int32) =>
        bv (fun (t83 : Int32) => ((
          bv (if v2 < r66 then r66 else v2) fun v2_2 =>
          bd1 (f_X9_of y1_s v5 2) fun (r95 : Int32) =>
          bd1 (f_X9_uprightBy r95) fun (r98 : Int32) =>
          j102 t83 v2_2 r98
          ) : Option ((Int32 × Int32 × Int32 × Int32) ⊕ (Int32)))) fun j83 =>
        (if r66 ≤ v2 then (
          j83 v1
        ) else (
          j83 v4
        ))
      ))
    ))
    ) : Option ((Int32 × Int32 × Int32 × Int32) ⊕ (Int32)))) fun l19 =>
  bd1 (lq4 l19 (-1) 0 v3 0) fun (v1_1 : Int32) =>
  some (v1_1, 0)
set_option maxRecDepth 4000 in
theorem c_X9_hardest (l : Launch) (g : GE) (a0 a1 : Nat) (sz : Nat) (u0_1 u0_2 u0_3 u0_4 u0_5 u0_6 u0_8 u0_9 u0_10 u0_11 u0_12 u0_13 u0_14 u0_15 u0_16 u0_17 u0_18 u0_19 u0_20 u0_21 u0_22 u0_23 u0_24 u0_25 u0_26 u0_27 u0_28 u0_29 u0_30 : Value) (x0_thrown : Int32) (y1_s : Nat → Int32)  (r : Int32) (o_x0_thrown : Int32) (hf : f_X9_hardest x0_thrown y1_s = some (r, o_x0_thrown)) : MI l g yX9_hardest wsX9_hardest 3 67 [.ref a0] (w_X9_hardest g a0 a1 u0_1 u0_2 u0_3 u0_4 u0_5 u0_6 u0_8 u0_9 u0_10 u0_11 u0_12 u0_13 u0_14 u0_15 u0_16 u0_17 u0_18 u0_19 u0_20 u0_21 u0_22 u0_23 u0_24 u0_25 u0_26 u0_27 u0_28 u0_29 u0_30 x0_thrown y1_s) sz (some (.int r)) (w_X9_hardest g a0 a1 u0_1 u0_2 u0_3 u0_4 u0_5 u0_6 u0_8 u0_9 u0_10 u0_11 u0_12 u0_13 u0_14 u0_15 u0_16 u0_17 u0_18 u0_19 u0_20 u0_21 u0_22 u0_23 u0_24 u0_25 u0_26 u0_27 u0_28 u0_29 u0_30 o_x0_thrown y1_s) := by
  refine MI.start (cc := cX9_hardest) (maxL := 7) (ret := (some .int)) rfl rfl (nle rfl) ?_
  intro p e s m args below meth c A ls Q hQ hexec hb hr hts hown hlocks hml hA hP hD hG hS hl
  unfold f_X9_hardest at hf
  have hWX9 : ∀ w ∈ wsX90, w.before args s = true := fun w h => hts w (List.mem_cons_of_mem _ (List.mem_append_right _ h))
  have hS : va_S A s.heap s.heap [] := hS
  refine lv_aload_n (pc := 0) hexec hb dX9_hardest_0 rfl (lv_at hl 0 rfl) ?_
  refine lv_iconst (pc := 1) hexec hb dX9_hardest_1 ki_0 ?_
  refine kp_put (pc := 2) hexec hb (own := RX9) hWX9 tyX9 tyX9_ok nmX9 hown hG hP hD hS 0 rfl rfl 7 (nle rfl) (hts _ (List.mem_cons_of_mem _ (List.mem_append_left _ (List.mem_append_left _ (List.mem_of_getElem? (i := 0) rfl))))) rfl rfl rfl rfl (nle rfl) dX9_hardest_2 (fun H locs (hP : va_P g.1 vwCl (w_X9_hardest g a0 a1 u0_1 u0_2 u0_3 u0_4 u0_5 u0_6 u0_8 u0_9 u0_10 u0_11 u0_12 u0_13 u0_14 u0_15 u0_16 u0_17 u0_18 u0_19 u0_20 u0_21 u0_22 u0_23 u0_24 u0_25 u0_26 u0_27 u0_28 u0_29 u0_30 0 y1_s) H) (hD : va_D A (w_X9_hardest g a0 a1 u0_1 u0_2 u0_3 u0_4 u0_5 u0_6 u0_8 u0_9 u0_10 u0_11 u0_12 u0_13 u0_14 u0_15 u0_16 u0_17 u0_18 u0_19 u0_20 u0_21 u0_22 u0_23 u0_24 u0_25 u0_26 u0_27 u0_28 u0_29 u0_30 0 y1_s)) hS => ?_)
  refine lv_iconst (pc := 5) hexec hb dX9_hardest_5 ki_m1 ?_
  refine lv_istore_n (pc := 6) hexec hb dX9_hardest_6 rfl hl (nle rfl) rfl (fun ls (hl : lv_has ls 7 [(1, .int (-1)), (0, .ref a0)]) => ?_)
  refine lv_iconst (pc := 7) hexec hb dX9_hardest_7 ki_0 ?_
  refine lv_istore_n (pc := 8) hexec hb dX9_hardest_8 rfl hl (nle rfl) rfl (fun ls (hl : lv_has ls 7 [(2, .int 0), (1, .int (-1)), (0, .ref a0)]) => ?_)
  refine lv_aload_n (pc := 9) hexec hb dX9_hardest_9 rfl (lv_at hl 2 rfl) ?_
  refine kg_get (pc := 10) hexec hb (own := RX9) hWX9 hown hG hP 0 rfl rfl 0 (nle rfl) (hts _ (List.mem_cons_of_mem _ (List.mem_append_left _ (List.mem_append_left _ (List.mem_of_getElem? (i := 1) rfl))))) rfl rfl dX9_hardest_10 ?_
  refine lv_iconst (pc := 13) hexec hb dX9_hardest_13 ki_5 ?_
  refine kr_iald (pc := 14) hexec hb hG hP 1 rfl hf dX9_hardest_14 (fun hf => ?_)
  obtain ⟨v3, ev3, hf⟩ := bv_e hf
  refine kn_i ev3 ?_
  refine lv_istore_n (pc := 15) hexec hb dX9_hardest_15 rfl hl (nle rfl) rfl (fun ls (hl : lv_has ls 7 [(3, .int v3), (2, .int 0), (1, .int (-1)), (0, .ref a0)]) => ?_)
  refine lv_iconst (pc := 16) hexec hb dX9_hardest_16 ki_0 ?_
  refine lv_istore (pc := 17) hexec hb dX9_hardest_17 hl (nle rfl) rfl (fun ls (hl : lv_has ls 7 [(4, .int 0), (3, .int v3), (2, .int 0), (1, .int (-1)), (0, .ref a0)]) => ?_)
  obtain ⟨l19, el19, hf⟩ := bvf4 hf
  obtain ⟨v1_1, hz, hf⟩ := bd1_e hf
  have hE19 : ∀ (H : Heap) (locs : List Loc) (ls : Array Slot), va_P g.1 vwCl (w_X9_hardest g a0 a1 u0_1 u0_2 u0_3 u0_4 u0_5 u0_6 u0_8 u0_9 u0_10 u0_11 u0_12 u0_13 u0_14 u0_15 u0_16 u0_17 u0_18 u0_19 u0_20 u0_21 u0_22 u0_23 u0_24 u0_25 u0_26 u0_27 u0_28 u0_29 u0_30 0 y1_s) H → va_D A (w_X9_hardest g a0 a1 u0_1 u0_2 u0_3 u0_4 u0_5 u0_6 u0_8 u0_9 u0_10 u0_11 u0_12 u0_13 u0_14 u0_15 u0_16 u0_17 u0_18 u0_19 u0_20 u0_21 u0_22 u0_23 u0_24 u0_25 u0_26 u0_27 u0_28 u0_29 u0_30 0 y1_s) → va_S A s.heap H locs → lv_has ls 7 [(1, .int v1_1)] → W p l e (RM 3 67) s m args below meth c H locs 0 0 Q (F0 m 108 ls []) := by
    intro H locs ls hP hD hS hl
    refine lv_iload_n (pc := 108) hexec hb dX9_hardest_108 rfl (lv_at hl 0 rfl) ?_
    cases hf
    exact ke_i hQ hexec hb hr hP hD hS dX9_hardest_109 hlocks
  obtain ⟨n, hz⟩ := lq4_e hz
  have hL19 : ∀ (n : Nat) (v1 : Int32) (v2 : Int32) (v3_1 : Int32) (v4 : Int32) (H : Heap) (locs : List Loc) (ls : Array Slot), it4 l19 n v1 v2 v3_1 v4 = some v1_1 → va_P g.1 vwCl (w_X9_hardest g a0 a1 u0_1 u0_2 u0_3 u0_4 u0_5 u0_6 u0_8 u0_9 u0_10 u0_11 u0_12 u0_13 u0_14 u0_15 u0_16 u0_17 u0_18 u0_19 u0_20 u0_21 u0_22 u0_23 u0_24 u0_25 u0_26 u0_27 u0_28 u0_29 u0_30 0 y1_s) H → va_D A (w_X9_hardest g a0 a1 u0_1 u0_2 u0_3 u0_4 u0_5 u0_6 u0_8 u0_9 u0_10 u0_11 u0_12 u0_13 u0_14 u0_15 u0_16 u0_17 u0_18 u0_19 u0_20 u0_21 u0_22 u0_23 u0_24 u0_25 u0_26 u0_27 u0_28 u0_29 u0_30 0 y1_s) → va_S A s.heap H locs → lv_has ls 7 [(0, .ref a0), (1, .int v1), (2, .int v2), (3, .int v3_1), (4, .int v4)] → W p l e (RM 3 67) s m args below meth c H locs 0 0 Q (F0 m 19 ls []) := by
    intro n
    induction n with
    | zero =>
      intro v1 v2 v3_1 v4 H locs ls hf hP hD hS hl
      exact it4_0 hf
    | succ n19 ih19 =>
      intro v1 v2 v3_1 v4 H locs ls hf hP hD hS hl
      obtain ⟨q19, hf, hk19⟩ := it4_e hf
      have hf := (el19 v1 v2 v3_1 v4).symm.trans hf
      refine lv_iload (pc := 19) hexec hb dX9_hardest_19 (lv_at hl 4 rfl) ?_
      refine lv_aload_n (pc := 21) hexec hb dX9_hardest_21 rfl (lv_at hl 0 rfl) ?_
      refine kg_get (pc := 22) hexec hb (own := RX9) hWX9 hown hG hP 0 rfl rfl 0 (nle rfl) (hts _ (List.mem_cons_of_mem _ (List.mem_append_left _ (List.mem_append_left _ (List.mem_of_getElem? (i := 1) rfl))))) rfl rfl dX9_hardest_22 ?_
      refine lv_iconst (pc := 25) hexec hb dX9_hardest_25 ki_4 ?_
      refine kr_iald (pc := 26) hexec hb hG hP 1 rfl hf dX9_hardest_26 (fun hf => ?_)
      refine ki_ge (pc := 27) hexec hb dX9_hardest_27 (tgt := 108) rfl hf (fun hc hf => ?_) (fun hc hf => ?_)
      · cases sr4 hf hk19
        exact hE19 _ _ _ hP hD hS (lv_sub hl [1] rfl)
      · refine lv_aload_n (pc := 30) hexec hb dX9_hardest_30 rfl (lv_at hl 0 rfl) ?_
        refine kg_get (pc := 31) hexec hb (own := RX9) hWX9 hown hG hP 0 rfl rfl 0 (nle rfl) (hts _ (List.mem_cons_of_mem _ (List.mem_append_left _ (List.mem_append_left _ (List.mem_of_getElem? (i := 1) rfl))))) rfl rfl dX9_hardest_31 ?_
        refine lv_sipush (pc := 34) hexec hb dX9_hardest_34 ks_536 ?_
        refine lv_iload (pc := 37) hexec hb dX9_hardest_37 (lv_at hl 4 rfl) ?_
        refine lv_iadd (pc := 39) hexec hb dX9_hardest_39 ?_
        refine kr_iald (pc := 40) hexec hb hG hP 1 rfl hf dX9_hardest_40 (fun hf => ?_)
        obtain ⟨v5, ev5, hf⟩ := bv_e hf
        refine kn_i ev5 ?_
        refine lv_istore (pc := 41) hexec hb dX9_hardest_41 hl (nle rfl) rfl (fun ls (hl : lv_has ls 7 [(5, .int v5), (0, .ref a0), (1, .int v1), (2, .int v2), (3, .int v3_1), (4, .int v4)]) => ?_)
        refine lv_aload_n (pc := 43) hexec hb dX9_hardest_43 rfl (lv_at hl 1 rfl) ?_
        refine lv_iload (pc := 44) hexec hb dX9_hardest_44 (lv_at hl 0 rfl) ?_
        obtain ⟨r46, hc, hf⟩ := bd1_e hf
        refine kVp (pc := 46) (S := ⟨hexec, hb, hml, hown, hts⟩) hP hD hG hA hS [0, 1] [] [0, 1] (w2 := (w_X9_hardest g a0 a1 u0_1 u0_2 u0_3 u0_4 u0_5 u0_6 u0_8 u0_9 u0_10 u0_11 u0_12 u0_13 u0_14 u0_15 u0_16 u0_17 u0_18 u0_19 u0_20 u0_21 u0_22 u0_23 u0_24 u0_25 u0_26 u0_27 u0_28 u0_29 u0_30 0 y1_s)) rfl rfl rfl rfl rfl rfl (by decide) (c_X9_isPlaced l g a0 a1 _ u0_1 u0_2 u0_3 u0_4 u0_5 u0_6 (.int 0) u0_8 u0_9 u0_10 u0_11 u0_12 u0_13 u0_14 u0_15 u0_16 u0_17 u0_18 u0_19 u0_20 u0_21 u0_22 u0_23 u0_24 u0_25 u0_26 u0_27 u0_28 u0_29 u0_30 y1_s v5 r46 hc) gX9_hardest_X9_isPlaced rfl hv_X9_isPlaced ⟨nle rfl, nle rfl⟩ 9 0 rfl rfl rfl (rest := []) rfl rfl hl.1 (nle rfl) dX9_hardest_46 (fun H locs hP hD hS => ?_)
        obtain ⟨j102, ej102, hf⟩ := bvf3 hf
        have hj102 : ∀ (v1_2 : Int32) (v2_1 : Int32) (v3_2 : Int32) (H : Heap) (locs : List Loc) (ls : Array Slot), j102 v1_2 v2_1 v3_2 = some q19 → va_P g.1 vwCl (w_X9_hardest g a0 a1 u0_1 u0_2 u0_3 u0_4 u0_5 u0_6 u0_8 u0_9 u0_10 u0_11 u0_12 u0_13 u0_14 u0_15 u0_16 u0_17 u0_18 u0_19 u0_20 u0_21 u0_22 u0_23 u0_24 u0_25 u0_26 u0_27 u0_28 u0_29 u0_30 0 y1_s) H → va_D A (w_X9_hardest g a0 a1 u0_1 u0_2 u0_3 u0_4 u0_5 u0_6 u0_8 u0_9 u0_10 u0_11 u0_12 u0_13 u0_14 u0_15 u0_16 u0_17 u0_18 u0_19 u0_20 u0_21 u0_22 u0_23 u0_24 u0_25 u0_26 u0_27 u0_28 u0_29 u0_30 0 y1_s) → va_S A s.heap H locs → lv_has ls 7 [(0, .ref a0), (1, .int v1_2), (2, .int v2_1), (3, .int v3_2), (4, .int v4)] → W p l e (RM 3 67) s m args below meth c H locs 0 0 Q (F0 m 102 ls []) := by
          intro v1_2 v2_1 v3_2 H locs ls hf hP hD hS hl
          have hf := (ej102 v1_2 v2_1 v3_2).symm.trans hf
          obtain ⟨v4_1, ev4_1, hf⟩ := bv_e hf
          refine k_iinc (pc := 102) hexec hb dX9_hardest_102 kq_1 hl (k := 4) rfl ev4_1 (nle rfl) rfl (fun ls (hl : lv_has ls 7 [(4, .int v4_1), (0, .ref a0), (1, .int v1_2), (2, .int v2_1), (3, .int v3_2)]) => ?_)
          refine lv_goto (pc := 105) hexec hb dX9_hardest_105 (tgt := 19) rfl ?_
          exact ih19 _ _ _ _ _ _ _ (sl4 hf hk19) hP hD hS (lv_sub hl [1, 2, 3, 4, 0] rfl)
        refine kb_ne (pc := 49) hexec hb dX9_hardest_49 (tgt := 55) rfl hf (fun hc hf => ?_) (fun hc hf => ?_)
        · refine lv_iload_n (pc := 55) hexec hb dX9_hardest_55 rfl (lv_at hl 4 rfl) ?_
          refine lv_aload_n (pc := 56) hexec hb dX9_hardest_56 rfl (lv_at hl 1 rfl) ?_
          refine lv_iload (pc := 57) hexec hb dX9_hardest_57 (lv_at hl 0 rfl) ?_
          refine lv_iconst (pc := 59) hexec hb dX9_hardest_59 ki_2 ?_
          obtain ⟨r60, hc, hf⟩ := bd1_e hf
          refine kVp (pc := 60) (S := ⟨hexec, hb, hml, hown, hts⟩) hP hD hG hA hS [0, 1] [] [0, 1] (w2 := (w_X9_hardest g a0 a1 u0_1 u0_2 u0_3 u0_4 u0_5 u0_6 u0_8 u0_9 u0_10 u0_11 u0_12 u0_13 u0_14 u0_15 u0_16 u0_17 u0_18 u0_19 u0_20 u0_21 u0_22 u0_23 u0_24 u0_25 u0_26 u0_27 u0_28 u0_29 u0_30 0 y1_s)) rfl rfl rfl rfl rfl rfl (by decide) (c_X9_of l g a0 a1 _ u0_1 u0_2 u0_3 u0_4 u0_5 u0_6 (.int 0) u0_8 u0_9 u0_10 u0_11 u0_12 u0_13 u0_14 u0_15 u0_16 u0_17 u0_18 u0_19 u0_20 u0_21 u0_22 u0_23 u0_24 u0_25 u0_26 u0_27 u0_28 u0_29 u0_30 y1_s v5 2 r60 hc) gX9_hardest_X9_of rfl hv_X9_of ⟨nle rfl, nle rfl⟩ 9 0 rfl rfl rfl (rest := [.int v3_1]) rfl rfl hl.1 (nle rfl) dX9_hardest_60 (fun H locs hP hD hS => ?_)
          obtain ⟨r63, hc, hf⟩ := bd1_e hf
          refine kSp (pc := 63) (S := ⟨hexec, hb, hml, hown, hts⟩) hP hD hG hA hS [] [0, 1] [0, 1] (w2 := (w_X9_hardest g a0 a1 u0_1 u0_2 u0_3 u0_4 u0_5 u0_6 u0_8 u0_9 u0_10 u0_11 u0_12 u0_13 u0_14 u0_15 u0_16 u0_17 u0_18 u0_19 u0_20 u0_21 u0_22 u0_23 u0_24 u0_25 u0_26 u0_27 u0_28 u0_29 u0_30 0 y1_s)) rfl rfl rfl rfl rfl rfl (by decide) (c_X9_uprightBy l g _ r60 r63 hc) gX9_hardest_X9_uprightBy rfl hs_X9_uprightBy ⟨nle rfl, nle rfl⟩ (rest := [.int v3_1]) rfl rfl hl.1 (nle rfl) dX9_hardest_63 (fun H locs hP hD hS => ?_)
          obtain ⟨r66, hc, hf⟩ := bd1_e hf
          refine kSp (pc := 66) (S := ⟨hexec, hb, hml, hown, hts⟩) hP hD hG hA hS [] [0, 1] [0, 1] (w2 := (w_X9_hardest g a0 a1 u0_1 u0_2 u0_3 u0_4 u0_5 u0_6 u0_8 u0_9 u0_10 u0_11 u0_12 u0_13 u0_14 u0_15 u0_16 u0_17 u0_18 u0_19 u0_20 u0_21 u0_22 u0_23 u0_24 u0_25 u0_26 u0_27 u0_28 u0_29 u0_30 0 y1_s)) rfl rfl rfl rfl rfl rfl (by decide) (c_X9_quarters l g _ v3_1 r63 r66 hc) gX9_hardest_X9_quarters rfl hs_X9_quarters ⟨nle rfl, nle rfl⟩ (rest := []) rfl rfl hl.1 (nle rfl) dX9_hardest_66 (fun H locs hP hD hS => ?_)
          refine lv_istore (pc := 69) hexec hb dX9_hardest_69 hl (nle rfl) rfl (fun ls (hl : lv_has ls 7 [(6, .int r66), (5, .int v5), (0, .ref a0), (1, .int v1), (2, .int v2), (3, .int v3_1), (4, .int v4)]) => ?_)
          refine lv_iload (pc := 71) hexec hb dX9_hardest_71 (lv_at hl 0 rfl) ?_
          refine lv_iload_n (pc := 73) hexec hb dX9_hardest_73 rfl (lv_at hl 4 rfl) ?_
          obtain ⟨j83, ej83, hf⟩ := bvf1 hf
          have hj83 : ∀ (t83 : Int32) (H : Heap) (locs : List Loc) (ls : Array Slot), j83 t83 = some q19 → va_P g.1 vwCl (w_X9_hardest g a0 a1 u0_1 u0_2 u0_3 u0_4 u0_5 u0_6 u0_8 u0_9 u0_10 u0_11 u0_12 u0_13 u0_14 u0_15 u0_16 u0_17 u0_18 u0_19 u0_20 u0_21 u0_22 u0_23 u0_24 u0_25 u0_26 u0_27 u0_28 u0_29 u0_30 0 y1_s) H → va_D A (w_X9_hardest g a0 a1 u0_1 u0_2 u0_3 u0_4 u0_5 u0_6 u0_8 u0_9 u0_10 u0_11 u0_12 u0_13 u0_14 u0_15 u0_16 u0_17 u0_18 u0_19 u0_20 u0_21 u0_22 u0_23 u0_24 u0_25 u0_26 u0_27 u0_28 u0_29 u0_30 0 y1_s) → va_S A s.heap H locs → lv_has ls 7 [(0, .ref a0), (2, .int v2), (4, .int v4), (5, .int v5), (6, .int r66)] → W p l e (RM 3 67) s m args below meth c H locs 0 0 Q (F0 m 83 ls [.int t83]) := by
            intro t83 H locs ls hf hP hD hS hl
            have hf := (ej83 t83).symm.trans hf
            refine lv_istore_n (pc := 83) hexec hb dX9_hardest_83 rfl hl (nle rfl) rfl (fun ls (hl : lv_has ls 7 [(1, .int t83), (0, .ref a0), (2, .int v2), (4, .int v4), (5, .int v5), (6, .int r66)]) => ?_)
            refine lv_iload_n (pc := 84) hexec hb dX9_hardest_84 rfl (lv_at hl 2 rfl) ?_
            refine lv_iload (pc := 85) hexec hb dX9_hardest_85 (lv_at hl 5 rfl) ?_
            refine va_mmax (pc := 87) hexec hb (hml.trans hl.1.symm) (own := RX9) hown (hts _ (List.mem_cons_of_mem _ (List.mem_append_left _ (List.mem_append_left _ (List.mem_of_getElem? (i := 2) rfl))))) (hts _ (List.mem_cons_of_mem _ (List.mem_append_left _ (List.mem_append_left _ (List.mem_of_getElem? (i := 3) rfl))))) (hts _ (List.mem_cons_of_mem _ (List.mem_append_left _ (List.mem_append_left _ (List.mem_of_getElem? (i := 4) rfl))))) (hts _ (List.mem_cons_of_mem _ (List.mem_append_left _ (List.mem_append_left _ (List.mem_of_getElem? (i := 5) rfl))))) (nle rfl) (nle rfl) (nle rfl) (nle rfl) dX9_hardest_87 ?_
            obtain ⟨v2_2, ev2_2, hf⟩ := bv_e hf
            refine kn_i ev2_2 ?_
            refine lv_istore_n (pc := 90) hexec hb dX9_hardest_90 rfl hl (nle rfl) rfl (fun ls (hl : lv_has ls 7 [(2, .int v2_2), (1, .int t83), (0, .ref a0), (4, .int v4), (5, .int v5), (6, .int r66)]) => ?_)
            refine lv_aload_n (pc := 91) hexec hb dX9_hardest_91 rfl (lv_at hl 2 rfl) ?_
            refine lv_iload (pc := 92) hexec hb dX9_hardest_92 (lv_at hl 4 rfl) ?_
            refine lv_iconst (pc := 94) hexec hb dX9_hardest_94 ki_2 ?_
            obtain ⟨r95, hc, hf⟩ := bd1_e hf
            refine kVp (pc := 95) (S := ⟨hexec, hb, hml, hown, hts⟩) hP hD hG hA hS [0, 1] [] [0, 1] (w2 := (w_X9_hardest g a0 a1 u0_1 u0_2 u0_3 u0_4 u0_5 u0_6 u0_8 u0_9 u0_10 u0_11 u0_12 u0_13 u0_14 u0_15 u0_16 u0_17 u0_18 u0_19 u0_20 u0_21 u0_22 u0_23 u0_24 u0_25 u0_26 u0_27 u0_28 u0_29 u0_30 0 y1_s)) rfl rfl rfl rfl rfl rfl (by decide) (c_X9_of l g a0 a1 _ u0_1 u0_2 u0_3 u0_4 u0_5 u0_6 (.int 0) u0_8 u0_9 u0_10 u0_11 u0_12 u0_13 u0_14 u0_15 u0_16 u0_17 u0_18 u0_19 u0_20 u0_21 u0_22 u0_23 u0_24 u0_25 u0_26 u0_27 u0_28 u0_29 u0_30 y1_s v5 2 r95 hc) gX9_hardest_X9_of rfl hv_X9_of ⟨nle rfl, nle rfl⟩ 9 0 rfl rfl rfl (rest := []) rfl rfl hl.1 (nle rfl) dX9_hardest_95 (fun H locs hP hD hS => ?_)
            obtain ⟨r98, hc, hf⟩ := bd1_e hf
            refine kSp (pc := 98) (S := ⟨hexec, hb, hml, hown, hts⟩) hP hD hG hA hS [] [0, 1] [0, 1] (w2 := (w_X9_hardest g a0 a1 u0_1 u0_2 u0_3 u0_4 u0_5 u0_6 u0_8 u0_9 u0_10 u0_11 u0_12 u0_13 u0_14 u0_15 u0_16 u0_17 u0_18 u0_19 u0_20 u0_21 u0_22 u0_23 u0_24 u0_25 u0_26 u0_27 u0_28 u0_29 u0_30 0 y1_s)) rfl rfl rfl rfl rfl rfl (by decide) (c_X9_uprightBy l g _ r95 r98 hc) gX9_hardest_X9_uprightBy rfl hs_X9_uprightBy ⟨nle rfl, nle rfl⟩ (rest := []) rfl rfl hl.1 (nle rfl) dX9_hardest_98 (fun H locs hP hD hS => ?_)
            refine lv_istore_n (pc := 101) hexec hb dX9_hardest_101 rfl hl (nle rfl) rfl (fun ls (hl : lv_has ls 7 [(3, .int r98), (2, .int v2_2), (1, .int t83), (0, .ref a0), (4, .int v4), (5, .int v5), (6, .int r66)]) => ?_)
            exact hj102 _ _ _ _ _ _ hf hP hD hS (lv_sub hl [3, 2, 1, 0, 4] rfl)
          refine ki_le (pc := 74) hexec hb dX9_hardest_74 (tgt := 82) rfl hf (fun hc hf => ?_) (fun hc hf => ?_)
          · refine lv_iload_n (pc := 82) hexec hb dX9_hardest_82 rfl (lv_at hl 3 rfl) ?_
            exact hj83 _ _ _ _ hf hP hD hS (lv_sub hl [2, 4, 6, 1, 0] rfl)
          · refine lv_iload (pc := 77) hexec hb dX9_hardest_77 (lv_at hl 6 rfl) ?_
            refine lv_goto (pc := 79) hexec hb dX9_hardest_79 (tgt := 83) rfl ?_
            exact hj83 _ _ _ _ hf hP hD hS (lv_sub hl [2, 4, 6, 1, 0] rfl)
        · refine lv_goto (pc := 52) hexec hb dX9_hardest_52 (tgt := 102) rfl ?_
          exact hj102 _ _ _ _ _ _ hf hP hD hS (lv_sub hl [1, 2, 3, 4, 5] rfl)
  exact hL19 n _ _ _ _ _ _ _ hz hP hD hS (lv_sub hl [4, 3, 2, 1, 0] rfl)
abbrev w_X9_mayCell (g : GE) (a0 a1 : Nat) (u0_1 u0_2 u0_3 u0_4 u0_5 u0_6 u0_8 u0_9 u0_10 u0_11 u0_12 u0_13 u0_14 u0_15 u0_16 u0_17 u0_18 u0_19 u0_20 u0_21 u0_22 u0_23 u0_24 u0_25 u0_26 u0_27 u0_28 u0_29 u0_30 : Value) (x0_thrown : Int32) (y1_s : Nat → Int32) : va_W := [(a0, .inr (9, [.ref a1, u0_1, u0_2, u0_3, u0_4, u0_5, u0_6, .int x0_thrown, u0_8, u0_9, u0_10, u0_11, u0_12, u0_13, u0_14, u0_15, u0_16, u0_17, u0_18, u0_19, u0_20, u0_21, u0_22, u0_23, u0_24, u0_25, u0_26, u0_27, u0_28, u0_29, u0_30])), (a1, .inl (g.2.1 0, 552, .inl y1_s))]
noncomputable def f_X9_mayCell (x0_thrown : Int32) (y1_s : Nat → Int32) (p1 : Int32) : Option (Int32 × Int32) :=
  bd1 (f_X9_isCell y1_s p1) fun (r3 : Int32) =>
  bd2 (f_X9_passes x0_thrown r3 1) fun (r7 : Int32) (x0_thrown_1 : Int32) =>
  zb r7 (some (r7, x0_thrown_1))
set_option maxRecDepth 4000 in
theorem c_X9_mayCell (l : Launch) (g : GE) (a0 a1 : Nat) (sz : Nat) (u0_1 u0_2 u0_3 u0_4 u0_5 u0_6 u0_8 u0_9 u0_10 u0_11 u0_12 u0_13 u0_14 u0_15 u0_16 u0_17 u0_18 u0_19 u0_20 u0_21 u0_22 u0_23 u0_24 u0_25 u0_26 u0_27 u0_28 u0_29 u0_30 : Value) (x0_thrown : Int32) (y1_s : Nat → Int32) (p1 : Int32) (r : Int32) (o_x0_thrown : Int32) (hf : f_X9_mayCell x0_thrown y1_s p1 = some (r, o_x0_thrown)) : MI l g yX9_mayCell wsX9_mayCell 3 70 [.ref a0, .int p1] (w_X9_mayCell g a0 a1 u0_1 u0_2 u0_3 u0_4 u0_5 u0_6 u0_8 u0_9 u0_10 u0_11 u0_12 u0_13 u0_14 u0_15 u0_16 u0_17 u0_18 u0_19 u0_20 u0_21 u0_22 u0_23 u0_24 u0_25 u0_26 u0_27 u0_28 u0_29 u0_30 x0_thrown y1_s) sz (some (.int r)) (w_X9_mayCell g a0 a1 u0_1 u0_2 u0_3 u0_4 u0_5 u0_6 u0_8 u0_9 u0_10 u0_11 u0_12 u0_13 u0_14 u0_15 u0_16 u0_17 u0_18 u0_19 u0_20 u0_21 u0_22 u0_23 u0_24 u0_25 u0_26 u0_27 u0_28 u0_29 u0_30 o_x0_thrown y1_s) := by
  refine MI.start (cc := cX9_mayCell) (maxL := 2) (ret := (some .boolean)) rfl rfl (nle rfl) ?_
  intro p e s m args below meth c A ls Q hQ hexec hb hr hts hown hlocks hml hA hP hD hG hS hl
  unfold f_X9_mayCell at hf
  have hWX9 : ∀ w ∈ wsX90, w.before args s = true := fun w h => hts w (List.mem_cons_of_mem _ (List.mem_append_right _ h))
  have hS : va_S A s.heap s.heap [] := hS
  refine lv_aload_n (pc := 0) hexec hb dX9_mayCell_0 rfl (lv_at hl 0 rfl) ?_
  refine lv_aload_n (pc := 1) hexec hb dX9_mayCell_1 rfl (lv_at hl 0 rfl) ?_
  refine lv_iload_n (pc := 2) hexec hb dX9_mayCell_2 rfl (lv_at hl 1 rfl) ?_
  obtain ⟨r3, hc, hf⟩ := bd1_e hf
  refine kVp (pc := 3) (S := ⟨hexec, hb, hml, hown, hts⟩) hP hD hG hA hS [0, 1] [] [0, 1] (w2 := (w_X9_mayCell g a0 a1 u0_1 u0_2 u0_3 u0_4 u0_5 u0_6 u0_8 u0_9 u0_10 u0_11 u0_12 u0_13 u0_14 u0_15 u0_16 u0_17 u0_18 u0_19 u0_20 u0_21 u0_22 u0_23 u0_24 u0_25 u0_26 u0_27 u0_28 u0_29 u0_30 x0_thrown y1_s)) rfl rfl rfl rfl rfl rfl (by decide) (c_X9_isCell l g a0 a1 _ u0_1 u0_2 u0_3 u0_4 u0_5 u0_6 (.int x0_thrown) u0_8 u0_9 u0_10 u0_11 u0_12 u0_13 u0_14 u0_15 u0_16 u0_17 u0_18 u0_19 u0_20 u0_21 u0_22 u0_23 u0_24 u0_25 u0_26 u0_27 u0_28 u0_29 u0_30 y1_s p1 r3 hc) gX9_mayCell_X9_isCell rfl hv_X9_isCell ⟨nle rfl, nle rfl⟩ 9 0 rfl rfl rfl (rest := [.ref a0]) rfl rfl hl.1 (nle rfl) dX9_mayCell_3 (fun H locs hP hD hS => ?_)
  refine lv_iconst (pc := 6) hexec hb dX9_mayCell_6 ki_1 ?_
  obtain ⟨r7, x0_thrown_1, hc, hf⟩ := bd2_e hf
  refine kVp (pc := 7) (S := ⟨hexec, hb, hml, hown, hts⟩) hP hD hG hA hS [0] [1] [1, 0] (w2 := (w_X9_mayCell g a0 a1 u0_1 u0_2 u0_3 u0_4 u0_5 u0_6 u0_8 u0_9 u0_10 u0_11 u0_12 u0_13 u0_14 u0_15 u0_16 u0_17 u0_18 u0_19 u0_20 u0_21 u0_22 u0_23 u0_24 u0_25 u0_26 u0_27 u0_28 u0_29 u0_30 x0_thrown_1 y1_s)) rfl rfl rfl rfl rfl rfl (by decide) (c_X9_passes l g a0 _ (.ref a1) u0_1 u0_2 u0_3 u0_4 u0_5 u0_6 u0_8 u0_9 u0_10 u0_11 u0_12 u0_13 u0_14 u0_15 u0_16 u0_17 u0_18 u0_19 u0_20 u0_21 u0_22 u0_23 u0_24 u0_25 u0_26 u0_27 u0_28 u0_29 u0_30 x0_thrown r3 1 r7 x0_thrown_1 hc) gX9_mayCell_X9_passes rfl hv_X9_passes ⟨nle rfl, nle rfl⟩ 9 0 rfl rfl rfl (rest := []) rfl rfl hl.1 (nle rfl) dX9_mayCell_7 (fun H locs hP hD hS => ?_)
  obtain ⟨hx, hf⟩ := zb_e hf
  cases hf
  exact ke_z hQ hexec hb hr hx hP hD hS dX9_mayCell_10 hlocks
abbrev w_X9_wayLength (g : GE) (a0 a1 a2 a3 : Nat) (u0_1 u0_2 u0_3 u0_4 u0_5 u0_6 u0_11 u0_12 u0_13 u0_14 u0_15 u0_16 u0_17 u0_18 u0_19 u0_20 u0_21 u0_22 u0_23 u0_24 u0_25 u0_26 u0_27 u0_28 u0_29 u0_30 : Value) (x0_thrown : Int32) (x0_flowLong : Int32) (y1_flow : Nat → Int32) (y2_s : Nat → Int32) (y3_sums : Nat → Int32) : va_W := [(a0, .inr (9, [.ref a2, u0_1, u0_2, u0_3, u0_4, u0_5, u0_6, .int x0_thrown, .ref a3, .ref a1, .int x0_flowLong, u0_11, u0_12, u0_13, u0_14, u0_15, u0_16, u0_17, u0_18, u0_19, u0_20, u0_21, u0_22, u0_23, u0_24, u0_25, u0_26, u0_27, u0_28, u0_29, u0_30])), (a1, .inl (g.2.1 0, 144, .inl y1_flow)), (a2, .inl (g.2.1 0, 552, .inl y2_s)), (a3, .inl (g.2.1 0, 144, .inl y3_sums))]
noncomputable def f_X9_wayLength (x0_thrown : Int32) (x0_flowLong : Int32) (y1_flow : Nat → Int32) (y2_s : Nat → Int32) (y3_sums : Nat → Int32) (p1 : Int32) : Option (Int32 × Int32 × Int32 × (Nat → Int32) × (Nat → Int32)) :=
  bd2 (f_X9_mayCell x0_thrown y2_s p1) fun (r2 : Int32) (x0_thrown_1 : Int32) =>
  (if r2 = 0 then (
    some (0, x0_thrown_1, x0_flowLong, y1_flow, y3_sums)
  ) else (
    bd4 (f_X9_findsFlow x0_flowLong y1_flow y2_s y3_sums p1) fun (r12 : Int32) (x0_flowLong_1 : Int32) (y1_flow_1 : Nat → Int32) (y3_sums_1 : Nat → Int32) =>
    (if r12 = 0 then (
      some ((-3), x0_thrown_1, x0_flowLong_1, y1_flow_1, y3_sums_1)
    ) else (
      some (x0_flowLong_1, x0_thrown_1, x0_flowLong_1, y1_flow_1, y3_sums_1)
    ))
  ))
set_option maxRecDepth 4000 in
theorem c_X9_wayLength (l : Launch) (g : GE) (a0 a1 a2 a3 : Nat) (sz : Nat) (u0_1 u0_2 u0_3 u0_4 u0_5 u0_6 u0_11 u0_12 u0_13 u0_14 u0_15 u0_16 u0_17 u0_18 u0_19 u0_20 u0_21 u0_22 u0_23 u0_24 u0_25 u0_26 u0_27 u0_28 u0_29 u0_30 : Value) (x0_thrown : Int32) (x0_flowLong : Int32) (y1_flow : Nat → Int32) (y2_s : Nat → Int32) (y3_sums : Nat → Int32) (p1 : Int32) (r : Int32) (o_x0_thrown : Int32) (o_x0_flowLong : Int32) (o_y1_flow : Nat → Int32) (o_y3_sums : Nat → Int32) (hf : f_X9_wayLength x0_thrown x0_flowLong y1_flow y2_s y3_sums p1 = some (r, o_x0_thrown, o_x0_flowLong, o_y1_flow, o_y3_sums)) : MI l g yX9_wayLength wsX9_wayLength 10 231 [.ref a0, .int p1] (w_X9_wayLength g a0 a1 a2 a3 u0_1 u0_2 u0_3 u0_4 u0_5 u0_6 u0_11 u0_12 u0_13 u0_14 u0_15 u0_16 u0_17 u0_18 u0_19 u0_20 u0_21 u0_22 u0_23 u0_24 u0_25 u0_26 u0_27 u0_28 u0_29 u0_30 x0_thrown x0_flowLong y1_flow y2_s y3_sums) sz (some (.int r)) (w_X9_wayLength g a0 a1 a2 a3 u0_1 u0_2 u0_3 u0_4 u0_5 u0_6 u0_11 u0_12 u0_13 u0_14 u0_15 u0_16 u0_17 u0_18 u0_19 u0_20 u0_21 u0_22 u0_23 u0_24 u0_25 u0_26 u0_27 u0_28 u0_29 u0_30 o_x0_thrown o_x0_flowLong o_y1_flow y2_s o_y3_sums) := by
  refine MI.start (cc := cX9_wayLength) (maxL := 2) (ret := (some .int)) rfl rfl (nle rfl) ?_
  intro p e s m args below meth c A ls Q hQ hexec hb hr hts hown hlocks hml hA hP hD hG hS hl
  unfold f_X9_wayLength at hf
  have hWX9 : ∀ w ∈ wsX90, w.before args s = true := fun w h => hts w (List.mem_cons_of_mem _ (List.mem_append_right _ h))
  have hS : va_S A s.heap s.heap [] := hS
  refine lv_aload_n (pc := 0) hexec hb dX9_wayLength_0 rfl (lv_at hl 0 rfl) ?_
  refine lv_iload_n (pc := 1) hexec hb dX9_wayLength_1 rfl (lv_at hl 1 rfl) ?_
  obtain ⟨r2, x0_thrown_1, hc, hf⟩ := bd2_e hf
  refine kVp (pc := 2) (S := ⟨hexec, hb, hml, hown, hts⟩) hP hD hG hA hS [0, 2] [1, 3] [2, 0, 3, 1] (w2 := (w_X9_wayLength g a0 a1 a2 a3 u0_1 u0_2 u0_3 u0_4 u0_5 u0_6 u0_11 u0_12 u0_13 u0_14 u0_15 u0_16 u0_17 u0_18 u0_19 u0_20 u0_21 u0_22 u0_23 u0_24 u0_25 u0_26 u0_27 u0_28 u0_29 u0_30 x0_thrown_1 x0_flowLong y1_flow y2_s y3_sums)) rfl rfl rfl rfl rfl rfl (by decide) (c_X9_mayCell l g a0 a2 _ u0_1 u0_2 u0_3 u0_4 u0_5 u0_6 (.ref a3) (.ref a1) (.int x0_flowLong) u0_11 u0_12 u0_13 u0_14 u0_15 u0_16 u0_17 u0_18 u0_19 u0_20 u0_21 u0_22 u0_23 u0_24 u0_25 u0_26 u0_27 u0_28 u0_29 u0_30 x0_thrown y2_s p1 r2 x0_thrown_1 hc) gX9_wayLength_X9_mayCell rfl hv_X9_mayCell ⟨nle rfl, nle rfl⟩ 9 0 rfl rfl rfl (rest := []) rfl rfl hl.1 (nle rfl) dX9_wayLength_2 (fun H locs hP hD hS => ?_)
  refine kb_ne (pc := 5) hexec hb dX9_wayLength_5 (tgt := 10) rfl hf (fun hc hf => ?_) (fun hc hf => ?_)
  · refine lv_aload_n (pc := 10) hexec hb dX9_wayLength_10 rfl (lv_at hl 0 rfl) ?_
    refine lv_iload_n (pc := 11) hexec hb dX9_wayLength_11 rfl (lv_at hl 1 rfl) ?_
    obtain ⟨r12, x0_flowLong_1, y1_flow_1, y3_sums_1, hc, hf⟩ := bd4_e hf
    refine kVp (pc := 12) (S := ⟨hexec, hb, hml, hown, hts⟩) hP hD hG hA hS [0, 1, 2, 3] [] [0, 1, 2, 3] (w2 := (w_X9_wayLength g a0 a1 a2 a3 u0_1 u0_2 u0_3 u0_4 u0_5 u0_6 u0_11 u0_12 u0_13 u0_14 u0_15 u0_16 u0_17 u0_18 u0_19 u0_20 u0_21 u0_22 u0_23 u0_24 u0_25 u0_26 u0_27 u0_28 u0_29 u0_30 x0_thrown_1 x0_flowLong_1 y1_flow_1 y2_s y3_sums_1)) rfl rfl rfl rfl rfl rfl (by decide) (c_X9_findsFlow l g a0 a1 a2 a3 _ u0_1 u0_2 u0_3 u0_4 u0_5 u0_6 (.int x0_thrown_1) u0_11 u0_12 u0_13 u0_14 u0_15 u0_16 u0_17 u0_18 u0_19 u0_20 u0_21 u0_22 u0_23 u0_24 u0_25 u0_26 u0_27 u0_28 u0_29 u0_30 x0_flowLong y1_flow y2_s y3_sums p1 r12 x0_flowLong_1 y1_flow_1 y3_sums_1 hc) gX9_wayLength_X9_findsFlow rfl hv_X9_findsFlow ⟨nle rfl, nle rfl⟩ 9 0 rfl rfl rfl (rest := []) rfl rfl hl.1 (nle rfl) dX9_wayLength_12 (fun H locs hP hD hS => ?_)
    refine kb_eq (pc := 15) hexec hb dX9_wayLength_15 (tgt := 25) rfl hf (fun hc hf => ?_) (fun hc hf => ?_)
    · refine lv_bipush (pc := 25) hexec hb dX9_wayLength_25 kb_m3 ?_
      cases hf
      exact ke_i hQ hexec hb hr hP hD hS dX9_wayLength_27 hlocks
    · refine lv_aload_n (pc := 18) hexec hb dX9_wayLength_18 rfl (lv_at hl 0 rfl) ?_
      refine kg_get (pc := 19) hexec hb (own := RX9) hWX9 hown hG hP 0 rfl rfl 10 (nle rfl) (hts _ (List.mem_cons_of_mem _ (List.mem_append_left _ (List.mem_append_left _ (List.mem_of_getElem? (i := 0) rfl))))) rfl rfl dX9_wayLength_19 ?_
      refine lv_goto (pc := 22) hexec hb dX9_wayLength_22 (tgt := 27) rfl ?_
      cases hf
      exact ke_i hQ hexec hb hr hP hD hS dX9_wayLength_27 hlocks
  · refine lv_iconst (pc := 8) hexec hb dX9_wayLength_8 ki_0 ?_
    cases hf
    exact ke_i hQ hexec hb hr hP hD hS dX9_wayLength_9 hlocks
abbrev w_X9_wayCell (g : GE) (a0 a1 a2 a3 : Nat) (u0_1 u0_2 u0_3 u0_4 u0_5 u0_6 u0_11 u0_12 u0_13 u0_14 u0_15 u0_16 u0_17 u0_18 u0_19 u0_20 u0_21 u0_22 u0_23 u0_24 u0_25 u0_26 u0_27 u0_28 u0_29 u0_30 : Value) (x0_thrown : Int32) (x0_flowLong : Int32) (y1_flow : Nat → Int32) (y2_s : Nat → Int32) (y3_sums : Nat → Int32) : va_W := [(a0, .inr (9, [.ref a2, u0_1, u0_2, u0_3, u0_4, u0_5, u0_6, .int x0_thrown, .ref a3, .ref a1, .int x0_flowLong, u0_11, u0_12, u0_13, u0_14, u0_15, u0_16, u0_17, u0_18, u0_19, u0_20, u0_21, u0_22, u0_23, u0_24, u0_25, u0_26, u0_27, u0_28, u0_29, u0_30])), (a1, .inl (g.2.1 0, 144, .inl y1_flow)), (a2, .inl (g.2.1 0, 552, .inl y2_s)), (a3, .inl (g.2.1 0, 144, .inl y3_sums))]
noncomputable def f_X9_wayCell (x0_thrown : Int32) (x0_flowLong : Int32) (y1_flow : Nat → Int32) (y2_s : Nat → Int32) (y3_sums : Nat → Int32) (p1 : Int32) (p2 : Int32) : Option (Int32 × Int32 × Int32 × (Nat → Int32) × (Nat → Int32)) :=
  bd2 (f_X9_mayCell x0_thrown y2_s p1) fun (r2 : Int32) (x0_thrown_1 : Int32) =>
  (if r2 = 0 then (
    some (0, x0_thrown_1, x0_flowLong, y1_flow, y3_sums)
  ) else (
    bd4 (f_X9_findsFlow x0_flowLong y1_flow y2_s y3_sums p1) fun (r12 : Int32) (x0_flowLong_1 : Int32) (y1_flow_1 : Nat → Int32) (y3_sums_1 : Nat → Int32) =>
    bv (fun (_ : Unit) => ((
      some ((-1), x0_thrown_1, x0_flowLong_1, y1_flow_1, y3_sums_1)
      ) : Option (Int32 × Int32 × Int32 × (Nat → Int32) × (Nat → Int32)))) fun j43 =>
    (if r12 = 0 then (
      j43 ()
    ) else (
      bd1 (f_X9_isIn (p2.toInt64) 0 (((x0_flowLong_1 - 1)).toInt64)) fun (r28 : Int32) =>
      (if r28 = 0 then (
        j43 ()
      ) else (
        ar p2 144 <|
        some ((y1_flow_1 p2.toNatClampNeg), x0_thrown_1, x0_flowLong_1, y1_flow_1, y3_sums_1)
      ))
    ))
  ))
set_option maxRecDepth 4000 in
theorem c_X9_wayCell (l : Launch) (g : GE) (a0 a1 a2 a3 : Nat) (sz : Nat) (u0_1 u0_2 u0_3 u0_4 u0_5 u0_6 u0_11 u0_12 u0_13 u0_14 u0_15 u0_16 u0_17 u0_18 u0_19 u0_20 u0_21 u0_22 u0_23 u0_24 u0_25 u0_26 u0_27 u0_28 u0_29 u0_30 : Value) (x0_thrown : Int32) (x0_flowLong : Int32) (y1_flow : Nat → Int32) (y2_s : Nat → Int32) (y3_sums : Nat → Int32) (p1 : Int32) (p2 : Int32) (r : Int32) (o_x0_thrown : Int32) (o_x0_flowLong : Int32) (o_y1_flow : Nat → Int32) (o_y3_sums : Nat → Int32) (hf : f_X9_wayCell x0_thrown x0_flowLong y1_flow y2_s y3_sums p1 p2 = some (r, o_x0_thrown, o_x0_flowLong, o_y1_flow, o_y3_sums)) : MI l g yX9_wayCell wsX9_wayCell 10 231 [.ref a0, .int p1, .int p2] (w_X9_wayCell g a0 a1 a2 a3 u0_1 u0_2 u0_3 u0_4 u0_5 u0_6 u0_11 u0_12 u0_13 u0_14 u0_15 u0_16 u0_17 u0_18 u0_19 u0_20 u0_21 u0_22 u0_23 u0_24 u0_25 u0_26 u0_27 u0_28 u0_29 u0_30 x0_thrown x0_flowLong y1_flow y2_s y3_sums) sz (some (.int r)) (w_X9_wayCell g a0 a1 a2 a3 u0_1 u0_2 u0_3 u0_4 u0_5 u0_6 u0_11 u0_12 u0_13 u0_14 u0_15 u0_16 u0_17 u0_18 u0_19 u0_20 u0_21 u0_22 u0_23 u0_24 u0_25 u0_26 u0_27 u0_28 u0_29 u0_30 o_x0_thrown o_x0_flowLong o_y1_flow y2_s o_y3_sums) := by
  refine MI.start (cc := cX9_wayCell) (maxL := 3) (ret := (some .int)) rfl rfl (nle rfl) ?_
  intro p e s m args below meth c A ls Q hQ hexec hb hr hts hown hlocks hml hA hP hD hG hS hl
  unfold f_X9_wayCell at hf
  have hWX9 : ∀ w ∈ wsX90, w.before args s = true := fun w h => hts w (List.mem_cons_of_mem _ (List.mem_append_right _ h))
  have hS : va_S A s.heap s.heap [] := hS
  refine lv_aload_n (pc := 0) hexec hb dX9_wayCell_0 rfl (lv_at hl 0 rfl) ?_
  refine lv_iload_n (pc := 1) hexec hb dX9_wayCell_1 rfl (lv_at hl 1 rfl) ?_
  obtain ⟨r2, x0_thrown_1, hc, hf⟩ := bd2_e hf
  refine kVp (pc := 2) (S := ⟨hexec, hb, hml, hown, hts⟩) hP hD hG hA hS [0, 2] [1, 3] [2, 0, 3, 1] (w2 := (w_X9_wayCell g a0 a1 a2 a3 u0_1 u0_2 u0_3 u0_4 u0_5 u0_6 u0_11 u0_12 u0_13 u0_14 u0_15 u0_16 u0_17 u0_18 u0_19 u0_20 u0_21 u0_22 u0_23 u0_24 u0_25 u0_26 u0_27 u0_28 u0_29 u0_30 x0_thrown_1 x0_flowLong y1_flow y2_s y3_sums)) rfl rfl rfl rfl rfl rfl (by decide) (c_X9_mayCell l g a0 a2 _ u0_1 u0_2 u0_3 u0_4 u0_5 u0_6 (.ref a3) (.ref a1) (.int x0_flowLong) u0_11 u0_12 u0_13 u0_14 u0_15 u0_16 u0_17 u0_18 u0_19 u0_20 u0_21 u0_22 u0_23 u0_24 u0_25 u0_26 u0_27 u0_28 u0_29 u0_30 x0_thrown y2_s p1 r2 x0_thrown_1 hc) gX9_wayCell_X9_mayCell rfl hv_X9_mayCell ⟨nle rfl, nle rfl⟩ 9 0 rfl rfl rfl (rest := []) rfl rfl hl.1 (nle rfl) dX9_wayCell_2 (fun H locs hP hD hS => ?_)
  refine kb_ne (pc := 5) hexec hb dX9_wayCell_5 (tgt := 10) rfl hf (fun hc hf => ?_) (fun hc hf => ?_)
  · refine lv_aload_n (pc := 10) hexec hb dX9_wayCell_10 rfl (lv_at hl 0 rfl) ?_
    refine lv_iload_n (pc := 11) hexec hb dX9_wayCell_11 rfl (lv_at hl 1 rfl) ?_
    obtain ⟨r12, x0_flowLong_1, y1_flow_1, y3_sums_1, hc, hf⟩ := bd4_e hf
    refine kVp (pc := 12) (S := ⟨hexec, hb, hml, hown, hts⟩) hP hD hG hA hS [0, 1, 2, 3] [] [0, 1, 2, 3] (w2 := (w_X9_wayCell g a0 a1 a2 a3 u0_1 u0_2 u0_3 u0_4 u0_5 u0_6 u0_11 u0_12 u0_13 u0_14 u0_15 u0_16 u0_17 u0_18 u0_19 u0_20 u0_21 u0_22 u0_23 u0_24 u0_25 u0_26 u0_27 u0_28 u0_29 u0_30 x0_thrown_1 x0_flowLong_1 y1_flow_1 y2_s y3_sums_1)) rfl rfl rfl rfl rfl rfl (by decide) (c_X9_findsFlow l g a0 a1 a2 a3 _ u0_1 u0_2 u0_3 u0_4 u0_5 u0_6 (.int x0_thrown_1) u0_11 u0_12 u0_13 u0_14 u0_15 u0_16 u0_17 u0_18 u0_19 u0_20 u0_21 u0_22 u0_23 u0_24 u0_25 u0_26 u0_27 u0_28 u0_29 u0_30 x0_flowLong y1_flow y2_s y3_sums p1 r12 x0_flowLong_1 y1_flow_1 y3_sums_1 hc) gX9_wayCell_X9_findsFlow rfl hv_X9_findsFlow ⟨nle rfl, nle rfl⟩ 9 0 rfl rfl rfl (rest := []) rfl rfl hl.1 (nle rfl) dX9_wayCell_12 (fun H locs hP hD hS => ?_)
    obtain ⟨j43, ej43, hf⟩ := bvf1 hf
    have hj43 : ∀ (u : Unit) (H : Heap) (locs : List Loc) (ls : Array Slot), j43 u = some (r, o_x0_thrown, o_x0_flowLong, o_y1_flow, o_y3_sums) → va_P g.1 vwCl (w_X9_wayCell g a0 a1 a2 a3 u0_1 u0_2 u0_3 u0_4 u0_5 u0_6 u0_11 u0_12 u0_13 u0_14 u0_15 u0_16 u0_17 u0_18 u0_19 u0_20 u0_21 u0_22 u0_23 u0_24 u0_25 u0_26 u0_27 u0_28 u0_29 u0_30 x0_thrown_1 x0_flowLong_1 y1_flow_1 y2_s y3_sums_1) H → va_D A (w_X9_wayCell g a0 a1 a2 a3 u0_1 u0_2 u0_3 u0_4 u0_5 u0_6 u0_11 u0_12 u0_13 u0_14 u0_15 u0_16 u0_17 u0_18 u0_19 u0_20 u0_21 u0_22 u0_23 u0_24 u0_25 u0_26 u0_27 u0_28 u0_29 u0_30 x0_thrown_1 x0_flowLong_1 y1_flow_1 y2_s y3_sums_1) → va_S A s.heap H locs → lv_has ls 3 [] → W p l e (RM 10 231) s m args below meth c H locs 0 0 Q (F0 m 43 ls []) := by
      intro u H locs ls hf hP hD hS hl
      have hf := (ej43 u).symm.trans hf
      refine lv_iconst (pc := 43) hexec hb dX9_wayCell_43 ki_m1 ?_
      cases hf
      exact ke_i hQ hexec hb hr hP hD hS dX9_wayCell_44 hlocks
    refine kb_eq (pc := 15) hexec hb dX9_wayCell_15 (tgt := 43) rfl hf (fun hc hf => ?_) (fun hc hf => ?_)
    · exact hj43 _ _ _ _ hf hP hD hS (lv_sub hl [] rfl)
    · refine lv_iload_n (pc := 18) hexec hb dX9_wayCell_18 rfl (lv_at hl 2 rfl) ?_
      refine lv_i2l (pc := 19) hexec hb dX9_wayCell_19 rfl ?_
      refine lv_lconst (pc := 20) hexec hb dX9_wayCell_20 kl_0 ?_
      refine lv_aload_n (pc := 21) hexec hb dX9_wayCell_21 rfl (lv_at hl 0 rfl) ?_
      refine kg_get (pc := 22) hexec hb (own := RX9) hWX9 hown hG hP 0 rfl rfl 10 (nle rfl) (hts _ (List.mem_cons_of_mem _ (List.mem_append_left _ (List.mem_append_left _ (List.mem_of_getElem? (i := 0) rfl))))) rfl rfl dX9_wayCell_22 ?_
      refine lv_iconst (pc := 25) hexec hb dX9_wayCell_25 ki_1 ?_
      refine lv_isub (pc := 26) hexec hb dX9_wayCell_26 ?_
      refine lv_i2l (pc := 27) hexec hb dX9_wayCell_27 rfl ?_
      obtain ⟨r28, hc, hf⟩ := bd1_e hf
      refine kSp (pc := 28) (S := ⟨hexec, hb, hml, hown, hts⟩) hP hD hG hA hS [] [0, 1, 2, 3] [0, 1, 2, 3] (w2 := (w_X9_wayCell g a0 a1 a2 a3 u0_1 u0_2 u0_3 u0_4 u0_5 u0_6 u0_11 u0_12 u0_13 u0_14 u0_15 u0_16 u0_17 u0_18 u0_19 u0_20 u0_21 u0_22 u0_23 u0_24 u0_25 u0_26 u0_27 u0_28 u0_29 u0_30 x0_thrown_1 x0_flowLong_1 y1_flow_1 y2_s y3_sums_1)) rfl rfl rfl rfl rfl rfl (by decide) (c_X9_isIn l g _ (p2.toInt64) 0 (((x0_flowLong_1 - 1)).toInt64) r28 hc) gX9_wayCell_X9_isIn rfl hs_X9_isIn ⟨nle rfl, nle rfl⟩ (rest := []) rfl rfl hl.1 (nle rfl) dX9_wayCell_28 (fun H locs hP hD hS => ?_)
      refine kb_eq (pc := 31) hexec hb dX9_wayCell_31 (tgt := 43) rfl hf (fun hc hf => ?_) (fun hc hf => ?_)
      · exact hj43 _ _ _ _ hf hP hD hS (lv_sub hl [] rfl)
      · refine lv_aload_n (pc := 34) hexec hb dX9_wayCell_34 rfl (lv_at hl 0 rfl) ?_
        refine kg_get (pc := 35) hexec hb (own := RX9) hWX9 hown hG hP 0 rfl rfl 9 (nle rfl) (hts _ (List.mem_cons_of_mem _ (List.mem_append_left _ (List.mem_append_left _ (List.mem_of_getElem? (i := 1) rfl))))) rfl rfl dX9_wayCell_35 ?_
        refine lv_iload_n (pc := 38) hexec hb dX9_wayCell_38 rfl (lv_at hl 2 rfl) ?_
        refine kr_iald (pc := 39) hexec hb hG hP 1 rfl hf dX9_wayCell_39 (fun hf => ?_)
        refine lv_goto (pc := 40) hexec hb dX9_wayCell_40 (tgt := 44) rfl ?_
        cases hf
        exact ke_i hQ hexec hb hr hP hD hS dX9_wayCell_44 hlocks
  · refine lv_iconst (pc := 8) hexec hb dX9_wayCell_8 ki_0 ?_
    cases hf
    exact ke_i hQ hexec hb hr hP hD hS dX9_wayCell_9 hlocks
abbrev w_X9_washes (g : GE) (a0 a1 a2 a3 : Nat) (u0_1 u0_2 u0_3 u0_4 u0_5 u0_6 u0_11 u0_12 u0_13 u0_14 u0_15 u0_16 u0_17 u0_18 u0_19 u0_20 u0_21 u0_22 u0_23 u0_24 u0_25 u0_26 u0_27 u0_28 u0_29 u0_30 : Value) (x0_thrown : Int32) (x0_flowLong : Int32) (y1_flow : Nat → Int32) (y2_s : Nat → Int32) (y3_sums : Nat → Int32) : va_W := [(a0, .inr (9, [.ref a2, u0_1, u0_2, u0_3, u0_4, u0_5, u0_6, .int x0_thrown, .ref a3, .ref a1, .int x0_flowLong, u0_11, u0_12, u0_13, u0_14, u0_15, u0_16, u0_17, u0_18, u0_19, u0_20, u0_21, u0_22, u0_23, u0_24, u0_25, u0_26, u0_27, u0_28, u0_29, u0_30])), (a1, .inl (g.2.1 0, 144, .inl y1_flow)), (a2, .inl (g.2.1 0, 552, .inl y2_s)), (a3, .inl (g.2.1 0, 144, .inl y3_sums))]
noncomputable def f_X9_washes (x0_thrown : Int32) (x0_flowLong : Int32) (y1_flow : Nat → Int32) (y2_s : Nat → Int32) (y3_sums : Nat → Int32) (p1 : Int32) : Option (Int32 × Int32 × Int32 × (Nat → Int32) × (Nat → Int32)) :=
  bd2 (f_X9_mayCell x0_thrown y2_s p1) fun (r2 : Int32) (x0_thrown_1 : Int32) =>
  (if r2 = 0 then (
    some (0, x0_thrown_1, x0_flowLong, y1_flow, y3_sums)
  ) else (
    bd4 (f_X9_findsFlow x0_flowLong y1_flow y2_s y3_sums p1) fun (r12 : Int32) (x0_flowLong_1 : Int32) (y1_flow_1 : Nat → Int32) (y3_sums_1 : Nat → Int32) =>
    (if r12 = 0 then (
      some (0, x0_thrown_1, x0_flowLong_1, y1_flow_1, y3_sums_1)
    ) else (
      bd1 (f_X9_washedBy x0_flowLong_1 y1_flow_1 y2_s) fun (r19 : Int32) =>
      some (r19, x0_thrown_1, x0_flowLong_1, y1_flow_1, y3_sums_1)
    ))
  ))
set_option maxRecDepth 4000 in
theorem c_X9_washes (l : Launch) (g : GE) (a0 a1 a2 a3 : Nat) (sz : Nat) (u0_1 u0_2 u0_3 u0_4 u0_5 u0_6 u0_11 u0_12 u0_13 u0_14 u0_15 u0_16 u0_17 u0_18 u0_19 u0_20 u0_21 u0_22 u0_23 u0_24 u0_25 u0_26 u0_27 u0_28 u0_29 u0_30 : Value) (x0_thrown : Int32) (x0_flowLong : Int32) (y1_flow : Nat → Int32) (y2_s : Nat → Int32) (y3_sums : Nat → Int32) (p1 : Int32) (r : Int32) (o_x0_thrown : Int32) (o_x0_flowLong : Int32) (o_y1_flow : Nat → Int32) (o_y3_sums : Nat → Int32) (hf : f_X9_washes x0_thrown x0_flowLong y1_flow y2_s y3_sums p1 = some (r, o_x0_thrown, o_x0_flowLong, o_y1_flow, o_y3_sums)) : MI l g yX9_washes wsX9_washes 10 231 [.ref a0, .int p1] (w_X9_washes g a0 a1 a2 a3 u0_1 u0_2 u0_3 u0_4 u0_5 u0_6 u0_11 u0_12 u0_13 u0_14 u0_15 u0_16 u0_17 u0_18 u0_19 u0_20 u0_21 u0_22 u0_23 u0_24 u0_25 u0_26 u0_27 u0_28 u0_29 u0_30 x0_thrown x0_flowLong y1_flow y2_s y3_sums) sz (some (.int r)) (w_X9_washes g a0 a1 a2 a3 u0_1 u0_2 u0_3 u0_4 u0_5 u0_6 u0_11 u0_12 u0_13 u0_14 u0_15 u0_16 u0_17 u0_18 u0_19 u0_20 u0_21 u0_22 u0_23 u0_24 u0_25 u0_26 u0_27 u0_28 u0_29 u0_30 o_x0_thrown o_x0_flowLong o_y1_flow y2_s o_y3_sums) := by
  refine MI.start (cc := cX9_washes) (maxL := 2) (ret := (some .int)) rfl rfl (nle rfl) ?_
  intro p e s m args below meth c A ls Q hQ hexec hb hr hts hown hlocks hml hA hP hD hG hS hl
  unfold f_X9_washes at hf
  have hWX9 : ∀ w ∈ wsX90, w.before args s = true := fun w h => hts w (List.mem_cons_of_mem _ (List.mem_append_right _ h))
  have hS : va_S A s.heap s.heap [] := hS
  refine lv_aload_n (pc := 0) hexec hb dX9_washes_0 rfl (lv_at hl 0 rfl) ?_
  refine lv_iload_n (pc := 1) hexec hb dX9_washes_1 rfl (lv_at hl 1 rfl) ?_
  obtain ⟨r2, x0_thrown_1, hc, hf⟩ := bd2_e hf
  refine kVp (pc := 2) (S := ⟨hexec, hb, hml, hown, hts⟩) hP hD hG hA hS [0, 2] [1, 3] [2, 0, 3, 1] (w2 := (w_X9_washes g a0 a1 a2 a3 u0_1 u0_2 u0_3 u0_4 u0_5 u0_6 u0_11 u0_12 u0_13 u0_14 u0_15 u0_16 u0_17 u0_18 u0_19 u0_20 u0_21 u0_22 u0_23 u0_24 u0_25 u0_26 u0_27 u0_28 u0_29 u0_30 x0_thrown_1 x0_flowLong y1_flow y2_s y3_sums)) rfl rfl rfl rfl rfl rfl (by decide) (c_X9_mayCell l g a0 a2 _ u0_1 u0_2 u0_3 u0_4 u0_5 u0_6 (.ref a3) (.ref a1) (.int x0_flowLong) u0_11 u0_12 u0_13 u0_14 u0_15 u0_16 u0_17 u0_18 u0_19 u0_20 u0_21 u0_22 u0_23 u0_24 u0_25 u0_26 u0_27 u0_28 u0_29 u0_30 x0_thrown y2_s p1 r2 x0_thrown_1 hc) gX9_washes_X9_mayCell rfl hv_X9_mayCell ⟨nle rfl, nle rfl⟩ 9 0 rfl rfl rfl (rest := []) rfl rfl hl.1 (nle rfl) dX9_washes_2 (fun H locs hP hD hS => ?_)
  refine kb_ne (pc := 5) hexec hb dX9_washes_5 (tgt := 10) rfl hf (fun hc hf => ?_) (fun hc hf => ?_)
  · refine lv_aload_n (pc := 10) hexec hb dX9_washes_10 rfl (lv_at hl 0 rfl) ?_
    refine lv_iload_n (pc := 11) hexec hb dX9_washes_11 rfl (lv_at hl 1 rfl) ?_
    obtain ⟨r12, x0_flowLong_1, y1_flow_1, y3_sums_1, hc, hf⟩ := bd4_e hf
    refine kVp (pc := 12) (S := ⟨hexec, hb, hml, hown, hts⟩) hP hD hG hA hS [0, 1, 2, 3] [] [0, 1, 2, 3] (w2 := (w_X9_washes g a0 a1 a2 a3 u0_1 u0_2 u0_3 u0_4 u0_5 u0_6 u0_11 u0_12 u0_13 u0_14 u0_15 u0_16 u0_17 u0_18 u0_19 u0_20 u0_21 u0_22 u0_23 u0_24 u0_25 u0_26 u0_27 u0_28 u0_29 u0_30 x0_thrown_1 x0_flowLong_1 y1_flow_1 y2_s y3_sums_1)) rfl rfl rfl rfl rfl rfl (by decide) (c_X9_findsFlow l g a0 a1 a2 a3 _ u0_1 u0_2 u0_3 u0_4 u0_5 u0_6 (.int x0_thrown_1) u0_11 u0_12 u0_13 u0_14 u0_15 u0_16 u0_17 u0_18 u0_19 u0_20 u0_21 u0_22 u0_23 u0_24 u0_25 u0_26 u0_27 u0_28 u0_29 u0_30 x0_flowLong y1_flow y2_s y3_sums p1 r12 x0_flowLong_1 y1_flow_1 y3_sums_1 hc) gX9_washes_X9_findsFlow rfl hv_X9_findsFlow ⟨nle rfl, nle rfl⟩ 9 0 rfl rfl rfl (rest := []) rfl rfl hl.1 (nle rfl) dX9_washes_12 (fun H locs hP hD hS => ?_)
    refine kb_eq (pc := 15) hexec hb dX9_washes_15 (tgt := 25) rfl hf (fun hc hf => ?_) (fun hc hf => ?_)
    · refine lv_iconst (pc := 25) hexec hb dX9_washes_25 ki_0 ?_
      cases hf
      exact ke_i hQ hexec hb hr hP hD hS dX9_washes_26 hlocks
    · refine lv_aload_n (pc := 18) hexec hb dX9_washes_18 rfl (lv_at hl 0 rfl) ?_
      obtain ⟨r19, hc, hf⟩ := bd1_e hf
      refine kVp (pc := 19) (S := ⟨hexec, hb, hml, hown, hts⟩) hP hD hG hA hS [0, 1, 2] [3] [1, 2, 3, 0] (w2 := (w_X9_washes g a0 a1 a2 a3 u0_1 u0_2 u0_3 u0_4 u0_5 u0_6 u0_11 u0_12 u0_13 u0_14 u0_15 u0_16 u0_17 u0_18 u0_19 u0_20 u0_21 u0_22 u0_23 u0_24 u0_25 u0_26 u0_27 u0_28 u0_29 u0_30 x0_thrown_1 x0_flowLong_1 y1_flow_1 y2_s y3_sums_1)) rfl rfl rfl rfl rfl rfl (by decide) (c_X9_washedBy l g a0 a1 a2 _ u0_1 u0_2 u0_3 u0_4 u0_5 u0_6 (.int x0_thrown_1) (.ref a3) u0_11 u0_12 u0_13 u0_14 u0_15 u0_16 u0_17 u0_18 u0_19 u0_20 u0_21 u0_22 u0_23 u0_24 u0_25 u0_26 u0_27 u0_28 u0_29 u0_30 x0_flowLong_1 y1_flow_1 y2_s r19 hc) gX9_washes_X9_washedBy rfl hv_X9_washedBy ⟨nle rfl, nle rfl⟩ 9 0 rfl rfl rfl (rest := []) rfl rfl hl.1 (nle rfl) dX9_washes_19 (fun H locs hP hD hS => ?_)
      refine lv_goto (pc := 22) hexec hb dX9_washes_22 (tgt := 26) rfl ?_
      cases hf
      exact ke_i hQ hexec hb hr hP hD hS dX9_washes_26 hlocks
  · refine lv_iconst (pc := 8) hexec hb dX9_washes_8 ki_0 ?_
    cases hf
    exact ke_i hQ hexec hb hr hP hD hS dX9_washes_9 hlocks
abbrev w_X9_mildest (g : GE) (a0 a1 a2 a3 : Nat) (u0_1 u0_2 u0_3 u0_4 u0_5 u0_6 u0_11 u0_12 u0_13 u0_14 u0_15 u0_16 u0_17 u0_18 u0_19 u0_20 u0_21 u0_22 u0_23 u0_24 u0_25 u0_26 u0_27 u0_28 u0_29 u0_30 : Value) (x0_thrown : Int32) (x0_flowLong : Int32) (y1_flow : Nat → Int32) (y2_s : Nat → Int32) (y3_sums : Nat → Int32) : va_W := [(a0, .inr (9, [.ref a2, u0_1, u0_2, u0_3, u0_4, u0_5, u0_6, .int x0_thrown, .ref a3, .ref a1, .int x0_flowLong, u0_11, u0_12, u0_13, u0_14, u0_15, u0_16, u0_17, u0_18, u0_19, u0_20, u0_21, u0_22, u0_23, u0_24, u0_25, u0_26, u0_27, u0_28, u0_29, u0_30])), (a1, .inl (g.2.1 0, 144, .inl y1_flow)), (a2, .inl (g.2.1 0, 552, .inl y2_s)), (a3, .inl (g.2.1 0, 144, .inl y3_sums))]
noncomputable def f_X9_mildest (x0_thrown : Int32) (x0_flowLong : Int32) (y1_flow : Nat → Int32) (y2_s : Nat → Int32) (y3_sums : Nat → Int32)  : Option (Int32 × Int32 × Int32 × (Nat → Int32) × (Nat → Int32)) :=
  bd1 (f_X9_laysSums y2_s y3_sums) fun (y3_sums_1 : Nat → Int32) =>
  bv (fun (v1 : Int32) (v2 : Int32) (v3 : Int32) (v4 : Int32) (x0_flowLong_1 : Int32) (y1_flow_1 : Nat → Int32) => ((
    bd1 (f_X9_cells y2_s) fun (r21 : Int32) =>
    (if r21 ≤ v4 then (
      some (.inr (v1, x0_flowLong_1, y1_flow_1))
    ) else (
      bd3 (f_X9_laysFlow x0_flowLong_1 y1_flow_1 y2_s y3_sums_1 v4) fun (r30 : Int32) (x0_flowLong_3 : Int32) (y1_flow_3 : Nat → Int32) =>
      bv (fun (v1_2 : Int32) (v2_1 : Int32) (v3_1 : Int32) => ((
        bv (v4 + 1) fun v4_1 =>
        some (.inl (v1_2, v2_1, v3_1, v4_1, x0_flowLong_3, y1_flow_3))
        ) : Option ((Int32 × Int32 × Int32 × Int32 × Int32 × (Nat → Int32)) ⊕ (Int32 × Int32 × (Nat → Int32))))) fun j84 =>
      (if r30 = 0 then (
        j84 v1 v2 v3
      ) else (
        bd1 (f_X9_washedBy x0_flowLong_3 y1_flow_3 y2_s) fun (r40 : Int32) =>
        bd1 (f_X9_ones r40) fun (r43 : Int32) =>
        bv (fun (_ : Unit) => ((
          j84 v4 r43 x0_flowLong_3
          ) : Option ((Int32 × Int32 × Int32 × Int32 × Int32 × (Nat → Int32)) ⊕ (Int32 × Int32 × (Nat → Int32))))) fun j73 =>
        (if v1 = (-1) then (
          j73 ()
        ) else (
          (if r43 < v2 then (
            j73 ()
          ) else (
            (if r43 = v2 then (
              (if x0_flowLong_3 ≤ v3 then (
                j84 v1 v2 v3
              ) else (
                j73 ()
              ))
            ) else (
              j84 v1 v2 v3
            ))
          ))
        ))
      ))
    ))
    ) : Option ((Int32 × Int32 × Int32 × Int32 × Int32 × (Nat → Int32)) ⊕ (Int32 × Int32 × (Nat → Int32))))) fun l18 =>
  bd3 (lq6 l18 (-1) 0 0 0 x0_flowLong y1_flow) fun (v1_1 : Int32) (x0_flowLong_2 : Int32) (y1_flow_2 : Nat → Int32) =>
  some (v1_1, 0, x0_flowLong_2, y1_flow_2, y3_sums_1)
set_option maxRecDepth 4000 in
theorem c_X9_mildest (l : Launch) (g : GE) (a0 a1 a2 a3 : Nat) (sz : Nat) (u0_1 u0_2 u0_3 u0_4 u0_5 u0_6 u0_11 u0_12 u0_13 u0_14 u0_15 u0_16 u0_17 u0_18 u0_19 u0_20 u0_21 u0_22 u0_23 u0_24 u0_25 u0_26 u0_27 u0_28 u0_29 u0_30 : Value) (x0_thrown : Int32) (x0_flowLong : Int32) (y1_flow : Nat → Int32) (y2_s : Nat → Int32) (y3_sums : Nat → Int32)  (r : Int32) (o_x0_thrown : Int32) (o_x0_flowLong : Int32) (o_y1_flow : Nat → Int32) (o_y3_sums : Nat → Int32) (hf : f_X9_mildest x0_thrown x0_flowLong y1_flow y2_s y3_sums = some (r, o_x0_thrown, o_x0_flowLong, o_y1_flow, o_y3_sums)) : MI l g yX9_mildest wsX9_mildest 9 210 [.ref a0] (w_X9_mildest g a0 a1 a2 a3 u0_1 u0_2 u0_3 u0_4 u0_5 u0_6 u0_11 u0_12 u0_13 u0_14 u0_15 u0_16 u0_17 u0_18 u0_19 u0_20 u0_21 u0_22 u0_23 u0_24 u0_25 u0_26 u0_27 u0_28 u0_29 u0_30 x0_thrown x0_flowLong y1_flow y2_s y3_sums) sz (some (.int r)) (w_X9_mildest g a0 a1 a2 a3 u0_1 u0_2 u0_3 u0_4 u0_5 u0_6 u0_11 u0_12 u0_13 u0_14 u0_15 u0_16 u0_17 u0_18 u0_19 u0_20 u0_21 u0_22 u0_23 u0_24 u0_25 u0_26 u0_27 u0_28 u0_29 u0_30 o_x0_thrown o_x0_flowLong o_y1_flow y2_s o_y3_sums) := by
  refine MI.start (cc := cX9_mildest) (maxL := 6) (ret := (some .int)) rfl rfl (nle rfl) ?_
  intro p e s m args below meth c A ls Q hQ hexec hb hr hts hown hlocks hml hA hP hD hG hS hl
  unfold f_X9_mildest at hf
  have hWX9 : ∀ w ∈ wsX90, w.before args s = true := fun w h => hts w (List.mem_cons_of_mem _ (List.mem_append_right _ h))
  have hS : va_S A s.heap s.heap [] := hS
  refine lv_aload_n (pc := 0) hexec hb dX9_mildest_0 rfl (lv_at hl 0 rfl) ?_
  refine lv_iconst (pc := 1) hexec hb dX9_mildest_1 ki_0 ?_
  refine kp_put (pc := 2) hexec hb (own := RX9) hWX9 tyX9 tyX9_ok nmX9 hown hG hP hD hS 0 rfl rfl 7 (nle rfl) (hts _ (List.mem_cons_of_mem _ (List.mem_append_left _ (List.mem_append_left _ (List.mem_of_getElem? (i := 0) rfl))))) rfl rfl rfl rfl (nle rfl) dX9_mildest_2 (fun H locs (hP : va_P g.1 vwCl (w_X9_mildest g a0 a1 a2 a3 u0_1 u0_2 u0_3 u0_4 u0_5 u0_6 u0_11 u0_12 u0_13 u0_14 u0_15 u0_16 u0_17 u0_18 u0_19 u0_20 u0_21 u0_22 u0_23 u0_24 u0_25 u0_26 u0_27 u0_28 u0_29 u0_30 0 x0_flowLong y1_flow y2_s y3_sums) H) (hD : va_D A (w_X9_mildest g a0 a1 a2 a3 u0_1 u0_2 u0_3 u0_4 u0_5 u0_6 u0_11 u0_12 u0_13 u0_14 u0_15 u0_16 u0_17 u0_18 u0_19 u0_20 u0_21 u0_22 u0_23 u0_24 u0_25 u0_26 u0_27 u0_28 u0_29 u0_30 0 x0_flowLong y1_flow y2_s y3_sums)) hS => ?_)
  refine lv_aload_n (pc := 5) hexec hb dX9_mildest_5 rfl (lv_at hl 0 rfl) ?_
  obtain ⟨y3_sums_1, hc, hf⟩ := bd1_e hf
  refine kVp (pc := 6) (S := ⟨hexec, hb, hml, hown, hts⟩) hP hD hG hA hS [0, 2, 3] [1] [1, 0, 2, 3] (w2 := (w_X9_mildest g a0 a1 a2 a3 u0_1 u0_2 u0_3 u0_4 u0_5 u0_6 u0_11 u0_12 u0_13 u0_14 u0_15 u0_16 u0_17 u0_18 u0_19 u0_20 u0_21 u0_22 u0_23 u0_24 u0_25 u0_26 u0_27 u0_28 u0_29 u0_30 0 x0_flowLong y1_flow y2_s y3_sums_1)) rfl rfl rfl rfl rfl rfl (by decide) (c_X9_laysSums l g a0 a2 a3 _ u0_1 u0_2 u0_3 u0_4 u0_5 u0_6 (.int 0) (.ref a1) (.int x0_flowLong) u0_11 u0_12 u0_13 u0_14 u0_15 u0_16 u0_17 u0_18 u0_19 u0_20 u0_21 u0_22 u0_23 u0_24 u0_25 u0_26 u0_27 u0_28 u0_29 u0_30 y2_s y3_sums y3_sums_1 hc) gX9_mildest_X9_laysSums rfl hv_X9_laysSums ⟨nle rfl, nle rfl⟩ 9 0 rfl rfl rfl (rest := []) rfl rfl hl.1 (nle rfl) dX9_mildest_6 (fun H locs hP hD hS => ?_)
  refine lv_iconst (pc := 9) hexec hb dX9_mildest_9 ki_m1 ?_
  refine lv_istore_n (pc := 10) hexec hb dX9_mildest_10 rfl hl (nle rfl) rfl (fun ls (hl : lv_has ls 6 [(1, .int (-1)), (0, .ref a0)]) => ?_)
  refine lv_iconst (pc := 11) hexec hb dX9_mildest_11 ki_0 ?_
  refine lv_istore_n (pc := 12) hexec hb dX9_mildest_12 rfl hl (nle rfl) rfl (fun ls (hl : lv_has ls 6 [(2, .int 0), (1, .int (-1)), (0, .ref a0)]) => ?_)
  refine lv_iconst (pc := 13) hexec hb dX9_mildest_13 ki_0 ?_
  refine lv_istore_n (pc := 14) hexec hb dX9_mildest_14 rfl hl (nle rfl) rfl (fun ls (hl : lv_has ls 6 [(3, .int 0), (2, .int 0), (1, .int (-1)), (0, .ref a0)]) => ?_)
  refine lv_iconst (pc := 15) hexec hb dX9_mildest_15 ki_0 ?_
  refine lv_istore (pc := 16) hexec hb dX9_mildest_16 hl (nle rfl) rfl (fun ls (hl : lv_has ls 6 [(4, .int 0), (3, .int 0), (2, .int 0), (1, .int (-1)), (0, .ref a0)]) => ?_)
  obtain ⟨l18, el18, hf⟩ := bvf6 hf
  obtain ⟨v1_1, x0_flowLong_2, y1_flow_2, hz, hf⟩ := bd3_e hf
  have hE18 : ∀ (H : Heap) (locs : List Loc) (ls : Array Slot), va_P g.1 vwCl (w_X9_mildest g a0 a1 a2 a3 u0_1 u0_2 u0_3 u0_4 u0_5 u0_6 u0_11 u0_12 u0_13 u0_14 u0_15 u0_16 u0_17 u0_18 u0_19 u0_20 u0_21 u0_22 u0_23 u0_24 u0_25 u0_26 u0_27 u0_28 u0_29 u0_30 0 x0_flowLong_2 y1_flow_2 y2_s y3_sums_1) H → va_D A (w_X9_mildest g a0 a1 a2 a3 u0_1 u0_2 u0_3 u0_4 u0_5 u0_6 u0_11 u0_12 u0_13 u0_14 u0_15 u0_16 u0_17 u0_18 u0_19 u0_20 u0_21 u0_22 u0_23 u0_24 u0_25 u0_26 u0_27 u0_28 u0_29 u0_30 0 x0_flowLong_2 y1_flow_2 y2_s y3_sums_1) → va_S A s.heap H locs → lv_has ls 6 [(1, .int v1_1)] → W p l e (RM 9 210) s m args below meth c H locs 0 0 Q (F0 m 90 ls []) := by
    intro H locs ls hP hD hS hl
    refine lv_iload_n (pc := 90) hexec hb dX9_mildest_90 rfl (lv_at hl 0 rfl) ?_
    cases hf
    exact ke_i hQ hexec hb hr hP hD hS dX9_mildest_91 hlocks
  obtain ⟨n, hz⟩ := lq6_e hz
  have hL18 : ∀ (n : Nat) (v1 : Int32) (v2 : Int32) (v3 : Int32) (v4 : Int32) (x0_flowLong_1 : Int32) (y1_flow_1 : Nat → Int32) (H : Heap) (locs : List Loc) (ls : Array Slot), it6 l18 n v1 v2 v3 v4 x0_flowLong_1 y1_flow_1 = some (v1_1, x0_flowLong_2, y1_flow_2) → va_P g.1 vwCl (w_X9_mildest g a0 a1 a2 a3 u0_1 u0_2 u0_3 u0_4 u0_5 u0_6 u0_11 u0_12 u0_13 u0_14 u0_15 u0_16 u0_17 u0_18 u0_19 u0_20 u0_21 u0_22 u0_23 u0_24 u0_25 u0_26 u0_27 u0_28 u0_29 u0_30 0 x0_flowLong_1 y1_flow_1 y2_s y3_sums_1) H → va_D A (w_X9_mildest g a0 a1 a2 a3 u0_1 u0_2 u0_3 u0_4 u0_5 u0_6 u0_11 u0_12 u0_13 u0_14 u0_15 u0_16 u0_17 u0_18 u0_19 u0_20 u0_21 u0_22 u0_23 u0_24 u0_25 u0_26 u0_27 u0_28 u0_29 u0_30 0 x0_flowLong_1 y1_flow_1 y2_s y3_sums_1) → va_S A s.heap H locs → lv_has ls 6 [(0, .ref a0), (1, .int v1), (2, .int v2), (3, .int v3), (4, .int v4)] → W p l e (RM 9 210) s m args below meth c H locs 0 0 Q (F0 m 18 ls []) := by
    intro n
    induction n with
    | zero =>
      intro v1 v2 v3 v4 x0_flowLong_1 y1_flow_1 H locs ls hf hP hD hS hl
      exact it6_0 hf
    | succ n18 ih18 =>
      intro v1 v2 v3 v4 x0_flowLong_1 y1_flow_1 H locs ls hf hP hD hS hl
      obtain ⟨q18, hf, hk18⟩ := it6_e hf
      have hf := (el18 v1 v2 v3 v4 x0_flowLong_1 y1_flow_1).symm.trans hf
      refine lv_iload (pc := 18) hexec hb dX9_mildest_18 (lv_at hl 4 rfl) ?_
      refine lv_aload_n (pc := 20) hexec hb dX9_mildest_20 rfl (lv_at hl 0 rfl) ?_
      obtain ⟨r21, hc, hf⟩ := bd1_e hf
      refine kVp (pc := 21) (S := ⟨hexec, hb, hml, hown, hts⟩) hP hD hG hA hS [0, 2] [1, 3] [2, 0, 3, 1] (w2 := (w_X9_mildest g a0 a1 a2 a3 u0_1 u0_2 u0_3 u0_4 u0_5 u0_6 u0_11 u0_12 u0_13 u0_14 u0_15 u0_16 u0_17 u0_18 u0_19 u0_20 u0_21 u0_22 u0_23 u0_24 u0_25 u0_26 u0_27 u0_28 u0_29 u0_30 0 x0_flowLong_1 y1_flow_1 y2_s y3_sums_1)) rfl rfl rfl rfl rfl rfl (by decide) (c_X9_cells l g a0 a2 _ u0_1 u0_2 u0_3 u0_4 u0_5 u0_6 (.int 0) (.ref a3) (.ref a1) (.int x0_flowLong_1) u0_11 u0_12 u0_13 u0_14 u0_15 u0_16 u0_17 u0_18 u0_19 u0_20 u0_21 u0_22 u0_23 u0_24 u0_25 u0_26 u0_27 u0_28 u0_29 u0_30 y2_s r21 hc) gX9_mildest_X9_cells rfl hv_X9_cells ⟨nle rfl, nle rfl⟩ 9 0 rfl rfl rfl (rest := [.int v4]) rfl rfl hl.1 (nle rfl) dX9_mildest_21 (fun H locs hP hD hS => ?_)
      refine ki_ge (pc := 24) hexec hb dX9_mildest_24 (tgt := 90) rfl hf (fun hc hf => ?_) (fun hc hf => ?_)
      · cases sr6 hf hk18
        exact hE18 _ _ _ hP hD hS (lv_sub hl [1] rfl)
      · refine lv_aload_n (pc := 27) hexec hb dX9_mildest_27 rfl (lv_at hl 0 rfl) ?_
        refine lv_iload (pc := 28) hexec hb dX9_mildest_28 (lv_at hl 4 rfl) ?_
        obtain ⟨r30, x0_flowLong_3, y1_flow_3, hc, hf⟩ := bd3_e hf
        refine kVp (pc := 30) (S := ⟨hexec, hb, hml, hown, hts⟩) hP hD hG hA hS [0, 1, 2, 3] [] [0, 1, 2, 3] (w2 := (w_X9_mildest g a0 a1 a2 a3 u0_1 u0_2 u0_3 u0_4 u0_5 u0_6 u0_11 u0_12 u0_13 u0_14 u0_15 u0_16 u0_17 u0_18 u0_19 u0_20 u0_21 u0_22 u0_23 u0_24 u0_25 u0_26 u0_27 u0_28 u0_29 u0_30 0 x0_flowLong_3 y1_flow_3 y2_s y3_sums_1)) rfl rfl rfl rfl rfl rfl (by decide) (c_X9_laysFlow l g a0 a1 a2 a3 _ u0_1 u0_2 u0_3 u0_4 u0_5 u0_6 (.int 0) u0_11 u0_12 u0_13 u0_14 u0_15 u0_16 u0_17 u0_18 u0_19 u0_20 u0_21 u0_22 u0_23 u0_24 u0_25 u0_26 u0_27 u0_28 u0_29 u0_30 x0_flowLong_1 y1_flow_1 y2_s y3_sums_1 v4 r30 x0_flowLong_3 y1_flow_3 hc) gX9_mildest_X9_laysFlow rfl hv_X9_laysFlow ⟨nle rfl, nle rfl⟩ 9 0 rfl rfl rfl (rest := []) rfl rfl hl.1 (nle rfl) dX9_mildest_30 (fun H locs hP hD hS => ?_)
        obtain ⟨j84, ej84, hf⟩ := bvf3 hf
        have hj84 : ∀ (v1_2 : Int32) (v2_1 : Int32) (v3_1 : Int32) (H : Heap) (locs : List Loc) (ls : Array Slot), j84 v1_2 v2_1 v3_1 = some q18 → va_P g.1 vwCl (w_X9_mildest g a0 a1 a2 a3 u0_1 u0_2 u0_3 u0_4 u0_5 u0_6 u0_11 u0_12 u0_13 u0_14 u0_15 u0_16 u0_17 u0_18 u0_19 u0_20 u0_21 u0_22 u0_23 u0_24 u0_25 u0_26 u0_27 u0_28 u0_29 u0_30 0 x0_flowLong_3 y1_flow_3 y2_s y3_sums_1) H → va_D A (w_X9_mildest g a0 a1 a2 a3 u0_1 u0_2 u0_3 u0_4 u0_5 u0_6 u0_11 u0_12 u0_13 u0_14 u0_15 u0_16 u0_17 u0_18 u0_19 u0_20 u0_21 u0_22 u0_23 u0_24 u0_25 u0_26 u0_27 u0_28 u0_29 u0_30 0 x0_flowLong_3 y1_flow_3 y2_s y3_sums_1) → va_S A s.heap H locs → lv_has ls 6 [(0, .ref a0), (1, .int v1_2), (2, .int v2_1), (3, .int v3_1), (4, .int v4)] → W p l e (RM 9 210) s m args below meth c H locs 0 0 Q (F0 m 84 ls []) := by
          intro v1_2 v2_1 v3_1 H locs ls hf hP hD hS hl
          have hf := (ej84 v1_2 v2_1 v3_1).symm.trans hf
          obtain ⟨v4_1, ev4_1, hf⟩ := bv_e hf
          refine k_iinc (pc := 84) hexec hb dX9_mildest_84 kq_1 hl (k := 4) rfl ev4_1 (nle rfl) rfl (fun ls (hl : lv_has ls 6 [(4, .int v4_1), (0, .ref a0), (1, .int v1_2), (2, .int v2_1), (3, .int v3_1)]) => ?_)
          refine lv_goto (pc := 87) hexec hb dX9_mildest_87 (tgt := 18) rfl ?_
          exact ih18 _ _ _ _ _ _ _ _ _ (sl6 hf hk18) hP hD hS (lv_sub hl [1, 2, 3, 4, 0] rfl)
        refine kb_ne (pc := 33) hexec hb dX9_mildest_33 (tgt := 39) rfl hf (fun hc hf => ?_) (fun hc hf => ?_)
        · refine lv_aload_n (pc := 39) hexec hb dX9_mildest_39 rfl (lv_at hl 0 rfl) ?_
          obtain ⟨r40, hc, hf⟩ := bd1_e hf
          refine kVp (pc := 40) (S := ⟨hexec, hb, hml, hown, hts⟩) hP hD hG hA hS [0, 1, 2] [3] [1, 2, 3, 0] (w2 := (w_X9_mildest g a0 a1 a2 a3 u0_1 u0_2 u0_3 u0_4 u0_5 u0_6 u0_11 u0_12 u0_13 u0_14 u0_15 u0_16 u0_17 u0_18 u0_19 u0_20 u0_21 u0_22 u0_23 u0_24 u0_25 u0_26 u0_27 u0_28 u0_29 u0_30 0 x0_flowLong_3 y1_flow_3 y2_s y3_sums_1)) rfl rfl rfl rfl rfl rfl (by decide) (c_X9_washedBy l g a0 a1 a2 _ u0_1 u0_2 u0_3 u0_4 u0_5 u0_6 (.int 0) (.ref a3) u0_11 u0_12 u0_13 u0_14 u0_15 u0_16 u0_17 u0_18 u0_19 u0_20 u0_21 u0_22 u0_23 u0_24 u0_25 u0_26 u0_27 u0_28 u0_29 u0_30 x0_flowLong_3 y1_flow_3 y2_s r40 hc) gX9_mildest_X9_washedBy rfl hv_X9_washedBy ⟨nle rfl, nle rfl⟩ 9 0 rfl rfl rfl (rest := []) rfl rfl hl.1 (nle rfl) dX9_mildest_40 (fun H locs hP hD hS => ?_)
          obtain ⟨r43, hc, hf⟩ := bd1_e hf
          refine kSp (pc := 43) (S := ⟨hexec, hb, hml, hown, hts⟩) hP hD hG hA hS [] [0, 1, 2, 3] [0, 1, 2, 3] (w2 := (w_X9_mildest g a0 a1 a2 a3 u0_1 u0_2 u0_3 u0_4 u0_5 u0_6 u0_11 u0_12 u0_13 u0_14 u0_15 u0_16 u0_17 u0_18 u0_19 u0_20 u0_21 u0_22 u0_23 u0_24 u0_25 u0_26 u0_27 u0_28 u0_29 u0_30 0 x0_flowLong_3 y1_flow_3 y2_s y3_sums_1)) rfl rfl rfl rfl rfl rfl (by decide) (c_X9_ones l g _ r40 r43 hc) gX9_mildest_X9_ones rfl hs_X9_ones ⟨nle rfl, nle rfl⟩ (rest := []) rfl rfl hl.1 (nle rfl) dX9_mildest_43 (fun H locs hP hD hS => ?_)
          refine lv_istore (pc := 46) hexec hb dX9_mildest_46 hl (nle rfl) rfl (fun ls (hl : lv_has ls 6 [(5, .int r43), (0, .ref a0), (1, .int v1), (2, .int v2), (3, .int v3), (4, .int v4)]) => ?_)
          refine lv_iload_n (pc := 48) hexec hb dX9_mildest_48 rfl (lv_at hl 2 rfl) ?_
          refine lv_iconst (pc := 49) hexec hb dX9_mildest_49 ki_m1 ?_
          obtain ⟨j73, ej73, hf⟩ := bvf1 hf
          have hj73 : ∀ (u : Unit) (H : Heap) (locs : List Loc) (ls : Array Slot), j73 u = some q18 → va_P g.1 vwCl (w_X9_mildest g a0 a1 a2 a3 u0_1 u0_2 u0_3 u0_4 u0_5 u0_6 u0_11 u0_12 u0_13 u0_14 u0_15 u0_16 u0_17 u0_18 u0_19 u0_20 u0_21 u0_22 u0_23 u0_24 u0_25 u0_26 u0_27 u0_28 u0_29 u0_30 0 x0_flowLong_3 y1_flow_3 y2_s y3_sums_1) H → va_D A (w_X9_mildest g a0 a1 a2 a3 u0_1 u0_2 u0_3 u0_4 u0_5 u0_6 u0_11 u0_12 u0_13 u0_14 u0_15 u0_16 u0_17 u0_18 u0_19 u0_20 u0_21 u0_22 u0_23 u0_24 u0_25 u0_26 u0_27 u0_28 u0_29 u0_30 0 x0_flowLong_3 y1_flow_3 y2_s y3_sums_1) → va_S A s.heap H locs → lv_has ls 6 [(0, .ref a0), (4, .int v4), (5, .int r43)] → W p l e (RM 9 210) s m args below meth c H locs 0 0 Q (F0 m 73 ls []) := by
            intro u H locs ls hf hP hD hS hl
            have hf := (ej73 u).symm.trans hf
            refine lv_iload (pc := 73) hexec hb dX9_mildest_73 (lv_at hl 1 rfl) ?_
            refine lv_istore_n (pc := 75) hexec hb dX9_mildest_75 rfl hl (nle rfl) rfl (fun ls (hl : lv_has ls 6 [(1, .int v4), (0, .ref a0), (4, .int v4), (5, .int r43)]) => ?_)
            refine lv_iload (pc := 76) hexec hb dX9_mildest_76 (lv_at hl 3 rfl) ?_
            refine lv_istore_n (pc := 78) hexec hb dX9_mildest_78 rfl hl (nle rfl) rfl (fun ls (hl : lv_has ls 6 [(2, .int r43), (1, .int v4), (0, .ref a0), (4, .int v4), (5, .int r43)]) => ?_)
            refine lv_aload_n (pc := 79) hexec hb dX9_mildest_79 rfl (lv_at hl 2 rfl) ?_
            refine kg_get (pc := 80) hexec hb (own := RX9) hWX9 hown hG hP 0 rfl rfl 10 (nle rfl) (hts _ (List.mem_cons_of_mem _ (List.mem_append_left _ (List.mem_append_left _ (List.mem_of_getElem? (i := 1) rfl))))) rfl rfl dX9_mildest_80 ?_
            refine lv_istore_n (pc := 83) hexec hb dX9_mildest_83 rfl hl (nle rfl) rfl (fun ls (hl : lv_has ls 6 [(3, .int x0_flowLong_3), (2, .int r43), (1, .int v4), (0, .ref a0), (4, .int v4), (5, .int r43)]) => ?_)
            exact hj84 _ _ _ _ _ _ hf hP hD hS (lv_sub hl [3, 2, 1, 0, 4] rfl)
          refine ki_eq (pc := 50) hexec hb dX9_mildest_50 (tgt := 73) rfl hf (fun hc hf => ?_) (fun hc hf => ?_)
          · exact hj73 _ _ _ _ hf hP hD hS (lv_sub hl [1, 5, 0] rfl)
          · refine lv_iload (pc := 53) hexec hb dX9_mildest_53 (lv_at hl 0 rfl) ?_
            refine lv_iload_n (pc := 55) hexec hb dX9_mildest_55 rfl (lv_at hl 3 rfl) ?_
            refine ki_lt (pc := 56) hexec hb dX9_mildest_56 (tgt := 73) rfl hf (fun hc hf => ?_) (fun hc hf => ?_)
            · exact hj73 _ _ _ _ hf hP hD hS (lv_sub hl [1, 5, 0] rfl)
            · refine lv_iload (pc := 59) hexec hb dX9_mildest_59 (lv_at hl 0 rfl) ?_
              refine lv_iload_n (pc := 61) hexec hb dX9_mildest_61 rfl (lv_at hl 3 rfl) ?_
              refine ki_ne (pc := 62) hexec hb dX9_mildest_62 (tgt := 84) rfl hf (fun hc hf => ?_) (fun hc hf => ?_)
              · exact hj84 _ _ _ _ _ _ hf hP hD hS (lv_sub hl [1, 2, 3, 4, 5] rfl)
              · refine lv_aload_n (pc := 65) hexec hb dX9_mildest_65 rfl (lv_at hl 1 rfl) ?_
                refine kg_get (pc := 66) hexec hb (own := RX9) hWX9 hown hG hP 0 rfl rfl 10 (nle rfl) (hts _ (List.mem_cons_of_mem _ (List.mem_append_left _ (List.mem_append_left _ (List.mem_of_getElem? (i := 1) rfl))))) rfl rfl dX9_mildest_66 ?_
                refine lv_iload_n (pc := 69) hexec hb dX9_mildest_69 rfl (lv_at hl 4 rfl) ?_
                refine ki_le (pc := 70) hexec hb dX9_mildest_70 (tgt := 84) rfl hf (fun hc hf => ?_) (fun hc hf => ?_)
                · exact hj84 _ _ _ _ _ _ hf hP hD hS (lv_sub hl [1, 2, 3, 4, 5] rfl)
                · exact hj73 _ _ _ _ hf hP hD hS (lv_sub hl [1, 5, 0] rfl)
        · refine lv_goto (pc := 36) hexec hb dX9_mildest_36 (tgt := 84) rfl ?_
          exact hj84 _ _ _ _ _ _ hf hP hD hS (lv_sub hl [0, 1, 2, 3, 4] rfl)
  exact hL18 n _ _ _ _ _ _ _ _ _ hz hP hD hS (lv_sub hl [4, 3, 2, 1, 0] rfl)
abbrev w_X9_drowns (g : GE) (a0 a1 : Nat) (u0_1 u0_2 u0_3 u0_4 u0_5 u0_6 u0_8 u0_9 u0_10 u0_11 u0_12 u0_13 u0_14 u0_15 u0_16 u0_17 u0_18 u0_19 u0_20 u0_21 u0_22 u0_23 u0_24 u0_25 u0_26 u0_27 u0_28 u0_29 u0_30 : Value) (x0_thrown : Int32) (y1_s : Nat → Int32) : va_W := [(a0, .inr (9, [.ref a1, u0_1, u0_2, u0_3, u0_4, u0_5, u0_6, .int x0_thrown, u0_8, u0_9, u0_10, u0_11, u0_12, u0_13, u0_14, u0_15, u0_16, u0_17, u0_18, u0_19, u0_20, u0_21, u0_22, u0_23, u0_24, u0_25, u0_26, u0_27, u0_28, u0_29, u0_30])), (a1, .inl (g.2.1 0, 552, .inl y1_s))]
noncomputable def f_X9_drowns (x0_thrown : Int32) (y1_s : Nat → Int32) (p1 : Int32) : Option (Int32 × Int32) :=
  bd2 (f_X9_mayCell x0_thrown y1_s p1) fun (r2 : Int32) (x0_thrown_1 : Int32) =>
  (if r2 = 0 then (
    some (0, x0_thrown_1)
  ) else (
    bd1 (f_X9_namesIn y1_s p1) fun (r10 : Int32) =>
    some (r10, x0_thrown_1)
  ))
set_option maxRecDepth 4000 in
theorem c_X9_drowns (l : Launch) (g : GE) (a0 a1 : Nat) (sz : Nat) (u0_1 u0_2 u0_3 u0_4 u0_5 u0_6 u0_8 u0_9 u0_10 u0_11 u0_12 u0_13 u0_14 u0_15 u0_16 u0_17 u0_18 u0_19 u0_20 u0_21 u0_22 u0_23 u0_24 u0_25 u0_26 u0_27 u0_28 u0_29 u0_30 : Value) (x0_thrown : Int32) (y1_s : Nat → Int32) (p1 : Int32) (r : Int32) (o_x0_thrown : Int32) (hf : f_X9_drowns x0_thrown y1_s p1 = some (r, o_x0_thrown)) : MI l g yX9_drowns wsX9_drowns 6 143 [.ref a0, .int p1] (w_X9_drowns g a0 a1 u0_1 u0_2 u0_3 u0_4 u0_5 u0_6 u0_8 u0_9 u0_10 u0_11 u0_12 u0_13 u0_14 u0_15 u0_16 u0_17 u0_18 u0_19 u0_20 u0_21 u0_22 u0_23 u0_24 u0_25 u0_26 u0_27 u0_28 u0_29 u0_30 x0_thrown y1_s) sz (some (.int r)) (w_X9_drowns g a0 a1 u0_1 u0_2 u0_3 u0_4 u0_5 u0_6 u0_8 u0_9 u0_10 u0_11 u0_12 u0_13 u0_14 u0_15 u0_16 u0_17 u0_18 u0_19 u0_20 u0_21 u0_22 u0_23 u0_24 u0_25 u0_26 u0_27 u0_28 u0_29 u0_30 o_x0_thrown y1_s) := by
  refine MI.start (cc := cX9_drowns) (maxL := 2) (ret := (some .int)) rfl rfl (nle rfl) ?_
  intro p e s m args below meth c A ls Q hQ hexec hb hr hts hown hlocks hml hA hP hD hG hS hl
  unfold f_X9_drowns at hf
  have hWX9 : ∀ w ∈ wsX90, w.before args s = true := fun w h => hts w (List.mem_cons_of_mem _ (List.mem_append_right _ h))
  have hS : va_S A s.heap s.heap [] := hS
  refine lv_aload_n (pc := 0) hexec hb dX9_drowns_0 rfl (lv_at hl 0 rfl) ?_
  refine lv_iload_n (pc := 1) hexec hb dX9_drowns_1 rfl (lv_at hl 1 rfl) ?_
  obtain ⟨r2, x0_thrown_1, hc, hf⟩ := bd2_e hf
  refine kVp (pc := 2) (S := ⟨hexec, hb, hml, hown, hts⟩) hP hD hG hA hS [0, 1] [] [0, 1] (w2 := (w_X9_drowns g a0 a1 u0_1 u0_2 u0_3 u0_4 u0_5 u0_6 u0_8 u0_9 u0_10 u0_11 u0_12 u0_13 u0_14 u0_15 u0_16 u0_17 u0_18 u0_19 u0_20 u0_21 u0_22 u0_23 u0_24 u0_25 u0_26 u0_27 u0_28 u0_29 u0_30 x0_thrown_1 y1_s)) rfl rfl rfl rfl rfl rfl (by decide) (c_X9_mayCell l g a0 a1 _ u0_1 u0_2 u0_3 u0_4 u0_5 u0_6 u0_8 u0_9 u0_10 u0_11 u0_12 u0_13 u0_14 u0_15 u0_16 u0_17 u0_18 u0_19 u0_20 u0_21 u0_22 u0_23 u0_24 u0_25 u0_26 u0_27 u0_28 u0_29 u0_30 x0_thrown y1_s p1 r2 x0_thrown_1 hc) gX9_drowns_X9_mayCell rfl hv_X9_mayCell ⟨nle rfl, nle rfl⟩ 9 0 rfl rfl rfl (rest := []) rfl rfl hl.1 (nle rfl) dX9_drowns_2 (fun H locs hP hD hS => ?_)
  refine kb_eq (pc := 5) hexec hb dX9_drowns_5 (tgt := 16) rfl hf (fun hc hf => ?_) (fun hc hf => ?_)
  · refine lv_iconst (pc := 16) hexec hb dX9_drowns_16 ki_0 ?_
    cases hf
    exact ke_i hQ hexec hb hr hP hD hS dX9_drowns_17 hlocks
  · refine lv_aload_n (pc := 8) hexec hb dX9_drowns_8 rfl (lv_at hl 0 rfl) ?_
    refine lv_iload_n (pc := 9) hexec hb dX9_drowns_9 rfl (lv_at hl 1 rfl) ?_
    obtain ⟨r10, hc, hf⟩ := bd1_e hf
    refine kVp (pc := 10) (S := ⟨hexec, hb, hml, hown, hts⟩) hP hD hG hA hS [0, 1] [] [0, 1] (w2 := (w_X9_drowns g a0 a1 u0_1 u0_2 u0_3 u0_4 u0_5 u0_6 u0_8 u0_9 u0_10 u0_11 u0_12 u0_13 u0_14 u0_15 u0_16 u0_17 u0_18 u0_19 u0_20 u0_21 u0_22 u0_23 u0_24 u0_25 u0_26 u0_27 u0_28 u0_29 u0_30 x0_thrown_1 y1_s)) rfl rfl rfl rfl rfl rfl (by decide) (c_X9_namesIn l g a0 a1 _ u0_1 u0_2 u0_3 u0_4 u0_5 u0_6 (.int x0_thrown_1) u0_8 u0_9 u0_10 u0_11 u0_12 u0_13 u0_14 u0_15 u0_16 u0_17 u0_18 u0_19 u0_20 u0_21 u0_22 u0_23 u0_24 u0_25 u0_26 u0_27 u0_28 u0_29 u0_30 y1_s p1 r10 hc) gX9_drowns_X9_namesIn rfl hv_X9_namesIn ⟨nle rfl, nle rfl⟩ 9 0 rfl rfl rfl (rest := []) rfl rfl hl.1 (nle rfl) dX9_drowns_10 (fun H locs hP hD hS => ?_)
    refine lv_goto (pc := 13) hexec hb dX9_drowns_13 (tgt := 17) rfl ?_
    cases hf
    exact ke_i hQ hexec hb hr hP hD hS dX9_drowns_17 hlocks
abbrev w_X9_turns (g : GE) (a0 a1 : Nat) (u0_1 u0_2 u0_3 u0_4 u0_5 u0_6 u0_7 u0_8 u0_9 u0_10 u0_11 u0_12 u0_13 u0_14 u0_15 u0_16 u0_17 u0_18 u0_19 u0_20 u0_21 u0_22 u0_23 u0_24 u0_25 u0_26 u0_27 u0_28 u0_29 u0_30 : Value) (y1_s : Nat → Int32) : va_W := [(a0, .inr (9, [.ref a1, u0_1, u0_2, u0_3, u0_4, u0_5, u0_6, u0_7, u0_8, u0_9, u0_10, u0_11, u0_12, u0_13, u0_14, u0_15, u0_16, u0_17, u0_18, u0_19, u0_20, u0_21, u0_22, u0_23, u0_24, u0_25, u0_26, u0_27, u0_28, u0_29, u0_30])), (a1, .inl (g.2.1 0, 552, .inl y1_s))]
noncomputable def f_X9_turns (y1_s : Nat → Int32) (p1 : Int32) : Option (Int32 × (Nat → Int32)) :=
  ar 5 552 <|
  bd1 (f_X9_quarters (y1_s (5 : Int32).toNatClampNeg) p1) fun (r7 : Int32) =>
  ar 5 552 <| bv (upd y1_s (5 : Int32).toNatClampNeg p1) fun y1_s_1 =>
  ar 7 552 <|
  ar 7 552 <| bv (upd y1_s_1 (7 : Int32).toNatClampNeg ((y1_s_1 (7 : Int32).toNatClampNeg) + r7)) fun y1_s_2 =>
  some (r7, y1_s_2)
set_option maxRecDepth 4000 in
theorem c_X9_turns (l : Launch) (g : GE) (a0 a1 : Nat) (sz : Nat) (u0_1 u0_2 u0_3 u0_4 u0_5 u0_6 u0_7 u0_8 u0_9 u0_10 u0_11 u0_12 u0_13 u0_14 u0_15 u0_16 u0_17 u0_18 u0_19 u0_20 u0_21 u0_22 u0_23 u0_24 u0_25 u0_26 u0_27 u0_28 u0_29 u0_30 : Value) (y1_s : Nat → Int32) (p1 : Int32) (r : Int32) (o_y1_s : Nat → Int32) (hf : f_X9_turns y1_s p1 = some (r, o_y1_s)) : MI l g yX9_turns wsX9_turns 2 46 [.ref a0, .int p1] (w_X9_turns g a0 a1 u0_1 u0_2 u0_3 u0_4 u0_5 u0_6 u0_7 u0_8 u0_9 u0_10 u0_11 u0_12 u0_13 u0_14 u0_15 u0_16 u0_17 u0_18 u0_19 u0_20 u0_21 u0_22 u0_23 u0_24 u0_25 u0_26 u0_27 u0_28 u0_29 u0_30 y1_s) sz (some (.int r)) (w_X9_turns g a0 a1 u0_1 u0_2 u0_3 u0_4 u0_5 u0_6 u0_7 u0_8 u0_9 u0_10 u0_11 u0_12 u0_13 u0_14 u0_15 u0_16 u0_17 u0_18 u0_19 u0_20 u0_21 u0_22 u0_23 u0_24 u0_25 u0_26 u0_27 u0_28 u0_29 u0_30 o_y1_s) := by
  refine MI.start (cc := cX9_turns) (maxL := 3) (ret := (some .int)) rfl rfl (nle rfl) ?_
  intro p e s m args below meth c A ls Q hQ hexec hb hr hts hown hlocks hml hA hP hD hG hS hl
  unfold f_X9_turns at hf
  have hWX9 : ∀ w ∈ wsX90, w.before args s = true := fun w h => hts w (List.mem_cons_of_mem _ (List.mem_append_right _ h))
  have hS : va_S A s.heap s.heap [] := hS
  refine lv_aload_n (pc := 0) hexec hb dX9_turns_0 rfl (lv_at hl 0 rfl) ?_
  refine kg_get (pc := 1) hexec hb (own := RX9) hWX9 hown hG hP 0 rfl rfl 0 (nle rfl) (hts _ (List.mem_cons_of_mem _ (List.mem_append_left _ (List.mem_of_getElem? (i := 0) rfl)))) rfl rfl dX9_turns_1 ?_
  refine lv_iconst (pc := 4) hexec hb dX9_turns_4 ki_5 ?_
  refine kr_iald (pc := 5) hexec hb hG hP 1 rfl hf dX9_turns_5 (fun hf => ?_)
  refine lv_iload_n (pc := 6) hexec hb dX9_turns_6 rfl (lv_at hl 1 rfl) ?_
  obtain ⟨r7, hc, hf⟩ := bd1_e hf
  refine kSp (pc := 7) (S := ⟨hexec, hb, hml, hown, hts⟩) hP hD hG hA hS [] [0, 1] [0, 1] (w2 := (w_X9_turns g a0 a1 u0_1 u0_2 u0_3 u0_4 u0_5 u0_6 u0_7 u0_8 u0_9 u0_10 u0_11 u0_12 u0_13 u0_14 u0_15 u0_16 u0_17 u0_18 u0_19 u0_20 u0_21 u0_22 u0_23 u0_24 u0_25 u0_26 u0_27 u0_28 u0_29 u0_30 y1_s)) rfl rfl rfl rfl rfl rfl (by decide) (c_X9_quarters l g _ (y1_s (5 : Int32).toNatClampNeg) p1 r7 hc) gX9_turns_X9_quarters rfl hs_X9_quarters ⟨nle rfl, nle rfl⟩ (rest := []) rfl rfl hl.1 (nle rfl) dX9_turns_7 (fun H locs hP hD hS => ?_)
  refine lv_istore_n (pc := 10) hexec hb dX9_turns_10 rfl hl (nle rfl) rfl (fun ls (hl : lv_has ls 3 [(2, .int r7), (0, .ref a0), (1, .int p1)]) => ?_)
  refine lv_aload_n (pc := 11) hexec hb dX9_turns_11 rfl (lv_at hl 1 rfl) ?_
  refine kg_get (pc := 12) hexec hb (own := RX9) hWX9 hown hG hP 0 rfl rfl 0 (nle rfl) (hts _ (List.mem_cons_of_mem _ (List.mem_append_left _ (List.mem_of_getElem? (i := 0) rfl)))) rfl rfl dX9_turns_12 ?_
  refine lv_iconst (pc := 15) hexec hb dX9_turns_15 ki_5 ?_
  refine lv_iload_n (pc := 16) hexec hb dX9_turns_16 rfl (lv_at hl 2 rfl) ?_
  refine kw_iast (pc := 17) hexec hb hG hP hD hS 1 rfl hf dX9_turns_17 (fun y1_s_1 H locs hf (hP : va_P g.1 vwCl (w_X9_turns g a0 a1 u0_1 u0_2 u0_3 u0_4 u0_5 u0_6 u0_7 u0_8 u0_9 u0_10 u0_11 u0_12 u0_13 u0_14 u0_15 u0_16 u0_17 u0_18 u0_19 u0_20 u0_21 u0_22 u0_23 u0_24 u0_25 u0_26 u0_27 u0_28 u0_29 u0_30 y1_s_1) H) (hD : va_D A (w_X9_turns g a0 a1 u0_1 u0_2 u0_3 u0_4 u0_5 u0_6 u0_7 u0_8 u0_9 u0_10 u0_11 u0_12 u0_13 u0_14 u0_15 u0_16 u0_17 u0_18 u0_19 u0_20 u0_21 u0_22 u0_23 u0_24 u0_25 u0_26 u0_27 u0_28 u0_29 u0_30 y1_s_1)) hS => ?_)
  refine lv_aload_n (pc := 18) hexec hb dX9_turns_18 rfl (lv_at hl 1 rfl) ?_
  refine kg_get (pc := 19) hexec hb (own := RX9) hWX9 hown hG hP 0 rfl rfl 0 (nle rfl) (hts _ (List.mem_cons_of_mem _ (List.mem_append_left _ (List.mem_of_getElem? (i := 0) rfl)))) rfl rfl dX9_turns_19 ?_
  refine lv_bipush (pc := 22) hexec hb dX9_turns_22 kb_7 ?_
  refine lv_dup2_11 (pc := 24) hexec hb dX9_turns_24 rfl rfl ?_
  refine kr_iald (pc := 25) hexec hb hG hP 1 rfl hf dX9_turns_25 (fun hf => ?_)
  refine lv_iload_n (pc := 26) hexec hb dX9_turns_26 rfl (lv_at hl 0 rfl) ?_
  refine lv_iadd (pc := 27) hexec hb dX9_turns_27 ?_
  refine kw_iast (pc := 28) hexec hb hG hP hD hS 1 rfl hf dX9_turns_28 (fun y1_s_2 H locs hf (hP : va_P g.1 vwCl (w_X9_turns g a0 a1 u0_1 u0_2 u0_3 u0_4 u0_5 u0_6 u0_7 u0_8 u0_9 u0_10 u0_11 u0_12 u0_13 u0_14 u0_15 u0_16 u0_17 u0_18 u0_19 u0_20 u0_21 u0_22 u0_23 u0_24 u0_25 u0_26 u0_27 u0_28 u0_29 u0_30 y1_s_2) H) (hD : va_D A (w_X9_turns g a0 a1 u0_1 u0_2 u0_3 u0_4 u0_5 u0_6 u0_7 u0_8 u0_9 u0_10 u0_11 u0_12 u0_13 u0_14 u0_15 u0_16 u0_17 u0_18 u0_19 u0_20 u0_21 u0_22 u0_23 u0_24 u0_25 u0_26 u0_27 u0_28 u0_29 u0_30 y1_s_2)) hS => ?_)
  refine lv_iload_n (pc := 29) hexec hb dX9_turns_29 rfl (lv_at hl 0 rfl) ?_
  cases hf
  exact ke_i hQ hexec hb hr hP hD hS dX9_turns_30 hlocks
abbrev w_X9_isRedIn (g : GE) (a0 a1 : Nat) (u0_1 u0_2 u0_3 u0_4 u0_5 u0_6 u0_7 u0_8 u0_9 u0_10 u0_11 u0_12 u0_13 u0_14 u0_15 u0_16 u0_17 u0_18 u0_19 u0_20 u0_21 u0_22 u0_23 u0_24 u0_25 u0_26 u0_27 u0_28 u0_29 u0_30 : Value) (y1_s : Nat → Int32) : va_W := [(a0, .inr (9, [.ref a1, u0_1, u0_2, u0_3, u0_4, u0_5, u0_6, u0_7, u0_8, u0_9, u0_10, u0_11, u0_12, u0_13, u0_14, u0_15, u0_16, u0_17, u0_18, u0_19, u0_20, u0_21, u0_22, u0_23, u0_24, u0_25, u0_26, u0_27, u0_28, u0_29, u0_30])), (a1, .inl (g.2.1 0, 552, .inl y1_s))]
noncomputable def f_X9_isRedIn (y1_s : Nat → Int32) (p1 : Int32) : Option (Int32) :=
  bv (fun (v2 : Int32) (v3 : Int32) => ((
    ar 2 552 <|
    (if (y1_s (2 : Int32).toNatClampNeg) ≤ v3 then (
      some (.inr v2)
    ) else (
      bv (fun (t41 : Int32) => ((
        bv (v3 + 1) fun v3_1 =>
        some (.inl (t41, v3_1))
        ) : Option ((Int32 × Int32) ⊕ (Int32)))) fun j41 =>
      bv (fun (_ : Unit) => ((
        j41 1
        ) : Option ((Int32 × Int32) ⊕ (Int32)))) fun j36 =>
      (if v2 = 0 then (
        bd1 (f_X9_isRed y1_s v3) fun (r20 : Int32) =>
        bv (fun (_ : Unit) => ((
          j41 0
          ) : Option ((Int32 × Int32) ⊕ (Int32)))) fun j40 =>
        (if r20 = 0 then (
          j40 ()
        ) else (
          bd1 (f_X9_letterOf y1_s v3 p1) fun (r29 : Int32) =>
          (if r29 = (-1) then (
            j40 ()
          ) else (
            j36 ()
          ))
        ))
      ) else (
        j36 ()
      ))
    ))
    ) : Option ((Int32 × Int32) ⊕ (Int32)))) fun l4 =>
  bd1 (lq2 l4 0 0) fun (v2_1 : Int32) =>
  zb v2_1 (some v2_1)
set_option maxRecDepth 4000 in
theorem c_X9_isRedIn (l : Launch) (g : GE) (a0 a1 : Nat) (sz : Nat) (u0_1 u0_2 u0_3 u0_4 u0_5 u0_6 u0_7 u0_8 u0_9 u0_10 u0_11 u0_12 u0_13 u0_14 u0_15 u0_16 u0_17 u0_18 u0_19 u0_20 u0_21 u0_22 u0_23 u0_24 u0_25 u0_26 u0_27 u0_28 u0_29 u0_30 : Value) (y1_s : Nat → Int32) (p1 : Int32) (r : Int32) (hf : f_X9_isRedIn y1_s p1 = some r) : MI l g yX9_isRedIn wsX9_isRedIn 5 120 [.ref a0, .int p1] (w_X9_isRedIn g a0 a1 u0_1 u0_2 u0_3 u0_4 u0_5 u0_6 u0_7 u0_8 u0_9 u0_10 u0_11 u0_12 u0_13 u0_14 u0_15 u0_16 u0_17 u0_18 u0_19 u0_20 u0_21 u0_22 u0_23 u0_24 u0_25 u0_26 u0_27 u0_28 u0_29 u0_30 y1_s) sz (some (.int r)) (w_X9_isRedIn g a0 a1 u0_1 u0_2 u0_3 u0_4 u0_5 u0_6 u0_7 u0_8 u0_9 u0_10 u0_11 u0_12 u0_13 u0_14 u0_15 u0_16 u0_17 u0_18 u0_19 u0_20 u0_21 u0_22 u0_23 u0_24 u0_25 u0_26 u0_27 u0_28 u0_29 u0_30 y1_s) := by
  refine MI.start (cc := cX9_isRedIn) (maxL := 4) (ret := (some .boolean)) rfl rfl (nle rfl) ?_
  intro p e s m args below meth c A ls Q hQ hexec hb hr hts hown hlocks hml hA hP hD hG hS hl
  unfold f_X9_isRedIn at hf
  have hWX9 : ∀ w ∈ wsX90, w.before args s = true := fun w h => hts w (List.mem_cons_of_mem _ (List.mem_append_right _ h))
  have hS : va_S A s.heap s.heap [] := hS
  refine lv_iconst (pc := 0) hexec hb dX9_isRedIn_0 ki_0 ?_
  refine lv_istore_n (pc := 1) hexec hb dX9_isRedIn_1 rfl hl (nle rfl) rfl (fun ls (hl : lv_has ls 4 [(2, .int 0), (0, .ref a0), (1, .int p1)]) => ?_)
  refine lv_iconst (pc := 2) hexec hb dX9_isRedIn_2 ki_0 ?_
  refine lv_istore_n (pc := 3) hexec hb dX9_isRedIn_3 rfl hl (nle rfl) rfl (fun ls (hl : lv_has ls 4 [(3, .int 0), (2, .int 0), (0, .ref a0), (1, .int p1)]) => ?_)
  obtain ⟨l4, el4, hf⟩ := bvf2 hf
  obtain ⟨v2_1, hz, hf⟩ := bd1_e hf
  have hE4 : ∀ (H : Heap) (locs : List Loc) (ls : Array Slot), va_P g.1 vwCl (w_X9_isRedIn g a0 a1 u0_1 u0_2 u0_3 u0_4 u0_5 u0_6 u0_7 u0_8 u0_9 u0_10 u0_11 u0_12 u0_13 u0_14 u0_15 u0_16 u0_17 u0_18 u0_19 u0_20 u0_21 u0_22 u0_23 u0_24 u0_25 u0_26 u0_27 u0_28 u0_29 u0_30 y1_s) H → va_D A (w_X9_isRedIn g a0 a1 u0_1 u0_2 u0_3 u0_4 u0_5 u0_6 u0_7 u0_8 u0_9 u0_10 u0_11 u0_12 u0_13 u0_14 u0_15 u0_16 u0_17 u0_18 u0_19 u0_20 u0_21 u0_22 u0_23 u0_24 u0_25 u0_26 u0_27 u0_28 u0_29 u0_30 y1_s) → va_S A s.heap H locs → lv_has ls 4 [(2, .int v2_1)] → W p l e (RM 5 120) s m args below meth c H locs 0 0 Q (F0 m 48 ls []) := by
    intro H locs ls hP hD hS hl
    refine lv_iload_n (pc := 48) hexec hb dX9_isRedIn_48 rfl (lv_at hl 0 rfl) ?_
    obtain ⟨hx, hf⟩ := zb_e hf
    cases hf
    exact ke_z hQ hexec hb hr hx hP hD hS dX9_isRedIn_49 hlocks
  obtain ⟨n, hz⟩ := lq2_e hz
  have hL4 : ∀ (n : Nat) (v2 : Int32) (v3 : Int32) (H : Heap) (locs : List Loc) (ls : Array Slot), it2 l4 n v2 v3 = some v2_1 → va_P g.1 vwCl (w_X9_isRedIn g a0 a1 u0_1 u0_2 u0_3 u0_4 u0_5 u0_6 u0_7 u0_8 u0_9 u0_10 u0_11 u0_12 u0_13 u0_14 u0_15 u0_16 u0_17 u0_18 u0_19 u0_20 u0_21 u0_22 u0_23 u0_24 u0_25 u0_26 u0_27 u0_28 u0_29 u0_30 y1_s) H → va_D A (w_X9_isRedIn g a0 a1 u0_1 u0_2 u0_3 u0_4 u0_5 u0_6 u0_7 u0_8 u0_9 u0_10 u0_11 u0_12 u0_13 u0_14 u0_15 u0_16 u0_17 u0_18 u0_19 u0_20 u0_21 u0_22 u0_23 u0_24 u0_25 u0_26 u0_27 u0_28 u0_29 u0_30 y1_s) → va_S A s.heap H locs → lv_has ls 4 [(0, .ref a0), (1, .int p1), (2, .int v2), (3, .int v3)] → W p l e (RM 5 120) s m args below meth c H locs 0 0 Q (F0 m 4 ls []) := by
    intro n
    induction n with
    | zero =>
      intro v2 v3 H locs ls hf hP hD hS hl
      exact it2_0 hf
    | succ n4 ih4 =>
      intro v2 v3 H locs ls hf hP hD hS hl
      obtain ⟨q4, hf, hk4⟩ := it2_e hf
      have hf := (el4 v2 v3).symm.trans hf
      refine lv_iload_n (pc := 4) hexec hb dX9_isRedIn_4 rfl (lv_at hl 3 rfl) ?_
      refine lv_aload_n (pc := 5) hexec hb dX9_isRedIn_5 rfl (lv_at hl 0 rfl) ?_
      refine kg_get (pc := 6) hexec hb (own := RX9) hWX9 hown hG hP 0 rfl rfl 0 (nle rfl) (hts _ (List.mem_cons_of_mem _ (List.mem_append_left _ (List.mem_append_left _ (List.mem_of_getElem? (i := 0) rfl))))) rfl rfl dX9_isRedIn_6 ?_
      refine lv_iconst (pc := 9) hexec hb dX9_isRedIn_9 ki_2 ?_
      refine kr_iald (pc := 10) hexec hb hG hP 1 rfl hf dX9_isRedIn_10 (fun hf => ?_)
      refine ki_ge (pc := 11) hexec hb dX9_isRedIn_11 (tgt := 48) rfl hf (fun hc hf => ?_) (fun hc hf => ?_)
      · cases sr2 hf hk4
        exact hE4 _ _ _ hP hD hS (lv_sub hl [2] rfl)
      · refine lv_iload_n (pc := 14) hexec hb dX9_isRedIn_14 rfl (lv_at hl 2 rfl) ?_
        obtain ⟨j41, ej41, hf⟩ := bvf1 hf
        have hj41 : ∀ (t41 : Int32) (H : Heap) (locs : List Loc) (ls : Array Slot), j41 t41 = some q4 → va_P g.1 vwCl (w_X9_isRedIn g a0 a1 u0_1 u0_2 u0_3 u0_4 u0_5 u0_6 u0_7 u0_8 u0_9 u0_10 u0_11 u0_12 u0_13 u0_14 u0_15 u0_16 u0_17 u0_18 u0_19 u0_20 u0_21 u0_22 u0_23 u0_24 u0_25 u0_26 u0_27 u0_28 u0_29 u0_30 y1_s) H → va_D A (w_X9_isRedIn g a0 a1 u0_1 u0_2 u0_3 u0_4 u0_5 u0_6 u0_7 u0_8 u0_9 u0_10 u0_11 u0_12 u0_13 u0_14 u0_15 u0_16 u0_17 u0_18 u0_19 u0_20 u0_21 u0_22 u0_23 u0_24 u0_25 u0_26 u0_27 u0_28 u0_29 u0_30 y1_s) → va_S A s.heap H locs → lv_has ls 4 [(0, .ref a0), (1, .int p1), (3, .int v3)] → W p l e (RM 5 120) s m args below meth c H locs 0 0 Q (F0 m 41 ls [.int t41]) := by
          intro t41 H locs ls hf hP hD hS hl
          have hf := (ej41 t41).symm.trans hf
          refine lv_istore_n (pc := 41) hexec hb dX9_isRedIn_41 rfl hl (nle rfl) rfl (fun ls (hl : lv_has ls 4 [(2, .int t41), (0, .ref a0), (1, .int p1), (3, .int v3)]) => ?_)
          obtain ⟨v3_1, ev3_1, hf⟩ := bv_e hf
          refine k_iinc (pc := 42) hexec hb dX9_isRedIn_42 kq_1 hl (k := 3) rfl ev3_1 (nle rfl) rfl (fun ls (hl : lv_has ls 4 [(3, .int v3_1), (2, .int t41), (0, .ref a0), (1, .int p1)]) => ?_)
          refine lv_goto (pc := 45) hexec hb dX9_isRedIn_45 (tgt := 4) rfl ?_
          exact ih4 _ _ _ _ _ (sl2 hf hk4) hP hD hS (lv_sub hl [2, 3, 1, 0] rfl)
        obtain ⟨j36, ej36, hf⟩ := bvf1 hf
        have hj36 : ∀ (u : Unit) (H : Heap) (locs : List Loc) (ls : Array Slot), j36 u = some q4 → va_P g.1 vwCl (w_X9_isRedIn g a0 a1 u0_1 u0_2 u0_3 u0_4 u0_5 u0_6 u0_7 u0_8 u0_9 u0_10 u0_11 u0_12 u0_13 u0_14 u0_15 u0_16 u0_17 u0_18 u0_19 u0_20 u0_21 u0_22 u0_23 u0_24 u0_25 u0_26 u0_27 u0_28 u0_29 u0_30 y1_s) H → va_D A (w_X9_isRedIn g a0 a1 u0_1 u0_2 u0_3 u0_4 u0_5 u0_6 u0_7 u0_8 u0_9 u0_10 u0_11 u0_12 u0_13 u0_14 u0_15 u0_16 u0_17 u0_18 u0_19 u0_20 u0_21 u0_22 u0_23 u0_24 u0_25 u0_26 u0_27 u0_28 u0_29 u0_30 y1_s) → va_S A s.heap H locs → lv_has ls 4 [(0, .ref a0), (1, .int p1), (3, .int v3)] → W p l e (RM 5 120) s m args below meth c H locs 0 0 Q (F0 m 36 ls []) := by
          intro u H locs ls hf hP hD hS hl
          have hf := (ej36 u).symm.trans hf
          refine lv_iconst (pc := 36) hexec hb dX9_isRedIn_36 ki_1 ?_
          refine lv_goto (pc := 37) hexec hb dX9_isRedIn_37 (tgt := 41) rfl ?_
          exact hj41 _ _ _ _ hf hP hD hS (lv_sub hl [0, 1, 2] rfl)
        refine kb_ne (pc := 15) hexec hb dX9_isRedIn_15 (tgt := 36) rfl hf (fun hc hf => ?_) (fun hc hf => ?_)
        · exact hj36 _ _ _ _ hf hP hD hS (lv_sub hl [0, 1, 3] rfl)
        · refine lv_aload_n (pc := 18) hexec hb dX9_isRedIn_18 rfl (lv_at hl 0 rfl) ?_
          refine lv_iload_n (pc := 19) hexec hb dX9_isRedIn_19 rfl (lv_at hl 3 rfl) ?_
          obtain ⟨r20, hc, hf⟩ := bd1_e hf
          refine kVp (pc := 20) (S := ⟨hexec, hb, hml, hown, hts⟩) hP hD hG hA hS [0, 1] [] [0, 1] (w2 := (w_X9_isRedIn g a0 a1 u0_1 u0_2 u0_3 u0_4 u0_5 u0_6 u0_7 u0_8 u0_9 u0_10 u0_11 u0_12 u0_13 u0_14 u0_15 u0_16 u0_17 u0_18 u0_19 u0_20 u0_21 u0_22 u0_23 u0_24 u0_25 u0_26 u0_27 u0_28 u0_29 u0_30 y1_s)) rfl rfl rfl rfl rfl rfl (by decide) (c_X9_isRed l g a0 a1 _ u0_1 u0_2 u0_3 u0_4 u0_5 u0_6 u0_7 u0_8 u0_9 u0_10 u0_11 u0_12 u0_13 u0_14 u0_15 u0_16 u0_17 u0_18 u0_19 u0_20 u0_21 u0_22 u0_23 u0_24 u0_25 u0_26 u0_27 u0_28 u0_29 u0_30 y1_s v3 r20 hc) gX9_isRedIn_X9_isRed rfl hv_X9_isRed ⟨nle rfl, nle rfl⟩ 9 0 rfl rfl rfl (rest := []) rfl rfl hl.1 (nle rfl) dX9_isRedIn_20 (fun H locs hP hD hS => ?_)
          obtain ⟨j40, ej40, hf⟩ := bvf1 hf
          have hj40 : ∀ (u : Unit) (H : Heap) (locs : List Loc) (ls : Array Slot), j40 u = some q4 → va_P g.1 vwCl (w_X9_isRedIn g a0 a1 u0_1 u0_2 u0_3 u0_4 u0_5 u0_6 u0_7 u0_8 u0_9 u0_10 u0_11 u0_12 u0_13 u0_14 u0_15 u0_16 u0_17 u0_18 u0_19 u0_20 u0_21 u0_22 u0_23 u0_24 u0_25 u0_26 u0_27 u0_28 u0_29 u0_30 y1_s) H → va_D A (w_X9_isRedIn g a0 a1 u0_1 u0_2 u0_3 u0_4 u0_5 u0_6 u0_7 u0_8 u0_9 u0_10 u0_11 u0_12 u0_13 u0_14 u0_15 u0_16 u0_17 u0_18 u0_19 u0_20 u0_21 u0_22 u0_23 u0_24 u0_25 u0_26 u0_27 u0_28 u0_29 u0_30 y1_s) → va_S A s.heap H locs → lv_has ls 4 [(0, .ref a0), (1, .int p1), (3, .int v3)] → W p l e (RM 5 120) s m args below meth c H locs 0 0 Q (F0 m 40 ls []) := by
            intro u H locs ls hf hP hD hS hl
            have hf := (ej40 u).symm.trans hf
            refine lv_iconst (pc := 40) hexec hb dX9_isRedIn_40 ki_0 ?_
            exact hj41 _ _ _ _ hf hP hD hS (lv_sub hl [0, 1, 2] rfl)
          refine kb_eq (pc := 23) hexec hb dX9_isRedIn_23 (tgt := 40) rfl hf (fun hc hf => ?_) (fun hc hf => ?_)
          · exact hj40 _ _ _ _ hf hP hD hS (lv_sub hl [0, 1, 3] rfl)
          · refine lv_aload_n (pc := 26) hexec hb dX9_isRedIn_26 rfl (lv_at hl 0 rfl) ?_
            refine lv_iload_n (pc := 27) hexec hb dX9_isRedIn_27 rfl (lv_at hl 3 rfl) ?_
            refine lv_iload_n (pc := 28) hexec hb dX9_isRedIn_28 rfl (lv_at hl 1 rfl) ?_
            obtain ⟨r29, hc, hf⟩ := bd1_e hf
            refine kVp (pc := 29) (S := ⟨hexec, hb, hml, hown, hts⟩) hP hD hG hA hS [0, 1] [] [0, 1] (w2 := (w_X9_isRedIn g a0 a1 u0_1 u0_2 u0_3 u0_4 u0_5 u0_6 u0_7 u0_8 u0_9 u0_10 u0_11 u0_12 u0_13 u0_14 u0_15 u0_16 u0_17 u0_18 u0_19 u0_20 u0_21 u0_22 u0_23 u0_24 u0_25 u0_26 u0_27 u0_28 u0_29 u0_30 y1_s)) rfl rfl rfl rfl rfl rfl (by decide) (c_X9_letterOf l g a0 a1 _ u0_1 u0_2 u0_3 u0_4 u0_5 u0_6 u0_7 u0_8 u0_9 u0_10 u0_11 u0_12 u0_13 u0_14 u0_15 u0_16 u0_17 u0_18 u0_19 u0_20 u0_21 u0_22 u0_23 u0_24 u0_25 u0_26 u0_27 u0_28 u0_29 u0_30 y1_s v3 p1 r29 hc) gX9_isRedIn_X9_letterOf rfl hv_X9_letterOf ⟨nle rfl, nle rfl⟩ 9 0 rfl rfl rfl (rest := []) rfl rfl hl.1 (nle rfl) dX9_isRedIn_29 (fun H locs hP hD hS => ?_)
            refine lv_iconst (pc := 32) hexec hb dX9_isRedIn_32 ki_m1 ?_
            refine ki_eq (pc := 33) hexec hb dX9_isRedIn_33 (tgt := 40) rfl hf (fun hc hf => ?_) (fun hc hf => ?_)
            · exact hj40 _ _ _ _ hf hP hD hS (lv_sub hl [0, 1, 3] rfl)
            · exact hj36 _ _ _ _ hf hP hD hS (lv_sub hl [0, 1, 3] rfl)
  exact hL4 n _ _ _ _ _ hz hP hD hS (lv_sub hl [2, 3, 1, 0] rfl)
abbrev w_X9_signOf (g : GE) (a0 a1 : Nat) (u0_1 u0_2 u0_3 u0_4 u0_5 u0_6 u0_7 u0_8 u0_9 u0_10 u0_11 u0_12 u0_13 u0_14 u0_15 u0_16 u0_17 u0_18 u0_19 u0_20 u0_21 u0_22 u0_23 u0_24 u0_25 u0_26 u0_27 u0_28 u0_29 u0_30 : Value) (y1_s : Nat → Int32) : va_W := [(a0, .inr (9, [.ref a1, u0_1, u0_2, u0_3, u0_4, u0_5, u0_6, u0_7, u0_8, u0_9, u0_10, u0_11, u0_12, u0_13, u0_14, u0_15, u0_16, u0_17, u0_18, u0_19, u0_20, u0_21, u0_22, u0_23, u0_24, u0_25, u0_26, u0_27, u0_28, u0_29, u0_30])), (a1, .inl (g.2.1 0, 552, .inl y1_s))]
noncomputable def f_X9_signOf (y1_s : Nat → Int32) (p1 : Int32) : Option (Int32) :=
  bd1 (f_X9_isLand y1_s p1) fun (r2 : Int32) =>
  (if r2 = 0 then (
    some 126
  ) else (
    bd1 (f_X9_harbourAt y1_s p1 (-1)) fun (r14 : Int32) =>
    (if r14 = (-1) then (
      bd1 (f_X9_letterAt y1_s p1) fun (r26 : Int32) =>
      (if r26 = (-1) then (
        bd1 (f_X9_isRiver y1_s p1) fun (r54 : Int32) =>
        (if r54 = 0 then (
          some 46
        ) else (
          some 61
        ))
      ) else (
        bd1 (f_X9_isRedIn y1_s p1) fun (r37 : Int32) =>
        (if r37 = 0 then (
          some r26
        ) else (
          some (r26 - 32)
        ))
      ))
    ) else (
      some 64
    ))
  ))
set_option maxRecDepth 4000 in
theorem c_X9_signOf (l : Launch) (g : GE) (a0 a1 : Nat) (sz : Nat) (u0_1 u0_2 u0_3 u0_4 u0_5 u0_6 u0_7 u0_8 u0_9 u0_10 u0_11 u0_12 u0_13 u0_14 u0_15 u0_16 u0_17 u0_18 u0_19 u0_20 u0_21 u0_22 u0_23 u0_24 u0_25 u0_26 u0_27 u0_28 u0_29 u0_30 : Value) (y1_s : Nat → Int32) (p1 : Int32) (r : Int32) (hf : f_X9_signOf y1_s p1 = some r) : MI l g yX9_signOf wsX9_signOf 6 143 [.ref a0, .int p1] (w_X9_signOf g a0 a1 u0_1 u0_2 u0_3 u0_4 u0_5 u0_6 u0_7 u0_8 u0_9 u0_10 u0_11 u0_12 u0_13 u0_14 u0_15 u0_16 u0_17 u0_18 u0_19 u0_20 u0_21 u0_22 u0_23 u0_24 u0_25 u0_26 u0_27 u0_28 u0_29 u0_30 y1_s) sz (some (.int r)) (w_X9_signOf g a0 a1 u0_1 u0_2 u0_3 u0_4 u0_5 u0_6 u0_7 u0_8 u0_9 u0_10 u0_11 u0_12 u0_13 u0_14 u0_15 u0_16 u0_17 u0_18 u0_19 u0_20 u0_21 u0_22 u0_23 u0_24 u0_25 u0_26 u0_27 u0_28 u0_29 u0_30 y1_s) := by
  refine MI.start (cc := cX9_signOf) (maxL := 3) (ret := (some .int)) rfl rfl (nle rfl) ?_
  intro p e s m args below meth c A ls Q hQ hexec hb hr hts hown hlocks hml hA hP hD hG hS hl
  unfold f_X9_signOf at hf
  have hWX9 : ∀ w ∈ wsX90, w.before args s = true := fun w h => hts w (List.mem_cons_of_mem _ (List.mem_append_right _ h))
  have hS : va_S A s.heap s.heap [] := hS
  refine lv_aload_n (pc := 0) hexec hb dX9_signOf_0 rfl (lv_at hl 0 rfl) ?_
  refine lv_iload_n (pc := 1) hexec hb dX9_signOf_1 rfl (lv_at hl 1 rfl) ?_
  obtain ⟨r2, hc, hf⟩ := bd1_e hf
  refine kVp (pc := 2) (S := ⟨hexec, hb, hml, hown, hts⟩) hP hD hG hA hS [0, 1] [] [0, 1] (w2 := (w_X9_signOf g a0 a1 u0_1 u0_2 u0_3 u0_4 u0_5 u0_6 u0_7 u0_8 u0_9 u0_10 u0_11 u0_12 u0_13 u0_14 u0_15 u0_16 u0_17 u0_18 u0_19 u0_20 u0_21 u0_22 u0_23 u0_24 u0_25 u0_26 u0_27 u0_28 u0_29 u0_30 y1_s)) rfl rfl rfl rfl rfl rfl (by decide) (c_X9_isLand l g a0 a1 _ u0_1 u0_2 u0_3 u0_4 u0_5 u0_6 u0_7 u0_8 u0_9 u0_10 u0_11 u0_12 u0_13 u0_14 u0_15 u0_16 u0_17 u0_18 u0_19 u0_20 u0_21 u0_22 u0_23 u0_24 u0_25 u0_26 u0_27 u0_28 u0_29 u0_30 y1_s p1 r2 hc) gX9_signOf_X9_isLand rfl hv_X9_isLand ⟨nle rfl, nle rfl⟩ 9 0 rfl rfl rfl (rest := []) rfl rfl hl.1 (nle rfl) dX9_signOf_2 (fun H locs hP hD hS => ?_)
  refine kb_ne (pc := 5) hexec hb dX9_signOf_5 (tgt := 11) rfl hf (fun hc hf => ?_) (fun hc hf => ?_)
  · refine lv_aload_n (pc := 11) hexec hb dX9_signOf_11 rfl (lv_at hl 0 rfl) ?_
    refine lv_iload_n (pc := 12) hexec hb dX9_signOf_12 rfl (lv_at hl 1 rfl) ?_
    refine lv_iconst (pc := 13) hexec hb dX9_signOf_13 ki_m1 ?_
    obtain ⟨r14, hc, hf⟩ := bd1_e hf
    refine kVp (pc := 14) (S := ⟨hexec, hb, hml, hown, hts⟩) hP hD hG hA hS [0, 1] [] [0, 1] (w2 := (w_X9_signOf g a0 a1 u0_1 u0_2 u0_3 u0_4 u0_5 u0_6 u0_7 u0_8 u0_9 u0_10 u0_11 u0_12 u0_13 u0_14 u0_15 u0_16 u0_17 u0_18 u0_19 u0_20 u0_21 u0_22 u0_23 u0_24 u0_25 u0_26 u0_27 u0_28 u0_29 u0_30 y1_s)) rfl rfl rfl rfl rfl rfl (by decide) (c_X9_harbourAt l g a0 a1 _ u0_1 u0_2 u0_3 u0_4 u0_5 u0_6 u0_7 u0_8 u0_9 u0_10 u0_11 u0_12 u0_13 u0_14 u0_15 u0_16 u0_17 u0_18 u0_19 u0_20 u0_21 u0_22 u0_23 u0_24 u0_25 u0_26 u0_27 u0_28 u0_29 u0_30 y1_s p1 (-1) r14 hc) gX9_signOf_X9_harbourAt rfl hv_X9_harbourAt ⟨nle rfl, nle rfl⟩ 9 0 rfl rfl rfl (rest := []) rfl rfl hl.1 (nle rfl) dX9_signOf_14 (fun H locs hP hD hS => ?_)
    refine lv_iconst (pc := 17) hexec hb dX9_signOf_17 ki_m1 ?_
    refine ki_eq (pc := 18) hexec hb dX9_signOf_18 (tgt := 24) rfl hf (fun hc hf => ?_) (fun hc hf => ?_)
    · refine lv_aload_n (pc := 24) hexec hb dX9_signOf_24 rfl (lv_at hl 0 rfl) ?_
      refine lv_iload_n (pc := 25) hexec hb dX9_signOf_25 rfl (lv_at hl 1 rfl) ?_
      obtain ⟨r26, hc, hf⟩ := bd1_e hf
      refine kVp (pc := 26) (S := ⟨hexec, hb, hml, hown, hts⟩) hP hD hG hA hS [0, 1] [] [0, 1] (w2 := (w_X9_signOf g a0 a1 u0_1 u0_2 u0_3 u0_4 u0_5 u0_6 u0_7 u0_8 u0_9 u0_10 u0_11 u0_12 u0_13 u0_14 u0_15 u0_16 u0_17 u0_18 u0_19 u0_20 u0_21 u0_22 u0_23 u0_24 u0_25 u0_26 u0_27 u0_28 u0_29 u0_30 y1_s)) rfl rfl rfl rfl rfl rfl (by decide) (c_X9_letterAt l g a0 a1 _ u0_1 u0_2 u0_3 u0_4 u0_5 u0_6 u0_7 u0_8 u0_9 u0_10 u0_11 u0_12 u0_13 u0_14 u0_15 u0_16 u0_17 u0_18 u0_19 u0_20 u0_21 u0_22 u0_23 u0_24 u0_25 u0_26 u0_27 u0_28 u0_29 u0_30 y1_s p1 r26 hc) gX9_signOf_X9_letterAt rfl hv_X9_letterAt ⟨nle rfl, nle rfl⟩ 9 0 rfl rfl rfl (rest := []) rfl rfl hl.1 (nle rfl) dX9_signOf_26 (fun H locs hP hD hS => ?_)
      refine lv_istore_n (pc := 29) hexec hb dX9_signOf_29 rfl hl (nle rfl) rfl (fun ls (hl : lv_has ls 3 [(2, .int r26), (0, .ref a0), (1, .int p1)]) => ?_)
      refine lv_iload_n (pc := 30) hexec hb dX9_signOf_30 rfl (lv_at hl 0 rfl) ?_
      refine lv_iconst (pc := 31) hexec hb dX9_signOf_31 ki_m1 ?_
      refine ki_eq (pc := 32) hexec hb dX9_signOf_32 (tgt := 52) rfl hf (fun hc hf => ?_) (fun hc hf => ?_)
      · refine lv_aload_n (pc := 52) hexec hb dX9_signOf_52 rfl (lv_at hl 1 rfl) ?_
        refine lv_iload_n (pc := 53) hexec hb dX9_signOf_53 rfl (lv_at hl 2 rfl) ?_
        obtain ⟨r54, hc, hf⟩ := bd1_e hf
        refine kVp (pc := 54) (S := ⟨hexec, hb, hml, hown, hts⟩) hP hD hG hA hS [0, 1] [] [0, 1] (w2 := (w_X9_signOf g a0 a1 u0_1 u0_2 u0_3 u0_4 u0_5 u0_6 u0_7 u0_8 u0_9 u0_10 u0_11 u0_12 u0_13 u0_14 u0_15 u0_16 u0_17 u0_18 u0_19 u0_20 u0_21 u0_22 u0_23 u0_24 u0_25 u0_26 u0_27 u0_28 u0_29 u0_30 y1_s)) rfl rfl rfl rfl rfl rfl (by decide) (c_X9_isRiver l g a0 a1 _ u0_1 u0_2 u0_3 u0_4 u0_5 u0_6 u0_7 u0_8 u0_9 u0_10 u0_11 u0_12 u0_13 u0_14 u0_15 u0_16 u0_17 u0_18 u0_19 u0_20 u0_21 u0_22 u0_23 u0_24 u0_25 u0_26 u0_27 u0_28 u0_29 u0_30 y1_s p1 r54 hc) gX9_signOf_X9_isRiver rfl hv_X9_isRiver ⟨nle rfl, nle rfl⟩ 9 0 rfl rfl rfl (rest := []) rfl rfl hl.1 (nle rfl) dX9_signOf_54 (fun H locs hP hD hS => ?_)
        refine kb_eq (pc := 57) hexec hb dX9_signOf_57 (tgt := 65) rfl hf (fun hc hf => ?_) (fun hc hf => ?_)
        · refine lv_bipush (pc := 65) hexec hb dX9_signOf_65 kb_46 ?_
          cases hf
          exact ke_i hQ hexec hb hr hP hD hS dX9_signOf_67 hlocks
        · refine lv_bipush (pc := 60) hexec hb dX9_signOf_60 kb_61 ?_
          refine lv_goto (pc := 62) hexec hb dX9_signOf_62 (tgt := 67) rfl ?_
          cases hf
          exact ke_i hQ hexec hb hr hP hD hS dX9_signOf_67 hlocks
      · refine lv_aload_n (pc := 35) hexec hb dX9_signOf_35 rfl (lv_at hl 1 rfl) ?_
        refine lv_iload_n (pc := 36) hexec hb dX9_signOf_36 rfl (lv_at hl 2 rfl) ?_
        obtain ⟨r37, hc, hf⟩ := bd1_e hf
        refine kVp (pc := 37) (S := ⟨hexec, hb, hml, hown, hts⟩) hP hD hG hA hS [0, 1] [] [0, 1] (w2 := (w_X9_signOf g a0 a1 u0_1 u0_2 u0_3 u0_4 u0_5 u0_6 u0_7 u0_8 u0_9 u0_10 u0_11 u0_12 u0_13 u0_14 u0_15 u0_16 u0_17 u0_18 u0_19 u0_20 u0_21 u0_22 u0_23 u0_24 u0_25 u0_26 u0_27 u0_28 u0_29 u0_30 y1_s)) rfl rfl rfl rfl rfl rfl (by decide) (c_X9_isRedIn l g a0 a1 _ u0_1 u0_2 u0_3 u0_4 u0_5 u0_6 u0_7 u0_8 u0_9 u0_10 u0_11 u0_12 u0_13 u0_14 u0_15 u0_16 u0_17 u0_18 u0_19 u0_20 u0_21 u0_22 u0_23 u0_24 u0_25 u0_26 u0_27 u0_28 u0_29 u0_30 y1_s p1 r37 hc) gX9_signOf_X9_isRedIn rfl hv_X9_isRedIn ⟨nle rfl, nle rfl⟩ 9 0 rfl rfl rfl (rest := []) rfl rfl hl.1 (nle rfl) dX9_signOf_37 (fun H locs hP hD hS => ?_)
        refine kb_eq (pc := 40) hexec hb dX9_signOf_40 (tgt := 50) rfl hf (fun hc hf => ?_) (fun hc hf => ?_)
        · refine lv_iload_n (pc := 50) hexec hb dX9_signOf_50 rfl (lv_at hl 0 rfl) ?_
          cases hf
          exact ke_i hQ hexec hb hr hP hD hS dX9_signOf_51 hlocks
        · refine lv_iload_n (pc := 43) hexec hb dX9_signOf_43 rfl (lv_at hl 0 rfl) ?_
          refine lv_bipush (pc := 44) hexec hb dX9_signOf_44 kb_32 ?_
          refine lv_isub (pc := 46) hexec hb dX9_signOf_46 ?_
          refine lv_goto (pc := 47) hexec hb dX9_signOf_47 (tgt := 51) rfl ?_
          cases hf
          exact ke_i hQ hexec hb hr hP hD hS dX9_signOf_51 hlocks
    · refine lv_bipush (pc := 21) hexec hb dX9_signOf_21 kb_64 ?_
      cases hf
      exact ke_i hQ hexec hb hr hP hD hS dX9_signOf_23 hlocks
  · refine lv_bipush (pc := 8) hexec hb dX9_signOf_8 kb_126 ?_
    cases hf
    exact ke_i hQ hexec hb hr hP hD hS dX9_signOf_10 hlocks
abbrev w_X9_writeRow (g : GE) (a0 a1 a2 : Nat) (u0_1 u0_2 u0_3 u0_4 u0_5 u0_6 u0_8 u0_9 u0_10 u0_11 u0_12 u0_13 u0_14 u0_15 u0_16 u0_17 u0_18 u0_19 u0_20 u0_21 u0_22 u0_23 u0_24 u0_25 u0_26 u0_27 u0_28 : Value) (x0_thrown : Int32) (x0_written : Int32) (y1_output : Nat → Int32) (y2_s : Nat → Int32) : va_W := [(a0, .inr (9, [.ref a2, u0_1, u0_2, u0_3, u0_4, u0_5, u0_6, .int x0_thrown, u0_8, u0_9, u0_10, u0_11, u0_12, u0_13, u0_14, u0_15, u0_16, u0_17, u0_18, u0_19, u0_20, u0_21, u0_22, u0_23, u0_24, u0_25, u0_26, u0_27, u0_28, .ref a1, .int x0_written])), (a1, .inl (g.2.1 0, 12, .inl y1_output)), (a2, .inl (g.2.1 0, 552, .inl y2_s))]
noncomputable def f_X9_writeRow (x0_thrown : Int32) (x0_written : Int32) (y1_output : Nat → Int32) (y2_s : Nat → Int32) (p1 : Int32) : Option (Int32 × Int32 × Int32 × (Nat → Int32)) :=
  ar 0 552 <|
  bd1 (f_X9_isIn (p1.toInt64) 0 ((((y2_s (0 : Int32).toNatClampNeg) - 1)).toInt64)) fun (r13 : Int32) =>
  bd2 (f_X9_passes x0_thrown r13 1) fun (r17 : Int32) (x0_thrown_1 : Int32) =>
  (if r17 = 0 then (
    some (0, x0_thrown_1, x0_written, y1_output)
  ) else (
    bv (fun (v2 : Int32) (x0_written_1 : Int32) (y1_output_1 : Nat → Int32) => ((
      ar 1 552 <|
      (if (y2_s (1 : Int32).toNatClampNeg) ≤ v2 then (
        some (.inr (x0_written_1, y1_output_1))
      ) else (
        ar 1 552 <|
        bd1 (f_X9_signOf y2_s (((y2_s (1 : Int32).toNatClampNeg) * p1) + v2)) fun (r61 : Int32) =>
        ar x0_written_1 12 <| bv (upd y1_output_1 x0_written_1.toNatClampNeg r61) fun y1_output_3 =>
        bv (x0_written_1 + 1) fun x0_written_3 =>
        bv (v2 + 1) fun v2_1 =>
        some (.inl (v2_1, x0_written_3, y1_output_3))
      ))
      ) : Option ((Int32 × Int32 × (Nat → Int32)) ⊕ (Int32 × (Nat → Int32))))) fun l32 =>
    bd2 (lq3 l32 0 0 y1_output) fun (x0_written_2 : Int32) (y1_output_2 : Nat → Int32) =>
    some (x0_written_2, x0_thrown_1, x0_written_2, y1_output_2)
  ))
set_option maxRecDepth 4000 in
theorem c_X9_writeRow (l : Launch) (g : GE) (a0 a1 a2 : Nat) (sz : Nat) (u0_1 u0_2 u0_3 u0_4 u0_5 u0_6 u0_8 u0_9 u0_10 u0_11 u0_12 u0_13 u0_14 u0_15 u0_16 u0_17 u0_18 u0_19 u0_20 u0_21 u0_22 u0_23 u0_24 u0_25 u0_26 u0_27 u0_28 : Value) (x0_thrown : Int32) (x0_written : Int32) (y1_output : Nat → Int32) (y2_s : Nat → Int32) (p1 : Int32) (r : Int32) (o_x0_thrown : Int32) (o_x0_written : Int32) (o_y1_output : Nat → Int32) (hf : f_X9_writeRow x0_thrown x0_written y1_output y2_s p1 = some (r, o_x0_thrown, o_x0_written, o_y1_output)) : MI l g yX9_writeRow wsX9_writeRow 7 165 [.ref a0, .int p1] (w_X9_writeRow g a0 a1 a2 u0_1 u0_2 u0_3 u0_4 u0_5 u0_6 u0_8 u0_9 u0_10 u0_11 u0_12 u0_13 u0_14 u0_15 u0_16 u0_17 u0_18 u0_19 u0_20 u0_21 u0_22 u0_23 u0_24 u0_25 u0_26 u0_27 u0_28 x0_thrown x0_written y1_output y2_s) sz (some (.int r)) (w_X9_writeRow g a0 a1 a2 u0_1 u0_2 u0_3 u0_4 u0_5 u0_6 u0_8 u0_9 u0_10 u0_11 u0_12 u0_13 u0_14 u0_15 u0_16 u0_17 u0_18 u0_19 u0_20 u0_21 u0_22 u0_23 u0_24 u0_25 u0_26 u0_27 u0_28 o_x0_thrown o_x0_written o_y1_output y2_s) := by
  refine MI.start (cc := cX9_writeRow) (maxL := 3) (ret := (some .int)) rfl rfl (nle rfl) ?_
  intro p e s m args below meth c A ls Q hQ hexec hb hr hts hown hlocks hml hA hP hD hG hS hl
  unfold f_X9_writeRow at hf
  have hWX9 : ∀ w ∈ wsX90, w.before args s = true := fun w h => hts w (List.mem_cons_of_mem _ (List.mem_append_right _ h))
  have hS : va_S A s.heap s.heap [] := hS
  refine lv_aload_n (pc := 0) hexec hb dX9_writeRow_0 rfl (lv_at hl 0 rfl) ?_
  refine lv_iload_n (pc := 1) hexec hb dX9_writeRow_1 rfl (lv_at hl 1 rfl) ?_
  refine lv_i2l (pc := 2) hexec hb dX9_writeRow_2 rfl ?_
  refine lv_lconst (pc := 3) hexec hb dX9_writeRow_3 kl_0 ?_
  refine lv_aload_n (pc := 4) hexec hb dX9_writeRow_4 rfl (lv_at hl 0 rfl) ?_
  refine kg_get (pc := 5) hexec hb (own := RX9) hWX9 hown hG hP 0 rfl rfl 0 (nle rfl) (hts _ (List.mem_cons_of_mem _ (List.mem_append_left _ (List.mem_append_left _ (List.mem_of_getElem? (i := 0) rfl))))) rfl rfl dX9_writeRow_5 ?_
  refine lv_iconst (pc := 8) hexec hb dX9_writeRow_8 ki_0 ?_
  refine kr_iald (pc := 9) hexec hb hG hP 2 rfl hf dX9_writeRow_9 (fun hf => ?_)
  refine lv_iconst (pc := 10) hexec hb dX9_writeRow_10 ki_1 ?_
  refine lv_isub (pc := 11) hexec hb dX9_writeRow_11 ?_
  refine lv_i2l (pc := 12) hexec hb dX9_writeRow_12 rfl ?_
  obtain ⟨r13, hc, hf⟩ := bd1_e hf
  refine kSp (pc := 13) (S := ⟨hexec, hb, hml, hown, hts⟩) hP hD hG hA hS [] [0, 1, 2] [0, 1, 2] (w2 := (w_X9_writeRow g a0 a1 a2 u0_1 u0_2 u0_3 u0_4 u0_5 u0_6 u0_8 u0_9 u0_10 u0_11 u0_12 u0_13 u0_14 u0_15 u0_16 u0_17 u0_18 u0_19 u0_20 u0_21 u0_22 u0_23 u0_24 u0_25 u0_26 u0_27 u0_28 x0_thrown x0_written y1_output y2_s)) rfl rfl rfl rfl rfl rfl (by decide) (c_X9_isIn l g _ (p1.toInt64) 0 ((((y2_s (0 : Int32).toNatClampNeg) - 1)).toInt64) r13 hc) gX9_writeRow_X9_isIn rfl hs_X9_isIn ⟨nle rfl, nle rfl⟩ (rest := [.ref a0]) rfl rfl hl.1 (nle rfl) dX9_writeRow_13 (fun H locs hP hD hS => ?_)
  refine lv_iconst (pc := 16) hexec hb dX9_writeRow_16 ki_1 ?_
  obtain ⟨r17, x0_thrown_1, hc, hf⟩ := bd2_e hf
  refine kVp (pc := 17) (S := ⟨hexec, hb, hml, hown, hts⟩) hP hD hG hA hS [0] [1, 2] [2, 0, 1] (w2 := (w_X9_writeRow g a0 a1 a2 u0_1 u0_2 u0_3 u0_4 u0_5 u0_6 u0_8 u0_9 u0_10 u0_11 u0_12 u0_13 u0_14 u0_15 u0_16 u0_17 u0_18 u0_19 u0_20 u0_21 u0_22 u0_23 u0_24 u0_25 u0_26 u0_27 u0_28 x0_thrown_1 x0_written y1_output y2_s)) rfl rfl rfl rfl rfl rfl (by decide) (c_X9_passes l g a0 _ (.ref a2) u0_1 u0_2 u0_3 u0_4 u0_5 u0_6 u0_8 u0_9 u0_10 u0_11 u0_12 u0_13 u0_14 u0_15 u0_16 u0_17 u0_18 u0_19 u0_20 u0_21 u0_22 u0_23 u0_24 u0_25 u0_26 u0_27 u0_28 (.ref a1) (.int x0_written) x0_thrown r13 1 r17 x0_thrown_1 hc) gX9_writeRow_X9_passes rfl hv_X9_passes ⟨nle rfl, nle rfl⟩ 9 0 rfl rfl rfl (rest := []) rfl rfl hl.1 (nle rfl) dX9_writeRow_17 (fun H locs hP hD hS => ?_)
  refine kb_ne (pc := 20) hexec hb dX9_writeRow_20 (tgt := 25) rfl hf (fun hc hf => ?_) (fun hc hf => ?_)
  · refine lv_aload_n (pc := 25) hexec hb dX9_writeRow_25 rfl (lv_at hl 0 rfl) ?_
    refine lv_iconst (pc := 26) hexec hb dX9_writeRow_26 ki_0 ?_
    refine kp_put (pc := 27) hexec hb (own := RX9) hWX9 tyX9 tyX9_ok nmX9 hown hG hP hD hS 0 rfl rfl 30 (nle rfl) (hts _ (List.mem_cons_of_mem _ (List.mem_append_left _ (List.mem_append_left _ (List.mem_of_getElem? (i := 1) rfl))))) rfl rfl rfl rfl (nle rfl) dX9_writeRow_27 (fun H locs (hP : va_P g.1 vwCl (w_X9_writeRow g a0 a1 a2 u0_1 u0_2 u0_3 u0_4 u0_5 u0_6 u0_8 u0_9 u0_10 u0_11 u0_12 u0_13 u0_14 u0_15 u0_16 u0_17 u0_18 u0_19 u0_20 u0_21 u0_22 u0_23 u0_24 u0_25 u0_26 u0_27 u0_28 x0_thrown_1 0 y1_output y2_s) H) (hD : va_D A (w_X9_writeRow g a0 a1 a2 u0_1 u0_2 u0_3 u0_4 u0_5 u0_6 u0_8 u0_9 u0_10 u0_11 u0_12 u0_13 u0_14 u0_15 u0_16 u0_17 u0_18 u0_19 u0_20 u0_21 u0_22 u0_23 u0_24 u0_25 u0_26 u0_27 u0_28 x0_thrown_1 0 y1_output y2_s)) hS => ?_)
    refine lv_iconst (pc := 30) hexec hb dX9_writeRow_30 ki_0 ?_
    refine lv_istore_n (pc := 31) hexec hb dX9_writeRow_31 rfl hl (nle rfl) rfl (fun ls (hl : lv_has ls 3 [(2, .int 0), (0, .ref a0), (1, .int p1)]) => ?_)
    obtain ⟨l32, el32, hf⟩ := bvf3 hf
    obtain ⟨x0_written_2, y1_output_2, hz, hf⟩ := bd2_e hf
    have hE32 : ∀ (H : Heap) (locs : List Loc) (ls : Array Slot), va_P g.1 vwCl (w_X9_writeRow g a0 a1 a2 u0_1 u0_2 u0_3 u0_4 u0_5 u0_6 u0_8 u0_9 u0_10 u0_11 u0_12 u0_13 u0_14 u0_15 u0_16 u0_17 u0_18 u0_19 u0_20 u0_21 u0_22 u0_23 u0_24 u0_25 u0_26 u0_27 u0_28 x0_thrown_1 x0_written_2 y1_output_2 y2_s) H → va_D A (w_X9_writeRow g a0 a1 a2 u0_1 u0_2 u0_3 u0_4 u0_5 u0_6 u0_8 u0_9 u0_10 u0_11 u0_12 u0_13 u0_14 u0_15 u0_16 u0_17 u0_18 u0_19 u0_20 u0_21 u0_22 u0_23 u0_24 u0_25 u0_26 u0_27 u0_28 x0_thrown_1 x0_written_2 y1_output_2 y2_s) → va_S A s.heap H locs → lv_has ls 3 [(0, .ref a0)] → W p l e (RM 7 165) s m args below meth c H locs 0 0 Q (F0 m 81 ls []) := by
      intro H locs ls hP hD hS hl
      refine lv_aload_n (pc := 81) hexec hb dX9_writeRow_81 rfl (lv_at hl 0 rfl) ?_
      refine kg_get (pc := 82) hexec hb (own := RX9) hWX9 hown hG hP 0 rfl rfl 30 (nle rfl) (hts _ (List.mem_cons_of_mem _ (List.mem_append_left _ (List.mem_append_left _ (List.mem_of_getElem? (i := 1) rfl))))) rfl rfl dX9_writeRow_82 ?_
      cases hf
      exact ke_i hQ hexec hb hr hP hD hS dX9_writeRow_85 hlocks
    obtain ⟨n, hz⟩ := lq3_e hz
    have hL32 : ∀ (n : Nat) (v2 : Int32) (x0_written_1 : Int32) (y1_output_1 : Nat → Int32) (H : Heap) (locs : List Loc) (ls : Array Slot), it3 l32 n v2 x0_written_1 y1_output_1 = some (x0_written_2, y1_output_2) → va_P g.1 vwCl (w_X9_writeRow g a0 a1 a2 u0_1 u0_2 u0_3 u0_4 u0_5 u0_6 u0_8 u0_9 u0_10 u0_11 u0_12 u0_13 u0_14 u0_15 u0_16 u0_17 u0_18 u0_19 u0_20 u0_21 u0_22 u0_23 u0_24 u0_25 u0_26 u0_27 u0_28 x0_thrown_1 x0_written_1 y1_output_1 y2_s) H → va_D A (w_X9_writeRow g a0 a1 a2 u0_1 u0_2 u0_3 u0_4 u0_5 u0_6 u0_8 u0_9 u0_10 u0_11 u0_12 u0_13 u0_14 u0_15 u0_16 u0_17 u0_18 u0_19 u0_20 u0_21 u0_22 u0_23 u0_24 u0_25 u0_26 u0_27 u0_28 x0_thrown_1 x0_written_1 y1_output_1 y2_s) → va_S A s.heap H locs → lv_has ls 3 [(0, .ref a0), (1, .int p1), (2, .int v2)] → W p l e (RM 7 165) s m args below meth c H locs 0 0 Q (F0 m 32 ls []) := by
      intro n
      induction n with
      | zero =>
        intro v2 x0_written_1 y1_output_1 H locs ls hf hP hD hS hl
        exact it3_0 hf
      | succ n32 ih32 =>
        intro v2 x0_written_1 y1_output_1 H locs ls hf hP hD hS hl
        obtain ⟨q32, hf, hk32⟩ := it3_e hf
        have hf := (el32 v2 x0_written_1 y1_output_1).symm.trans hf
        refine lv_iload_n (pc := 32) hexec hb dX9_writeRow_32 rfl (lv_at hl 2 rfl) ?_
        refine lv_aload_n (pc := 33) hexec hb dX9_writeRow_33 rfl (lv_at hl 0 rfl) ?_
        refine kg_get (pc := 34) hexec hb (own := RX9) hWX9 hown hG hP 0 rfl rfl 0 (nle rfl) (hts _ (List.mem_cons_of_mem _ (List.mem_append_left _ (List.mem_append_left _ (List.mem_of_getElem? (i := 0) rfl))))) rfl rfl dX9_writeRow_34 ?_
        refine lv_iconst (pc := 37) hexec hb dX9_writeRow_37 ki_1 ?_
        refine kr_iald (pc := 38) hexec hb hG hP 2 rfl hf dX9_writeRow_38 (fun hf => ?_)
        refine ki_ge (pc := 39) hexec hb dX9_writeRow_39 (tgt := 81) rfl hf (fun hc hf => ?_) (fun hc hf => ?_)
        · cases sr3 hf hk32
          exact hE32 _ _ _ hP hD hS (lv_sub hl [0] rfl)
        · refine lv_aload_n (pc := 42) hexec hb dX9_writeRow_42 rfl (lv_at hl 0 rfl) ?_
          refine kg_get (pc := 43) hexec hb (own := RX9) hWX9 hown hG hP 0 rfl rfl 29 (nle rfl) (hts _ (List.mem_cons_of_mem _ (List.mem_append_left _ (List.mem_append_left _ (List.mem_of_getElem? (i := 2) rfl))))) rfl rfl dX9_writeRow_43 ?_
          refine lv_aload_n (pc := 46) hexec hb dX9_writeRow_46 rfl (lv_at hl 0 rfl) ?_
          refine kg_get (pc := 47) hexec hb (own := RX9) hWX9 hown hG hP 0 rfl rfl 30 (nle rfl) (hts _ (List.mem_cons_of_mem _ (List.mem_append_left _ (List.mem_append_left _ (List.mem_of_getElem? (i := 1) rfl))))) rfl rfl dX9_writeRow_47 ?_
          refine lv_aload_n (pc := 50) hexec hb dX9_writeRow_50 rfl (lv_at hl 0 rfl) ?_
          refine lv_aload_n (pc := 51) hexec hb dX9_writeRow_51 rfl (lv_at hl 0 rfl) ?_
          refine kg_get (pc := 52) hexec hb (own := RX9) hWX9 hown hG hP 0 rfl rfl 0 (nle rfl) (hts _ (List.mem_cons_of_mem _ (List.mem_append_left _ (List.mem_append_left _ (List.mem_of_getElem? (i := 0) rfl))))) rfl rfl dX9_writeRow_52 ?_
          refine lv_iconst (pc := 55) hexec hb dX9_writeRow_55 ki_1 ?_
          refine kr_iald (pc := 56) hexec hb hG hP 2 rfl hf dX9_writeRow_56 (fun hf => ?_)
          refine lv_iload_n (pc := 57) hexec hb dX9_writeRow_57 rfl (lv_at hl 1 rfl) ?_
          refine lv_imul (pc := 58) hexec hb dX9_writeRow_58 ?_
          refine lv_iload_n (pc := 59) hexec hb dX9_writeRow_59 rfl (lv_at hl 2 rfl) ?_
          refine lv_iadd (pc := 60) hexec hb dX9_writeRow_60 ?_
          obtain ⟨r61, hc, hf⟩ := bd1_e hf
          refine kVp (pc := 61) (S := ⟨hexec, hb, hml, hown, hts⟩) hP hD hG hA hS [0, 2] [1] [1, 0, 2] (w2 := (w_X9_writeRow g a0 a1 a2 u0_1 u0_2 u0_3 u0_4 u0_5 u0_6 u0_8 u0_9 u0_10 u0_11 u0_12 u0_13 u0_14 u0_15 u0_16 u0_17 u0_18 u0_19 u0_20 u0_21 u0_22 u0_23 u0_24 u0_25 u0_26 u0_27 u0_28 x0_thrown_1 x0_written_1 y1_output_1 y2_s)) rfl rfl rfl rfl rfl rfl (by decide) (c_X9_signOf l g a0 a2 _ u0_1 u0_2 u0_3 u0_4 u0_5 u0_6 (.int x0_thrown_1) u0_8 u0_9 u0_10 u0_11 u0_12 u0_13 u0_14 u0_15 u0_16 u0_17 u0_18 u0_19 u0_20 u0_21 u0_22 u0_23 u0_24 u0_25 u0_26 u0_27 u0_28 (.ref a1) (.int x0_written_1) y2_s (((y2_s (1 : Int32).toNatClampNeg) * p1) + v2) r61 hc) gX9_writeRow_X9_signOf rfl hv_X9_signOf ⟨nle rfl, nle rfl⟩ 9 0 rfl rfl rfl (rest := [.int x0_written_1, .ref a1]) rfl rfl hl.1 (nle rfl) dX9_writeRow_61 (fun H locs hP hD hS => ?_)
          refine kw_iast (pc := 64) hexec hb hG hP hD hS 1 rfl hf dX9_writeRow_64 (fun y1_output_3 H locs hf (hP : va_P g.1 vwCl (w_X9_writeRow g a0 a1 a2 u0_1 u0_2 u0_3 u0_4 u0_5 u0_6 u0_8 u0_9 u0_10 u0_11 u0_12 u0_13 u0_14 u0_15 u0_16 u0_17 u0_18 u0_19 u0_20 u0_21 u0_22 u0_23 u0_24 u0_25 u0_26 u0_27 u0_28 x0_thrown_1 x0_written_1 y1_output_3 y2_s) H) (hD : va_D A (w_X9_writeRow g a0 a1 a2 u0_1 u0_2 u0_3 u0_4 u0_5 u0_6 u0_8 u0_9 u0_10 u0_11 u0_12 u0_13 u0_14 u0_15 u0_16 u0_17 u0_18 u0_19 u0_20 u0_21 u0_22 u0_23 u0_24 u0_25 u0_26 u0_27 u0_28 x0_thrown_1 x0_written_1 y1_output_3 y2_s)) hS => ?_)
          refine lv_aload_n (pc := 65) hexec hb dX9_writeRow_65 rfl (lv_at hl 0 rfl) ?_
          refine lv_dup (pc := 66) hexec hb dX9_writeRow_66 rfl ?_
          refine kg_get (pc := 67) hexec hb (own := RX9) hWX9 hown hG hP 0 rfl rfl 30 (nle rfl) (hts _ (List.mem_cons_of_mem _ (List.mem_append_left _ (List.mem_append_left _ (List.mem_of_getElem? (i := 1) rfl))))) rfl rfl dX9_writeRow_67 ?_
          refine lv_iconst (pc := 70) hexec hb dX9_writeRow_70 ki_1 ?_
          refine lv_iadd (pc := 71) hexec hb dX9_writeRow_71 ?_
          obtain ⟨x0_written_3, ex0_written_3, hf⟩ := bv_e hf
          refine kn_i ex0_written_3 ?_
          refine kp_put (pc := 72) hexec hb (own := RX9) hWX9 tyX9 tyX9_ok nmX9 hown hG hP hD hS 0 rfl rfl 30 (nle rfl) (hts _ (List.mem_cons_of_mem _ (List.mem_append_left _ (List.mem_append_left _ (List.mem_of_getElem? (i := 1) rfl))))) rfl rfl rfl rfl (nle rfl) dX9_writeRow_72 (fun H locs (hP : va_P g.1 vwCl (w_X9_writeRow g a0 a1 a2 u0_1 u0_2 u0_3 u0_4 u0_5 u0_6 u0_8 u0_9 u0_10 u0_11 u0_12 u0_13 u0_14 u0_15 u0_16 u0_17 u0_18 u0_19 u0_20 u0_21 u0_22 u0_23 u0_24 u0_25 u0_26 u0_27 u0_28 x0_thrown_1 x0_written_3 y1_output_3 y2_s) H) (hD : va_D A (w_X9_writeRow g a0 a1 a2 u0_1 u0_2 u0_3 u0_4 u0_5 u0_6 u0_8 u0_9 u0_10 u0_11 u0_12 u0_13 u0_14 u0_15 u0_16 u0_17 u0_18 u0_19 u0_20 u0_21 u0_22 u0_23 u0_24 u0_25 u0_26 u0_27 u0_28 x0_thrown_1 x0_written_3 y1_output_3 y2_s)) hS => ?_)
          obtain ⟨v2_1, ev2_1, hf⟩ := bv_e hf
          refine k_iinc (pc := 75) hexec hb dX9_writeRow_75 kq_1 hl (k := 2) rfl ev2_1 (nle rfl) rfl (fun ls (hl : lv_has ls 3 [(2, .int v2_1), (0, .ref a0), (1, .int p1)]) => ?_)
          refine lv_goto (pc := 78) hexec hb dX9_writeRow_78 (tgt := 32) rfl ?_
          exact ih32 _ _ _ _ _ _ (sl3 hf hk32) hP hD hS (lv_sub hl [1, 2, 0] rfl)
    exact hL32 n _ _ _ _ _ _ hz hP hD hS (lv_sub hl [1, 2, 0] rfl)
  · refine lv_iconst (pc := 23) hexec hb dX9_writeRow_23 ki_0 ?_
    cases hf
    exact ke_i hQ hexec hb hr hP hD hS dX9_writeRow_24 hlocks
abbrev w_X9_outputByte (g : GE) (a0 a1 : Nat) (u0_0 u0_1 u0_2 u0_3 u0_4 u0_5 u0_6 u0_8 u0_9 u0_10 u0_11 u0_12 u0_13 u0_14 u0_15 u0_16 u0_17 u0_18 u0_19 u0_20 u0_21 u0_22 u0_23 u0_24 u0_25 u0_26 u0_27 u0_28 : Value) (x0_thrown : Int32) (x0_written : Int32) (y1_output : Nat → Int32) : va_W := [(a0, .inr (9, [u0_0, u0_1, u0_2, u0_3, u0_4, u0_5, u0_6, .int x0_thrown, u0_8, u0_9, u0_10, u0_11, u0_12, u0_13, u0_14, u0_15, u0_16, u0_17, u0_18, u0_19, u0_20, u0_21, u0_22, u0_23, u0_24, u0_25, u0_26, u0_27, u0_28, .ref a1, .int x0_written])), (a1, .inl (g.2.1 0, 12, .inl y1_output))]
noncomputable def f_X9_outputByte (x0_thrown : Int32) (x0_written : Int32) (y1_output : Nat → Int32) (p1 : Int32) : Option (Int32 × Int32) :=
  bd1 (f_X9_isIn (p1.toInt64) 0 (((x0_written - 1)).toInt64)) fun (r15 : Int32) =>
  (if r15 = 0 then (
    some ((-1), 0)
  ) else (
    ar p1 12 <|
    some ((y1_output p1.toNatClampNeg), 0)
  ))
set_option maxRecDepth 4000 in
theorem c_X9_outputByte (l : Launch) (g : GE) (a0 a1 : Nat) (sz : Nat) (u0_0 u0_1 u0_2 u0_3 u0_4 u0_5 u0_6 u0_8 u0_9 u0_10 u0_11 u0_12 u0_13 u0_14 u0_15 u0_16 u0_17 u0_18 u0_19 u0_20 u0_21 u0_22 u0_23 u0_24 u0_25 u0_26 u0_27 u0_28 : Value) (x0_thrown : Int32) (x0_written : Int32) (y1_output : Nat → Int32) (p1 : Int32) (r : Int32) (o_x0_thrown : Int32) (hf : f_X9_outputByte x0_thrown x0_written y1_output p1 = some (r, o_x0_thrown)) : MI l g yX9_outputByte wsX9_outputByte 2 49 [.ref a0, .int p1] (w_X9_outputByte g a0 a1 u0_0 u0_1 u0_2 u0_3 u0_4 u0_5 u0_6 u0_8 u0_9 u0_10 u0_11 u0_12 u0_13 u0_14 u0_15 u0_16 u0_17 u0_18 u0_19 u0_20 u0_21 u0_22 u0_23 u0_24 u0_25 u0_26 u0_27 u0_28 x0_thrown x0_written y1_output) sz (some (.int r)) (w_X9_outputByte g a0 a1 u0_0 u0_1 u0_2 u0_3 u0_4 u0_5 u0_6 u0_8 u0_9 u0_10 u0_11 u0_12 u0_13 u0_14 u0_15 u0_16 u0_17 u0_18 u0_19 u0_20 u0_21 u0_22 u0_23 u0_24 u0_25 u0_26 u0_27 u0_28 o_x0_thrown x0_written y1_output) := by
  refine MI.start (cc := cX9_outputByte) (maxL := 2) (ret := (some .int)) rfl rfl (nle rfl) ?_
  intro p e s m args below meth c A ls Q hQ hexec hb hr hts hown hlocks hml hA hP hD hG hS hl
  unfold f_X9_outputByte at hf
  have hWX9 : ∀ w ∈ wsX90, w.before args s = true := fun w h => hts w (List.mem_cons_of_mem _ (List.mem_append_right _ h))
  have hS : va_S A s.heap s.heap [] := hS
  refine lv_aload_n (pc := 0) hexec hb dX9_outputByte_0 rfl (lv_at hl 0 rfl) ?_
  refine lv_iconst (pc := 1) hexec hb dX9_outputByte_1 ki_0 ?_
  refine kp_put (pc := 2) hexec hb (own := RX9) hWX9 tyX9 tyX9_ok nmX9 hown hG hP hD hS 0 rfl rfl 7 (nle rfl) (hts _ (List.mem_cons_of_mem _ (List.mem_append_left _ (List.mem_of_getElem? (i := 0) rfl)))) rfl rfl rfl rfl (nle rfl) dX9_outputByte_2 (fun H locs (hP : va_P g.1 vwCl (w_X9_outputByte g a0 a1 u0_0 u0_1 u0_2 u0_3 u0_4 u0_5 u0_6 u0_8 u0_9 u0_10 u0_11 u0_12 u0_13 u0_14 u0_15 u0_16 u0_17 u0_18 u0_19 u0_20 u0_21 u0_22 u0_23 u0_24 u0_25 u0_26 u0_27 u0_28 0 x0_written y1_output) H) (hD : va_D A (w_X9_outputByte g a0 a1 u0_0 u0_1 u0_2 u0_3 u0_4 u0_5 u0_6 u0_8 u0_9 u0_10 u0_11 u0_12 u0_13 u0_14 u0_15 u0_16 u0_17 u0_18 u0_19 u0_20 u0_21 u0_22 u0_23 u0_24 u0_25 u0_26 u0_27 u0_28 0 x0_written y1_output)) hS => ?_)
  refine lv_iload_n (pc := 5) hexec hb dX9_outputByte_5 rfl (lv_at hl 1 rfl) ?_
  refine lv_i2l (pc := 6) hexec hb dX9_outputByte_6 rfl ?_
  refine lv_lconst (pc := 7) hexec hb dX9_outputByte_7 kl_0 ?_
  refine lv_aload_n (pc := 8) hexec hb dX9_outputByte_8 rfl (lv_at hl 0 rfl) ?_
  refine kg_get (pc := 9) hexec hb (own := RX9) hWX9 hown hG hP 0 rfl rfl 30 (nle rfl) (hts _ (List.mem_cons_of_mem _ (List.mem_append_left _ (List.mem_of_getElem? (i := 1) rfl)))) rfl rfl dX9_outputByte_9 ?_
  refine lv_iconst (pc := 12) hexec hb dX9_outputByte_12 ki_1 ?_
  refine lv_isub (pc := 13) hexec hb dX9_outputByte_13 ?_
  refine lv_i2l (pc := 14) hexec hb dX9_outputByte_14 rfl ?_
  obtain ⟨r15, hc, hf⟩ := bd1_e hf
  refine kSp (pc := 15) (S := ⟨hexec, hb, hml, hown, hts⟩) hP hD hG hA hS [] [0, 1] [0, 1] (w2 := (w_X9_outputByte g a0 a1 u0_0 u0_1 u0_2 u0_3 u0_4 u0_5 u0_6 u0_8 u0_9 u0_10 u0_11 u0_12 u0_13 u0_14 u0_15 u0_16 u0_17 u0_18 u0_19 u0_20 u0_21 u0_22 u0_23 u0_24 u0_25 u0_26 u0_27 u0_28 0 x0_written y1_output)) rfl rfl rfl rfl rfl rfl (by decide) (c_X9_isIn l g _ (p1.toInt64) 0 (((x0_written - 1)).toInt64) r15 hc) gX9_outputByte_X9_isIn rfl hs_X9_isIn ⟨nle rfl, nle rfl⟩ (rest := []) rfl rfl hl.1 (nle rfl) dX9_outputByte_15 (fun H locs hP hD hS => ?_)
  refine kb_eq (pc := 18) hexec hb dX9_outputByte_18 (tgt := 30) rfl hf (fun hc hf => ?_) (fun hc hf => ?_)
  · refine lv_iconst (pc := 30) hexec hb dX9_outputByte_30 ki_m1 ?_
    cases hf
    exact ke_i hQ hexec hb hr hP hD hS dX9_outputByte_31 hlocks
  · refine lv_aload_n (pc := 21) hexec hb dX9_outputByte_21 rfl (lv_at hl 0 rfl) ?_
    refine kg_get (pc := 22) hexec hb (own := RX9) hWX9 hown hG hP 0 rfl rfl 29 (nle rfl) (hts _ (List.mem_cons_of_mem _ (List.mem_append_left _ (List.mem_of_getElem? (i := 2) rfl)))) rfl rfl dX9_outputByte_22 ?_
    refine lv_iload_n (pc := 25) hexec hb dX9_outputByte_25 rfl (lv_at hl 1 rfl) ?_
    refine kr_iald (pc := 26) hexec hb hG hP 1 rfl hf dX9_outputByte_26 (fun hf => ?_)
    refine lv_goto (pc := 27) hexec hb dX9_outputByte_27 (tgt := 31) rfl ?_
    cases hf
    exact ke_i hQ hexec hb hr hP hD hS dX9_outputByte_31 hlocks
