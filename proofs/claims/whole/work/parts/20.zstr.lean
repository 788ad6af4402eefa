section STR
variable {p : Program} {l : Launch} {e : Env} {R : Room} {s : State} {m : MethodId} {args : Array Value} {below : List Frame} {meth : Method} {c : Code} {H : Heap} {locs : List Loc} {Q : State → Prop} {A : Nat → Prop} {g : GE}
theorem gs_s (hG : GG g A s s.heap) : vk_S 12 kwLen kwByt (adK g) (adV g) A s s.heap := hG.2.2.2.2.1
theorem gs_c (hG : GG g A s s.heap) : va_Z "java/lang/String" "COMPACT_STRINGS" "Z" (.int 1) A s s.heap := hG.2.2.2.1
theorem gs_f (hG : GG g A s s.heap) : va_Zq "jdk/internal/util/Preconditions" "SIOOBE_FORMATTER" "Ljava/util/function/BiFunction;" A s s.heap := hG.2.2.2.2.2.1
end STR
theorem hv_J0_coder : yJ0_coder_7d493.cls = RJ0 ∧ yJ0_coder_7d493.cls ≠ "java/lang/invoke/MethodHandle" ∧ yJ0_coder_7d493.cls ≠ "java/lang/invoke/VarHandle" ∧ (parseMethodDescriptor yJ0_coder_7d493.desc).map (fun d => d.parameters.length) = some 0 := by decide +kernel
theorem hv_J0_isLatin1 : yJ0_isLatin1_aae02.cls = RJ0 ∧ yJ0_isLatin1_aae02.cls ≠ "java/lang/invoke/MethodHandle" ∧ yJ0_isLatin1_aae02.cls ≠ "java/lang/invoke/VarHandle" ∧ (parseMethodDescriptor yJ0_isLatin1_aae02.desc).map (fun d => d.parameters.length) = some 0 := by decide +kernel
theorem hv_J0_length : yJ0_length_8abf5.cls = RJ0 ∧ yJ0_length_8abf5.cls ≠ "java/lang/invoke/MethodHandle" ∧ yJ0_length_8abf5.cls ≠ "java/lang/invoke/VarHandle" ∧ (parseMethodDescriptor yJ0_length_8abf5.desc).map (fun d => d.parameters.length) = some 0 := by decide +kernel
theorem hv_J0_charAt : yJ0_charAt_5068e.cls = RJ0 ∧ yJ0_charAt_5068e.cls ≠ "java/lang/invoke/MethodHandle" ∧ yJ0_charAt_5068e.cls ≠ "java/lang/invoke/VarHandle" ∧ (parseMethodDescriptor yJ0_charAt_5068e.desc).map (fun d => d.parameters.length) = some 1 := by decide +kernel
theorem hs_J3_check : yJ3_checkIndex_8e157.cls ≠ "java/lang/invoke/MethodHandle" ∧ yJ3_checkIndex_8e157.cls ≠ "java/lang/invoke/VarHandle" ∧ (parseMethodDescriptor yJ3_checkIndex_8e157.desc).map (fun d => d.parameters.length) = some 3 := by decide +kernel
theorem hs_J0_check : yJ0_checkIndex_df160.cls ≠ "java/lang/invoke/MethodHandle" ∧ yJ0_checkIndex_df160.cls ≠ "java/lang/invoke/VarHandle" ∧ (parseMethodDescriptor yJ0_checkIndex_df160.desc).map (fun d => d.parameters.length) = some 2 := by decide +kernel
theorem hs_J1_charAt : yJ1_charAt_3b067.cls ≠ "java/lang/invoke/MethodHandle" ∧ yJ1_charAt_3b067.cls ≠ "java/lang/invoke/VarHandle" ∧ (parseMethodDescriptor yJ1_charAt_3b067.desc).map (fun d => d.parameters.length) = some 2 := by decide +kernel
theorem kis_1 : Int32.ofInt (1) = 1 := by decide
theorem c_scod (l : Launch) (g : GE) (sz k : Nat) (hk : k < 12) : MI l g yJ0_coder_7d493 wsJ0_coder_7d493 1 24 [.ref (adK g k)] [] sz (some (.int 0)) [] := by
  refine MI.start (cc := cJ0_coder_7d493) (maxL := 1) (ret := some .byte) rfl rfl (nle rfl) ?_
  intro p e s m args below meth c A ls Q hQ hexec hb hr hts hown hlocks hml hA hP hD hG hS hl
  refine va_gets (pc := 0) hexec hb (gs_c hG) hS (own := RJ0) hown (hts _ (List.mem_of_getElem? (i := 1) rfl)) (fun _ h => h) dJ0_coder_7d493_0 ?_
  refine lv_if_eq (pc := 3) hexec hb dJ0_coder_7d493_3 (tgt := 13) rfl (fun h => absurd h (by decide)) (fun _ => ?_)
  refine lv_aload_n (pc := 6) hexec hb dJ0_coder_7d493_6 rfl (lv_at hl 0 rfl) ?_
  refine vk_getf (pc := 7) hexec hb ((gs_s hG).1 k hk).2.1 hS (own := RJ0) hown (hts _ (List.mem_of_getElem? (i := 2) rfl)) (fun _ h => h) dJ0_coder_7d493_7 ?_
  refine lv_goto (pc := 10) hexec hb dJ0_coder_7d493_10 (tgt := 14) rfl ?_
  exact ke_t hQ hexec hb hr rfl hP hD hS dJ0_coder_7d493_14 hlocks
theorem c_slat (l : Launch) (g : GE) (sz k : Nat) (hk : k < 12) : MI l g yJ0_isLatin1_aae02 wsJ0_isLatin1_aae02 1 24 [.ref (adK g k)] [] sz (some (.int 1)) [] := by
  refine MI.start (cc := cJ0_isLatin1_aae02) (maxL := 1) (ret := some .boolean) rfl rfl (nle rfl) ?_
  intro p e s m args below meth c A ls Q hQ hexec hb hr hts hown hlocks hml hA hP hD hG hS hl
  refine va_gets (pc := 0) hexec hb (gs_c hG) hS (own := RJ0) hown (hts _ (List.mem_of_getElem? (i := 1) rfl)) (fun _ h => h) dJ0_isLatin1_aae02_0 ?_
  refine lv_if_eq (pc := 3) hexec hb dJ0_isLatin1_aae02_3 (tgt := 17) rfl (fun h => absurd h (by decide)) (fun _ => ?_)
  refine lv_aload_n (pc := 6) hexec hb dJ0_isLatin1_aae02_6 rfl (lv_at hl 0 rfl) ?_
  refine vk_getf (pc := 7) hexec hb ((gs_s hG).1 k hk).2.1 hS (own := RJ0) hown (hts _ (List.mem_of_getElem? (i := 2) rfl)) (fun _ h => h) dJ0_isLatin1_aae02_7 ?_
  refine lv_if_ne (pc := 10) hexec hb dJ0_isLatin1_aae02_10 (tgt := 17) rfl (fun h => absurd rfl h) (fun _ => ?_)
  refine lv_iconst (pc := 13) hexec hb dJ0_isLatin1_aae02_13 kis_1 ?_
  refine lv_goto (pc := 14) hexec hb dJ0_isLatin1_aae02_14 (tgt := 18) rfl ?_
  exact ke_z hQ hexec hb hr (.inr rfl) hP hD hS dJ0_isLatin1_aae02_18 hlocks
theorem slen0 : ∀ k, k < 12 → (Int32.ofNat (kwLen.getD k 0)) >>> ((0 : Int32) &&& 31) = Int32.ofNat (kwLen.getD k 0) := by decide +kernel
theorem c_slen (l : Launch) (g : GE) (sz k : Nat) (hk : k < 12) : MI l g yJ0_length_8abf5 wsJ0_length_8abf5 2 44 [.ref (adK g k)] [] sz (some (.int (Int32.ofNat (kwLen.getD k 0)))) [] := by
  refine MI.start (cc := cJ0_length_8abf5) (maxL := 1) (ret := some .int) rfl rfl (nle rfl) ?_
  intro p e s m args below meth c A ls Q hQ hexec hb hr hts hown hlocks hml hA hP hD hG hS hl
  refine lv_aload_n (pc := 0) hexec hb dJ0_length_8abf5_0 rfl (lv_at hl 0 rfl) ?_
  refine vk_getf (pc := 1) hexec hb ((gs_s hG).1 k hk).2.2.1 hS (own := RJ0) hown (hts _ (List.mem_of_getElem? (i := 1) rfl)) (fun _ h => h) dJ0_length_8abf5_1 ?_
  refine va_tlen (pc := 4) hexec hb ((gs_s hG).1 k hk).2.2.2 hS rfl dJ0_length_8abf5_4 ?_
  refine lv_aload_n (pc := 5) hexec hb dJ0_length_8abf5_5 rfl (lv_at hl 0 rfl) ?_
  refine kVq (pc := 6) (S := ⟨hexec, hb, hml, hown, hts⟩) hP hD hG hA hS [] [] [] (w2 := []) rfl rfl rfl rfl rfl rfl (by decide) (c_scod l g _ k hk) gJ0_length_8abf5_J0_coder_7d493 rfl hv_J0_coder ⟨nle rfl, nle rfl⟩ (vk_recv (gs_s hG) hk hS) (rest := [.int (Int32.ofNat (kwLen.getD k 0))]) rfl rfl hl.1 (nle rfl) dJ0_length_8abf5_6 (fun H locs hP hD hS => ?_)
  refine lv_ishr (pc := 9) hexec hb dJ0_length_8abf5_9 ?_
  refine kn_i (slen0 k hk).symm ?_
  exact ke_i hQ hexec hb hr hP hD hS dJ0_length_8abf5_10 hlocks
theorem c_jchk (l : Launch) (g : GE) (sz a : Nat) (i n : Int32) (h0 : ¬ i < 0) (h1 : i < n) : MI l g yJ3_checkIndex_8e157 wsJ3_checkIndex_8e157 1 24 [.int i, .int n, .ref a] [] sz (some (.int i)) [] := by
  refine MI.start (cc := cJ3_checkIndex_8e157) (maxL := 3) (ret := some .int) rfl rfl (nle rfl) ?_
  intro p e s m args below meth c A ls Q hQ hexec hb hr hts hown hlocks hml hA hP hD hG hS hl
  refine lv_iload_n (pc := 0) hexec hb dJ3_checkIndex_8e157_0 rfl (lv_at hl 0 rfl) ?_
  refine lv_if_lt (pc := 1) hexec hb dJ3_checkIndex_8e157_1 (tgt := 9) rfl (fun h => absurd h h0) (fun _ => ?_)
  refine lv_iload_n (pc := 4) hexec hb dJ3_checkIndex_8e157_4 rfl (lv_at hl 0 rfl) ?_
  refine lv_iload_n (pc := 5) hexec hb dJ3_checkIndex_8e157_5 rfl (lv_at hl 1 rfl) ?_
  refine lv_icmp_lt (pc := 6) hexec hb dJ3_checkIndex_8e157_6 (tgt := 16) rfl (fun _ => ?_) (fun h => absurd h1 h)
  refine lv_iload_n (pc := 16) hexec hb dJ3_checkIndex_8e157_16 rfl (lv_at hl 0 rfl) ?_
  exact ke_i hQ hexec hb hr hP hD hS dJ3_checkIndex_8e157_17 hlocks
theorem c_jchn (l : Launch) (g : GE) (sz : Nat) (i n : Int32) (h0 : ¬ i < 0) (h1 : i < n) : MI l g yJ3_checkIndex_8e157 wsJ3_checkIndex_8e157 1 24 [.int i, .int n, .null] [] sz (some (.int i)) [] := by
  refine MI.start (cc := cJ3_checkIndex_8e157) (maxL := 3) (ret := some .int) rfl rfl (nle rfl) ?_
  intro p e s m args below meth c A ls Q hQ hexec hb hr hts hown hlocks hml hA hP hD hG hS hl
  refine lv_iload_n (pc := 0) hexec hb dJ3_checkIndex_8e157_0 rfl (lv_at hl 0 rfl) ?_
  refine lv_if_lt (pc := 1) hexec hb dJ3_checkIndex_8e157_1 (tgt := 9) rfl (fun h => absurd h h0) (fun _ => ?_)
  refine lv_iload_n (pc := 4) hexec hb dJ3_checkIndex_8e157_4 rfl (lv_at hl 0 rfl) ?_
  refine lv_iload_n (pc := 5) hexec hb dJ3_checkIndex_8e157_5 rfl (lv_at hl 1 rfl) ?_
  refine lv_icmp_lt (pc := 6) hexec hb dJ3_checkIndex_8e157_6 (tgt := 16) rfl (fun _ => ?_) (fun h => absurd h1 h)
  refine lv_iload_n (pc := 16) hexec hb dJ3_checkIndex_8e157_16 rfl (lv_at hl 0 rfl) ?_
  exact ke_i hQ hexec hb hr hP hD hS dJ3_checkIndex_8e157_17 hlocks
theorem c_schk (l : Launch) (g : GE) (sz : Nat) (i n : Int32) (h0 : ¬ i < 0) (h1 : i < n) : MI l g yJ0_checkIndex_df160 wsJ0_checkIndex_df160 2 46 [.int i, .int n] [] sz none [] := by
  refine MI.start (cc := cJ0_checkIndex_df160) (maxL := 2) (ret := none) rfl rfl (nle rfl) ?_
  intro p e s m args below meth c A ls Q hQ hexec hb hr hts hown hlocks hml hA hP hD hG hS hl
  refine lv_iload_n (pc := 0) hexec hb dJ0_checkIndex_df160_0 rfl (lv_at hl 0 rfl) ?_
  refine lv_iload_n (pc := 1) hexec hb dJ0_checkIndex_df160_1 rfl (lv_at hl 1 rfl) ?_
  rcases gs_f hG with hz | ⟨t, hz⟩
  · refine va_gets (pc := 2) hexec hb hz hS (own := RJ0) hown (hts _ (List.mem_of_getElem? (i := 1) rfl)) (fun _ h => h) dJ0_checkIndex_df160_2 ?_
    refine kSp (pc := 5) (S := ⟨hexec, hb, hml, hown, hts⟩) hP hD hG hA hS [] [] [] (w2 := []) rfl rfl rfl rfl rfl rfl (by decide) (c_jchn l g _ i n h0 h1) gJ0_checkIndex_df160_J3_checkIndex_8e157 rfl hs_J3_check ⟨nle rfl, nle rfl⟩ (rest := []) rfl rfl hl.1 (nle rfl) dJ0_checkIndex_df160_5 (fun H locs hP hD hS => ?_)
    refine lv_pop (pc := 8) hexec hb dJ0_checkIndex_df160_8 rfl ?_
    exact ke_v hQ hexec hb hr hP hD hS dJ0_checkIndex_df160_9 hlocks
  · refine va_gets (pc := 2) hexec hb hz hS (own := RJ0) hown (hts _ (List.mem_of_getElem? (i := 1) rfl)) (fun _ h => h) dJ0_checkIndex_df160_2 ?_
    refine kSp (pc := 5) (S := ⟨hexec, hb, hml, hown, hts⟩) hP hD hG hA hS [] [] [] (w2 := []) rfl rfl rfl rfl rfl rfl (by decide) (c_jchk l g _ _ i n h0 h1) gJ0_checkIndex_df160_J3_checkIndex_8e157 rfl hs_J3_check ⟨nle rfl, nle rfl⟩ (rest := []) rfl rfl hl.1 (nle rfl) dJ0_checkIndex_df160_5 (fun H locs hP hD hS => ?_)
    refine lv_pop (pc := 8) hexec hb dJ0_checkIndex_df160_8 rfl ?_
    exact ke_v hQ hexec hb hr hP hD hS dJ0_checkIndex_df160_9 hlocks
theorem in_lt {i : Int32} {n : Nat} (hn : n < 2 ^ 31) (h : vp_in i n) : ¬ i < 0 ∧ i < Int32.ofNat n := by
  have h0 : ¬ i < 0 := fun z => h (Or.inl z)
  have h1 : i.toNatClampNeg < n := Nat.not_le.mp fun z => h (Or.inr z)
  refine ⟨h0, ?_⟩
  have e1 : (Int32.ofNat n).toInt = (n : Int) := Int32.toInt_ofNat_of_lt hn
  have h2 : ¬ i.toInt < 0 := fun z => h0 (Int32.lt_iff_toInt_lt.mpr z)
  have h3 : i.toInt.toNat < n := h1
  exact Int32.lt_iff_toInt_lt.mpr (by omega)
theorem kch_i : ∀ k, k < 12 → ∀ j, j < 8 → ((kch k j &&& 255).toUInt32 % 65536).toInt32 = kch k j := by decide +kernel
theorem kch_n : ∀ k, k < 12 → ∀ j, j < 8 → narrow .char (.int (kch k j)) = .int (kch k j) := by decide +kernel
theorem klen_le : ∀ k, k < 12 → kwLen.getD k 0 < 8 := by decide +kernel
theorem c_sch1 (l : Launch) (g : GE) (sz k : Nat) (i : Int32) (hk : k < 12) (hi : vp_in i (kwLen.getD k 0)) : MI l g yJ1_charAt_3b067 wsJ1_charAt_3b067 3 67 [.ref (adV g k), .int i] [] sz (some (.int (kch k i.toNatClampNeg))) [] := by
  refine MI.start (cc := cJ1_charAt_3b067) (maxL := 2) (ret := some .char) rfl rfl (nle rfl) ?_
  intro p e s m args below meth c A ls Q hQ hexec hb hr hts hown hlocks hml hA hP hD hG hS hl
  have hn := klen_le k hk
  have hlt := in_lt (by omega) hi
  have hj : i.toNatClampNeg < 8 := by have := Nat.not_le.mp fun z => hi (Or.inr z); omega
  refine lv_iload_n (pc := 0) hexec hb dJ1_charAt_3b067_0 rfl (lv_at hl 1 rfl) ?_
  refine lv_aload_n (pc := 1) hexec hb dJ1_charAt_3b067_1 rfl (lv_at hl 0 rfl) ?_
  refine va_tlen (pc := 2) hexec hb ((gs_s hG).1 k hk).2.2.2 hS rfl dJ1_charAt_3b067_2 ?_
  refine kSp (pc := 3) (S := ⟨hexec, hb, hml, hown, hts⟩) hP hD hG hA hS [] [] [] (w2 := []) rfl rfl rfl rfl rfl rfl (by decide) (c_schk l g _ i _ hlt.1 hlt.2) gJ1_charAt_3b067_J0_checkIndex_df160 rfl hs_J0_check ⟨nle rfl, nle rfl⟩ (rest := []) rfl rfl hl.1 (nle rfl) dJ1_charAt_3b067_3 (fun H locs hP hD hS => ?_)
  refine lv_aload_n (pc := 6) hexec hb dJ1_charAt_3b067_6 rfl (lv_at hl 0 rfl) ?_
  refine lv_iload_n (pc := 7) hexec hb dJ1_charAt_3b067_7 rfl (lv_at hl 1 rfl) ?_
  refine va_tb (pc := 8) hexec hb ((gs_s hG).1 k hk).2.2.2 hS hi (v := .int (kch k i.toNatClampNeg)) rfl dJ1_charAt_3b067_8 ?_
  refine lv_sipush (pc := 9) hexec hb dJ1_charAt_3b067_9 (v := 255) (by decide) ?_
  refine lv_iand (pc := 12) hexec hb dJ1_charAt_3b067_12 ?_
  refine lv_i2c (pc := 13) hexec hb dJ1_charAt_3b067_13 (kch_i k hk _ hj) ?_
  exact ke_t hQ hexec hb hr (kch_n k hk _ hj) hP hD hS dJ1_charAt_3b067_14 hlocks
theorem c_schr (l : Launch) (g : GE) (sz k : Nat) (i : Int32) (hk : k < 12) (hi : vp_in i (kwLen.getD k 0)) : MI l g yJ0_charAt_5068e wsJ0_charAt_5068e 4 90 [.ref (adK g k), .int i] [] sz (some (.int (kch k i.toNatClampNeg))) [] := by
  refine MI.start (cc := cJ0_charAt_5068e) (maxL := 2) (ret := some .char) rfl rfl (nle rfl) ?_
  intro p e s m args below meth c A ls Q hQ hexec hb hr hts hown hlocks hml hA hP hD hG hS hl
  have hn := klen_le k hk
  have hj : i.toNatClampNeg < 8 := by have := Nat.not_le.mp fun z => hi (Or.inr z); omega
  refine lv_aload_n (pc := 0) hexec hb dJ0_charAt_5068e_0 rfl (lv_at hl 0 rfl) ?_
  refine kVq (pc := 1) (S := ⟨hexec, hb, hml, hown, hts⟩) hP hD hG hA hS [] [] [] (w2 := []) rfl rfl rfl rfl rfl rfl (by decide) (c_slat l g _ k hk) gJ0_charAt_5068e_J0_isLatin1_aae02 rfl hv_J0_isLatin1 ⟨nle rfl, nle rfl⟩ (vk_recv (gs_s hG) hk hS) (rest := []) rfl rfl hl.1 (nle rfl) dJ0_charAt_5068e_1 (fun H locs hP hD hS => ?_)
  refine lv_if_eq (pc := 4) hexec hb dJ0_charAt_5068e_4 (tgt := 16) rfl (fun h => absurd h (by decide)) (fun _ => ?_)
  refine lv_aload_n (pc := 7) hexec hb dJ0_charAt_5068e_7 rfl (lv_at hl 0 rfl) ?_
  refine vk_getf (pc := 8) hexec hb ((gs_s hG).1 k hk).2.2.1 hS (own := RJ0) hown (hts _ (List.mem_cons_of_mem _ (List.mem_append_left _ (List.mem_of_getElem? (i := 0) rfl)))) (fun _ h => h) dJ0_charAt_5068e_8 ?_
  refine lv_iload_n (pc := 11) hexec hb dJ0_charAt_5068e_11 rfl (lv_at hl 1 rfl) ?_
  refine kSp (pc := 12) (S := ⟨hexec, hb, hml, hown, hts⟩) hP hD hG hA hS [] [] [] (w2 := []) rfl rfl rfl rfl rfl rfl (by decide) (c_sch1 l g _ k i hk hi) gJ0_charAt_5068e_J1_charAt_3b067 rfl hs_J1_charAt ⟨nle rfl, nle rfl⟩ (rest := []) rfl rfl hl.1 (nle rfl) dJ0_charAt_5068e_12 (fun H locs hP hD hS => ?_)
  exact ke_t hQ hexec hb hr (kch_n k hk _ hj) hP hD hS dJ0_charAt_5068e_15 hlocks
