theorem lq5_l {α0 α1 α2 α3 α4 ρ : Type} {f : α0 → α1 → α2 → α3 → α4 → Option ((α0 × α1 × α2 × α3 × α4) ⊕ ρ)} {a0 : α0} {a1 : α1} {a2 : α2} {a3 : α3} {a4 : α4} {b0 : α0} {b1 : α1} {b2 : α2} {b3 : α3} {b4 : α4} {r : ρ} (h : f a0 a1 a2 a3 a4 = some (.inl (b0, b1, b2, b3, b4))) (h2 : lq5 f b0 b1 b2 b3 b4 = some r) : lq5 f a0 a1 a2 a3 a4 = some r := by
  obtain ⟨n, hn⟩ := lq5_e h2
  refine lq5_i (n := n + 1) ?_
  unfold it5
  rw [h]
  exact hn
theorem lq5_r {α0 α1 α2 α3 α4 ρ : Type} {f : α0 → α1 → α2 → α3 → α4 → Option ((α0 × α1 × α2 × α3 × α4) ⊕ ρ)} {a0 : α0} {a1 : α1} {a2 : α2} {a3 : α3} {a4 : α4} {r : ρ} (h : f a0 a1 a2 a3 a4 = some (.inr r)) : lq5 f a0 a1 a2 a3 a4 = some r := by
  refine lq5_i (n := 1) ?_
  unfold it5
  rw [h]
theorem lq8_l {α0 α1 α2 α3 α4 α5 α6 α7 ρ : Type} {f : α0 → α1 → α2 → α3 → α4 → α5 → α6 → α7 → Option ((α0 × α1 × α2 × α3 × α4 × α5 × α6 × α7) ⊕ ρ)} {a0 : α0} {a1 : α1} {a2 : α2} {a3 : α3} {a4 : α4} {a5 : α5} {a6 : α6} {a7 : α7} {b0 : α0} {b1 : α1} {b2 : α2} {b3 : α3} {b4 : α4} {b5 : α5} {b6 : α6} {b7 : α7} {r : ρ} (h : f a0 a1 a2 a3 a4 a5 a6 a7 = some (.inl (b0, b1, b2, b3, b4, b5, b6, b7))) (h2 : lq8 f b0 b1 b2 b3 b4 b5 b6 b7 = some r) : lq8 f a0 a1 a2 a3 a4 a5 a6 a7 = some r := by
  obtain ⟨n, hn⟩ := lq8_e h2
  refine lq8_i (n := n + 1) ?_
  unfold it8
  rw [h]
  exact hn
theorem lq8_r {α0 α1 α2 α3 α4 α5 α6 α7 ρ : Type} {f : α0 → α1 → α2 → α3 → α4 → α5 → α6 → α7 → Option ((α0 × α1 × α2 × α3 × α4 × α5 × α6 × α7) ⊕ ρ)} {a0 : α0} {a1 : α1} {a2 : α2} {a3 : α3} {a4 : α4} {a5 : α5} {a6 : α6} {a7 : α7} {r : ρ} (h : f a0 a1 a2 a3 a4 a5 a6 a7 = some (.inr r)) : lq8 f a0 a1 a2 a3 a4 a5 a6 a7 = some r := by
  refine lq8_i (n := 1) ?_
  unfold it8
  rw [h]
theorem lq10_l {α0 α1 α2 α3 α4 α5 α6 α7 α8 α9 ρ : Type} {f : α0 → α1 → α2 → α3 → α4 → α5 → α6 → α7 → α8 → α9 → Option ((α0 × α1 × α2 × α3 × α4 × α5 × α6 × α7 × α8 × α9) ⊕ ρ)} {a0 : α0} {a1 : α1} {a2 : α2} {a3 : α3} {a4 : α4} {a5 : α5} {a6 : α6} {a7 : α7} {a8 : α8} {a9 : α9} {b0 : α0} {b1 : α1} {b2 : α2} {b3 : α3} {b4 : α4} {b5 : α5} {b6 : α6} {b7 : α7} {b8 : α8} {b9 : α9} {r : ρ} (h : f a0 a1 a2 a3 a4 a5 a6 a7 a8 a9 = some (.inl (b0, b1, b2, b3, b4, b5, b6, b7, b8, b9))) (h2 : lq10 f b0 b1 b2 b3 b4 b5 b6 b7 b8 b9 = some r) : lq10 f a0 a1 a2 a3 a4 a5 a6 a7 a8 a9 = some r := by
  obtain ⟨n, hn⟩ := lq10_e h2
  refine lq10_i (n := n + 1) ?_
  unfold it10
  rw [h]
  exact hn
theorem lq10_r {α0 α1 α2 α3 α4 α5 α6 α7 α8 α9 ρ : Type} {f : α0 → α1 → α2 → α3 → α4 → α5 → α6 → α7 → α8 → α9 → Option ((α0 × α1 × α2 × α3 × α4 × α5 × α6 × α7 × α8 × α9) ⊕ ρ)} {a0 : α0} {a1 : α1} {a2 : α2} {a3 : α3} {a4 : α4} {a5 : α5} {a6 : α6} {a7 : α7} {a8 : α8} {a9 : α9} {r : ρ} (h : f a0 a1 a2 a3 a4 a5 a6 a7 a8 a9 = some (.inr r)) : lq10 f a0 a1 a2 a3 a4 a5 a6 a7 a8 a9 = some r := by
  refine lq10_i (n := 1) ?_
  unfold it10
  rw [h]
theorem lq31_l {α0 α1 α2 α3 α4 α5 α6 α7 α8 α9 α10 α11 α12 α13 α14 α15 α16 α17 α18 α19 α20 α21 α22 α23 α24 α25 α26 α27 α28 α29 α30 ρ : Type} {f : α0 → α1 → α2 → α3 → α4 → α5 → α6 → α7 → α8 → α9 → α10 → α11 → α12 → α13 → α14 → α15 → α16 → α17 → α18 → α19 → α20 → α21 → α22 → α23 → α24 → α25 → α26 → α27 → α28 → α29 → α30 → Option ((α0 × α1 × α2 × α3 × α4 × α5 × α6 × α7 × α8 × α9 × α10 × α11 × α12 × α13 × α14 × α15 × α16 × α17 × α18 × α19 × α20 × α21 × α22 × α23 × α24 × α25 × α26 × α27 × α28 × α29 × α30) ⊕ ρ)} {a0 : α0} {a1 : α1} {a2 : α2} {a3 : α3} {a4 : α4} {a5 : α5} {a6 : α6} {a7 : α7} {a8 : α8} {a9 : α9} {a10 : α10} {a11 : α11} {a12 : α12} {a13 : α13} {a14 : α14} {a15 : α15} {a16 : α16} {a17 : α17} {a18 : α18} {a19 : α19} {a20 : α20} {a21 : α21} {a22 : α22} {a23 : α23} {a24 : α24} {a25 : α25} {a26 : α26} {a27 : α27} {a28 : α28} {a29 : α29} {a30 : α30} {b0 : α0} {b1 : α1} {b2 : α2} {b3 : α3} {b4 : α4} {b5 : α5} {b6 : α6} {b7 : α7} {b8 : α8} {b9 : α9} {b10 : α10} {b11 : α11} {b12 : α12} {b13 : α13} {b14 : α14} {b15 : α15} {b16 : α16} {b17 : α17} {b18 : α18} {b19 : α19} {b20 : α20} {b21 : α21} {b22 : α22} {b23 : α23} {b24 : α24} {b25 : α25} {b26 : α26} {b27 : α27} {b28 : α28} {b29 : α29} {b30 : α30} {r : ρ} (h : f a0 a1 a2 a3 a4 a5 a6 a7 a8 a9 a10 a11 a12 a13 a14 a15 a16 a17 a18 a19 a20 a21 a22 a23 a24 a25 a26 a27 a28 a29 a30 = some (.inl (b0, b1, b2, b3, b4, b5, b6, b7, b8, b9, b10, b11, b12, b13, b14, b15, b16, b17, b18, b19, b20, b21, b22, b23, b24, b25, b26, b27, b28, b29, b30))) (h2 : lq31 f b0 b1 b2 b3 b4 b5 b6 b7 b8 b9 b10 b11 b12 b13 b14 b15 b16 b17 b18 b19 b20 b21 b22 b23 b24 b25 b26 b27 b28 b29 b30 = some r) : lq31 f a0 a1 a2 a3 a4 a5 a6 a7 a8 a9 a10 a11 a12 a13 a14 a15 a16 a17 a18 a19 a20 a21 a22 a23 a24 a25 a26 a27 a28 a29 a30 = some r := by
  obtain ⟨n, hn⟩ := lq31_e h2
  refine lq31_i (n := n + 1) ?_
  unfold it31
  rw [h]
  exact hn
theorem lq31_r {α0 α1 α2 α3 α4 α5 α6 α7 α8 α9 α10 α11 α12 α13 α14 α15 α16 α17 α18 α19 α20 α21 α22 α23 α24 α25 α26 α27 α28 α29 α30 ρ : Type} {f : α0 → α1 → α2 → α3 → α4 → α5 → α6 → α7 → α8 → α9 → α10 → α11 → α12 → α13 → α14 → α15 → α16 → α17 → α18 → α19 → α20 → α21 → α22 → α23 → α24 → α25 → α26 → α27 → α28 → α29 → α30 → Option ((α0 × α1 × α2 × α3 × α4 × α5 × α6 × α7 × α8 × α9 × α10 × α11 × α12 × α13 × α14 × α15 × α16 × α17 × α18 × α19 × α20 × α21 × α22 × α23 × α24 × α25 × α26 × α27 × α28 × α29 × α30) ⊕ ρ)} {a0 : α0} {a1 : α1} {a2 : α2} {a3 : α3} {a4 : α4} {a5 : α5} {a6 : α6} {a7 : α7} {a8 : α8} {a9 : α9} {a10 : α10} {a11 : α11} {a12 : α12} {a13 : α13} {a14 : α14} {a15 : α15} {a16 : α16} {a17 : α17} {a18 : α18} {a19 : α19} {a20 : α20} {a21 : α21} {a22 : α22} {a23 : α23} {a24 : α24} {a25 : α25} {a26 : α26} {a27 : α27} {a28 : α28} {a29 : α29} {a30 : α30} {r : ρ} (h : f a0 a1 a2 a3 a4 a5 a6 a7 a8 a9 a10 a11 a12 a13 a14 a15 a16 a17 a18 a19 a20 a21 a22 a23 a24 a25 a26 a27 a28 a29 a30 = some (.inr r)) : lq31 f a0 a1 a2 a3 a4 a5 a6 a7 a8 a9 a10 a11 a12 a13 a14 a15 a16 a17 a18 a19 a20 a21 a22 a23 a24 a25 a26 a27 a28 a29 a30 = some r := by
  refine lq31_i (n := 1) ?_
  unfold it31
  rw [h]
noncomputable def vC (x0_length : Int32) (y2_text : Nat → Int32) (x3_count : Int32) (y5_length : Nat → Int32) (y6_letters : Nat → Int32) :=
  fun (v1 : Int32) (x0_at_1 : Int32) (x0_wordStart_1 : Int32) (x0_wordLength_1 : Int32) (x0_error_1 : Int32) (x0_errorAt_1 : Int32) (x4_count_1 : Int32) (y7_stops_1 : Nat → Int32) => ((
      bv (fun (x0_at_2 : Int32) => ((
        bd6 (f_X5_takeName x0_length x0_at_2 x0_wordStart_1 x0_wordLength_1 x0_error_1 x0_errorAt_1 y2_text) fun (r45 : Int32) (x0_at_3 : Int32) (x0_wordStart_2 : Int32) (x0_wordLength_2 : Int32) (x0_error_2 : Int32) (x0_errorAt_2 : Int32) =>
        (if r45 = 0 then (
          mr (some (0, x0_at_3, 1, x0_wordStart_2, x0_wordLength_2, x0_error_2, x0_errorAt_2, x4_count_1, y7_stops_1))
        ) else (
          (if v1 = 16 then (
            mr (bd3 (f_X5_fail x0_error_2 x0_errorAt_2 3 x0_wordStart_2) fun (r65 : Int32) (x0_error_4 : Int32) (x0_errorAt_4 : Int32) =>
            zb r65 (some (r65, x0_at_3, 1, x0_wordStart_2, x0_wordLength_2, x0_error_4, x0_errorAt_4, x4_count_1, y7_stops_1)))
          ) else (
            bd1 (f_X5_namedHarbour x0_length x0_wordStart_2 x0_wordLength_2 y2_text x3_count y5_length y6_letters) fun (r70 : Int32) =>
            (if r70 = (-1) then (
              mr (bd3 (f_X5_fail x0_error_2 x0_errorAt_2 4 x0_wordStart_2) fun (r85 : Int32) (x0_error_3 : Int32) (x0_errorAt_3 : Int32) =>
              zb r85 (some (r85, x0_at_3, 1, x0_wordStart_2, x0_wordLength_2, x0_error_3, x0_errorAt_3, x4_count_1, y7_stops_1)))
            ) else (
              bd2 (f_X4_addStop x4_count_1 y7_stops_1 r70) fun (x4_count_2 : Int32) (y7_stops_2 : Nat → Int32) =>
              bv (v1 + 1) fun v1_1 =>
              some (.inl (v1_1, x0_at_3, x0_wordStart_2, x0_wordLength_2, x0_error_2, x0_errorAt_2, x4_count_2, y7_stops_2))
            ))
          ))
        ))
        ) : Option ((Int32 × Int32 × Int32 × Int32 × Int32 × Int32 × Int32 × (Nat → Int32)) ⊕ (Int32 × Int32 × Int32 × Int32 × Int32 × Int32 × Int32 × Int32 × (Nat → Int32))))) fun j44 =>
      (if v1 = 0 then (
        j44 x0_at_1
      ) else (
        bd2 (f_X5_nextSign x0_length x0_at_1 y2_text) fun (r29 : Int32) (x0_at_4 : Int32) =>
        bd1 (f_X5_isLetter r29) fun (r32 : Int32) =>
        (if r32 = 0 then (
          mr (some (1, x0_at_4, 1, x0_wordStart_1, x0_wordLength_1, x0_error_1, x0_errorAt_1, x4_count_1, y7_stops_1))
        ) else (
          (if 16 < v1 then (
            mr (some (1, x0_at_4, 1, x0_wordStart_1, x0_wordLength_1, x0_error_1, x0_errorAt_1, x4_count_1, y7_stops_1))
          ) else (
            j44 x0_at_4
          ))
        ))
      ))
      ) : Option ((Int32 × Int32 × Int32 × Int32 × Int32 × Int32 × Int32 × (Nat → Int32)) ⊕ (Int32 × Int32 × Int32 × Int32 × Int32 × Int32 × Int32 × Int32 × (Nat → Int32))))
noncomputable def vJ (x0_length : Int32) (x0_wordStart_1 : Int32) (x0_wordLength_1 : Int32) (x0_error_1 : Int32) (x0_errorAt_1 : Int32) (y2_text : Nat → Int32) (x4_count_1 : Int32) (y7_stops_1 : Nat → Int32) (v1 : Int32) (x3_count : Int32) (y5_length : Nat → Int32) (y6_letters : Nat → Int32) :=
  fun (x0_at_2 : Int32) => ((
        bd6 (f_X5_takeName x0_length x0_at_2 x0_wordStart_1 x0_wordLength_1 x0_error_1 x0_errorAt_1 y2_text) fun (r45 : Int32) (x0_at_3 : Int32) (x0_wordStart_2 : Int32) (x0_wordLength_2 : Int32) (x0_error_2 : Int32) (x0_errorAt_2 : Int32) =>
        (if r45 = 0 then (
          mr (some (0, x0_at_3, 1, x0_wordStart_2, x0_wordLength_2, x0_error_2, x0_errorAt_2, x4_count_1, y7_stops_1))
        ) else (
          (if v1 = 16 then (
            mr (bd3 (f_X5_fail x0_error_2 x0_errorAt_2 3 x0_wordStart_2) fun (r65 : Int32) (x0_error_4 : Int32) (x0_errorAt_4 : Int32) =>
            zb r65 (some (r65, x0_at_3, 1, x0_wordStart_2, x0_wordLength_2, x0_error_4, x0_errorAt_4, x4_count_1, y7_stops_1)))
          ) else (
            bd1 (f_X5_namedHarbour x0_length x0_wordStart_2 x0_wordLength_2 y2_text x3_count y5_length y6_letters) fun (r70 : Int32) =>
            (if r70 = (-1) then (
              mr (bd3 (f_X5_fail x0_error_2 x0_errorAt_2 4 x0_wordStart_2) fun (r85 : Int32) (x0_error_3 : Int32) (x0_errorAt_3 : Int32) =>
              zb r85 (some (r85, x0_at_3, 1, x0_wordStart_2, x0_wordLength_2, x0_error_3, x0_errorAt_3, x4_count_1, y7_stops_1)))
            ) else (
              bd2 (f_X4_addStop x4_count_1 y7_stops_1 r70) fun (x4_count_2 : Int32) (y7_stops_2 : Nat → Int32) =>
              bv (v1 + 1) fun v1_1 =>
              some (.inl (v1_1, x0_at_3, x0_wordStart_2, x0_wordLength_2, x0_error_2, x0_errorAt_2, x4_count_2, y7_stops_2))
            ))
          ))
        ))
        ) : Option ((Int32 × Int32 × Int32 × Int32 × Int32 × Int32 × Int32 × (Nat → Int32)) ⊕ (Int32 × Int32 × Int32 × Int32 × Int32 × Int32 × Int32 × Int32 × (Nat → Int32))))
noncomputable def vM (x0_length : Int32) (y2_text : Nat → Int32) :=
  fun (x0_at_1 : Int32) (x0_from_1 : Int32) (x0_error_1 : Int32) (x0_errorAt_1 : Int32) (y1_s_1 : Nat → Int32) => ((
    bd4 (f_X9_name x0_length x0_at_1 x0_from_1 x0_error_1 x0_errorAt_1 y2_text) fun (x0_at_3 : Int32) (x0_from_3 : Int32) (x0_error_3 : Int32) (x0_errorAt_3 : Int32) =>
    ar 4 552 <|
    bv (fun (t21 : Int32) => ((
      bd2 (f_X9_failsIf x0_from_3 x0_error_3 x0_errorAt_3 t21 3) fun (x0_error_4 : Int32) (x0_errorAt_4 : Int32) =>
      bd1 (f_X9_isFine x0_error_4) fun (r26 : Int32) =>
      bv (fun (t40 : Int32) => ((
        bv (fun (t52 : Int32) => ((
          bd2 (f_X9_failsIf x0_from_3 x0_error_4 x0_errorAt_4 t52 4) fun (x0_error_5 : Int32) (x0_errorAt_5 : Int32) =>
          bd1 (f_X9_isFine x0_error_5) fun (r57 : Int32) =>
          bv (fun (y1_s_3 : Nat → Int32) => ((
            bd1 (f_X9_isFine x0_error_5) fun (r90 : Int32) =>
            (if r90 = 0 then (
              some (.inr (x0_at_3, x0_from_3, x0_error_5, x0_errorAt_5, y1_s_3))
            ) else (
              bd3 (f_X9_looks x0_length x0_at_3 x0_from_3 x0_error_5 y2_text) fun (r97 : Int32) (x0_at_4 : Int32) (x0_from_4 : Int32) =>
              bd1 (f_X9_isLetter r97) fun (r100 : Int32) =>
              (if r100 = 0 then (
                some (.inr (x0_at_4, x0_from_4, x0_error_5, x0_errorAt_5, y1_s_3))
              ) else (
                some (.inl (x0_at_4, x0_from_4, x0_error_5, x0_errorAt_5, y1_s_3))
              ))
            ))
            ) : Option ((Int32 × Int32 × Int32 × Int32 × (Nat → Int32)) ⊕ (Int32 × Int32 × Int32 × Int32 × (Nat → Int32))))) fun j89 =>
          (if r57 = 0 then (
            j89 y1_s_1
          ) else (
            ar 4 552 <|
            ar (536 + (y1_s_1 (4 : Int32).toNatClampNeg)) 552 <| bv (upd y1_s_1 (536 + (y1_s_1 (4 : Int32).toNatClampNeg)).toNatClampNeg t40) fun y1_s_4 =>
            ar 4 552 <|
            ar 4 552 <| bv (upd y1_s_4 (4 : Int32).toNatClampNeg ((y1_s_4 (4 : Int32).toNatClampNeg) + 1)) fun y1_s_5 =>
            j89 y1_s_5
          ))
          ) : Option ((Int32 × Int32 × Int32 × Int32 × (Nat → Int32)) ⊕ (Int32 × Int32 × Int32 × Int32 × (Nat → Int32))))) fun j52 =>
        (if t40 = (-1) then (
          j52 1
        ) else (
          j52 0
        ))
        ) : Option ((Int32 × Int32 × Int32 × Int32 × (Nat → Int32)) ⊕ (Int32 × Int32 × Int32 × Int32 × (Nat → Int32))))) fun j40 =>
      (if r26 = 0 then (
        j40 (-1)
      ) else (
        bd1 (f_X9_named x0_at_3 x0_from_3 y1_s_1 y2_text) fun (r33 : Int32) =>
        j40 r33
      ))
      ) : Option ((Int32 × Int32 × Int32 × Int32 × (Nat → Int32)) ⊕ (Int32 × Int32 × Int32 × Int32 × (Nat → Int32))))) fun j21 =>
    (if (y1_s_1 (4 : Int32).toNatClampNeg) = 16 then (
      j21 1
    ) else (
      j21 0
    ))
    ) : Option ((Int32 × Int32 × Int32 × Int32 × (Nat → Int32)) ⊕ (Int32 × Int32 × Int32 × Int32 × (Nat → Int32))))
noncomputable def rC (x0_length : Int32) (y3_text : Nat → Int32) (x4_rows_1 : Int32) (x4_columns_1 : Int32) :=
  fun (v1 : Int32) (v2 : Int32) (x0_at_2 : Int32) (x0_voyageTold_1 : Int32) (x0_wordStart_2 : Int32) (x0_wordLength_2 : Int32) (x0_numberStart_2 : Int32) (x0_number_2 : Int32) (x0_cell_1 : Int32) (x0_statement_1 : Int32) (x0_error_2 : Int32) (x0_errorAt_2 : Int32) (x2_length_1 : Int32) (x4_rivers_2 : Int32) (x5_count_2 : Int32) (x5_reds_2 : Int32) (x6_count_2 : Int32) (x6_turn_2 : Int32) (y7_letterOn_2 : Nat → Int32) (y8_namesOn_2 : Nat → Int32) (y9_costs_1 : Nat → Int32) (y10_sums_1 : Nat → Int32) (y11_way_1 : Nat → Int32) (y12_land_2 : Nat → Int32) (y13_riverOf_2 : Nat → Int32) (y14_riverPlace_2 : Nat → Int32) (y15_direction_1 : Nat → Int32) (y16_home_1 : Nat → Int32) (y17_length_1 : Nat → Int32) (y18_letters_1 : Nat → Int32) (y19_stops_1 : Nat → Int32) => ((
    (if x0_length < v2 then (
      some (.inr (v1, x0_at_2, x0_voyageTold_1, x0_wordStart_2, x0_wordLength_2, x0_numberStart_2, x0_number_2, x0_cell_1, x0_statement_1, x0_error_2, x0_errorAt_2, x2_length_1, x4_rivers_2, x5_count_2, x5_reds_2, x6_count_2, x6_turn_2, y7_letterOn_2, y8_namesOn_2, y9_costs_1, y10_sums_1, y11_way_1, y12_land_2, y13_riverOf_2, y14_riverPlace_2, y15_direction_1, y16_home_1, y17_length_1, y18_letters_1, y19_stops_1))
    ) else (
      (if v1 = 0 then (
        some (.inr (v1, x0_at_2, x0_voyageTold_1, x0_wordStart_2, x0_wordLength_2, x0_numberStart_2, x0_number_2, x0_cell_1, x0_statement_1, x0_error_2, x0_errorAt_2, x2_length_1, x4_rivers_2, x5_count_2, x5_reds_2, x6_count_2, x6_turn_2, y7_letterOn_2, y8_namesOn_2, y9_costs_1, y10_sums_1, y11_way_1, y12_land_2, y13_riverOf_2, y14_riverPlace_2, y15_direction_1, y16_home_1, y17_length_1, y18_letters_1, y19_stops_1))
      ) else (
        bd2 (f_X5_nextSign x0_length x0_at_2 y3_text) fun (r45 : Int32) (x0_at_4 : Int32) =>
        (if r45 = (-1) then (
          some (.inr (v1, x0_at_4, x0_voyageTold_1, x0_wordStart_2, x0_wordLength_2, x0_numberStart_2, x0_number_2, x0_cell_1, x0_statement_1, x0_error_2, x0_errorAt_2, x2_length_1, x4_rivers_2, x5_count_2, x5_reds_2, x6_count_2, x6_turn_2, y7_letterOn_2, y8_namesOn_2, y9_costs_1, y10_sums_1, y11_way_1, y12_land_2, y13_riverOf_2, y14_riverPlace_2, y15_direction_1, y16_home_1, y17_length_1, y18_letters_1, y19_stops_1))
        ) else (
          bd5 (f_X5_takeSemicolon x0_length x0_at_4 x0_statement_1 x0_error_2 x0_errorAt_2 y3_text) fun (r53 : Int32) (x0_at_5 : Int32) (x0_statement_3 : Int32) (x0_error_4 : Int32) (x0_errorAt_4 : Int32) =>
          bv (fun (x0_at_6 : Int32) (x0_wordStart_4 : Int32) (x0_wordLength_4 : Int32) (x0_error_5 : Int32) (x0_errorAt_5 : Int32) (t69 : Int32) => ((
            bv (fun (v1_2 : Int32) (x0_at_7 : Int32) (x0_voyageTold_3 : Int32) (x0_wordStart_5 : Int32) (x0_wordLength_5 : Int32) (x0_numberStart_4 : Int32) (x0_number_4 : Int32) (x0_cell_3 : Int32) (x0_error_6 : Int32) (x0_errorAt_6 : Int32) (x2_length_3 : Int32) (x4_rivers_4 : Int32) (x5_count_4 : Int32) (x5_reds_4 : Int32) (x6_count_4 : Int32) (x6_turn_4 : Int32) (y7_letterOn_4 : Nat → Int32) (y8_namesOn_4 : Nat → Int32) (y9_costs_3 : Nat → Int32) (y10_sums_3 : Nat → Int32) (y11_way_3 : Nat → Int32) (y12_land_4 : Nat → Int32) (y13_riverOf_4 : Nat → Int32) (y14_riverPlace_4 : Nat → Int32) (y15_direction_3 : Nat → Int32) (y16_home_3 : Nat → Int32) (y17_length_3 : Nat → Int32) (y18_letters_3 : Nat → Int32) (y19_stops_3 : Nat → Int32) => ((
              bv (v2 + 1) fun v2_1 =>
              some (.inl (v1_2, v2_1, x0_at_7, x0_voyageTold_3, x0_wordStart_5, x0_wordLength_5, x0_numberStart_4, x0_number_4, x0_cell_3, x0_statement_3, x0_error_6, x0_errorAt_6, x2_length_3, x4_rivers_4, x5_count_4, x5_reds_4, x6_count_4, x6_turn_4, y7_letterOn_4, y8_namesOn_4, y9_costs_3, y10_sums_3, y11_way_3, y12_land_4, y13_riverOf_4, y14_riverPlace_4, y15_direction_3, y16_home_3, y17_length_3, y18_letters_3, y19_stops_3))
              ) : Option ((Int32 × Int32 × Int32 × Int32 × Int32 × Int32 × Int32 × Int32 × Int32 × Int32 × Int32 × Int32 × Int32 × Int32 × Int32 × Int32 × Int32 × Int32 × (Nat → Int32) × (Nat → Int32) × (Nat → Int32) × (Nat → Int32) × (Nat → Int32) × (Nat → Int32) × (Nat → Int32) × (Nat → Int32) × (Nat → Int32) × (Nat → Int32) × (Nat → Int32) × (Nat → Int32) × (Nat → Int32)) ⊕ (Int32 × Int32 × Int32 × Int32 × Int32 × Int32 × Int32 × Int32 × Int32 × Int32 × Int32 × Int32 × Int32 × Int32 × Int32 × Int32 × Int32 × (Nat → Int32) × (Nat → Int32) × (Nat → Int32) × (Nat → Int32) × (Nat → Int32) × (Nat → Int32) × (Nat → Int32) × (Nat → Int32) × (Nat → Int32) × (Nat → Int32) × (Nat → Int32) × (Nat → Int32) × (Nat → Int32))))) fun j158 =>
            (if t69 = 1 then (
              bd8 (f_X5_readLand x0_length x0_at_6 x0_wordStart_4 x0_numberStart_2 x0_number_2 x0_cell_1 x0_error_5 x0_errorAt_5 y3_text x4_rows_1 x4_columns_1 x4_rivers_2 x5_count_2 y12_land_2) fun (r109 : Int32) (x0_at_8 : Int32) (x0_numberStart_5 : Int32) (x0_number_5 : Int32) (x0_cell_4 : Int32) (x0_error_7 : Int32) (x0_errorAt_7 : Int32) (y12_land_5 : Nat → Int32) =>
              j158 r109 x0_at_8 x0_voyageTold_1 x0_wordStart_4 x0_wordLength_4 x0_numberStart_5 x0_number_5 x0_cell_4 x0_error_7 x0_errorAt_7 x2_length_1 x4_rivers_2 x5_count_2 x5_reds_2 x6_count_2 x6_turn_2 y7_letterOn_2 y8_namesOn_2 y9_costs_1 y10_sums_1 y11_way_1 y12_land_5 y13_riverOf_2 y14_riverPlace_2 y15_direction_1 y16_home_1 y17_length_1 y18_letters_1 y19_stops_1
            ) else (
            (if t69 = 2 then (
              bd15 (f_X5_readHarbour x0_length x0_at_6 x0_wordStart_4 x0_wordLength_4 x0_numberStart_2 x0_number_2 x0_cell_1 x0_error_5 x0_errorAt_5 y3_text x4_rows_1 x4_columns_1 x5_count_2 x5_reds_2 y8_namesOn_2 y12_land_2 y13_riverOf_2 y15_direction_1 y16_home_1 y17_length_1 y18_letters_1) fun (r117 : Int32) (x0_at_9 : Int32) (x0_wordStart_6 : Int32) (x0_wordLength_6 : Int32) (x0_numberStart_6 : Int32) (x0_number_6 : Int32) (x0_cell_5 : Int32) (x0_error_8 : Int32) (x0_errorAt_8 : Int32) (x5_count_5 : Int32) (x5_reds_5 : Int32) (y15_direction_4 : Nat → Int32) (y16_home_4 : Nat → Int32) (y17_length_4 : Nat → Int32) (y18_letters_4 : Nat → Int32) =>
              j158 r117 x0_at_9 x0_voyageTold_1 x0_wordStart_6 x0_wordLength_6 x0_numberStart_6 x0_number_6 x0_cell_5 x0_error_8 x0_errorAt_8 x2_length_1 x4_rivers_2 x5_count_5 x5_reds_5 x6_count_2 x6_turn_2 y7_letterOn_2 y8_namesOn_2 y9_costs_1 y10_sums_1 y11_way_1 y12_land_2 y13_riverOf_2 y14_riverPlace_2 y15_direction_4 y16_home_4 y17_length_4 y18_letters_4 y19_stops_1
            ) else (
            (if t69 = 3 then (
              bd16 (f_X5_readRiver x0_length x0_at_6 x0_wordStart_4 x0_numberStart_2 x0_number_2 x0_cell_1 x0_error_5 x0_errorAt_5 x2_length_1 y3_text x4_rows_1 x4_columns_1 x4_rivers_2 x5_count_2 y8_namesOn_2 y9_costs_1 y10_sums_1 y11_way_1 y12_land_2 y13_riverOf_2 y14_riverPlace_2 y15_direction_1 y16_home_1 y17_length_1) fun (r125 : Int32) (x0_at_10 : Int32) (x0_numberStart_7 : Int32) (x0_number_7 : Int32) (x0_cell_6 : Int32) (x0_error_9 : Int32) (x0_errorAt_9 : Int32) (x2_length_4 : Int32) (x4_rivers_5 : Int32) (y8_namesOn_5 : Nat → Int32) (y9_costs_4 : Nat → Int32) (y10_sums_4 : Nat → Int32) (y11_way_4 : Nat → Int32) (y13_riverOf_5 : Nat → Int32) (y14_riverPlace_5 : Nat → Int32) (y15_direction_5 : Nat → Int32) =>
              j158 r125 x0_at_10 x0_voyageTold_1 x0_wordStart_4 x0_wordLength_4 x0_numberStart_7 x0_number_7 x0_cell_6 x0_error_9 x0_errorAt_9 x2_length_4 x4_rivers_5 x5_count_2 x5_reds_2 x6_count_2 x6_turn_2 y7_letterOn_2 y8_namesOn_5 y9_costs_4 y10_sums_4 y11_way_4 y12_land_2 y13_riverOf_5 y14_riverPlace_5 y15_direction_5 y16_home_1 y17_length_1 y18_letters_1 y19_stops_1
            ) else (
            (if t69 = 4 then (
              bd9 (f_X5_readPlace x0_length x0_at_6 x0_wordStart_4 x0_wordLength_4 x0_error_5 x0_errorAt_5 y3_text x4_rows_1 x4_columns_1 x5_count_2 x5_reds_2 y7_letterOn_2 y8_namesOn_2 y12_land_2 y13_riverOf_2 y15_direction_1 y16_home_1 y17_length_1 y18_letters_1) fun (r133 : Int32) (x0_at_11 : Int32) (x0_wordStart_7 : Int32) (x0_wordLength_7 : Int32) (x0_error_10 : Int32) (x0_errorAt_10 : Int32) (y7_letterOn_5 : Nat → Int32) (y8_namesOn_6 : Nat → Int32) (y15_direction_6 : Nat → Int32) =>
              j158 r133 x0_at_11 x0_voyageTold_1 x0_wordStart_7 x0_wordLength_7 x0_numberStart_2 x0_number_2 x0_cell_1 x0_error_10 x0_errorAt_10 x2_length_1 x4_rivers_2 x5_count_2 x5_reds_2 x6_count_2 x6_turn_2 y7_letterOn_5 y8_namesOn_6 y9_costs_1 y10_sums_1 y11_way_1 y12_land_2 y13_riverOf_2 y14_riverPlace_2 y15_direction_6 y16_home_1 y17_length_1 y18_letters_1 y19_stops_1
            ) else (
            (if t69 = 5 then (
              bd9 (f_X5_readVoyage x0_length x0_at_6 x0_voyageTold_1 x0_wordStart_4 x0_wordLength_4 x0_error_5 x0_errorAt_5 y3_text x5_count_2 x6_count_2 y17_length_1 y18_letters_1 y19_stops_1) fun (r141 : Int32) (x0_at_12 : Int32) (x0_voyageTold_4 : Int32) (x0_wordStart_8 : Int32) (x0_wordLength_8 : Int32) (x0_error_11 : Int32) (x0_errorAt_11 : Int32) (x6_count_5 : Int32) (y19_stops_4 : Nat → Int32) =>
              j158 r141 x0_at_12 x0_voyageTold_4 x0_wordStart_8 x0_wordLength_8 x0_numberStart_2 x0_number_2 x0_cell_1 x0_error_11 x0_errorAt_11 x2_length_1 x4_rivers_2 x5_count_2 x5_reds_2 x6_count_5 x6_turn_2 y7_letterOn_2 y8_namesOn_2 y9_costs_1 y10_sums_1 y11_way_1 y12_land_2 y13_riverOf_2 y14_riverPlace_2 y15_direction_1 y16_home_1 y17_length_1 y18_letters_1 y19_stops_4
            ) else (
            (if t69 = 6 then (
              bd7 (f_X5_readTurn x0_length x0_at_6 x0_numberStart_2 x0_number_2 x0_error_5 x0_errorAt_5 y3_text x6_turn_2) fun (r149 : Int32) (x0_at_13 : Int32) (x0_numberStart_8 : Int32) (x0_number_8 : Int32) (x0_error_12 : Int32) (x0_errorAt_12 : Int32) (x6_turn_5 : Int32) =>
              j158 r149 x0_at_13 x0_voyageTold_1 x0_wordStart_4 x0_wordLength_4 x0_numberStart_8 x0_number_8 x0_cell_1 x0_error_12 x0_errorAt_12 x2_length_1 x4_rivers_2 x5_count_2 x5_reds_2 x6_count_2 x6_turn_5 y7_letterOn_2 y8_namesOn_2 y9_costs_1 y10_sums_1 y11_way_1 y12_land_2 y13_riverOf_2 y14_riverPlace_2 y15_direction_1 y16_home_1 y17_length_1 y18_letters_1 y19_stops_1
            ) else (
            j158 0 x0_at_6 x0_voyageTold_1 x0_wordStart_4 x0_wordLength_4 x0_numberStart_2 x0_number_2 x0_cell_1 x0_error_5 x0_errorAt_5 x2_length_1 x4_rivers_2 x5_count_2 x5_reds_2 x6_count_2 x6_turn_2 y7_letterOn_2 y8_namesOn_2 y9_costs_1 y10_sums_1 y11_way_1 y12_land_2 y13_riverOf_2 y14_riverPlace_2 y15_direction_1 y16_home_1 y17_length_1 y18_letters_1 y19_stops_1
            ))
            ))
            ))
            ))
            ))
            ))
            ) : Option ((Int32 × Int32 × Int32 × Int32 × Int32 × Int32 × Int32 × Int32 × Int32 × Int32 × Int32 × Int32 × Int32 × Int32 × Int32 × Int32 × Int32 × Int32 × (Nat → Int32) × (Nat → Int32) × (Nat → Int32) × (Nat → Int32) × (Nat → Int32) × (Nat → Int32) × (Nat → Int32) × (Nat → Int32) × (Nat → Int32) × (Nat → Int32) × (Nat → Int32) × (Nat → Int32) × (Nat → Int32)) ⊕ (Int32 × Int32 × Int32 × Int32 × Int32 × Int32 × Int32 × Int32 × Int32 × Int32 × Int32 × Int32 × Int32 × Int32 × Int32 × Int32 × Int32 × (Nat → Int32) × (Nat → Int32) × (Nat → Int32) × (Nat → Int32) × (Nat → Int32) × (Nat → Int32) × (Nat → Int32) × (Nat → Int32) × (Nat → Int32) × (Nat → Int32) × (Nat → Int32) × (Nat → Int32) × (Nat → Int32))))) fun j69 =>
          (if r53 = 0 then (
            j69 x0_at_5 x0_wordStart_2 x0_wordLength_2 x0_error_4 x0_errorAt_4 (-1)
          ) else (
            bd6 (f_X5_takeKeyword x0_length x0_at_5 x0_wordStart_2 x0_wordLength_2 x0_error_4 x0_errorAt_4 y3_text) fun (r62 : Int32) (x0_at_14 : Int32) (x0_wordStart_9 : Int32) (x0_wordLength_9 : Int32) (x0_error_13 : Int32) (x0_errorAt_13 : Int32) =>
            j69 x0_at_14 x0_wordStart_9 x0_wordLength_9 x0_error_13 x0_errorAt_13 r62
          ))
        ))
      ))
    ))
    ) : Option ((Int32 × Int32 × Int32 × Int32 × Int32 × Int32 × Int32 × Int32 × Int32 × Int32 × Int32 × Int32 × Int32 × Int32 × Int32 × Int32 × Int32 × Int32 × (Nat → Int32) × (Nat → Int32) × (Nat → Int32) × (Nat → Int32) × (Nat → Int32) × (Nat → Int32) × (Nat → Int32) × (Nat → Int32) × (Nat → Int32) × (Nat → Int32) × (Nat → Int32) × (Nat → Int32) × (Nat → Int32)) ⊕ (Int32 × Int32 × Int32 × Int32 × Int32 × Int32 × Int32 × Int32 × Int32 × Int32 × Int32 × Int32 × Int32 × Int32 × Int32 × Int32 × Int32 × (Nat → Int32) × (Nat → Int32) × (Nat → Int32) × (Nat → Int32) × (Nat → Int32) × (Nat → Int32) × (Nat → Int32) × (Nat → Int32) × (Nat → Int32) × (Nat → Int32) × (Nat → Int32) × (Nat → Int32) × (Nat → Int32))))
noncomputable def rM1 (x0_length : Int32) (y4_text : Nat → Int32) :=
  fun (x0_flowLong_1 : Int32) (x0_at_4 : Int32) (x0_from_4 : Int32) (x0_error_4 : Int32) (x0_errorAt_4 : Int32) (x0_statement_1 : Int32) (x0_hasVoyage_1 : Int32) (y1_flow_1 : Nat → Int32) (y2_s_2 : Nat → Int32) (y3_sums_1 : Nat → Int32) => ((
      bd1 (f_X9_isFine x0_error_4) fun (r52 : Int32) =>
      (if r52 = 0 then (
        mr (some (x0_flowLong_1, x0_at_4, x0_from_4, x0_error_4, x0_errorAt_4, x0_statement_1, x0_hasVoyage_1, y1_flow_1, y2_s_2, y3_sums_1))
      ) else (
        bd3 (f_X9_looks x0_length x0_at_4 x0_from_4 x0_error_4 y4_text) fun (r59 : Int32) (x0_at_5 : Int32) (x0_from_5 : Int32) =>
        (if r59 = (-1) then (
          mr (some (x0_flowLong_1, x0_at_5, x0_from_5, x0_error_4, x0_errorAt_4, x0_statement_1, x0_hasVoyage_1, y1_flow_1, y2_s_2, y3_sums_1))
        ) else (
          bd1 (f_X9_byteAt x0_length y4_text x0_at_5) fun (r71 : Int32) =>
          (if r71 = 59 then (
            bv (x0_at_5 + 1) fun x0_at_6 =>
            bv (x0_statement_1 + 1) fun x0_statement_2 =>
            bd2 (f_X9_word x0_length x0_at_6 x0_from_5 x0_error_4 y4_text) fun (x0_at_7 : Int32) (x0_from_6 : Int32) =>
            bd9 (f_X9_readsOne x0_flowLong_1 x0_length x0_at_7 x0_from_6 x0_error_4 x0_errorAt_4 x0_hasVoyage_1 y1_flow_1 y2_s_2 y3_sums_1 y4_text) fun (x0_flowLong_2 : Int32) (x0_at_8 : Int32) (x0_from_7 : Int32) (x0_error_5 : Int32) (x0_errorAt_5 : Int32) (x0_hasVoyage_2 : Int32) (y1_flow_2 : Nat → Int32) (y2_s_3 : Nat → Int32) (y3_sums_2 : Nat → Int32) =>
            some (.inl (x0_flowLong_2, x0_at_8, x0_from_7, x0_error_5, x0_errorAt_5, x0_statement_2, x0_hasVoyage_2, y1_flow_2, y2_s_3, y3_sums_2))
          ) else (
            mr (bd2 (f_X9_fails x0_error_4 x0_errorAt_4 1 x0_from_5) fun (x0_error_6 : Int32) (x0_errorAt_6 : Int32) =>
            some (x0_flowLong_1, x0_at_5, x0_from_5, x0_error_6, x0_errorAt_6, x0_statement_1, x0_hasVoyage_1, y1_flow_1, y2_s_2, y3_sums_1))
          ))
        ))
      ))
      ) : Option ((Int32 × Int32 × Int32 × Int32 × Int32 × Int32 × Int32 × (Nat → Int32) × (Nat → Int32) × (Nat → Int32)) ⊕ (Int32 × Int32 × Int32 × Int32 × Int32 × Int32 × Int32 × (Nat → Int32) × (Nat → Int32) × (Nat → Int32))))
