def bd57 {α0 α1 α2 α3 α4 α5 α6 α7 α8 α9 α10 α11 α12 α13 α14 α15 α16 α17 α18 α19 α20 α21 α22 α23 α24 α25 α26 α27 α28 α29 α30 α31 α32 α33 α34 α35 α36 α37 α38 α39 α40 α41 α42 α43 α44 α45 α46 α47 α48 α49 α50 α51 α52 α53 α54 α55 α56 β : Type} (o : Option (α0 × α1 × α2 × α3 × α4 × α5 × α6 × α7 × α8 × α9 × α10 × α11 × α12 × α13 × α14 × α15 × α16 × α17 × α18 × α19 × α20 × α21 × α22 × α23 × α24 × α25 × α26 × α27 × α28 × α29 × α30 × α31 × α32 × α33 × α34 × α35 × α36 × α37 × α38 × α39 × α40 × α41 × α42 × α43 × α44 × α45 × α46 × α47 × α48 × α49 × α50 × α51 × α52 × α53 × α54 × α55 × α56)) (k : α0 → α1 → α2 → α3 → α4 → α5 → α6 → α7 → α8 → α9 → α10 → α11 → α12 → α13 → α14 → α15 → α16 → α17 → α18 → α19 → α20 → α21 → α22 → α23 → α24 → α25 → α26 → α27 → α28 → α29 → α30 → α31 → α32 → α33 → α34 → α35 → α36 → α37 → α38 → α39 → α40 → α41 → α42 → α43 → α44 → α45 → α46 → α47 → α48 → α49 → α50 → α51 → α52 → α53 → α54 → α55 → α56 → Option β) : Option β := match o with | none => none | some (a0, a1, a2, a3, a4, a5, a6, a7, a8, a9, a10, a11, a12, a13, a14, a15, a16, a17, a18, a19, a20, a21, a22, a23, a24, a25, a26, a27, a28, a29, a30, a31, a32, a33, a34, a35, a36, a37, a38, a39, a40, a41, a42, a43, a44, a45, a46, a47, a48, a49, a50, a51, a52, a53, a54, a55, a56) => k a0 a1 a2 a3 a4 a5 a6 a7 a8 a9 a10 a11 a12 a13 a14 a15 a16 a17 a18 a19 a20 a21 a22 a23 a24 a25 a26 a27 a28 a29 a30 a31 a32 a33 a34 a35 a36 a37 a38 a39 a40 a41 a42 a43 a44 a45 a46 a47 a48 a49 a50 a51 a52 a53 a54 a55 a56
theorem bd57_e {α0 α1 α2 α3 α4 α5 α6 α7 α8 α9 α10 α11 α12 α13 α14 α15 α16 α17 α18 α19 α20 α21 α22 α23 α24 α25 α26 α27 α28 α29 α30 α31 α32 α33 α34 α35 α36 α37 α38 α39 α40 α41 α42 α43 α44 α45 α46 α47 α48 α49 α50 α51 α52 α53 α54 α55 α56 β : Type} {o : Option (α0 × α1 × α2 × α3 × α4 × α5 × α6 × α7 × α8 × α9 × α10 × α11 × α12 × α13 × α14 × α15 × α16 × α17 × α18 × α19 × α20 × α21 × α22 × α23 × α24 × α25 × α26 × α27 × α28 × α29 × α30 × α31 × α32 × α33 × α34 × α35 × α36 × α37 × α38 × α39 × α40 × α41 × α42 × α43 × α44 × α45 × α46 × α47 × α48 × α49 × α50 × α51 × α52 × α53 × α54 × α55 × α56)} {k : α0 → α1 → α2 → α3 → α4 → α5 → α6 → α7 → α8 → α9 → α10 → α11 → α12 → α13 → α14 → α15 → α16 → α17 → α18 → α19 → α20 → α21 → α22 → α23 → α24 → α25 → α26 → α27 → α28 → α29 → α30 → α31 → α32 → α33 → α34 → α35 → α36 → α37 → α38 → α39 → α40 → α41 → α42 → α43 → α44 → α45 → α46 → α47 → α48 → α49 → α50 → α51 → α52 → α53 → α54 → α55 → α56 → Option β} {r : β} (h : bd57 o k = some r) : ∃ a0 a1 a2 a3 a4 a5 a6 a7 a8 a9 a10 a11 a12 a13 a14 a15 a16 a17 a18 a19 a20 a21 a22 a23 a24 a25 a26 a27 a28 a29 a30 a31 a32 a33 a34 a35 a36 a37 a38 a39 a40 a41 a42 a43 a44 a45 a46 a47 a48 a49 a50 a51 a52 a53 a54 a55 a56, o = some (a0, a1, a2, a3, a4, a5, a6, a7, a8, a9, a10, a11, a12, a13, a14, a15, a16, a17, a18, a19, a20, a21, a22, a23, a24, a25, a26, a27, a28, a29, a30, a31, a32, a33, a34, a35, a36, a37, a38, a39, a40, a41, a42, a43, a44, a45, a46, a47, a48, a49, a50, a51, a52, a53, a54, a55, a56) ∧ k a0 a1 a2 a3 a4 a5 a6 a7 a8 a9 a10 a11 a12 a13 a14 a15 a16 a17 a18 a19 a20 a21 a22 a23 a24 a25 a26 a27 a28 a29 a30 a31 a32 a33 a34 a35 a36 a37 a38 a39 a40 a41 a42 a43 a44 a45 a46 a47 a48 a49 a50 a51 a52 a53 a54 a55 a56 = some r := by
  cases o with
  | none => cases h
  | some x => obtain ⟨a0, a1, a2, a3, a4, a5, a6, a7, a8, a9, a10, a11, a12, a13, a14, a15, a16, a17, a18, a19, a20, a21, a22, a23, a24, a25, a26, a27, a28, a29, a30, a31, a32, a33, a34, a35, a36, a37, a38, a39, a40, a41, a42, a43, a44, a45, a46, a47, a48, a49, a50, a51, a52, a53, a54, a55, a56⟩ := x; exact ⟨a0, a1, a2, a3, a4, a5, a6, a7, a8, a9, a10, a11, a12, a13, a14, a15, a16, a17, a18, a19, a20, a21, a22, a23, a24, a25, a26, a27, a28, a29, a30, a31, a32, a33, a34, a35, a36, a37, a38, a39, a40, a41, a42, a43, a44, a45, a46, a47, a48, a49, a50, a51, a52, a53, a54, a55, a56, rfl, h⟩
noncomputable def f_X9_signOf (y1_s : Nat → Int32) (p1 : Int32) : Option (Int32) :=
  bd1 (f_X9_isLand y1_s p1) fun (r2 : Int32) =>
  (if r2 = 0 then (
    some 126
  ) else (
    bd1 (f_X9_harbourAt y1_s p1 (-1)) fun (r14 : Int32) =>
    (if r14 = (-1) then (
      bd1 (f_X9_letterAt y1_s p1) fun (r26 : Int32) =>
      (if r26 = (-1) then (
        bd1 (f_X9_isRiver y1_s p1) fun (r54 : Int32) =>
        (if r54 = 0 then (
          some 46
        ) else (
          some 61
        ))
      ) else (
        bd1 (f_X9_isRedIn y1_s p1) fun (r37 : Int32) =>
        (if r37 = 0 then (
          some r26
        ) else (
          some (r26 - 32)
        ))
      ))
    ) else (
      some 64
    ))
  ))
noncomputable def f_X9_writeRow (x0_thrown : Int32) (x0_written : Int32) (y1_output : Nat → Int32) (y2_s : Nat → Int32) (p1 : Int32) : Option (Int32 × Int32 × Int32 × (Nat → Int32)) :=
  ar 0 552 <|
  bd1 (f_X9_isIn (p1.toInt64) 0 ((((y2_s (0 : Int32).toNatClampNeg) - 1)).toInt64)) fun (r13 : Int32) =>
  bd2 (f_X9_passes x0_thrown r13 1) fun (r17 : Int32) (x0_thrown_1 : Int32) =>
  (if r17 = 0 then (
    some (0, x0_thrown_1, x0_written, y1_output)
  ) else (
    bv (fun (v2 : Int32) (x0_written_1 : Int32) (y1_output_1 : Nat → Int32) => ((
      ar 1 552 <|
      (if (y2_s (1 : Int32).toNatClampNeg) ≤ v2 then (
        some (.inr (x0_written_1, y1_output_1))
      ) else (
        ar 1 552 <|
        bd1 (f_X9_signOf y2_s (((y2_s (1 : Int32).toNatClampNeg) * p1) + v2)) fun (r61 : Int32) =>
        ar x0_written_1 12 <| bv (upd y1_output_1 x0_written_1.toNatClampNeg r61) fun y1_output_3 =>
        bv (x0_written_1 + 1) fun x0_written_3 =>
        bv (v2 + 1) fun v2_1 =>
        some (.inl (v2_1, x0_written_3, y1_output_3))
      ))
      ) : Option ((Int32 × Int32 × (Nat → Int32)) ⊕ (Int32 × (Nat → Int32))))) fun l32 =>
    bd2 (lq3 l32 0 0 y1_output) fun (x0_written_2 : Int32) (y1_output_2 : Nat → Int32) =>
    some (x0_written_2, x0_thrown_1, x0_written_2, y1_output_2)
  ))
noncomputable def f_X9_outputByte (x0_thrown : Int32) (x0_written : Int32) (y1_output : Nat → Int32) (p1 : Int32) : Option (Int32 × Int32) :=
  bd1 (f_X9_isIn (p1.toInt64) 0 (((x0_written - 1)).toInt64)) fun (r15 : Int32) =>
  (if r15 = 0 then (
    some ((-1), 0)
  ) else (
    ar p1 12 <|
    some ((y1_output p1.toNatClampNeg), 0)
  ))
noncomputable def f_X9_undo (x0_acts : Int32) (x0_thrown : Int32) (y1_past : Nat → Int32) (y2_s : Nat → Int32)  : Option (Int32 × Int32 × Int32 × (Nat → Int32)) :=
  (if x0_acts = 0 then (
    some ((-1), x0_acts, 0, y2_s)
  ) else (
    bv (x0_acts - 1) fun x0_acts_1 =>
    bd1 (f_X9_copies 4416 552 y1_past y2_s (552 * x0_acts_1) 0) fun (y2_s_1 : Nat → Int32) =>
    some (x0_acts_1, x0_acts_1, 0, y2_s_1)
  ))
noncomputable def f_X9_saveSnapshot (x0_thrown : Int32) (y1_isKept : Nat → Int32) (y2_kept : Nat → Int32) (y3_s : Nat → Int32) (p1 : Int32) : Option (Int32 × Int32 × (Nat → Int32) × (Nat → Int32)) :=
  bd1 (f_X9_isIn (p1.toInt64) 0 1) fun (r5 : Int32) =>
  bd2 (f_X9_passes x0_thrown r5 1) fun (r9 : Int32) (x0_thrown_1 : Int32) =>
  (if r9 = 0 then (
    some (0, x0_thrown_1, y1_isKept, y2_kept)
  ) else (
    bd1 (f_X9_copies 552 1104 y3_s y2_kept 0 (552 * p1)) fun (y2_kept_1 : Nat → Int32) =>
    ar p1 2 <| bv (upd y1_isKept p1.toNatClampNeg (vp_nar .boolean 1)) fun y1_isKept_1 =>
    ar 2 552 <|
    some ((y3_s (2 : Int32).toNatClampNeg), x0_thrown_1, y1_isKept_1, y2_kept_1)
  ))
noncomputable def f_X9_restoreSnapshot (x0_acts : Int32) (x0_thrown : Int32) (y1_isKept : Nat → Int32) (y2_kept : Nat → Int32) (y3_s : Nat → Int32) (p1 : Int32) : Option (Int32 × Int32 × Int32 × (Nat → Int32)) :=
  bd1 (f_X9_isIn (p1.toInt64) 0 1) fun (r5 : Int32) =>
  bd2 (f_X9_passes x0_thrown r5 1) fun (r9 : Int32) (x0_thrown_1 : Int32) =>
  (if r9 = 0 then (
    some (0, x0_acts, x0_thrown_1, y3_s)
  ) else (
    ar p1 2 <|
    (if (y1_isKept p1.toNatClampNeg) = 0 then (
      some ((-1), x0_acts, x0_thrown_1, y3_s)
    ) else (
      bd1 (f_X9_copies 1104 552 y2_kept y3_s (552 * p1) 0) fun (y3_s_1 : Nat → Int32) =>
      ar 2 552 <|
      some ((y3_s_1 (2 : Int32).toNatClampNeg), 0, x0_thrown_1, y3_s_1)
    ))
  ))
noncomputable def f_X3_keep (x0_latest x0_count : Int32) (D : Nat → Option ShT) (s_x1_rows : Int32) (s_x1_columns : Int32) (s_x1_rivers : Int32) (s_x2_count : Int32) (s_x2_reds : Int32) (s_x3_count : Int32) (s_x3_next : Int32) (s_x3_turn : Int32) (s_x3_quarters : Int32) (s_y4_letterOn : Nat → Int32) (s_y5_namesOn : Nat → Int32) (s_y6_land : Nat → Int32) (s_y7_riverOf : Nat → Int32) (s_y8_riverPlace : Nat → Int32) (s_y9_direction : Nat → Int32) (s_y10_home : Nat → Int32) (s_y11_length : Nat → Int32) (s_y12_letters : Nat → Int32) (s_y13_stops : Nat → Int32) : Option (Int32 × Int32 × (Nat → Option ShT)) :=
  bd1 (f_J9_floorMod_7cf53 (x0_latest + 1) 8) fun lt =>
  ar lt 8 <|
  bv ((D lt.toNatClampNeg).getD shZ) fun d =>
  bd19 (f_X6_copyFrom (d.1) (d.2.1) (d.2.2.1) (d.2.2.2.1) (d.2.2.2.2.1) (d.2.2.2.2.2.1) (d.2.2.2.2.2.2.1) (d.2.2.2.2.2.2.2.1) (d.2.2.2.2.2.2.2.2.1) (d.2.2.2.2.2.2.2.2.2.1) (d.2.2.2.2.2.2.2.2.2.2.1) (d.2.2.2.2.2.2.2.2.2.2.2.1) (d.2.2.2.2.2.2.2.2.2.2.2.2.1) (d.2.2.2.2.2.2.2.2.2.2.2.2.2.1) (d.2.2.2.2.2.2.2.2.2.2.2.2.2.2.1) (d.2.2.2.2.2.2.2.2.2.2.2.2.2.2.2.1) (d.2.2.2.2.2.2.2.2.2.2.2.2.2.2.2.2.1) (d.2.2.2.2.2.2.2.2.2.2.2.2.2.2.2.2.2.1) (d.2.2.2.2.2.2.2.2.2.2.2.2.2.2.2.2.2.2) s_x1_rows s_x1_columns s_x1_rivers s_x2_count s_x2_reds s_x3_count s_x3_next s_x3_turn s_x3_quarters s_y4_letterOn s_y5_namesOn s_y6_land s_y7_riverOf s_y8_riverPlace s_y9_direction s_y10_home s_y11_length s_y12_letters s_y13_stops) fun (o_x1_rows : Int32) (o_x1_columns : Int32) (o_x1_rivers : Int32) (o_x2_count : Int32) (o_x2_reds : Int32) (o_x3_count : Int32) (o_x3_next : Int32) (o_x3_turn : Int32) (o_x3_quarters : Int32) (o_y4_letterOn : Nat → Int32) (o_y5_namesOn : Nat → Int32) (o_y6_land : Nat → Int32) (o_y7_riverOf : Nat → Int32) (o_y8_riverPlace : Nat → Int32) (o_y9_direction : Nat → Int32) (o_y10_home : Nat → Int32) (o_y11_length : Nat → Int32) (o_y12_letters : Nat → Int32) (o_y13_stops : Nat → Int32) =>
  bv (if 8 < x0_count + 1 then 8 else x0_count + 1) fun ct =>
  some (lt, ct, updD D lt.toNatClampNeg (o_x1_rows, o_x1_columns, o_x1_rivers, o_x2_count, o_x2_reds, o_x3_count, o_x3_next, o_x3_turn, o_x3_quarters, o_y4_letterOn, o_y5_namesOn, o_y6_land, o_y7_riverOf, o_y8_riverPlace, o_y9_direction, o_y10_home, o_y11_length, o_y12_letters, o_y13_stops))
noncomputable def f_X3_giveBack (x0_latest x0_count : Int32) (D : Nat → Option ShT) (s_x1_rows : Int32) (s_x1_columns : Int32) (s_x1_rivers : Int32) (s_x2_count : Int32) (s_x2_reds : Int32) (s_x3_count : Int32) (s_x3_next : Int32) (s_x3_turn : Int32) (s_x3_quarters : Int32) (s_y4_letterOn : Nat → Int32) (s_y5_namesOn : Nat → Int32) (s_y6_land : Nat → Int32) (s_y7_riverOf : Nat → Int32) (s_y8_riverPlace : Nat → Int32) (s_y9_direction : Nat → Int32) (s_y10_home : Nat → Int32) (s_y11_length : Nat → Int32) (s_y12_letters : Nat → Int32) (s_y13_stops : Nat → Int32) : Option (Int32 × Int32 × Int32 × Int32 × Int32 × Int32 × Int32 × Int32 × Int32 × Int32 × Int32 × Int32 × (Nat → Int32) × (Nat → Int32) × (Nat → Int32) × (Nat → Int32) × (Nat → Int32) × (Nat → Int32) × (Nat → Int32) × (Nat → Int32) × (Nat → Int32) × (Nat → Int32)) :=
  (if x0_count = 0 then some (0, x0_latest, x0_count, s_x1_rows, s_x1_columns, s_x1_rivers, s_x2_count, s_x2_reds, s_x3_count, s_x3_next, s_x3_turn, s_x3_quarters, s_y4_letterOn, s_y5_namesOn, s_y6_land, s_y7_riverOf, s_y8_riverPlace, s_y9_direction, s_y10_home, s_y11_length, s_y12_letters, s_y13_stops) else
  (if x0_latest < 0 then some (0, x0_latest, x0_count, s_x1_rows, s_x1_columns, s_x1_rivers, s_x2_count, s_x2_reds, s_x3_count, s_x3_next, s_x3_turn, s_x3_quarters, s_y4_letterOn, s_y5_namesOn, s_y6_land, s_y7_riverOf, s_y8_riverPlace, s_y9_direction, s_y10_home, s_y11_length, s_y12_letters, s_y13_stops) else
  (if x0_latest < 8 then
  ar x0_latest 8 <|
  (match D x0_latest.toNatClampNeg with
  | none => some (0, x0_latest, x0_count, s_x1_rows, s_x1_columns, s_x1_rivers, s_x2_count, s_x2_reds, s_x3_count, s_x3_next, s_x3_turn, s_x3_quarters, s_y4_letterOn, s_y5_namesOn, s_y6_land, s_y7_riverOf, s_y8_riverPlace, s_y9_direction, s_y10_home, s_y11_length, s_y12_letters, s_y13_stops)
  | some d => bd19 (f_X6_copyFrom s_x1_rows s_x1_columns s_x1_rivers s_x2_count s_x2_reds s_x3_count s_x3_next s_x3_turn s_x3_quarters s_y4_letterOn s_y5_namesOn s_y6_land s_y7_riverOf s_y8_riverPlace s_y9_direction s_y10_home s_y11_length s_y12_letters s_y13_stops (d.1) (d.2.1) (d.2.2.1) (d.2.2.2.1) (d.2.2.2.2.1) (d.2.2.2.2.2.1) (d.2.2.2.2.2.2.1) (d.2.2.2.2.2.2.2.1) (d.2.2.2.2.2.2.2.2.1) (d.2.2.2.2.2.2.2.2.2.1) (d.2.2.2.2.2.2.2.2.2.2.1) (d.2.2.2.2.2.2.2.2.2.2.2.1) (d.2.2.2.2.2.2.2.2.2.2.2.2.1) (d.2.2.2.2.2.2.2.2.2.2.2.2.2.1) (d.2.2.2.2.2.2.2.2.2.2.2.2.2.2.1) (d.2.2.2.2.2.2.2.2.2.2.2.2.2.2.2.1) (d.2.2.2.2.2.2.2.2.2.2.2.2.2.2.2.2.1) (d.2.2.2.2.2.2.2.2.2.2.2.2.2.2.2.2.2.1) (d.2.2.2.2.2.2.2.2.2.2.2.2.2.2.2.2.2.2)) fun (o_x1_rows : Int32) (o_x1_columns : Int32) (o_x1_rivers : Int32) (o_x2_count : Int32) (o_x2_reds : Int32) (o_x3_count : Int32) (o_x3_next : Int32) (o_x3_turn : Int32) (o_x3_quarters : Int32) (o_y4_letterOn : Nat → Int32) (o_y5_namesOn : Nat → Int32) (o_y6_land : Nat → Int32) (o_y7_riverOf : Nat → Int32) (o_y8_riverPlace : Nat → Int32) (o_y9_direction : Nat → Int32) (o_y10_home : Nat → Int32) (o_y11_length : Nat → Int32) (o_y12_letters : Nat → Int32) (o_y13_stops : Nat → Int32) =>
    bd1 (f_J9_floorMod_7cf53 (x0_latest - 1) 8) fun lt =>
    bv (x0_count - 1) fun ct => some (1, lt, ct, o_x1_rows, o_x1_columns, o_x1_rivers, o_x2_count, o_x2_reds, o_x3_count, o_x3_next, o_x3_turn, o_x3_quarters, o_y4_letterOn, o_y5_namesOn, o_y6_land, o_y7_riverOf, o_y8_riverPlace, o_y9_direction, o_y10_home, o_y11_length, o_y12_letters, o_y13_stops))
  else some (0, x0_latest, x0_count, s_x1_rows, s_x1_columns, s_x1_rivers, s_x2_count, s_x2_reds, s_x3_count, s_x3_next, s_x3_turn, s_x3_quarters, s_y4_letterOn, s_y5_namesOn, s_y6_land, s_y7_riverOf, s_y8_riverPlace, s_y9_direction, s_y10_home, s_y11_length, s_y12_letters, s_y13_stops))))
noncomputable def f_X8_place (x1_latest : Int32) (x1_count : Int32) (y3_past : Nat → Option ShT) (x4_rows : Int32) (x4_columns : Int32) (x4_rivers : Int32) (x5_count : Int32) (x5_reds : Int32) (x6_count : Int32) (x6_next : Int32) (x6_turn : Int32) (x6_quarters : Int32) (y7_letterOn : Nat → Int32) (y8_namesOn : Nat → Int32) (y9_land : Nat → Int32) (y10_riverOf : Nat → Int32) (y11_riverPlace : Nat → Int32) (y12_direction : Nat → Int32) (y13_home : Nat → Int32) (y14_length : Nat → Int32) (y15_letters : Nat → Int32) (y16_stops : Nat → Int32) (p1 : Int32) (p2 : Int32) : Option (Int32 × Int32 × Int32 × (Nat → Option ShT) × (Nat → Int32) × (Nat → Int32) × (Nat → Int32)) :=
  bd1 (f_X8_needHarbour x5_count p1) fun (_ : Unit) =>
  bd1 (f_X8_needDirection p2) fun (_ : Unit) =>
  bd1 (f_X6_reasonAgainst x4_rows x4_columns x5_count x5_reds y7_letterOn y8_namesOn y9_land y10_riverOf y13_home y14_length y15_letters p1 p2) fun (r15 : Int32) =>
  (if r15 = 0 then (
    bd3 (f_X3_keep x1_latest x1_count y3_past x4_rows x4_columns x4_rivers x5_count x5_reds x6_count x6_next x6_turn x6_quarters y7_letterOn y8_namesOn y9_land y10_riverOf y11_riverPlace y12_direction y13_home y14_length y15_letters y16_stops) fun (x1_latest_1 : Int32) (x1_count_1 : Int32) (y3_past_1 : Nat → Option ShT) =>
    bd1 (f_X2_directionOf x5_count y12_direction p1) fun (r43 : Int32) =>
    bd3 (f_X6_putName x4_rows x4_columns x5_count y7_letterOn y8_namesOn y12_direction y13_home y14_length y15_letters p1 p2) fun (y7_letterOn_1 : Nat → Int32) (y8_namesOn_1 : Nat → Int32) (y12_direction_1 : Nat → Int32) =>
    some (r43, x1_latest_1, x1_count_1, y3_past_1, y7_letterOn_1, y8_namesOn_1, y12_direction_1)
  ) else (
    some ((-3), x1_latest, x1_count, y3_past, y7_letterOn, y8_namesOn, y12_direction)
  ))
noncomputable def f_X8_lift (x1_latest : Int32) (x1_count : Int32) (y3_past : Nat → Option ShT) (x4_rows : Int32) (x4_columns : Int32) (x4_rivers : Int32) (x5_count : Int32) (x5_reds : Int32) (x6_count : Int32) (x6_next : Int32) (x6_turn : Int32) (x6_quarters : Int32) (y7_letterOn : Nat → Int32) (y8_namesOn : Nat → Int32) (y9_land : Nat → Int32) (y10_riverOf : Nat → Int32) (y11_riverPlace : Nat → Int32) (y12_direction : Nat → Int32) (y13_home : Nat → Int32) (y14_length : Nat → Int32) (y15_letters : Nat → Int32) (y16_stops : Nat → Int32) (p1 : Int32) : Option (Int32 × Int32 × Int32 × (Nat → Option ShT) × (Nat → Int32) × (Nat → Int32)) :=
  bd1 (f_X8_needHarbour x5_count p1) fun (_ : Unit) =>
  bd1 (f_X2_directionOf x5_count y12_direction p1) fun (r13 : Int32) =>
  (if r13 = (-1) then (
    some ((-3), x1_latest, x1_count, y3_past, y8_namesOn, y12_direction)
  ) else (
    bd3 (f_X3_keep x1_latest x1_count y3_past x4_rows x4_columns x4_rivers x5_count x5_reds x6_count x6_next x6_turn x6_quarters y7_letterOn y8_namesOn y9_land y10_riverOf y11_riverPlace y12_direction y13_home y14_length y15_letters y16_stops) fun (x1_latest_1 : Int32) (x1_count_1 : Int32) (y3_past_1 : Nat → Option ShT) =>
    bd2 (f_X6_takeName x4_rows x4_columns x5_count y8_namesOn y12_direction y13_home y14_length p1) fun (y8_namesOn_1 : Nat → Int32) (y12_direction_1 : Nat → Int32) =>
    some (r13, x1_latest_1, x1_count_1, y3_past_1, y8_namesOn_1, y12_direction_1)
  ))
noncomputable def f_X8_arrange (x1_reds : Int32) (x1_bestReds : Int32) (x1_bestCount : Int32) (x1_bestTurning : Int32) (x2_latest : Int32) (x2_count : Int32) (y4_allowed : Nat → Int32) (y5_best : Nat → Int32) (y6_foes : Nat → Int32) (y7_namesLeft : Nat → Int32) (y8_redsLeft : Nat → Int32) (y9_trial : Nat → Int32) (y10_past : Nat → Option ShT) (x11_rows : Int32) (x11_columns : Int32) (x11_rivers : Int32) (x12_count : Int32) (x12_reds : Int32) (x13_count : Int32) (x13_next : Int32) (x13_turn : Int32) (x13_quarters : Int32) (y14_letterOn : Nat → Int32) (y15_namesOn : Nat → Int32) (y16_land : Nat → Int32) (y17_riverOf : Nat → Int32) (y18_riverPlace : Nat → Int32) (y19_direction : Nat → Int32) (y20_home : Nat → Int32) (y21_length : Nat → Int32) (y22_letters : Nat → Int32) (y23_stops : Nat → Int32)  : Option (Int32 × Int32 × Int32 × Int32 × Int32 × Int32 × Int32 × (Nat → Int32) × (Nat → Int32) × (Nat → Int32) × (Nat → Int32) × (Nat → Int32) × (Nat → Int32) × (Nat → Option ShT) × (Nat → Int32) × (Nat → Int32) × (Nat → Int32)) :=
  bd10 (f_X0_findBest x1_reds x1_bestReds x1_bestCount x1_bestTurning y4_allowed y5_best y6_foes y7_namesLeft y8_redsLeft y9_trial x11_rows x11_columns x12_count x13_count x13_turn y16_land y17_riverOf y20_home y21_length y22_letters y23_stops (-1) x12_reds) fun (x1_reds_1 : Int32) (x1_bestReds_1 : Int32) (x1_bestCount_1 : Int32) (x1_bestTurning_1 : Int32) (y4_allowed_1 : Nat → Int32) (y5_best_1 : Nat → Int32) (y6_foes_1 : Nat → Int32) (y7_namesLeft_1 : Nat → Int32) (y8_redsLeft_1 : Nat → Int32) (y9_trial_1 : Nat → Int32) =>
  bd3 (f_X3_keep x2_latest x2_count y10_past x11_rows x11_columns x11_rivers x12_count x12_reds x13_count x13_next x13_turn x13_quarters y14_letterOn y15_namesOn y16_land y17_riverOf y18_riverPlace y19_direction y20_home y21_length y22_letters y23_stops) fun (x2_latest_1 : Int32) (x2_count_1 : Int32) (y10_past_1 : Nat → Option ShT) =>
  bd1 (f_X2_placedNames x12_count y19_direction) fun (r44 : Int32) =>
  bd2 (f_X6_takeNames x11_rows x11_columns x12_count y15_namesOn y19_direction y20_home y21_length r44) fun (y15_namesOn_1 : Nat → Int32) (y19_direction_1 : Nat → Int32) =>
  bv (fun (v1 : Int32) (y14_letterOn_1 : Nat → Int32) (y15_namesOn_2 : Nat → Int32) (y19_direction_2 : Nat → Int32) => ((
    (if x12_count ≤ v1 then (
      some (.inr (y14_letterOn_1, y15_namesOn_2, y19_direction_2))
    ) else (
      bd1 (f_X0_bestDirection y5_best_1 v1) fun (r71 : Int32) =>
      bv (fun (y14_letterOn_3 : Nat → Int32) (y15_namesOn_4 : Nat → Int32) (y19_direction_4 : Nat → Int32) => ((
        bv (v1 + 1) fun v1_1 =>
        some (.inl (v1_1, y14_letterOn_3, y15_namesOn_4, y19_direction_4))
        ) : Option ((Int32 × (Nat → Int32) × (Nat → Int32) × (Nat → Int32)) ⊕ ((Nat → Int32) × (Nat → Int32) × (Nat → Int32))))) fun j89 =>
      (if r71 = (-1) then (
        j89 y14_letterOn_1 y15_namesOn_2 y19_direction_2
      ) else (
        bd3 (f_X6_putName x11_rows x11_columns x12_count y14_letterOn_1 y15_namesOn_2 y19_direction_2 y20_home y21_length y22_letters v1 r71) fun (y14_letterOn_4 : Nat → Int32) (y15_namesOn_5 : Nat → Int32) (y19_direction_5 : Nat → Int32) =>
        j89 y14_letterOn_4 y15_namesOn_5 y19_direction_5
      ))
    ))
    ) : Option ((Int32 × (Nat → Int32) × (Nat → Int32) × (Nat → Int32)) ⊕ ((Nat → Int32) × (Nat → Int32) × (Nat → Int32))))) fun l52 =>
  bd3 (lq4 l52 0 y14_letterOn y15_namesOn_1 y19_direction_1) fun (y14_letterOn_2 : Nat → Int32) (y15_namesOn_3 : Nat → Int32) (y19_direction_3 : Nat → Int32) =>
  some (x1_bestCount_1, x1_reds_1, x1_bestReds_1, x1_bestCount_1, x1_bestTurning_1, x2_latest_1, x2_count_1, y4_allowed_1, y5_best_1, y6_foes_1, y7_namesLeft_1, y8_redsLeft_1, y9_trial_1, y10_past_1, y14_letterOn_2, y15_namesOn_3, y19_direction_3)
noncomputable def f_X8_setRed (x1_latest : Int32) (x1_count : Int32) (y3_past : Nat → Option ShT) (x4_rows : Int32) (x4_columns : Int32) (x4_rivers : Int32) (x5_count : Int32) (x5_reds : Int32) (x6_count : Int32) (x6_next : Int32) (x6_turn : Int32) (x6_quarters : Int32) (y7_letterOn : Nat → Int32) (y8_namesOn : Nat → Int32) (y9_land : Nat → Int32) (y10_riverOf : Nat → Int32) (y11_riverPlace : Nat → Int32) (y12_direction : Nat → Int32) (y13_home : Nat → Int32) (y14_length : Nat → Int32) (y15_letters : Nat → Int32) (y16_stops : Nat → Int32) (p1 : Int32) (p2 : Int32) : Option (Int32 × Int32 × Int32 × (Nat → Option ShT) × Int32 × (Nat → Int32) × (Nat → Int32)) :=
  bd1 (f_X8_needHarbour x5_count p1) fun (_ : Unit) =>
  bd3 (f_X3_keep x1_latest x1_count y3_past x4_rows x4_columns x4_rivers x5_count x5_reds x6_count x6_next x6_turn x6_quarters y7_letterOn y8_namesOn y9_land y10_riverOf y11_riverPlace y12_direction y13_home y14_length y15_letters y16_stops) fun (x1_latest_1 : Int32) (x1_count_1 : Int32) (y3_past_1 : Nat → Option ShT) =>
  bd1 (f_X2_isRed x5_reds p1) fun (r24 : Int32) =>
  bv (fun (y8_namesOn_1 : Nat → Int32) (y12_direction_1 : Nat → Int32) => ((
    bd1 (f_X2_redsIf x5_reds p1 p2) fun (r63 : Int32) =>
    zb r24 (some (r24, x1_latest_1, x1_count_1, y3_past_1, r63, y8_namesOn_1, y12_direction_1))
    ) : Option (Int32 × Int32 × Int32 × (Nat → Option ShT) × Int32 × (Nat → Int32) × (Nat → Int32)))) fun j47 =>
  (if p2 = 0 then (
    j47 y8_namesOn y12_direction
  ) else (
    bd1 (f_X6_crossedBy x4_rows x4_columns x5_count y8_namesOn y12_direction y13_home y14_length p1) fun (r41 : Int32) =>
    bd2 (f_X6_takeNames x4_rows x4_columns x5_count y8_namesOn y12_direction y13_home y14_length r41) fun (y8_namesOn_2 : Nat → Int32) (y12_direction_2 : Nat → Int32) =>
    j47 y8_namesOn_2 y12_direction_2
  ))
noncomputable def f_X8_addRiver (x1_latest : Int32) (x1_count : Int32) (x3_length : Int32) (y4_past : Nat → Option ShT) (x5_rows : Int32) (x5_columns : Int32) (x5_rivers : Int32) (x6_count : Int32) (x6_reds : Int32) (x7_count : Int32) (x7_next : Int32) (x7_turn : Int32) (x7_quarters : Int32) (y8_letterOn : Nat → Int32) (y9_namesOn : Nat → Int32) (y10_costs : Nat → Int32) (y11_sums : Nat → Int32) (y12_way : Nat → Int32) (y13_land : Nat → Int32) (y14_riverOf : Nat → Int32) (y15_riverPlace : Nat → Int32) (y16_direction : Nat → Int32) (y17_home : Nat → Int32) (y18_length : Nat → Int32) (y19_letters : Nat → Int32) (y20_stops : Nat → Int32) (p1 : Int32) : Option (Int32 × Int32 × Int32 × Int32 × (Nat → Option ShT) × Int32 × (Nat → Int32) × (Nat → Int32) × (Nat → Int32) × (Nat → Int32) × (Nat → Int32) × (Nat → Int32) × (Nat → Int32)) :=
  bd1 (f_X8_needCell x5_rows x5_columns p1) fun (_ : Unit) =>
  (if x5_rivers < 8 then (
    bd5 (f_X8_wayFrom x3_length x5_rows x5_columns x6_count y9_namesOn y10_costs y11_sums y12_way y13_land y14_riverOf y17_home p1) fun (r25 : Int32) (x3_length_1 : Int32) (y10_costs_1 : Nat → Int32) (y11_sums_1 : Nat → Int32) (y12_way_1 : Nat → Int32) =>
    (if r25 = 0 then (
      some ((-3), x1_latest, x1_count, x3_length_1, y4_past, x5_rivers, y9_namesOn, y10_costs_1, y11_sums_1, y12_way_1, y14_riverOf, y15_riverPlace, y16_direction)
    ) else (
      bd3 (f_X3_keep x1_latest x1_count y4_past x5_rows x5_columns x5_rivers x6_count x6_reds x7_count x7_next x7_turn x7_quarters y8_letterOn y9_namesOn y13_land y14_riverOf y15_riverPlace y16_direction y17_home y18_length y19_letters y20_stops) fun (x1_latest_1 : Int32) (x1_count_1 : Int32) (y4_past_1 : Nat → Option ShT) =>
      bd1 (f_X7_namesOnWay x3_length_1 y12_way_1 y9_namesOn) fun (r57 : Int32) =>
      bd2 (f_X6_takeNames x5_rows x5_columns x6_count y9_namesOn y16_direction y17_home y18_length r57) fun (y9_namesOn_1 : Nat → Int32) (y16_direction_1 : Nat → Int32) =>
      bd3 (f_X1_layRiver x5_rivers y14_riverOf y15_riverPlace y12_way_1 x3_length_1) fun (x5_rivers_1 : Int32) (y14_riverOf_1 : Nat → Int32) (y15_riverPlace_1 : Nat → Int32) =>
      some ((x5_rivers_1 - 1), x1_latest_1, x1_count_1, x3_length_1, y4_past_1, x5_rivers_1, y9_namesOn_1, y10_costs_1, y11_sums_1, y12_way_1, y14_riverOf_1, y15_riverPlace_1, y16_direction_1)
    ))
  ) else (
    some ((-2), x1_latest, x1_count, x3_length, y4_past, x5_rivers, y9_namesOn, y10_costs, y11_sums, y12_way, y14_riverOf, y15_riverPlace, y16_direction)
  ))
noncomputable def f_X8_dropRiver (x1_latest : Int32) (x1_count : Int32) (y3_past : Nat → Option ShT) (x4_rows : Int32) (x4_columns : Int32) (x4_rivers : Int32) (x5_count : Int32) (x5_reds : Int32) (x6_count : Int32) (x6_next : Int32) (x6_turn : Int32) (x6_quarters : Int32) (y7_letterOn : Nat → Int32) (y8_namesOn : Nat → Int32) (y9_land : Nat → Int32) (y10_riverOf : Nat → Int32) (y11_riverPlace : Nat → Int32) (y12_direction : Nat → Int32) (y13_home : Nat → Int32) (y14_length : Nat → Int32) (y15_letters : Nat → Int32) (y16_stops : Nat → Int32) (p1 : Int32) : Option (Int32 × Int32 × Int32 × (Nat → Option ShT) × Int32 × (Nat → Int32) × (Nat → Int32)) :=
  bd1 (f_X8_needRiver x4_rivers p1) fun (_ : Unit) =>
  bd3 (f_X3_keep x1_latest x1_count y3_past x4_rows x4_columns x4_rivers x5_count x5_reds x6_count x6_next x6_turn x6_quarters y7_letterOn y8_namesOn y9_land y10_riverOf y11_riverPlace y12_direction y13_home y14_length y15_letters y16_stops) fun (x1_latest_1 : Int32) (x1_count_1 : Int32) (y3_past_1 : Nat → Option ShT) =>
  bd4 (f_X1_dryRiver x4_rivers y10_riverOf y11_riverPlace p1) fun (r24 : Int32) (x4_rivers_1 : Int32) (y10_riverOf_1 : Nat → Int32) (y11_riverPlace_1 : Nat → Int32) =>
  some (r24, x1_latest_1, x1_count_1, y3_past_1, x4_rivers_1, y10_riverOf_1, y11_riverPlace_1)
noncomputable def f_X8_erode (x1_latest : Int32) (x1_count : Int32) (y3_past : Nat → Option ShT) (x4_rows : Int32) (x4_columns : Int32) (x4_rivers : Int32) (x5_count : Int32) (x5_reds : Int32) (x6_count : Int32) (x6_next : Int32) (x6_turn : Int32) (x6_quarters : Int32) (y7_letterOn : Nat → Int32) (y8_namesOn : Nat → Int32) (y9_land : Nat → Int32) (y10_riverOf : Nat → Int32) (y11_riverPlace : Nat → Int32) (y12_direction : Nat → Int32) (y13_home : Nat → Int32) (y14_length : Nat → Int32) (y15_letters : Nat → Int32) (y16_stops : Nat → Int32) (p1 : Int32) : Option (Int32 × Int32 × Int32 × (Nat → Option ShT) × (Nat → Int32) × (Nat → Int32) × (Nat → Int32)) :=
  bd1 (f_X8_needCell x4_rows x4_columns p1) fun (_ : Unit) =>
  bd1 (f_X6_isOpen x5_count y9_land y10_riverOf y13_home p1) fun (r10 : Int32) =>
  (if r10 = 0 then (
    some ((-3), x1_latest, x1_count, y3_past, y8_namesOn, y9_land, y12_direction)
  ) else (
    bd3 (f_X3_keep x1_latest x1_count y3_past x4_rows x4_columns x4_rivers x5_count x5_reds x6_count x6_next x6_turn x6_quarters y7_letterOn y8_namesOn y9_land y10_riverOf y11_riverPlace y12_direction y13_home y14_length y15_letters y16_stops) fun (x1_latest_1 : Int32) (x1_count_1 : Int32) (y3_past_1 : Nat → Option ShT) =>
    bd1 (f_X6_namesIn y8_namesOn p1) fun (r35 : Int32) =>
    bd2 (f_X6_takeNames x4_rows x4_columns x5_count y8_namesOn y12_direction y13_home y14_length r35) fun (y8_namesOn_1 : Nat → Int32) (y12_direction_1 : Nat → Int32) =>
    bd1 (f_X1_setLand y9_land p1 0) fun (y9_land_1 : Nat → Int32) =>
    bd1 (f_J6_bitCount_0f7a4 r35) fun (r60 : Int32) =>
    some (r60, x1_latest_1, x1_count_1, y3_past_1, y8_namesOn_1, y9_land_1, y12_direction_1)
  ))
noncomputable def f_X8_raise (x1_latest : Int32) (x1_count : Int32) (y3_past : Nat → Option ShT) (x4_rows : Int32) (x4_columns : Int32) (x4_rivers : Int32) (x5_count : Int32) (x5_reds : Int32) (x6_count : Int32) (x6_next : Int32) (x6_turn : Int32) (x6_quarters : Int32) (y7_letterOn : Nat → Int32) (y8_namesOn : Nat → Int32) (y9_land : Nat → Int32) (y10_riverOf : Nat → Int32) (y11_riverPlace : Nat → Int32) (y12_direction : Nat → Int32) (y13_home : Nat → Int32) (y14_length : Nat → Int32) (y15_letters : Nat → Int32) (y16_stops : Nat → Int32) (p1 : Int32) : Option (Int32 × Int32 × Int32 × (Nat → Option ShT) × (Nat → Int32) × (Nat → Int32) × (Nat → Int32)) :=
  bd1 (f_X8_needCell x4_rows x4_columns p1) fun (_ : Unit) =>
  bd1 (f_X1_isLand y9_land p1) fun (r13 : Int32) =>
  (if r13 = 0 then (
    bd1 (f_X6_shutsHarbour x4_rows x4_columns x5_count y9_land y13_home p1) fun (r24 : Int32) =>
    (if r24 = 0 then (
      bd3 (f_X3_keep x1_latest x1_count y3_past x4_rows x4_columns x4_rivers x5_count x5_reds x6_count x6_next x6_turn x6_quarters y7_letterOn y8_namesOn y9_land y10_riverOf y11_riverPlace y12_direction y13_home y14_length y15_letters y16_stops) fun (x1_latest_1 : Int32) (x1_count_1 : Int32) (y3_past_1 : Nat → Option ShT) =>
      bd1 (f_X6_namesWithBackTo x4_rows x4_columns x5_count y12_direction y13_home p1) fun (r49 : Int32) =>
      bd2 (f_X6_takeNames x4_rows x4_columns x5_count y8_namesOn y12_direction y13_home y14_length r49) fun (y8_namesOn_1 : Nat → Int32) (y12_direction_1 : Nat → Int32) =>
      bd1 (f_X1_setLand y9_land p1 1) fun (y9_land_1 : Nat → Int32) =>
      bd1 (f_J6_bitCount_0f7a4 r49) fun (r74 : Int32) =>
      some (r74, x1_latest_1, x1_count_1, y3_past_1, y8_namesOn_1, y9_land_1, y12_direction_1)
    ) else (
      some ((-3), x1_latest, x1_count, y3_past, y8_namesOn, y9_land, y12_direction)
    ))
  ) else (
    some ((-3), x1_latest, x1_count, y3_past, y8_namesOn, y9_land, y12_direction)
  ))
noncomputable def f_X8_sail (x1_latest : Int32) (x1_count : Int32) (y3_past : Nat → Option ShT) (x4_rows : Int32) (x4_columns : Int32) (x4_rivers : Int32) (x5_count : Int32) (x5_reds : Int32) (x6_count : Int32) (x6_next : Int32) (x6_turn : Int32) (x6_quarters : Int32) (y7_letterOn : Nat → Int32) (y8_namesOn : Nat → Int32) (y9_land : Nat → Int32) (y10_riverOf : Nat → Int32) (y11_riverPlace : Nat → Int32) (y12_direction : Nat → Int32) (y13_home : Nat → Int32) (y14_length : Nat → Int32) (y15_letters : Nat → Int32) (y16_stops : Nat → Int32) (p1 : Int32) : Option (Int32 × Int32 × Int32 × (Nat → Option ShT) × Int32 × (Nat → Int32)) :=
  bd1 (f_X8_needHarbour x5_count p1) fun (_ : Unit) =>
  (if x6_count < 16 then (
    bd3 (f_X3_keep x1_latest x1_count y3_past x4_rows x4_columns x4_rivers x5_count x5_reds x6_count x6_next x6_turn x6_quarters y7_letterOn y8_namesOn y9_land y10_riverOf y11_riverPlace y12_direction y13_home y14_length y15_letters y16_stops) fun (x1_latest_1 : Int32) (x1_count_1 : Int32) (y3_past_1 : Nat → Option ShT) =>
    bd2 (f_X4_addStop x6_count y16_stops p1) fun (x6_count_1 : Int32) (y16_stops_1 : Nat → Int32) =>
    some (x6_count_1, x1_latest_1, x1_count_1, y3_past_1, x6_count_1, y16_stops_1)
  ) else (
    some ((-2), x1_latest, x1_count, y3_past, x6_count, y16_stops)
  ))
noncomputable def f_X8_cut (x1_latest : Int32) (x1_count : Int32) (y3_past : Nat → Option ShT) (x4_rows : Int32) (x4_columns : Int32) (x4_rivers : Int32) (x5_count : Int32) (x5_reds : Int32) (x6_count : Int32) (x6_next : Int32) (x6_turn : Int32) (x6_quarters : Int32) (y7_letterOn : Nat → Int32) (y8_namesOn : Nat → Int32) (y9_land : Nat → Int32) (y10_riverOf : Nat → Int32) (y11_riverPlace : Nat → Int32) (y12_direction : Nat → Int32) (y13_home : Nat → Int32) (y14_length : Nat → Int32) (y15_letters : Nat → Int32) (y16_stops : Nat → Int32) (p1 : Int32) : Option (Int32 × Int32 × Int32 × (Nat → Option ShT) × Int32 × Int32 × (Nat → Int32)) :=
  bv (fun (_ : Unit) => ((
    none
    ) : Option (Int32 × Int32 × Int32 × (Nat → Option ShT) × Int32 × Int32 × (Nat → Int32)))) fun j18 =>
  (if p1 < 0 then (
    j18 ()
  ) else (
    (if p1 < x6_count then (
      bd3 (f_X3_keep x1_latest x1_count y3_past x4_rows x4_columns x4_rivers x5_count x5_reds x6_count x6_next x6_turn x6_quarters y7_letterOn y8_namesOn y9_land y10_riverOf y11_riverPlace y12_direction y13_home y14_length y15_letters y16_stops) fun (x1_latest_1 : Int32) (x1_count_1 : Int32) (y3_past_1 : Nat → Option ShT) =>
      bd1 (f_X4_stopAt x6_count y16_stops p1) fun (r48 : Int32) =>
      bd3 (f_X4_dropStop x6_count x6_next y16_stops p1) fun (x6_count_1 : Int32) (x6_next_1 : Int32) (y16_stops_1 : Nat → Int32) =>
      some (r48, x1_latest_1, x1_count_1, y3_past_1, x6_count_1, x6_next_1, y16_stops_1)
    ) else (
      j18 ()
    ))
  ))
noncomputable def f_X8_turnPage (x1_latest : Int32) (x1_count : Int32) (y3_past : Nat → Option ShT) (x4_rows : Int32) (x4_columns : Int32) (x4_rivers : Int32) (x5_count : Int32) (x5_reds : Int32) (x6_count : Int32) (x6_next : Int32) (x6_turn : Int32) (x6_quarters : Int32) (y7_letterOn : Nat → Int32) (y8_namesOn : Nat → Int32) (y9_land : Nat → Int32) (y10_riverOf : Nat → Int32) (y11_riverPlace : Nat → Int32) (y12_direction : Nat → Int32) (y13_home : Nat → Int32) (y14_length : Nat → Int32) (y15_letters : Nat → Int32) (y16_stops : Nat → Int32) (p1 : Int32) : Option (Int32 × Int32 × Int32 × (Nat → Option ShT) × Int32 × Int32) :=
  bd1 (f_X8_needTurn p1) fun (_ : Unit) =>
  bd3 (f_X3_keep x1_latest x1_count y3_past x4_rows x4_columns x4_rivers x5_count x5_reds x6_count x6_next x6_turn x6_quarters y7_letterOn y8_namesOn y9_land y10_riverOf y11_riverPlace y12_direction y13_home y14_length y15_letters y16_stops) fun (x1_latest_1 : Int32) (x1_count_1 : Int32) (y3_past_1 : Nat → Option ShT) =>
  bd3 (f_X4_turnTo x6_turn x6_quarters p1) fun (r23 : Int32) (x6_turn_1 : Int32) (x6_quarters_1 : Int32) =>
  some (r23, x1_latest_1, x1_count_1, y3_past_1, x6_turn_1, x6_quarters_1)
noncomputable def f_X8_read (x1_latest : Int32) (x1_count : Int32) (y3_past : Nat → Option ShT) (x4_rows : Int32) (x4_columns : Int32) (x4_rivers : Int32) (x5_count : Int32) (x5_reds : Int32) (x6_count : Int32) (x6_next : Int32) (x6_turn : Int32) (x6_quarters : Int32) (y7_letterOn : Nat → Int32) (y8_namesOn : Nat → Int32) (y9_land : Nat → Int32) (y10_riverOf : Nat → Int32) (y11_riverPlace : Nat → Int32) (y12_direction : Nat → Int32) (y13_home : Nat → Int32) (y14_length : Nat → Int32) (y15_letters : Nat → Int32) (y16_stops : Nat → Int32)  : Option (Int32 × Int32 × Int32 × (Nat → Option ShT) × Int32 × Int32 × Int32) :=
  (if x6_count = 0 then (
    some ((-3), x1_latest, x1_count, y3_past, x6_next, x6_turn, x6_quarters)
  ) else (
    bd3 (f_X3_keep x1_latest x1_count y3_past x4_rows x4_columns x4_rivers x5_count x5_reds x6_count x6_next x6_turn x6_quarters y7_letterOn y8_namesOn y9_land y10_riverOf y11_riverPlace y12_direction y13_home y14_length y15_letters y16_stops) fun (x1_latest_1 : Int32) (x1_count_1 : Int32) (y3_past_1 : Nat → Option ShT) =>
    bd1 (f_X4_stopAt x6_count y16_stops x6_next) fun (r44 : Int32) =>
    bd1 (f_X2_directionOf x5_count y12_direction r44) fun (r56 : Int32) =>
    bv (fun (x6_turn_1 : Int32) (x6_quarters_1 : Int32) => ((
      bd1 (f_X4_goOn x6_count x6_next) fun (x6_next_1 : Int32) =>
      some (r44, x1_latest_1, x1_count_1, y3_past_1, x6_next_1, x6_turn_1, x6_quarters_1)
      ) : Option (Int32 × Int32 × Int32 × (Nat → Option ShT) × Int32 × Int32 × Int32))) fun j80 =>
    (if r56 = (-1) then (
      j80 x6_turn x6_quarters
    ) else (
      bd1 (f_X8_uprightTurn r56) fun (r73 : Int32) =>
      bd3 (f_X4_turnTo x6_turn x6_quarters r73) fun (r76 : Int32) (x6_turn_2 : Int32) (x6_quarters_2 : Int32) =>
      j80 x6_turn_2 x6_quarters_2
    ))
  ))
noncomputable def f_X8_undo (x1_latest : Int32) (x1_count : Int32) (y3_past : Nat → Option ShT) (x4_rows : Int32) (x4_columns : Int32) (x4_rivers : Int32) (x5_count : Int32) (x5_reds : Int32) (x6_count : Int32) (x6_next : Int32) (x6_turn : Int32) (x6_quarters : Int32) (y7_letterOn : Nat → Int32) (y8_namesOn : Nat → Int32) (y9_land : Nat → Int32) (y10_riverOf : Nat → Int32) (y11_riverPlace : Nat → Int32) (y12_direction : Nat → Int32) (y13_home : Nat → Int32) (y14_length : Nat → Int32) (y15_letters : Nat → Int32) (y16_stops : Nat → Int32)  : Option (Int32 × Int32 × Int32 × Int32 × Int32 × Int32 × Int32 × Int32 × Int32 × Int32 × Int32 × Int32 × (Nat → Int32) × (Nat → Int32) × (Nat → Int32) × (Nat → Int32) × (Nat → Int32) × (Nat → Int32) × (Nat → Int32) × (Nat → Int32) × (Nat → Int32) × (Nat → Int32)) :=
  bd22 (f_X3_giveBack x1_latest x1_count y3_past x4_rows x4_columns x4_rivers x5_count x5_reds x6_count x6_next x6_turn x6_quarters y7_letterOn y8_namesOn y9_land y10_riverOf y11_riverPlace y12_direction y13_home y14_length y15_letters y16_stops) fun (r8 : Int32) (x1_latest_1 : Int32) (x1_count_1 : Int32) (x4_rows_1 : Int32) (x4_columns_1 : Int32) (x4_rivers_1 : Int32) (x5_count_1 : Int32) (x5_reds_1 : Int32) (x6_count_1 : Int32) (x6_next_1 : Int32) (x6_turn_1 : Int32) (x6_quarters_1 : Int32) (y7_letterOn_1 : Nat → Int32) (y8_namesOn_1 : Nat → Int32) (y9_land_1 : Nat → Int32) (y10_riverOf_1 : Nat → Int32) (y11_riverPlace_1 : Nat → Int32) (y12_direction_1 : Nat → Int32) (y13_home_1 : Nat → Int32) (y14_length_1 : Nat → Int32) (y15_letters_1 : Nat → Int32) (y16_stops_1 : Nat → Int32) =>
  (if r8 = 0 then (
    some ((-1), x1_latest_1, x1_count_1, x4_rows_1, x4_columns_1, x4_rivers_1, x5_count_1, x5_reds_1, x6_count_1, x6_next_1, x6_turn_1, x6_quarters_1, y7_letterOn_1, y8_namesOn_1, y9_land_1, y10_riverOf_1, y11_riverPlace_1, y12_direction_1, y13_home_1, y14_length_1, y15_letters_1, y16_stops_1)
  ) else (
    some (x1_count_1, x1_latest_1, x1_count_1, x4_rows_1, x4_columns_1, x4_rivers_1, x5_count_1, x5_reds_1, x6_count_1, x6_next_1, x6_turn_1, x6_quarters_1, y7_letterOn_1, y8_namesOn_1, y9_land_1, y10_riverOf_1, y11_riverPlace_1, y12_direction_1, y13_home_1, y14_length_1, y15_letters_1, y16_stops_1)
  ))
noncomputable def f_X8_saveSnapshot (D : Nat → Option ShT) (s_x1_rows : Int32) (s_x1_columns : Int32) (s_x1_rivers : Int32) (s_x2_count : Int32) (s_x2_reds : Int32) (s_x3_count : Int32) (s_x3_next : Int32) (s_x3_turn : Int32) (s_x3_quarters : Int32) (s_y4_letterOn : Nat → Int32) (s_y5_namesOn : Nat → Int32) (s_y6_land : Nat → Int32) (s_y7_riverOf : Nat → Int32) (s_y8_riverPlace : Nat → Int32) (s_y9_direction : Nat → Int32) (s_y10_home : Nat → Int32) (s_y11_length : Nat → Int32) (s_y12_letters : Nat → Int32) (s_y13_stops : Nat → Int32) (p1 : Int32) : Option (Int32 × (Nat → Option ShT)) :=
  bd1 (f_X8_needSlot p1) fun (_ : Unit) =>
  ar p1 2 <|
  bv ((D p1.toNatClampNeg).getD shZ) fun d =>
  bd19 (f_X6_copyFrom (d.1) (d.2.1) (d.2.2.1) (d.2.2.2.1) (d.2.2.2.2.1) (d.2.2.2.2.2.1) (d.2.2.2.2.2.2.1) (d.2.2.2.2.2.2.2.1) (d.2.2.2.2.2.2.2.2.1) (d.2.2.2.2.2.2.2.2.2.1) (d.2.2.2.2.2.2.2.2.2.2.1) (d.2.2.2.2.2.2.2.2.2.2.2.1) (d.2.2.2.2.2.2.2.2.2.2.2.2.1) (d.2.2.2.2.2.2.2.2.2.2.2.2.2.1) (d.2.2.2.2.2.2.2.2.2.2.2.2.2.2.1) (d.2.2.2.2.2.2.2.2.2.2.2.2.2.2.2.1) (d.2.2.2.2.2.2.2.2.2.2.2.2.2.2.2.2.1) (d.2.2.2.2.2.2.2.2.2.2.2.2.2.2.2.2.2.1) (d.2.2.2.2.2.2.2.2.2.2.2.2.2.2.2.2.2.2) s_x1_rows s_x1_columns s_x1_rivers s_x2_count s_x2_reds s_x3_count s_x3_next s_x3_turn s_x3_quarters s_y4_letterOn s_y5_namesOn s_y6_land s_y7_riverOf s_y8_riverPlace s_y9_direction s_y10_home s_y11_length s_y12_letters s_y13_stops) fun (o_x1_rows : Int32) (o_x1_columns : Int32) (o_x1_rivers : Int32) (o_x2_count : Int32) (o_x2_reds : Int32) (o_x3_count : Int32) (o_x3_next : Int32) (o_x3_turn : Int32) (o_x3_quarters : Int32) (o_y4_letterOn : Nat → Int32) (o_y5_namesOn : Nat → Int32) (o_y6_land : Nat → Int32) (o_y7_riverOf : Nat → Int32) (o_y8_riverPlace : Nat → Int32) (o_y9_direction : Nat → Int32) (o_y10_home : Nat → Int32) (o_y11_length : Nat → Int32) (o_y12_letters : Nat → Int32) (o_y13_stops : Nat → Int32) =>
  some (s_x2_count, updD D p1.toNatClampNeg (o_x1_rows, o_x1_columns, o_x1_rivers, o_x2_count, o_x2_reds, o_x3_count, o_x3_next, o_x3_turn, o_x3_quarters, o_y4_letterOn, o_y5_namesOn, o_y6_land, o_y7_riverOf, o_y8_riverPlace, o_y9_direction, o_y10_home, o_y11_length, o_y12_letters, o_y13_stops))
noncomputable def f_X8_restoreSnapshot (x_count : Int32) (D : Nat → Option ShT) (s_x1_rows : Int32) (s_x1_columns : Int32) (s_x1_rivers : Int32) (s_x2_count : Int32) (s_x2_reds : Int32) (s_x3_count : Int32) (s_x3_next : Int32) (s_x3_turn : Int32) (s_x3_quarters : Int32) (s_y4_letterOn : Nat → Int32) (s_y5_namesOn : Nat → Int32) (s_y6_land : Nat → Int32) (s_y7_riverOf : Nat → Int32) (s_y8_riverPlace : Nat → Int32) (s_y9_direction : Nat → Int32) (s_y10_home : Nat → Int32) (s_y11_length : Nat → Int32) (s_y12_letters : Nat → Int32) (s_y13_stops : Nat → Int32) (p1 : Int32) : Option (Int32 × Int32 × Int32 × Int32 × Int32 × Int32 × Int32 × Int32 × Int32 × Int32 × Int32 × (Nat → Int32) × (Nat → Int32) × (Nat → Int32) × (Nat → Int32) × (Nat → Int32) × (Nat → Int32) × (Nat → Int32) × (Nat → Int32) × (Nat → Int32) × (Nat → Int32)) :=
  bd1 (f_X8_needSlot p1) fun (_ : Unit) =>
  ar p1 2 <|
  match D p1.toNatClampNeg with
  | none => some ((-1), x_count, s_x1_rows, s_x1_columns, s_x1_rivers, s_x2_count, s_x2_reds, s_x3_count, s_x3_next, s_x3_turn, s_x3_quarters, s_y4_letterOn, s_y5_namesOn, s_y6_land, s_y7_riverOf, s_y8_riverPlace, s_y9_direction, s_y10_home, s_y11_length, s_y12_letters, s_y13_stops)
  | some d => bd19 (f_X6_copyFrom s_x1_rows s_x1_columns s_x1_rivers s_x2_count s_x2_reds s_x3_count s_x3_next s_x3_turn s_x3_quarters s_y4_letterOn s_y5_namesOn s_y6_land s_y7_riverOf s_y8_riverPlace s_y9_direction s_y10_home s_y11_length s_y12_letters s_y13_stops (d.1) (d.2.1) (d.2.2.1) (d.2.2.2.1) (d.2.2.2.2.1) (d.2.2.2.2.2.1) (d.2.2.2.2.2.2.1) (d.2.2.2.2.2.2.2.1) (d.2.2.2.2.2.2.2.2.1) (d.2.2.2.2.2.2.2.2.2.1) (d.2.2.2.2.2.2.2.2.2.2.1) (d.2.2.2.2.2.2.2.2.2.2.2.1) (d.2.2.2.2.2.2.2.2.2.2.2.2.1) (d.2.2.2.2.2.2.2.2.2.2.2.2.2.1) (d.2.2.2.2.2.2.2.2.2.2.2.2.2.2.1) (d.2.2.2.2.2.2.2.2.2.2.2.2.2.2.2.1) (d.2.2.2.2.2.2.2.2.2.2.2.2.2.2.2.2.1) (d.2.2.2.2.2.2.2.2.2.2.2.2.2.2.2.2.2.1) (d.2.2.2.2.2.2.2.2.2.2.2.2.2.2.2.2.2.2)) fun (o_x1_rows : Int32) (o_x1_columns : Int32) (o_x1_rivers : Int32) (o_x2_count : Int32) (o_x2_reds : Int32) (o_x3_count : Int32) (o_x3_next : Int32) (o_x3_turn : Int32) (o_x3_quarters : Int32) (o_y4_letterOn : Nat → Int32) (o_y5_namesOn : Nat → Int32) (o_y6_land : Nat → Int32) (o_y7_riverOf : Nat → Int32) (o_y8_riverPlace : Nat → Int32) (o_y9_direction : Nat → Int32) (o_y10_home : Nat → Int32) (o_y11_length : Nat → Int32) (o_y12_letters : Nat → Int32) (o_y13_stops : Nat → Int32) =>
    bd1 (f_X3_forget x_count) fun (ct : Int32) => some (o_x2_count, ct, o_x1_rows, o_x1_columns, o_x1_rivers, o_x2_count, o_x2_reds, o_x3_count, o_x3_next, o_x3_turn, o_x3_quarters, o_y4_letterOn, o_y5_namesOn, o_y6_land, o_y7_riverOf, o_y8_riverPlace, o_y9_direction, o_y10_home, o_y11_length, o_y12_letters, o_y13_stops)
noncomputable def t_X8_size (x1_count : Int32) (x3_rows : Int32) (x3_columns : Int32) (x3_rivers : Int32) (x4_count : Int32) (x4_reds : Int32) (x5_count : Int32) (x5_next : Int32) (x5_turn : Int32) (x5_quarters : Int32) (y6_land : Nat → Int32) (y7_direction : Nat → Int32) (p1 : Int32) : Option String :=
  (if p1 = 0 then (
    none
  ) else (
  (if p1 = 1 then (
    none
  ) else (
  (if p1 = 2 then (
    none
  ) else (
  (if p1 = 3 then (
    none
  ) else (
  (if p1 = 4 then (
    none
  ) else (
  (if p1 = 5 then (
    none
  ) else (
  (if p1 = 6 then (
    none
  ) else (
  (if p1 = 7 then (
    none
  ) else (
  (if p1 = 8 then (
    none
  ) else (
  (if p1 = 9 then (
    none
  ) else (
  (if p1 = 10 then (
    none
  ) else (
  (if p1 = 11 then (
    none
  ) else (
  some "java/lang/IllegalArgumentException"
  ))
  ))
  ))
  ))
  ))
  ))
  ))
  ))
  ))
  ))
  ))
  ))
noncomputable def t_X8_needCell (x2_rows : Int32) (x2_columns : Int32) (p1 : Int32) : Option String :=
  bv (fun (_ : Unit) => ((
    some "java/lang/IndexOutOfBoundsException"
    ) : Option (String))) fun j18 =>
  (if p1 < 0 then (
    j18 ()
  ) else (
    bd1 (f_X1_cells x2_rows x2_columns) fun (r12 : Int32) =>
    (if p1 < r12 then (
      none
    ) else (
      j18 ()
    ))
  ))
noncomputable def t_X8_cell (x2_rows : Int32) (x2_columns : Int32) (x3_count : Int32) (y4_letterOn : Nat → Int32) (y5_namesOn : Nat → Int32) (y6_land : Nat → Int32) (y7_riverOf : Nat → Int32) (y8_home : Nat → Int32) (p1 : Int32) (p2 : Int32) : Option String :=
  tx (t_X8_needCell x2_rows x2_columns p1) <|
  bd1 (f_X8_needCell x2_rows x2_columns p1) fun (_ : Unit) =>
  (if p2 = 0 then (
    none
  ) else (
  (if p2 = 1 then (
    none
  ) else (
  (if p2 = 2 then (
    none
  ) else (
  (if p2 = 3 then (
    none
  ) else (
  (if p2 = 4 then (
    none
  ) else (
  (if p2 = 5 then (
    none
  ) else (
  some "java/lang/IllegalArgumentException"
  ))
  ))
  ))
  ))
  ))
  ))
noncomputable def t_X8_needHarbour (x2_count : Int32) (p1 : Int32) : Option String :=
  bv (fun (_ : Unit) => ((
    some "java/lang/IndexOutOfBoundsException"
    ) : Option (String))) fun j18 =>
  (if p1 < 0 then (
    j18 ()
  ) else (
    (if p1 < x2_count then (
      none
    ) else (
      j18 ()
    ))
  ))
noncomputable def t_X8_harbour (x2_count : Int32) (x2_reds : Int32) (x3_count : Int32) (y4_direction : Nat → Int32) (y5_home : Nat → Int32) (y6_length : Nat → Int32) (y7_stops : Nat → Int32) (p1 : Int32) (p2 : Int32) : Option String :=
  tx (t_X8_needHarbour x2_count p1) <|
  bd1 (f_X8_needHarbour x2_count p1) fun (_ : Unit) =>
  (if p2 = 0 then (
    none
  ) else (
  (if p2 = 1 then (
    none
  ) else (
  (if p2 = 2 then (
    none
  ) else (
  (if p2 = 3 then (
    none
  ) else (
  (if p2 = 4 then (
    none
  ) else (
  some "java/lang/IllegalArgumentException"
  ))
  ))
  ))
  ))
  ))
noncomputable def t_X8_letter (x2_count : Int32) (y3_length : Nat → Int32) (y4_letters : Nat → Int32) (p1 : Int32) (p2 : Int32) : Option String :=
  tx (t_X8_needHarbour x2_count p1) <|
  none
noncomputable def t_X8_needRiver (x2_rivers : Int32) (p1 : Int32) : Option String :=
  bv (fun (_ : Unit) => ((
    some "java/lang/IndexOutOfBoundsException"
    ) : Option (String))) fun j18 =>
  (if p1 < 0 then (
    j18 ()
  ) else (
    (if p1 < x2_rivers then (
      none
    ) else (
      j18 ()
    ))
  ))
noncomputable def t_X8_needDirection  (p0 : Int32) : Option String :=
  bv (fun (_ : Unit) => ((
    some "java/lang/IllegalArgumentException"
    ) : Option (String))) fun j9 =>
  (if p0 < 0 then (
    j9 ()
  ) else (
    (if p0 < 4 then (
      none
    ) else (
      j9 ()
    ))
  ))
noncomputable def t_X8_why (x2_rows : Int32) (x2_columns : Int32) (x3_count : Int32) (x3_reds : Int32) (y4_letterOn : Nat → Int32) (y5_namesOn : Nat → Int32) (y6_land : Nat → Int32) (y7_riverOf : Nat → Int32) (y8_home : Nat → Int32) (y9_length : Nat → Int32) (y10_letters : Nat → Int32) (p1 : Int32) (p2 : Int32) : Option String :=
  tx (t_X8_needHarbour x3_count p1) <|
  bd1 (f_X8_needHarbour x3_count p1) fun (_ : Unit) =>
  tx (t_X8_needDirection p2) <|
  none
noncomputable def t_X8_ways (x2_rows : Int32) (x2_columns : Int32) (x3_count : Int32) (x3_reds : Int32) (y4_letterOn : Nat → Int32) (y5_namesOn : Nat → Int32) (y6_land : Nat → Int32) (y7_riverOf : Nat → Int32) (y8_home : Nat → Int32) (y9_length : Nat → Int32) (y10_letters : Nat → Int32) (p1 : Int32) : Option String :=
  tx (t_X8_needHarbour x3_count p1) <|
  none
noncomputable def t_X8_room (x2_rows : Int32) (x2_columns : Int32) (x3_count : Int32) (y4_land : Nat → Int32) (y5_riverOf : Nat → Int32) (y6_home : Nat → Int32) (p1 : Int32) (p2 : Int32) : Option String :=
  tx (t_X8_needHarbour x3_count p1) <|
  bd1 (f_X8_needHarbour x3_count p1) fun (_ : Unit) =>
  tx (t_X8_needDirection p2) <|
  none
noncomputable def t_X8_crossed (x2_rows : Int32) (x2_columns : Int32) (x3_count : Int32) (y4_namesOn : Nat → Int32) (y5_direction : Nat → Int32) (y6_home : Nat → Int32) (y7_length : Nat → Int32) (p1 : Int32) : Option String :=
  tx (t_X8_needHarbour x3_count p1) <|
  none
noncomputable def t_X8_needTurn  (p0 : Int32) : Option String :=
  bv (fun (_ : Unit) => ((
    some "java/lang/IllegalArgumentException"
    ) : Option (String))) fun j9 =>
  (if p0 < 0 then (
    j9 ()
  ) else (
    (if p0 < 4 then (
      none
    ) else (
      j9 ()
    ))
  ))
noncomputable def t_X8_turningFrom (x3_count : Int32) (y4_direction : Nat → Int32) (y5_stops : Nat → Int32) (p1 : Int32) : Option String :=
  tx (t_X8_needTurn p1) <|
  none
noncomputable def t_X8_arranged (x1_reds : Int32) (x1_bestReds : Int32) (x1_bestCount : Int32) (x1_bestTurning : Int32) (y3_allowed : Nat → Int32) (y4_best : Nat → Int32) (y5_foes : Nat → Int32) (y6_namesLeft : Nat → Int32) (y7_redsLeft : Nat → Int32) (y8_trial : Nat → Int32) (x9_rows : Int32) (x9_columns : Int32) (x10_count : Int32) (x10_reds : Int32) (x11_count : Int32) (x11_turn : Int32) (y12_land : Nat → Int32) (y13_riverOf : Nat → Int32) (y14_home : Nat → Int32) (y15_length : Nat → Int32) (y16_letters : Nat → Int32) (y17_stops : Nat → Int32) (p1 : Int32) : Option String :=
  tx (t_X8_needHarbour x10_count p1) <|
  none
noncomputable def t_X8_leastIf (x1_reds : Int32) (x1_bestReds : Int32) (x1_bestCount : Int32) (x1_bestTurning : Int32) (y3_allowed : Nat → Int32) (y4_best : Nat → Int32) (y5_foes : Nat → Int32) (y6_namesLeft : Nat → Int32) (y7_redsLeft : Nat → Int32) (y8_trial : Nat → Int32) (x9_rows : Int32) (x9_columns : Int32) (x10_count : Int32) (x10_reds : Int32) (x11_count : Int32) (x11_turn : Int32) (y12_land : Nat → Int32) (y13_riverOf : Nat → Int32) (y14_home : Nat → Int32) (y15_length : Nat → Int32) (y16_letters : Nat → Int32) (y17_stops : Nat → Int32) (p1 : Int32) (p2 : Int32) : Option String :=
  tx (t_X8_needHarbour x10_count p1) <|
  none
noncomputable def t_X8_placedIf (x1_reds : Int32) (x1_bestReds : Int32) (x1_bestCount : Int32) (x1_bestTurning : Int32) (y3_allowed : Nat → Int32) (y4_best : Nat → Int32) (y5_foes : Nat → Int32) (y6_namesLeft : Nat → Int32) (y7_redsLeft : Nat → Int32) (y8_trial : Nat → Int32) (x9_rows : Int32) (x9_columns : Int32) (x10_count : Int32) (x10_reds : Int32) (x11_count : Int32) (x11_turn : Int32) (y12_land : Nat → Int32) (y13_riverOf : Nat → Int32) (y14_home : Nat → Int32) (y15_length : Nat → Int32) (y16_letters : Nat → Int32) (y17_stops : Nat → Int32) (p1 : Int32) (p2 : Int32) : Option String :=
  tx (t_X8_needHarbour x10_count p1) <|
  none
noncomputable def t_X8_wayLength (x2_length : Int32) (x3_rows : Int32) (x3_columns : Int32) (x4_count : Int32) (y5_namesOn : Nat → Int32) (y6_costs : Nat → Int32) (y7_sums : Nat → Int32) (y8_way : Nat → Int32) (y9_land : Nat → Int32) (y10_riverOf : Nat → Int32) (y11_home : Nat → Int32) (p1 : Int32) : Option String :=
  tx (t_X8_needCell x3_rows x3_columns p1) <|
  none
noncomputable def t_X8_wayCell (x2_length : Int32) (x3_rows : Int32) (x3_columns : Int32) (x4_count : Int32) (y5_namesOn : Nat → Int32) (y6_costs : Nat → Int32) (y7_sums : Nat → Int32) (y8_way : Nat → Int32) (y9_land : Nat → Int32) (y10_riverOf : Nat → Int32) (y11_home : Nat → Int32) (p1 : Int32) (p2 : Int32) : Option String :=
  tx (t_X8_needCell x3_rows x3_columns p1) <|
  none
noncomputable def t_X8_washes (x2_length : Int32) (x3_rows : Int32) (x3_columns : Int32) (x4_count : Int32) (y5_namesOn : Nat → Int32) (y6_costs : Nat → Int32) (y7_sums : Nat → Int32) (y8_way : Nat → Int32) (y9_land : Nat → Int32) (y10_riverOf : Nat → Int32) (y11_home : Nat → Int32) (p1 : Int32) : Option String :=
  tx (t_X8_needCell x3_rows x3_columns p1) <|
  none
noncomputable def t_X8_drowns (x2_rows : Int32) (x2_columns : Int32) (y3_namesOn : Nat → Int32) (p1 : Int32) : Option String :=
  tx (t_X8_needCell x2_rows x2_columns p1) <|
  none
noncomputable def t_X8_place (x2_rows : Int32) (x2_columns : Int32) (x3_count : Int32) (x3_reds : Int32) (y4_letterOn : Nat → Int32) (y5_namesOn : Nat → Int32) (y6_land : Nat → Int32) (y7_riverOf : Nat → Int32) (y8_home : Nat → Int32) (y9_length : Nat → Int32) (y10_letters : Nat → Int32) (p1 : Int32) (p2 : Int32) : Option String :=
  tx (t_X8_needHarbour x3_count p1) <|
  bd1 (f_X8_needHarbour x3_count p1) fun (_ : Unit) =>
  tx (t_X8_needDirection p2) <|
  none
noncomputable def t_X8_lift (x2_count : Int32) (y3_direction : Nat → Int32) (p1 : Int32) : Option String :=
  tx (t_X8_needHarbour x2_count p1) <|
  none
noncomputable def t_X8_setRed (x2_count : Int32) (p1 : Int32) (p2 : Int32) : Option String :=
  tx (t_X8_needHarbour x2_count p1) <|
  none
noncomputable def t_X8_addRiver (x2_length : Int32) (x3_rows : Int32) (x3_columns : Int32) (x3_rivers : Int32) (x4_count : Int32) (y5_namesOn : Nat → Int32) (y6_costs : Nat → Int32) (y7_sums : Nat → Int32) (y8_way : Nat → Int32) (y9_land : Nat → Int32) (y10_riverOf : Nat → Int32) (y11_home : Nat → Int32) (p1 : Int32) : Option String :=
  tx (t_X8_needCell x3_rows x3_columns p1) <|
  none
noncomputable def t_X8_dropRiver (x2_rivers : Int32) (p1 : Int32) : Option String :=
  tx (t_X8_needRiver x2_rivers p1) <|
  none
noncomputable def t_X8_erode (x2_rows : Int32) (x2_columns : Int32) (x3_count : Int32) (y4_land : Nat → Int32) (y5_riverOf : Nat → Int32) (y6_home : Nat → Int32) (p1 : Int32) : Option String :=
  tx (t_X8_needCell x2_rows x2_columns p1) <|
  none
noncomputable def t_X8_raise (x2_rows : Int32) (x2_columns : Int32) (x3_count : Int32) (y4_land : Nat → Int32) (y5_home : Nat → Int32) (p1 : Int32) : Option String :=
  tx (t_X8_needCell x2_rows x2_columns p1) <|
  none
noncomputable def t_X8_sail (x2_count : Int32) (x3_count : Int32) (p1 : Int32) : Option String :=
  tx (t_X8_needHarbour x2_count p1) <|
  none
noncomputable def t_X8_cut (x2_count : Int32) (p1 : Int32) : Option String :=
  bv (fun (_ : Unit) => ((
    some "java/lang/IndexOutOfBoundsException"
    ) : Option (String))) fun j18 =>
  (if p1 < 0 then (
    j18 ()
  ) else (
    (if p1 < x2_count then (
      none
    ) else (
      j18 ()
    ))
  ))
noncomputable def t_X8_turnPage  (p1 : Int32) : Option String :=
  tx (t_X8_needTurn p1) <|
  none
noncomputable def t_X8_writeRow (x0_outputLength : Int32) (y1_output : Nat → Int32) (x3_rows : Int32) (x3_columns : Int32) (x4_count : Int32) (x4_reds : Int32) (y5_letterOn : Nat → Int32) (y6_namesOn : Nat → Int32) (y7_land : Nat → Int32) (y8_riverOf : Nat → Int32) (y9_home : Nat → Int32) (p1 : Int32) : Option String :=
  bv (fun (_ : Unit) => ((
    some "java/lang/IndexOutOfBoundsException"
    ) : Option (String))) fun j18 =>
  (if p1 < 0 then (
    j18 ()
  ) else (
    (if p1 < x3_rows then (
      none
    ) else (
      j18 ()
    ))
  ))
noncomputable def t_X8_needSlot  (p0 : Int32) : Option String :=
  bv (fun (_ : Unit) => ((
    some "java/lang/IllegalArgumentException"
    ) : Option (String))) fun j9 =>
  (if p0 < 0 then (
    j9 ()
  ) else (
    (if p0 < 2 then (
      none
    ) else (
      j9 ()
    ))
  ))
noncomputable def t_X8_river (x2_rivers : Int32) (y3_riverOf : Nat → Int32) (y4_riverPlace : Nat → Int32) (p1 : Int32) (p2 : Int32) : Option String :=
  tx (t_X8_needRiver x2_rivers p1) <|
  none
noncomputable def t_X8_upright (x2_count : Int32) (y3_direction : Nat → Int32) (p1 : Int32) : Option String :=
  tx (t_X8_needTurn p1) <|
  none
noncomputable def t_X8_saveSnapshot  (p1 : Int32) : Option String :=
  tx (t_X8_needSlot p1) <|
  none
noncomputable def t_X8_restoreSnapshot  (p1 : Int32) : Option String :=
  tx (t_X8_needSlot p1) <|
  none
noncomputable def f_case_0 (L : Nat) (xs : Nat → Int32) (i : Int32) (x1_length : Int32) (y2_text : Nat → Int32) (x3_thrown : Int32) (x3_length : Int32) (y4_text : Nat → Int32) : Option (Int32 × (Nat → Int32) × Int32 × Int32 × (Nat → Int32)) :=
  ar (i + 1) L <|
  ar (i + 2) L <|
  bd3 (f_X8_append x1_length y2_text ((lshlv (((xs (i + 1).toNatClampNeg)).toInt64) 32) ||| ((((xs (i + 2).toNatClampNeg)).toInt64) &&& 4294967295))) fun (r279 : Int32) (x1_length_1 : Int32) (y2_text_1 : Nat → Int32) =>
  ar (i + 1) L <|
  ar (i + 2) L <|
  bd4 (f_X9_append x3_thrown x3_length y4_text ((lshlv (((xs (i + 1).toNatClampNeg)).toInt64) 32) ||| ((((xs (i + 2).toNatClampNeg)).toInt64) &&& 4294967295))) fun (r305 : Int32) (x3_thrown_1 : Int32) (x3_length_1 : Int32) (y4_text_1 : Nat → Int32) =>
  (if r279 = r305 then (
    some (x1_length_1, y2_text_1, x3_thrown_1, x3_length_1, y4_text_1)
  ) else (
    none
  ))
noncomputable def f_case_1 (L : Nat) (xs : Nat → Int32) (i : Int32) (x0_errorKind : Int32) (x0_errorStatement : Int32) (x1_count : Int32) (x2_length : Int32) (x2_at : Int32) (x2_voyageTold : Int32) (x2_wordStart : Int32) (x2_wordLength : Int32) (x2_numberStart : Int32) (x2_number : Int32) (x2_cell : Int32) (x2_statement : Int32) (x2_error : Int32) (x2_errorAt : Int32) (x5_length : Int32) (y6_text : Nat → Int32) (x7_rows : Int32) (x7_columns : Int32) (x7_rivers : Int32) (x8_count : Int32) (x8_reds : Int32) (x9_count : Int32) (x9_next : Int32) (x9_turn : Int32) (x9_quarters : Int32) (y10_letterOn : Nat → Int32) (y11_namesOn : Nat → Int32) (x12_rows : Int32) (x12_columns : Int32) (x12_rivers : Int32) (x13_count : Int32) (x13_reds : Int32) (x14_count : Int32) (x14_next : Int32) (x14_turn : Int32) (x14_quarters : Int32) (y15_letterOn : Nat → Int32) (y16_namesOn : Nat → Int32) (y17_costs : Nat → Int32) (y18_sums : Nat → Int32) (y19_way : Nat → Int32) (y20_land : Nat → Int32) (y21_riverOf : Nat → Int32) (y22_riverPlace : Nat → Int32) (y23_direction : Nat → Int32) (y24_home : Nat → Int32) (y25_length : Nat → Int32) (y26_letters : Nat → Int32) (y27_stops : Nat → Int32) (y28_land : Nat → Int32) (y29_riverOf : Nat → Int32) (y30_riverPlace : Nat → Int32) (y31_direction : Nat → Int32) (y32_home : Nat → Int32) (y33_length : Nat → Int32) (y34_letters : Nat → Int32) (y35_stops : Nat → Int32) (x36_acts : Int32) (x36_thrown : Int32) (x36_flowLong : Int32) (x36_length : Int32) (x36_at : Int32) (x36_from : Int32) (x36_error : Int32) (x36_errorAt : Int32) (x36_errorKind : Int32) (x36_errorStatement : Int32) (x36_statement : Int32) (x36_hasVoyage : Int32) (y37_draft : Nat → Int32) (y38_flow : Nat → Int32) (y39_now : Nat → Int32) (y40_sums : Nat → Int32) (y41_text : Nat → Int32) : Option (Int32 × Int32 × Int32 × Int32 × Int32 × Int32 × Int32 × Int32 × Int32 × Int32 × Int32 × Int32 × Int32 × Int32 × Int32 × Int32 × Int32 × Int32 × Int32 × Int32 × Int32 × Int32 × Int32 × Int32 × (Nat → Int32) × (Nat → Int32) × Int32 × Int32 × Int32 × Int32 × Int32 × Int32 × Int32 × Int32 × Int32 × (Nat → Int32) × (Nat → Int32) × (Nat → Int32) × (Nat → Int32) × (Nat → Int32) × (Nat → Int32) × (Nat → Int32) × (Nat → Int32) × (Nat → Int32) × (Nat → Int32) × (Nat → Int32) × (Nat → Int32) × (Nat → Int32) × (Nat → Int32) × (Nat → Int32) × (Nat → Int32) × (Nat → Int32) × (Nat → Int32) × (Nat → Int32) × (Nat → Int32) × (Nat → Int32) × Int32 × Int32 × Int32 × Int32 × Int32 × Int32 × Int32 × Int32 × Int32 × Int32 × Int32 × Int32 × (Nat → Int32) × (Nat → Int32) × (Nat → Int32) × (Nat → Int32)) :=
  bd57 (f_X8_load x0_errorKind x0_errorStatement x1_count x2_length x2_at x2_voyageTold x2_wordStart x2_wordLength x2_numberStart x2_number x2_cell x2_statement x2_error x2_errorAt x5_length y6_text x7_rows x7_columns x7_rivers x8_count x8_reds x9_count x9_next x9_turn x9_quarters y10_letterOn y11_namesOn x12_rows x12_columns x12_rivers x13_count x13_reds x14_count x14_next x14_turn x14_quarters y15_letterOn y16_namesOn y17_costs y18_sums y19_way y20_land y21_riverOf y22_riverPlace y23_direction y24_home y25_length y26_letters y27_stops y28_land y29_riverOf y30_riverPlace y31_direction y32_home y33_length y34_letters y35_stops) fun (r314 : Int32) (x0_errorKind_1 : Int32) (x0_errorStatement_1 : Int32) (x1_count_1 : Int32) (x2_length_1 : Int32) (x2_at_1 : Int32) (x2_voyageTold_1 : Int32) (x2_wordStart_1 : Int32) (x2_wordLength_1 : Int32) (x2_numberStart_1 : Int32) (x2_number_1 : Int32) (x2_cell_1 : Int32) (x2_statement_1 : Int32) (x2_error_1 : Int32) (x2_errorAt_1 : Int32) (x5_length_1 : Int32) (x7_rows_1 : Int32) (x7_columns_1 : Int32) (x7_rivers_1 : Int32) (x8_count_1 : Int32) (x8_reds_1 : Int32) (x9_count_1 : Int32) (x9_next_1 : Int32) (x9_turn_1 : Int32) (x9_quarters_1 : Int32) (y10_letterOn_1 : Nat → Int32) (y11_namesOn_1 : Nat → Int32) (x12_rows_1 : Int32) (x12_columns_1 : Int32) (x12_rivers_1 : Int32) (x13_count_1 : Int32) (x13_reds_1 : Int32) (x14_count_1 : Int32) (x14_next_1 : Int32) (x14_turn_1 : Int32) (x14_quarters_1 : Int32) (y15_letterOn_1 : Nat → Int32) (y16_namesOn_1 : Nat → Int32) (y17_costs_1 : Nat → Int32) (y18_sums_1 : Nat → Int32) (y19_way_1 : Nat → Int32) (y20_land_1 : Nat → Int32) (y21_riverOf_1 : Nat → Int32) (y22_riverPlace_1 : Nat → Int32) (y23_direction_1 : Nat → Int32) (y24_home_1 : Nat → Int32) (y25_length_1 : Nat → Int32) (y26_letters_1 : Nat → Int32) (y27_stops_1 : Nat → Int32) (y28_land_1 : Nat → Int32) (y29_riverOf_1 : Nat → Int32) (y30_riverPlace_1 : Nat → Int32) (y31_direction_1 : Nat → Int32) (y32_home_1 : Nat → Int32) (y33_length_1 : Nat → Int32) (y34_letters_1 : Nat → Int32) (y35_stops_1 : Nat → Int32) =>
  bd17 (f_X9_load x36_acts x36_thrown x36_flowLong x36_length x36_at x36_from x36_error x36_errorAt x36_errorKind x36_errorStatement x36_statement x36_hasVoyage y37_draft y38_flow y39_now y40_sums y41_text) fun (r318 : Int32) (x36_acts_1 : Int32) (x36_thrown_1 : Int32) (x36_flowLong_1 : Int32) (x36_length_1 : Int32) (x36_at_1 : Int32) (x36_from_1 : Int32) (x36_error_1 : Int32) (x36_errorAt_1 : Int32) (x36_errorKind_1 : Int32) (x36_errorStatement_1 : Int32) (x36_statement_1 : Int32) (x36_hasVoyage_1 : Int32) (y37_draft_1 : Nat → Int32) (y38_flow_1 : Nat → Int32) (y39_now_1 : Nat → Int32) (y40_sums_1 : Nat → Int32) =>
  (if r314 = r318 then (
    some (x0_errorKind_1, x0_errorStatement_1, x1_count_1, x2_length_1, x2_at_1, x2_voyageTold_1, x2_wordStart_1, x2_wordLength_1, x2_numberStart_1, x2_number_1, x2_cell_1, x2_statement_1, x2_error_1, x2_errorAt_1, x5_length_1, x7_rows_1, x7_columns_1, x7_rivers_1, x8_count_1, x8_reds_1, x9_count_1, x9_next_1, x9_turn_1, x9_quarters_1, y10_letterOn_1, y11_namesOn_1, x12_rows_1, x12_columns_1, x12_rivers_1, x13_count_1, x13_reds_1, x14_count_1, x14_next_1, x14_turn_1, x14_quarters_1, y15_letterOn_1, y16_namesOn_1, y17_costs_1, y18_sums_1, y19_way_1, y20_land_1, y21_riverOf_1, y22_riverPlace_1, y23_direction_1, y24_home_1, y25_length_1, y26_letters_1, y27_stops_1, y28_land_1, y29_riverOf_1, y30_riverPlace_1, y31_direction_1, y32_home_1, y33_length_1, y34_letters_1, y35_stops_1, x36_acts_1, x36_thrown_1, x36_flowLong_1, x36_length_1, x36_at_1, x36_from_1, x36_error_1, x36_errorAt_1, x36_errorKind_1, x36_errorStatement_1, x36_statement_1, x36_hasVoyage_1, y37_draft_1, y38_flow_1, y39_now_1, y40_sums_1)
  ) else (
    none
  ))
noncomputable def f_case_2 (L : Nat) (xs : Nat → Int32) (i : Int32) (x0_errorKind : Int32) (x1_thrown : Int32) (x1_errorKind : Int32) : Option (Int32) :=
  bd1 (f_X8_loadError x0_errorKind) fun (r327 : Int32) =>
  bd2 (f_X9_loadError x1_thrown x1_errorKind) fun (r331 : Int32) (x1_thrown_1 : Int32) =>
  (if r327 = r331 then (
    some x1_thrown_1
  ) else (
    none
  ))
noncomputable def f_case_3 (L : Nat) (xs : Nat → Int32) (i : Int32) (x0_errorStatement : Int32) (x1_thrown : Int32) (x1_errorStatement : Int32) : Option (Int32) :=
  bd1 (f_X8_loadStatement x0_errorStatement) fun (r340 : Int32) =>
  bd2 (f_X9_loadStatement x1_thrown x1_errorStatement) fun (r344 : Int32) (x1_thrown_1 : Int32) =>
  (if r340 = r344 then (
    some x1_thrown_1
  ) else (
    none
  ))
noncomputable def f_case_4 (L : Nat) (xs : Nat → Int32) (i : Int32) (x1_count : Int32) (x3_rows : Int32) (x3_columns : Int32) (x3_rivers : Int32) (x4_count : Int32) (x4_reds : Int32) (x5_count : Int32) (x5_next : Int32) (x5_turn : Int32) (x5_quarters : Int32) (y6_land : Nat → Int32) (y7_direction : Nat → Int32) (x8_acts : Int32) (x8_thrown : Int32) (y9_s : Nat → Int32) (y10_p : Nat → Int64) : Option (Int32 × (Nat → Int64)) :=
  ar (i + 1) L <|
  bv (fun (k360 : Int32) (y10_p_1 : Nat → Int64) => ((
    ar (i + 1) L <|
    bd2 (f_X9_size x8_acts x8_thrown y9_s (xs (i + 1).toNatClampNeg)) fun (r372 : Int32) (x8_thrown_1 : Int32) =>
    bd1 (f_X9_thrown x8_thrown_1) fun (r378 : Int32) =>
    (if r378 = k360 then (
      bv (fun (_ : Unit) => ((
        some (x8_thrown_1, y10_p_1)
        ) : Option (Int32 × (Nat → Int64)))) fun j405 =>
      (if k360 = 0 then (
        ar 0 1 <|
        (if (lg_cmp (y10_p_1 (0 : Int32).toNatClampNeg) (r372.toInt64)) = 0 then (
          j405 ()
        ) else (
          none
        ))
      ) else (
        j405 ()
      ))
    ) else (
      none
    ))
    ) : Option (Int32 × (Nat → Int64)))) fun jh360 =>
  match t_X8_size x1_count x3_rows x3_columns x3_rivers x4_count x4_reds x5_count x5_next x5_turn x5_quarters y6_land y7_direction (xs (i + 1).toNatClampNeg) with
  | some cls =>
    (if cls = "java/lang/IllegalArgumentException" then jh360 1 y10_p  else
    none)
  | none =>
    bd1 (f_X8_size x1_count x3_rows x3_columns x3_rivers x4_count x4_reds x5_count x5_next x5_turn x5_quarters y6_land y7_direction (xs (i + 1).toNatClampNeg)) fun (r360 : Int32) =>
    jh360 0 (vp_updL y10_p (0 : Int32).toNatClampNeg r360.toInt64)
noncomputable def f_case_5 (L : Nat) (xs : Nat → Int32) (i : Int32) (x2_rows : Int32) (x2_columns : Int32) (x3_count : Int32) (y4_letterOn : Nat → Int32) (y5_namesOn : Nat → Int32) (y6_land : Nat → Int32) (y7_riverOf : Nat → Int32) (y8_home : Nat → Int32) (x9_thrown : Int32) (y10_s : Nat → Int32) (y11_p : Nat → Int64) : Option (Int32 × (Nat → Int64)) :=
  ar (i + 1) L <|
  ar (i + 2) L <|
  bv (fun (k422 : Int32) (y11_p_1 : Nat → Int64) => ((
    ar (i + 1) L <|
    ar (i + 2) L <|
    bd2 (f_X9_cell x9_thrown y10_s (xs (i + 1).toNatClampNeg) (xs (i + 2).toNatClampNeg)) fun (r440 : Int32) (x9_thrown_1 : Int32) =>
    bd1 (f_X9_thrown x9_thrown_1) fun (r446 : Int32) =>
    (if r446 = k422 then (
      bv (fun (_ : Unit) => ((
        some (x9_thrown_1, y11_p_1)
        ) : Option (Int32 × (Nat → Int64)))) fun j473 =>
      (if k422 = 0 then (
        ar 0 1 <|
        (if (lg_cmp (y11_p_1 (0 : Int32).toNatClampNeg) (r440.toInt64)) = 0 then (
          j473 ()
        ) else (
          none
        ))
      ) else (
        j473 ()
      ))
    ) else (
      none
    ))
    ) : Option (Int32 × (Nat → Int64)))) fun jh422 =>
  match t_X8_cell x2_rows x2_columns x3_count y4_letterOn y5_namesOn y6_land y7_riverOf y8_home (xs (i + 1).toNatClampNeg) (xs (i + 2).toNatClampNeg) with
  | some cls =>
    (if cls = "java/lang/IndexOutOfBoundsException" then jh422 1 y11_p  else
    (if cls = "java/lang/IllegalArgumentException" then jh422 2 y11_p  else
    none))
  | none =>
    bd1 (f_X8_cell x2_rows x2_columns x3_count y4_letterOn y5_namesOn y6_land y7_riverOf y8_home (xs (i + 1).toNatClampNeg) (xs (i + 2).toNatClampNeg)) fun (r422 : Int32) =>
    jh422 0 (vp_updL y11_p (0 : Int32).toNatClampNeg r422.toInt64)
noncomputable def f_case_6 (L : Nat) (xs : Nat → Int32) (i : Int32) (x2_count : Int32) (x2_reds : Int32) (x3_count : Int32) (y4_direction : Nat → Int32) (y5_home : Nat → Int32) (y6_length : Nat → Int32) (y7_stops : Nat → Int32) (x8_thrown : Int32) (y9_s : Nat → Int32) (y10_p : Nat → Int64) : Option (Int32 × (Nat → Int64)) :=
  ar (i + 1) L <|
  ar (i + 2) L <|
  bv (fun (k490 : Int32) (y10_p_1 : Nat → Int64) => ((
    ar (i + 1) L <|
    ar (i + 2) L <|
    bd2 (f_X9_harbour x8_thrown y9_s (xs (i + 1).toNatClampNeg) (xs (i + 2).toNatClampNeg)) fun (r508 : Int32) (x8_thrown_1 : Int32) =>
    bd1 (f_X9_thrown x8_thrown_1) fun (r514 : Int32) =>
    (if r514 = k490 then (
      bv (fun (_ : Unit) => ((
        some (x8_thrown_1, y10_p_1)
        ) : Option (Int32 × (Nat → Int64)))) fun j541 =>
      (if k490 = 0 then (
        ar 0 1 <|
        (if (lg_cmp (y10_p_1 (0 : Int32).toNatClampNeg) (r508.toInt64)) = 0 then (
          j541 ()
        ) else (
          none
        ))
      ) else (
        j541 ()
      ))
    ) else (
      none
    ))
    ) : Option (Int32 × (Nat → Int64)))) fun jh490 =>
  match t_X8_harbour x2_count x2_reds x3_count y4_direction y5_home y6_length y7_stops (xs (i + 1).toNatClampNeg) (xs (i + 2).toNatClampNeg) with
  | some cls =>
    (if cls = "java/lang/IndexOutOfBoundsException" then jh490 1 y10_p  else
    (if cls = "java/lang/IllegalArgumentException" then jh490 2 y10_p  else
    none))
  | none =>
    bd1 (f_X8_harbour x2_count x2_reds x3_count y4_direction y5_home y6_length y7_stops (xs (i + 1).toNatClampNeg) (xs (i + 2).toNatClampNeg)) fun (r490 : Int32) =>
    jh490 0 (vp_updL y10_p (0 : Int32).toNatClampNeg r490.toInt64)
noncomputable def f_case_7 (L : Nat) (xs : Nat → Int32) (i : Int32) (x2_count : Int32) (y3_length : Nat → Int32) (y4_letters : Nat → Int32) (x5_thrown : Int32) (y6_s : Nat → Int32) (y7_p : Nat → Int64) : Option (Int32 × (Nat → Int64)) :=
  ar (i + 1) L <|
  ar (i + 2) L <|
  bv (fun (k558 : Int32) (y7_p_1 : Nat → Int64) => ((
    ar (i + 1) L <|
    ar (i + 2) L <|
    bd2 (f_X9_letter x5_thrown y6_s (xs (i + 1).toNatClampNeg) (xs (i + 2).toNatClampNeg)) fun (r576 : Int32) (x5_thrown_1 : Int32) =>
    bd1 (f_X9_thrown x5_thrown_1) fun (r582 : Int32) =>
    (if r582 = k558 then (
      bv (fun (_ : Unit) => ((
        some (x5_thrown_1, y7_p_1)
        ) : Option (Int32 × (Nat → Int64)))) fun j609 =>
      (if k558 = 0 then (
        ar 0 1 <|
        (if (lg_cmp (y7_p_1 (0 : Int32).toNatClampNeg) (r576.toInt64)) = 0 then (
          j609 ()
        ) else (
          none
        ))
      ) else (
        j609 ()
      ))
    ) else (
      none
    ))
    ) : Option (Int32 × (Nat → Int64)))) fun jh558 =>
  match t_X8_letter x2_count y3_length y4_letters (xs (i + 1).toNatClampNeg) (xs (i + 2).toNatClampNeg) with
  | some cls =>
    (if cls = "java/lang/IndexOutOfBoundsException" then jh558 1 y7_p  else
    none)
  | none =>
    bd1 (f_X8_letter x2_count y3_length y4_letters (xs (i + 1).toNatClampNeg) (xs (i + 2).toNatClampNeg)) fun (r558 : Int32) =>
    jh558 0 (vp_updL y7_p (0 : Int32).toNatClampNeg r558.toInt64)
noncomputable def f_case_8 (L : Nat) (xs : Nat → Int32) (i : Int32) (x2_rivers : Int32) (y3_riverOf : Nat → Int32) (y4_riverPlace : Nat → Int32) (x5_thrown : Int32) (y6_s : Nat → Int32) (y7_p : Nat → Int64) : Option (Int32 × (Nat → Int64)) :=
  ar (i + 1) L <|
  ar (i + 2) L <|
  bv (fun (k626 : Int32) (y7_p_1 : Nat → Int64) => ((
    ar (i + 1) L <|
    ar (i + 2) L <|
    bd2 (f_X9_river x5_thrown y6_s (xs (i + 1).toNatClampNeg) (xs (i + 2).toNatClampNeg)) fun (r644 : Int32) (x5_thrown_1 : Int32) =>
    bd1 (f_X9_thrown x5_thrown_1) fun (r650 : Int32) =>
    (if r650 = k626 then (
      bv (fun (_ : Unit) => ((
        some (x5_thrown_1, y7_p_1)
        ) : Option (Int32 × (Nat → Int64)))) fun j677 =>
      (if k626 = 0 then (
        ar 0 1 <|
        (if (lg_cmp (y7_p_1 (0 : Int32).toNatClampNeg) (r644.toInt64)) = 0 then (
          j677 ()
        ) else (
          none
        ))
      ) else (
        j677 ()
      ))
    ) else (
      none
    ))
    ) : Option (Int32 × (Nat → Int64)))) fun jh626 =>
  match t_X8_river x2_rivers y3_riverOf y4_riverPlace (xs (i + 1).toNatClampNeg) (xs (i + 2).toNatClampNeg) with
  | some cls =>
    (if cls = "java/lang/IndexOutOfBoundsException" then jh626 1 y7_p  else
    none)
  | none =>
    bd1 (f_X8_river x2_rivers y3_riverOf y4_riverPlace (xs (i + 1).toNatClampNeg) (xs (i + 2).toNatClampNeg)) fun (r626 : Int32) =>
    jh626 0 (vp_updL y7_p (0 : Int32).toNatClampNeg r626.toInt64)
noncomputable def f_case_9 (L : Nat) (xs : Nat → Int32) (i : Int32) (x2_count : Int32) (y3_stops : Nat → Int32) (x4_thrown : Int32) (y5_s : Nat → Int32) : Option (Int32) :=
  ar (i + 1) L <|
  bd1 (f_X8_voyage x2_count y3_stops (xs (i + 1).toNatClampNeg)) fun (r687 : Int32) =>
  ar (i + 1) L <|
  bd2 (f_X9_voyage x4_thrown y5_s (xs (i + 1).toNatClampNeg)) fun (r697 : Int32) (x4_thrown_1 : Int32) =>
  (if r687 = r697 then (
    some x4_thrown_1
  ) else (
    none
  ))
noncomputable def f_case_10 (L : Nat) (xs : Nat → Int32) (i : Int32) (x2_rows : Int32) (x2_columns : Int32) (x3_count : Int32) (x3_reds : Int32) (y4_letterOn : Nat → Int32) (y5_namesOn : Nat → Int32) (y6_land : Nat → Int32) (y7_riverOf : Nat → Int32) (y8_home : Nat → Int32) (y9_length : Nat → Int32) (y10_letters : Nat → Int32) (x11_thrown : Int32) (y12_s : Nat → Int32) (y13_p : Nat → Int64) : Option (Int32 × (Nat → Int64)) :=
  ar (i + 1) L <|
  ar (i + 2) L <|
  bv (fun (k719 : Int32) (y13_p_1 : Nat → Int64) => ((
    ar (i + 1) L <|
    ar (i + 2) L <|
    bd2 (f_X9_why x11_thrown y12_s (xs (i + 1).toNatClampNeg) (xs (i + 2).toNatClampNeg)) fun (r737 : Int32) (x11_thrown_1 : Int32) =>
    bd1 (f_X9_thrown x11_thrown_1) fun (r743 : Int32) =>
    (if r743 = k719 then (
      bv (fun (_ : Unit) => ((
        some (x11_thrown_1, y13_p_1)
        ) : Option (Int32 × (Nat → Int64)))) fun j770 =>
      (if k719 = 0 then (
        ar 0 1 <|
        (if (lg_cmp (y13_p_1 (0 : Int32).toNatClampNeg) (r737.toInt64)) = 0 then (
          j770 ()
        ) else (
          none
        ))
      ) else (
        j770 ()
      ))
    ) else (
      none
    ))
    ) : Option (Int32 × (Nat → Int64)))) fun jh719 =>
  match t_X8_why x2_rows x2_columns x3_count x3_reds y4_letterOn y5_namesOn y6_land y7_riverOf y8_home y9_length y10_letters (xs (i + 1).toNatClampNeg) (xs (i + 2).toNatClampNeg) with
  | some cls =>
    (if cls = "java/lang/IndexOutOfBoundsException" then jh719 1 y13_p  else
    (if cls = "java/lang/IllegalArgumentException" then jh719 2 y13_p  else
    none))
  | none =>
    bd1 (f_X8_why x2_rows x2_columns x3_count x3_reds y4_letterOn y5_namesOn y6_land y7_riverOf y8_home y9_length y10_letters (xs (i + 1).toNatClampNeg) (xs (i + 2).toNatClampNeg)) fun (r719 : Int32) =>
    jh719 0 (vp_updL y13_p (0 : Int32).toNatClampNeg r719.toInt64)
noncomputable def f_case_11 (L : Nat) (xs : Nat → Int32) (i : Int32) (x2_rows : Int32) (x2_columns : Int32) (x3_count : Int32) (x3_reds : Int32) (y4_letterOn : Nat → Int32) (y5_namesOn : Nat → Int32) (y6_land : Nat → Int32) (y7_riverOf : Nat → Int32) (y8_home : Nat → Int32) (y9_length : Nat → Int32) (y10_letters : Nat → Int32) (x11_thrown : Int32) (y12_s : Nat → Int32) (y13_p : Nat → Int64) : Option (Int32 × (Nat → Int64)) :=
  ar (i + 1) L <|
  bv (fun (k781 : Int32) (y13_p_1 : Nat → Int64) => ((
    ar (i + 1) L <|
    bd2 (f_X9_ways x11_thrown y12_s (xs (i + 1).toNatClampNeg)) fun (r793 : Int32) (x11_thrown_1 : Int32) =>
    bd1 (f_X9_thrown x11_thrown_1) fun (r799 : Int32) =>
    (if r799 = k781 then (
      bv (fun (_ : Unit) => ((
        some (x11_thrown_1, y13_p_1)
        ) : Option (Int32 × (Nat → Int64)))) fun j826 =>
      (if k781 = 0 then (
        ar 0 1 <|
        (if (lg_cmp (y13_p_1 (0 : Int32).toNatClampNeg) (r793.toInt64)) = 0 then (
          j826 ()
        ) else (
          none
        ))
      ) else (
        j826 ()
      ))
    ) else (
      none
    ))
    ) : Option (Int32 × (Nat → Int64)))) fun jh781 =>
  match t_X8_ways x2_rows x2_columns x3_count x3_reds y4_letterOn y5_namesOn y6_land y7_riverOf y8_home y9_length y10_letters (xs (i + 1).toNatClampNeg) with
  | some cls =>
    (if cls = "java/lang/IndexOutOfBoundsException" then jh781 1 y13_p  else
    none)
  | none =>
    bd1 (f_X8_ways x2_rows x2_columns x3_count x3_reds y4_letterOn y5_namesOn y6_land y7_riverOf y8_home y9_length y10_letters (xs (i + 1).toNatClampNeg)) fun (r781 : Int32) =>
    jh781 0 (vp_updL y13_p (0 : Int32).toNatClampNeg r781.toInt64)
noncomputable def f_case_12 (L : Nat) (xs : Nat → Int32) (i : Int32) (x2_rows : Int32) (x2_columns : Int32) (x3_count : Int32) (y4_land : Nat → Int32) (y5_riverOf : Nat → Int32) (y6_home : Nat → Int32) (x7_thrown : Int32) (y8_s : Nat → Int32) (y9_p : Nat → Int64) : Option (Int32 × (Nat → Int64)) :=
  ar (i + 1) L <|
  ar (i + 2) L <|
  bv (fun (k843 : Int32) (y9_p_1 : Nat → Int64) => ((
    ar (i + 1) L <|
    ar (i + 2) L <|
    bd2 (f_X9_room x7_thrown y8_s (xs (i + 1).toNatClampNeg) (xs (i + 2).toNatClampNeg)) fun (r861 : Int32) (x7_thrown_1 : Int32) =>
    bd1 (f_X9_thrown x7_thrown_1) fun (r867 : Int32) =>
    (if r867 = k843 then (
      bv (fun (_ : Unit) => ((
        some (x7_thrown_1, y9_p_1)
        ) : Option (Int32 × (Nat → Int64)))) fun j894 =>
      (if k843 = 0 then (
        ar 0 1 <|
        (if (lg_cmp (y9_p_1 (0 : Int32).toNatClampNeg) (r861.toInt64)) = 0 then (
          j894 ()
        ) else (
          none
        ))
      ) else (
        j894 ()
      ))
    ) else (
      none
    ))
    ) : Option (Int32 × (Nat → Int64)))) fun jh843 =>
  match t_X8_room x2_rows x2_columns x3_count y4_land y5_riverOf y6_home (xs (i + 1).toNatClampNeg) (xs (i + 2).toNatClampNeg) with
  | some cls =>
    (if cls = "java/lang/IndexOutOfBoundsException" then jh843 1 y9_p  else
    (if cls = "java/lang/IllegalArgumentException" then jh843 2 y9_p  else
    none))
  | none =>
    bd1 (f_X8_room x2_rows x2_columns x3_count y4_land y5_riverOf y6_home (xs (i + 1).toNatClampNeg) (xs (i + 2).toNatClampNeg)) fun (r843 : Int32) =>
    jh843 0 (vp_updL y9_p (0 : Int32).toNatClampNeg r843.toInt64)
noncomputable def f_case_13 (L : Nat) (xs : Nat → Int32) (i : Int32) (x2_rows : Int32) (x2_columns : Int32) (x3_count : Int32) (y4_namesOn : Nat → Int32) (y5_direction : Nat → Int32) (y6_home : Nat → Int32) (y7_length : Nat → Int32) (x8_thrown : Int32) (y9_s : Nat → Int32) : Option (Int32) :=
  bd1 (f_X8_crossings x2_rows x2_columns x3_count y4_namesOn y5_direction y6_home y7_length) fun (r898 : Int32) =>
  bd2 (f_X9_crossings x8_thrown y9_s) fun (r902 : Int32) (x8_thrown_1 : Int32) =>
  (if r898 = r902 then (
    some x8_thrown_1
  ) else (
    none
  ))
noncomputable def f_case_14 (L : Nat) (xs : Nat → Int32) (i : Int32) (x2_rows : Int32) (x2_columns : Int32) (x3_count : Int32) (y4_namesOn : Nat → Int32) (y5_direction : Nat → Int32) (y6_home : Nat → Int32) (y7_length : Nat → Int32) (x8_thrown : Int32) (y9_s : Nat → Int32) (y10_p : Nat → Int64) : Option (Int32 × (Nat → Int64)) :=
  ar (i + 1) L <|
  bv (fun (k918 : Int32) (y10_p_1 : Nat → Int64) => ((
    ar (i + 1) L <|
    bd2 (f_X9_crossed x8_thrown y9_s (xs (i + 1).toNatClampNeg)) fun (r930 : Int32) (x8_thrown_1 : Int32) =>
    bd1 (f_X9_thrown x8_thrown_1) fun (r936 : Int32) =>
    (if r936 = k918 then (
      bv (fun (_ : Unit) => ((
        some (x8_thrown_1, y10_p_1)
        ) : Option (Int32 × (Nat → Int64)))) fun j963 =>
      (if k918 = 0 then (
        ar 0 1 <|
        (if (lg_cmp (y10_p_1 (0 : Int32).toNatClampNeg) (r930.toInt64)) = 0 then (
          j963 ()
        ) else (
          none
        ))
      ) else (
        j963 ()
      ))
    ) else (
      none
    ))
    ) : Option (Int32 × (Nat → Int64)))) fun jh918 =>
  match t_X8_crossed x2_rows x2_columns x3_count y4_namesOn y5_direction y6_home y7_length (xs (i + 1).toNatClampNeg) with
  | some cls =>
    (if cls = "java/lang/IndexOutOfBoundsException" then jh918 1 y10_p  else
    none)
  | none =>
    bd1 (f_X8_crossed x2_rows x2_columns x3_count y4_namesOn y5_direction y6_home y7_length (xs (i + 1).toNatClampNeg)) fun (r918 : Int32) =>
    jh918 0 (vp_updL y10_p (0 : Int32).toNatClampNeg r918.toInt64)
noncomputable def f_case_15 (L : Nat) (xs : Nat → Int32) (i : Int32) (x2_rows : Int32) (x2_columns : Int32) (x3_count : Int32) (y4_namesOn : Nat → Int32) (y5_land : Nat → Int32) (y6_riverOf : Nat → Int32) (y7_home : Nat → Int32) (x8_thrown : Int32) (y9_s : Nat → Int32) : Option (Int32) :=
  bd1 (f_X8_free x2_rows x2_columns x3_count y4_namesOn y5_land y6_riverOf y7_home) fun (r967 : Int32) =>
  bd2 (f_X9_free x8_thrown y9_s) fun (r971 : Int32) (x8_thrown_1 : Int32) =>
  (if r967 = r971 then (
    some x8_thrown_1
  ) else (
    none
  ))
noncomputable def f_case_16 (L : Nat) (xs : Nat → Int32) (i : Int32) (x2_count : Int32) (y3_direction : Nat → Int32) (x4_thrown : Int32) (y5_s : Nat → Int32) (y6_p : Nat → Int64) : Option (Int32 × (Nat → Int64)) :=
  ar (i + 1) L <|
  bv (fun (k987 : Int32) (y6_p_1 : Nat → Int64) => ((
    ar (i + 1) L <|
    bd2 (f_X9_upright x4_thrown y5_s (xs (i + 1).toNatClampNeg)) fun (r999 : Int32) (x4_thrown_1 : Int32) =>
    bd1 (f_X9_thrown x4_thrown_1) fun (r1005 : Int32) =>
    (if r1005 = k987 then (
      bv (fun (_ : Unit) => ((
        some (x4_thrown_1, y6_p_1)
        ) : Option (Int32 × (Nat → Int64)))) fun j1032 =>
      (if k987 = 0 then (
        ar 0 1 <|
        (if (lg_cmp (y6_p_1 (0 : Int32).toNatClampNeg) (r999.toInt64)) = 0 then (
          j1032 ()
        ) else (
          none
        ))
      ) else (
        j1032 ()
      ))
    ) else (
      none
    ))
    ) : Option (Int32 × (Nat → Int64)))) fun jh987 =>
  match t_X8_upright x2_count y3_direction (xs (i + 1).toNatClampNeg) with
  | some cls =>
    (if cls = "java/lang/IllegalArgumentException" then jh987 1 y6_p  else
    none)
  | none =>
    bd1 (f_X8_upright x2_count y3_direction (xs (i + 1).toNatClampNeg)) fun (r987 : Int32) =>
    jh987 0 (vp_updL y6_p (0 : Int32).toNatClampNeg r987.toInt64)
noncomputable def f_case_17 (L : Nat) (xs : Nat → Int32) (i : Int32) (x3_count : Int32) (x3_turn : Int32) (y4_direction : Nat → Int32) (y5_stops : Nat → Int32) (x6_thrown : Int32) (y7_s : Nat → Int32) (y8_ways : Nat → Int32) : Option (Int32 × (Nat → Int32)) :=
  bd1 (f_X8_turning x3_count x3_turn y4_direction y5_stops) fun (r1036 : Int32) =>
  bd3 (f_X9_turning x6_thrown y7_s y8_ways) fun (r1040 : Int32) (x6_thrown_1 : Int32) (y8_ways_1 : Nat → Int32) =>
  (if r1036 = r1040 then (
    some (x6_thrown_1, y8_ways_1)
  ) else (
    none
  ))
noncomputable def f_case_18 (L : Nat) (xs : Nat → Int32) (i : Int32) (x3_count : Int32) (y4_direction : Nat → Int32) (y5_stops : Nat → Int32) (x6_thrown : Int32) (y7_s : Nat → Int32) (y8_ways : Nat → Int32) (y9_p : Nat → Int64) : Option (Int32 × (Nat → Int32) × (Nat → Int64)) :=
  ar (i + 1) L <|
  bv (fun (k1056 : Int32) (y9_p_1 : Nat → Int64) => ((
    ar (i + 1) L <|
    bd3 (f_X9_turningFrom x6_thrown y7_s y8_ways (xs (i + 1).toNatClampNeg)) fun (r1068 : Int32) (x6_thrown_1 : Int32) (y8_ways_1 : Nat → Int32) =>
    bd1 (f_X9_thrown x6_thrown_1) fun (r1074 : Int32) =>
    (if r1074 = k1056 then (
      bv (fun (_ : Unit) => ((
        some (x6_thrown_1, y8_ways_1, y9_p_1)
        ) : Option (Int32 × (Nat → Int32) × (Nat → Int64)))) fun j1101 =>
      (if k1056 = 0 then (
        ar 0 1 <|
        (if (lg_cmp (y9_p_1 (0 : Int32).toNatClampNeg) (r1068.toInt64)) = 0 then (
          j1101 ()
        ) else (
          none
        ))
      ) else (
        j1101 ()
      ))
    ) else (
      none
    ))
    ) : Option (Int32 × (Nat → Int32) × (Nat → Int64)))) fun jh1056 =>
  match t_X8_turningFrom x3_count y4_direction y5_stops (xs (i + 1).toNatClampNeg) with
  | some cls =>
    (if cls = "java/lang/IllegalArgumentException" then jh1056 1 y9_p  else
    none)
  | none =>
    bd1 (f_X8_turningFrom x3_count y4_direction y5_stops (xs (i + 1).toNatClampNeg)) fun (r1056 : Int32) =>
    jh1056 0 (vp_updL y9_p (0 : Int32).toNatClampNeg r1056.toInt64)
noncomputable def f_case_19 (L : Nat) (xs : Nat → Int32) (i : Int32) (x3_count : Int32) (y4_direction : Nat → Int32) (y5_stops : Nat → Int32) (x6_thrown : Int32) (y7_s : Nat → Int32) (y8_ways : Nat → Int32) : Option (Int32 × (Nat → Int32)) :=
  bd1 (f_X8_bestTurn x3_count y4_direction y5_stops) fun (r1105 : Int32) =>
  bd3 (f_X9_bestTurn x6_thrown y7_s y8_ways) fun (r1109 : Int32) (x6_thrown_1 : Int32) (y8_ways_1 : Nat → Int32) =>
  (if r1105 = r1109 then (
    some (x6_thrown_1, y8_ways_1)
  ) else (
    none
  ))
noncomputable def f_case_20 (L : Nat) (xs : Nat → Int32) (i : Int32) (x2_count : Int32) (x3_count : Int32) (x3_turn : Int32) (y4_direction : Nat → Int32) (y5_stops : Nat → Int32) (x6_thrown : Int32) (y7_s : Nat → Int32) : Option (Int32) :=
  bd1 (f_X8_hardest x2_count x3_count x3_turn y4_direction y5_stops) fun (r1118 : Int32) =>
  bd2 (f_X9_hardest x6_thrown y7_s) fun (r1122 : Int32) (x6_thrown_1 : Int32) =>
  (if r1118 = r1122 then (
    some x6_thrown_1
  ) else (
    none
  ))
noncomputable def f_case_21 (L : Nat) (xs : Nat → Int32) (i : Int32) (x1_reds : Int32) (x1_bestReds : Int32) (x1_bestCount : Int32) (x1_bestTurning : Int32) (y3_allowed : Nat → Int32) (y4_best : Nat → Int32) (y5_foes : Nat → Int32) (y6_namesLeft : Nat → Int32) (y7_redsLeft : Nat → Int32) (y8_trial : Nat → Int32) (x9_rows : Int32) (x9_columns : Int32) (x10_count : Int32) (x10_reds : Int32) (x11_count : Int32) (x11_turn : Int32) (y12_land : Nat → Int32) (y13_riverOf : Nat → Int32) (y14_home : Nat → Int32) (y15_length : Nat → Int32) (y16_letters : Nat → Int32) (y17_stops : Nat → Int32) (x18_thrown : Int32) (x18_bestReds : Int32) (x18_bestPlaced : Int32) (x18_bestTurning : Int32) (y19_against : Nat → Int32) (y20_best : Nat → Int32) (y21_may : Nat → Int32) (y22_redThen : Nat → Int32) (y23_s : Nat → Int32) (y24_ways : Nat → Int32) : Option (Int32 × Int32 × Int32 × Int32 × (Nat → Int32) × (Nat → Int32) × (Nat → Int32) × (Nat → Int32) × (Nat → Int32) × (Nat → Int32) × Int32 × Int32 × Int32 × Int32 × (Nat → Int32) × (Nat → Int32) × (Nat → Int32) × (Nat → Int32) × (Nat → Int32)) :=
  bd11 (f_X8_least x1_reds x1_bestReds x1_bestCount x1_bestTurning y3_allowed y4_best y5_foes y6_namesLeft y7_redsLeft y8_trial x9_rows x9_columns x10_count x10_reds x11_count x11_turn y12_land y13_riverOf y14_home y15_length y16_letters y17_stops) fun (r1131 : Int32) (x1_reds_1 : Int32) (x1_bestReds_1 : Int32) (x1_bestCount_1 : Int32) (x1_bestTurning_1 : Int32) (y3_allowed_1 : Nat → Int32) (y4_best_1 : Nat → Int32) (y5_foes_1 : Nat → Int32) (y6_namesLeft_1 : Nat → Int32) (y7_redsLeft_1 : Nat → Int32) (y8_trial_1 : Nat → Int32) =>
  bd10 (f_X9_least x18_thrown x18_bestReds x18_bestPlaced x18_bestTurning y19_against y20_best y21_may y22_redThen y23_s y24_ways) fun (r1135 : Int32) (x18_thrown_1 : Int32) (x18_bestReds_1 : Int32) (x18_bestPlaced_1 : Int32) (x18_bestTurning_1 : Int32) (y19_against_1 : Nat → Int32) (y20_best_1 : Nat → Int32) (y21_may_1 : Nat → Int32) (y22_redThen_1 : Nat → Int32) (y24_ways_1 : Nat → Int32) =>
  (if r1131 = r1135 then (
    some (x1_reds_1, x1_bestReds_1, x1_bestCount_1, x1_bestTurning_1, y3_allowed_1, y4_best_1, y5_foes_1, y6_namesLeft_1, y7_redsLeft_1, y8_trial_1, x18_thrown_1, x18_bestReds_1, x18_bestPlaced_1, x18_bestTurning_1, y19_against_1, y20_best_1, y21_may_1, y22_redThen_1, y24_ways_1)
  ) else (
    none
  ))
noncomputable def f_case_22 (L : Nat) (xs : Nat → Int32) (i : Int32) (x1_reds : Int32) (x1_bestReds : Int32) (x1_bestCount : Int32) (x1_bestTurning : Int32) (y3_allowed : Nat → Int32) (y4_best : Nat → Int32) (y5_foes : Nat → Int32) (y6_namesLeft : Nat → Int32) (y7_redsLeft : Nat → Int32) (y8_trial : Nat → Int32) (x9_rows : Int32) (x9_columns : Int32) (x10_count : Int32) (x10_reds : Int32) (x11_count : Int32) (x11_turn : Int32) (y12_land : Nat → Int32) (y13_riverOf : Nat → Int32) (y14_home : Nat → Int32) (y15_length : Nat → Int32) (y16_letters : Nat → Int32) (y17_stops : Nat → Int32) (x18_thrown : Int32) (x18_bestReds : Int32) (x18_bestPlaced : Int32) (x18_bestTurning : Int32) (y19_against : Nat → Int32) (y20_best : Nat → Int32) (y21_may : Nat → Int32) (y22_redThen : Nat → Int32) (y23_s : Nat → Int32) (y24_ways : Nat → Int32) : Option (Int32 × Int32 × Int32 × Int32 × (Nat → Int32) × (Nat → Int32) × (Nat → Int32) × (Nat → Int32) × (Nat → Int32) × (Nat → Int32) × Int32 × Int32 × Int32 × Int32 × (Nat → Int32) × (Nat → Int32) × (Nat → Int32) × (Nat → Int32) × (Nat → Int32)) :=
  bd11 (f_X8_placedThen x1_reds x1_bestReds x1_bestCount x1_bestTurning y3_allowed y4_best y5_foes y6_namesLeft y7_redsLeft y8_trial x9_rows x9_columns x10_count x10_reds x11_count x11_turn y12_land y13_riverOf y14_home y15_length y16_letters y17_stops) fun (r1144 : Int32) (x1_reds_1 : Int32) (x1_bestReds_1 : Int32) (x1_bestCount_1 : Int32) (x1_bestTurning_1 : Int32) (y3_allowed_1 : Nat → Int32) (y4_best_1 : Nat → Int32) (y5_foes_1 : Nat → Int32) (y6_namesLeft_1 : Nat → Int32) (y7_redsLeft_1 : Nat → Int32) (y8_trial_1 : Nat → Int32) =>
  bd10 (f_X9_placedThen x18_thrown x18_bestReds x18_bestPlaced x18_bestTurning y19_against y20_best y21_may y22_redThen y23_s y24_ways) fun (r1148 : Int32) (x18_thrown_1 : Int32) (x18_bestReds_1 : Int32) (x18_bestPlaced_1 : Int32) (x18_bestTurning_1 : Int32) (y19_against_1 : Nat → Int32) (y20_best_1 : Nat → Int32) (y21_may_1 : Nat → Int32) (y22_redThen_1 : Nat → Int32) (y24_ways_1 : Nat → Int32) =>
  (if r1144 = r1148 then (
    some (x1_reds_1, x1_bestReds_1, x1_bestCount_1, x1_bestTurning_1, y3_allowed_1, y4_best_1, y5_foes_1, y6_namesLeft_1, y7_redsLeft_1, y8_trial_1, x18_thrown_1, x18_bestReds_1, x18_bestPlaced_1, x18_bestTurning_1, y19_against_1, y20_best_1, y21_may_1, y22_redThen_1, y24_ways_1)
  ) else (
    none
  ))
noncomputable def f_case_23 (L : Nat) (xs : Nat → Int32) (i : Int32) (x1_reds : Int32) (x1_bestReds : Int32) (x1_bestCount : Int32) (x1_bestTurning : Int32) (y3_allowed : Nat → Int32) (y4_best : Nat → Int32) (y5_foes : Nat → Int32) (y6_namesLeft : Nat → Int32) (y7_redsLeft : Nat → Int32) (y8_trial : Nat → Int32) (x9_rows : Int32) (x9_columns : Int32) (x10_count : Int32) (x10_reds : Int32) (x11_count : Int32) (x11_turn : Int32) (y12_land : Nat → Int32) (y13_riverOf : Nat → Int32) (y14_home : Nat → Int32) (y15_length : Nat → Int32) (y16_letters : Nat → Int32) (y17_stops : Nat → Int32) (x18_thrown : Int32) (x18_bestReds : Int32) (x18_bestPlaced : Int32) (x18_bestTurning : Int32) (y19_against : Nat → Int32) (y20_best : Nat → Int32) (y21_may : Nat → Int32) (y22_redThen : Nat → Int32) (y23_s : Nat → Int32) (y24_ways : Nat → Int32) (y25_p : Nat → Int64) : Option (Int32 × Int32 × Int32 × Int32 × (Nat → Int32) × (Nat → Int32) × (Nat → Int32) × (Nat → Int32) × (Nat → Int32) × (Nat → Int32) × Int32 × Int32 × Int32 × Int32 × (Nat → Int32) × (Nat → Int32) × (Nat → Int32) × (Nat → Int32) × (Nat → Int32) × (Nat → Int64)) :=
  ar (i + 1) L <|
  bv (fun (k1164 : Int32) (y25_p_1 : Nat → Int64) (x1_reds_2 : Int32) (x1_bestReds_2 : Int32) (x1_bestCount_2 : Int32) (x1_bestTurning_2 : Int32) (y3_allowed_2 : Nat → Int32) (y4_best_2 : Nat → Int32) (y5_foes_2 : Nat → Int32) (y6_namesLeft_2 : Nat → Int32) (y7_redsLeft_2 : Nat → Int32) (y8_trial_2 : Nat → Int32) => ((
    ar (i + 1) L <|
    bd10 (f_X9_arranged x18_thrown x18_bestReds x18_bestPlaced x18_bestTurning y19_against y20_best y21_may y22_redThen y23_s y24_ways (xs (i + 1).toNatClampNeg)) fun (r1176 : Int32) (x18_thrown_1 : Int32) (x18_bestReds_1 : Int32) (x18_bestPlaced_1 : Int32) (x18_bestTurning_1 : Int32) (y19_against_1 : Nat → Int32) (y20_best_1 : Nat → Int32) (y21_may_1 : Nat → Int32) (y22_redThen_1 : Nat → Int32) (y24_ways_1 : Nat → Int32) =>
    bd1 (f_X9_thrown x18_thrown_1) fun (r1182 : Int32) =>
    (if r1182 = k1164 then (
      bv (fun (_ : Unit) => ((
        some (x1_reds_2, x1_bestReds_2, x1_bestCount_2, x1_bestTurning_2, y3_allowed_2, y4_best_2, y5_foes_2, y6_namesLeft_2, y7_redsLeft_2, y8_trial_2, x18_thrown_1, x18_bestReds_1, x18_bestPlaced_1, x18_bestTurning_1, y19_against_1, y20_best_1, y21_may_1, y22_redThen_1, y24_ways_1, y25_p_1)
        ) : Option (Int32 × Int32 × Int32 × Int32 × (Nat → Int32) × (Nat → Int32) × (Nat → Int32) × (Nat → Int32) × (Nat → Int32) × (Nat → Int32) × Int32 × Int32 × Int32 × Int32 × (Nat → Int32) × (Nat → Int32) × (Nat → Int32) × (Nat → Int32) × (Nat → Int32) × (Nat → Int64)))) fun j1209 =>
      (if k1164 = 0 then (
        ar 0 1 <|
        (if (lg_cmp (y25_p_1 (0 : Int32).toNatClampNeg) (r1176.toInt64)) = 0 then (
          j1209 ()
        ) else (
          none
        ))
      ) else (
        j1209 ()
      ))
    ) else (
      none
    ))
    ) : Option (Int32 × Int32 × Int32 × Int32 × (Nat → Int32) × (Nat → Int32) × (Nat → Int32) × (Nat → Int32) × (Nat → Int32) × (Nat → Int32) × Int32 × Int32 × Int32 × Int32 × (Nat → Int32) × (Nat → Int32) × (Nat → Int32) × (Nat → Int32) × (Nat → Int32) × (Nat → Int64)))) fun jh1164 =>
  match t_X8_arranged x1_reds x1_bestReds x1_bestCount x1_bestTurning y3_allowed y4_best y5_foes y6_namesLeft y7_redsLeft y8_trial x9_rows x9_columns x10_count x10_reds x11_count x11_turn y12_land y13_riverOf y14_home y15_length y16_letters y17_stops (xs (i + 1).toNatClampNeg) with
  | some cls =>
    (if cls = "java/lang/IndexOutOfBoundsException" then jh1164 1 y25_p x1_reds x1_bestReds x1_bestCount x1_bestTurning y3_allowed y4_best y5_foes y6_namesLeft y7_redsLeft y8_trial else
    none)
  | none =>
    bd11 (f_X8_arranged x1_reds x1_bestReds x1_bestCount x1_bestTurning y3_allowed y4_best y5_foes y6_namesLeft y7_redsLeft y8_trial x9_rows x9_columns x10_count x10_reds x11_count x11_turn y12_land y13_riverOf y14_home y15_length y16_letters y17_stops (xs (i + 1).toNatClampNeg)) fun (r1164 : Int32) (x1_reds_1 : Int32) (x1_bestReds_1 : Int32) (x1_bestCount_1 : Int32) (x1_bestTurning_1 : Int32) (y3_allowed_1 : Nat → Int32) (y4_best_1 : Nat → Int32) (y5_foes_1 : Nat → Int32) (y6_namesLeft_1 : Nat → Int32) (y7_redsLeft_1 : Nat → Int32) (y8_trial_1 : Nat → Int32) =>
    jh1164 0 (vp_updL y25_p (0 : Int32).toNatClampNeg r1164.toInt64) x1_reds_1 x1_bestReds_1 x1_bestCount_1 x1_bestTurning_1 y3_allowed_1 y4_best_1 y5_foes_1 y6_namesLeft_1 y7_redsLeft_1 y8_trial_1
noncomputable def f_case_24 (L : Nat) (xs : Nat → Int32) (i : Int32) (x1_reds : Int32) (x1_bestReds : Int32) (x1_bestCount : Int32) (x1_bestTurning : Int32) (y3_allowed : Nat → Int32) (y4_best : Nat → Int32) (y5_foes : Nat → Int32) (y6_namesLeft : Nat → Int32) (y7_redsLeft : Nat → Int32) (y8_trial : Nat → Int32) (x9_rows : Int32) (x9_columns : Int32) (x10_count : Int32) (x10_reds : Int32) (x11_count : Int32) (x11_turn : Int32) (y12_land : Nat → Int32) (y13_riverOf : Nat → Int32) (y14_home : Nat → Int32) (y15_length : Nat → Int32) (y16_letters : Nat → Int32) (y17_stops : Nat → Int32) (x18_thrown : Int32) (x18_bestReds : Int32) (x18_bestPlaced : Int32) (x18_bestTurning : Int32) (y19_against : Nat → Int32) (y20_best : Nat → Int32) (y21_may : Nat → Int32) (y22_redThen : Nat → Int32) (y23_s : Nat → Int32) (y24_ways : Nat → Int32) (y25_p : Nat → Int64) : Option (Int32 × Int32 × Int32 × Int32 × (Nat → Int32) × (Nat → Int32) × (Nat → Int32) × (Nat → Int32) × (Nat → Int32) × (Nat → Int32) × Int32 × Int32 × Int32 × Int32 × (Nat → Int32) × (Nat → Int32) × (Nat → Int32) × (Nat → Int32) × (Nat → Int32) × (Nat → Int64)) :=
  ar (i + 1) L <|
  ar (i + 2) L <|
  bv (fun (t1233 : Int32) => ((
    bv (fun (k1234 : Int32) (y25_p_1 : Nat → Int64) (x1_reds_2 : Int32) (x1_bestReds_2 : Int32) (x1_bestCount_2 : Int32) (x1_bestTurning_2 : Int32) (y3_allowed_2 : Nat → Int32) (y4_best_2 : Nat → Int32) (y5_foes_2 : Nat → Int32) (y6_namesLeft_2 : Nat → Int32) (y7_redsLeft_2 : Nat → Int32) (y8_trial_2 : Nat → Int32) => ((
      ar (i + 1) L <|
      ar (i + 2) L <|
      bv (fun (t1260 : Int32) => ((
        bd10 (f_X9_leastIf x18_thrown x18_bestReds x18_bestPlaced x18_bestTurning y19_against y20_best y21_may y22_redThen y23_s y24_ways (xs (i + 1).toNatClampNeg) t1260) fun (r1260 : Int32) (x18_thrown_1 : Int32) (x18_bestReds_1 : Int32) (x18_bestPlaced_1 : Int32) (x18_bestTurning_1 : Int32) (y19_against_1 : Nat → Int32) (y20_best_1 : Nat → Int32) (y21_may_1 : Nat → Int32) (y22_redThen_1 : Nat → Int32) (y24_ways_1 : Nat → Int32) =>
        bd1 (f_X9_thrown x18_thrown_1) fun (r1266 : Int32) =>
        (if r1266 = k1234 then (
          bv (fun (_ : Unit) => ((
            some (x1_reds_2, x1_bestReds_2, x1_bestCount_2, x1_bestTurning_2, y3_allowed_2, y4_best_2, y5_foes_2, y6_namesLeft_2, y7_redsLeft_2, y8_trial_2, x18_thrown_1, x18_bestReds_1, x18_bestPlaced_1, x18_bestTurning_1, y19_against_1, y20_best_1, y21_may_1, y22_redThen_1, y24_ways_1, y25_p_1)
            ) : Option (Int32 × Int32 × Int32 × Int32 × (Nat → Int32) × (Nat → Int32) × (Nat → Int32) × (Nat → Int32) × (Nat → Int32) × (Nat → Int32) × Int32 × Int32 × Int32 × Int32 × (Nat → Int32) × (Nat → Int32) × (Nat → Int32) × (Nat → Int32) × (Nat → Int32) × (Nat → Int64)))) fun j1293 =>
          (if k1234 = 0 then (
            ar 0 1 <|
            (if (lg_cmp (y25_p_1 (0 : Int32).toNatClampNeg) (r1260.toInt64)) = 0 then (
              j1293 ()
            ) else (
              none
            ))
          ) else (
            j1293 ()
          ))
        ) else (
          none
        ))
        ) : Option (Int32 × Int32 × Int32 × Int32 × (Nat → Int32) × (Nat → Int32) × (Nat → Int32) × (Nat → Int32) × (Nat → Int32) × (Nat → Int32) × Int32 × Int32 × Int32 × Int32 × (Nat → Int32) × (Nat → Int32) × (Nat → Int32) × (Nat → Int32) × (Nat → Int32) × (Nat → Int64)))) fun j1260 =>
      (if (xs (i + 2).toNatClampNeg) = 0 then (
        j1260 0
      ) else (
        j1260 1
      ))
      ) : Option (Int32 × Int32 × Int32 × Int32 × (Nat → Int32) × (Nat → Int32) × (Nat → Int32) × (Nat → Int32) × (Nat → Int32) × (Nat → Int32) × Int32 × Int32 × Int32 × Int32 × (Nat → Int32) × (Nat → Int32) × (Nat → Int32) × (Nat → Int32) × (Nat → Int32) × (Nat → Int64)))) fun jh1234 =>
    match t_X8_leastIf x1_reds x1_bestReds x1_bestCount x1_bestTurning y3_allowed y4_best y5_foes y6_namesLeft y7_redsLeft y8_trial x9_rows x9_columns x10_count x10_reds x11_count x11_turn y12_land y13_riverOf y14_home y15_length y16_letters y17_stops (xs (i + 1).toNatClampNeg) t1233 with
    | some cls =>
      (if cls = "java/lang/IndexOutOfBoundsException" then jh1234 1 y25_p x1_reds x1_bestReds x1_bestCount x1_bestTurning y3_allowed y4_best y5_foes y6_namesLeft y7_redsLeft y8_trial else
      none)
    | none =>
      bd11 (f_X8_leastIf x1_reds x1_bestReds x1_bestCount x1_bestTurning y3_allowed y4_best y5_foes y6_namesLeft y7_redsLeft y8_trial x9_rows x9_columns x10_count x10_reds x11_count x11_turn y12_land y13_riverOf y14_home y15_length y16_letters y17_stops (xs (i + 1).toNatClampNeg) t1233) fun (r1234 : Int32) (x1_reds_1 : Int32) (x1_bestReds_1 : Int32) (x1_bestCount_1 : Int32) (x1_bestTurning_1 : Int32) (y3_allowed_1 : Nat → Int32) (y4_best_1 : Nat → Int32) (y5_foes_1 : Nat → Int32) (y6_namesLeft_1 : Nat → Int32) (y7_redsLeft_1 : Nat → Int32) (y8_trial_1 : Nat → Int32) =>
      jh1234 0 (vp_updL y25_p (0 : Int32).toNatClampNeg r1234.toInt64) x1_reds_1 x1_bestReds_1 x1_bestCount_1 x1_bestTurning_1 y3_allowed_1 y4_best_1 y5_foes_1 y6_namesLeft_1 y7_redsLeft_1 y8_trial_1
    ) : Option (Int32 × Int32 × Int32 × Int32 × (Nat → Int32) × (Nat → Int32) × (Nat → Int32) × (Nat → Int32) × (Nat → Int32) × (Nat → Int32) × Int32 × Int32 × Int32 × Int32 × (Nat → Int32) × (Nat → Int32) × (Nat → Int32) × (Nat → Int32) × (Nat → Int32) × (Nat → Int64)))) fun j1233 =>
  (if (xs (i + 2).toNatClampNeg) = 0 then (
    j1233 0
  ) else (
    j1233 1
  ))
