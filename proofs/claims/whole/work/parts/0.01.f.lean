noncomputable def f_J6_bitCount_0f7a4  (p0 : Int32) : Option (Int32) :=
  bv (p0 - ((ushr p0 1) &&& 1431655765)) fun v0 =>
  bv ((v0 &&& 858993459) + ((ushr v0 2) &&& 858993459)) fun v0_1 =>
  bv ((v0_1 + (ushr v0_1 4)) &&& 252645135) fun v0_2 =>
  bv (v0_2 + (ushr v0_2 8)) fun v0_3 =>
  bv (v0_3 + (ushr v0_3 16)) fun v0_4 =>
  some (v0_4 &&& 63)
noncomputable def f_J9_floorMod_7cf53  (p0 : Int32) (p1 : Int32) : Option (Int32) :=
  dv p1 <|
  bv (p0 - p0 / p1 * p1) fun v2 =>
  (if 0 ≤ (p0 ^^^ p1) then (
    some v2
  ) else (
    (if v2 = 0 then (
      some v2
    ) else (
      some (v2 + p1)
    ))
  ))
noncomputable def f_X8_uprightTurn  (p0 : Int32) : Option (Int32) :=
  some ((p0 + 3) - (p0 + 3) / 4 * 4)
noncomputable def f_X8_quartersBetween  (p0 : Int32) (p1 : Int32) : Option (Int32) :=
  bv (if 0 ≤ (p0 - p1) then (p0 - p1) else 0 - (p0 - p1)) fun v2 =>
  some (if (4 - v2) < v2 then (4 - v2) else v2)
noncomputable def f_X8_byteOf  (p0 : Int64) (p2 : Int32) : Option (Int32) :=
  some ((((lushr p0 p2) &&& 255) : Int64).toInt32)
noncomputable def f_X1_beginSea (x0_rows : Int32) (x0_columns : Int32) (x0_rivers : Int32) (y1_land : Nat → Int32) (y2_riverOf : Nat → Int32) (y3_riverPlace : Nat → Int32) (p1 : Int32) (p2 : Int32) : Option (Int32 × Int32 × Int32 × (Nat → Int32) × (Nat → Int32) × (Nat → Int32)) :=
  bv (fun (v3 : Int32) (y1_land_1 : Nat → Int32) (y2_riverOf_1 : Nat → Int32) (y3_riverPlace_1 : Nat → Int32) => ((
    (if 144 ≤ v3 then (
      some (.inr (y1_land_1, y2_riverOf_1, y3_riverPlace_1))
    ) else (
      ar v3 144 <| bv (upd y1_land_1 v3.toNatClampNeg (vp_nar .boolean 0)) fun y1_land_3 =>
      ar v3 144 <| bv (upd y2_riverOf_1 v3.toNatClampNeg (-1)) fun y2_riverOf_3 =>
      ar v3 144 <| bv (upd y3_riverPlace_1 v3.toNatClampNeg (-1)) fun y3_riverPlace_3 =>
      bv (v3 + 1) fun v3_1 =>
      some (.inl (v3_1, y1_land_3, y2_riverOf_3, y3_riverPlace_3))
    ))
    ) : Option ((Int32 × (Nat → Int32) × (Nat → Int32) × (Nat → Int32)) ⊕ ((Nat → Int32) × (Nat → Int32) × (Nat → Int32))))) fun l17 =>
  bd3 (lq4 l17 0 y1_land y2_riverOf y3_riverPlace) fun (y1_land_2 : Nat → Int32) (y2_riverOf_2 : Nat → Int32) (y3_riverPlace_2 : Nat → Int32) =>
  some (p1, p2, 0, y1_land_2, y2_riverOf_2, y3_riverPlace_2)
noncomputable def f_X1_copyFrom (x0_rows : Int32) (x0_columns : Int32) (x0_rivers : Int32) (y1_land : Nat → Int32) (y2_riverOf : Nat → Int32) (y3_riverPlace : Nat → Int32) (x4_rows : Int32) (x4_columns : Int32) (x4_rivers : Int32) (y5_land : Nat → Int32) (y6_riverOf : Nat → Int32) (y7_riverPlace : Nat → Int32)  : Option (Int32 × Int32 × Int32 × (Nat → Int32) × (Nat → Int32) × (Nat → Int32)) :=
  bv (fun (v2 : Int32) (y1_land_1 : Nat → Int32) (y2_riverOf_1 : Nat → Int32) (y3_riverPlace_1 : Nat → Int32) => ((
    (if 144 ≤ v2 then (
      some (.inr (y1_land_1, y2_riverOf_1, y3_riverPlace_1))
    ) else (
      ar v2 144 <|
      ar v2 144 <| bv (upd y1_land_1 v2.toNatClampNeg (vp_nar .boolean (y5_land v2.toNatClampNeg))) fun y1_land_3 =>
      ar v2 144 <|
      ar v2 144 <| bv (upd y2_riverOf_1 v2.toNatClampNeg (y6_riverOf v2.toNatClampNeg)) fun y2_riverOf_3 =>
      ar v2 144 <|
      ar v2 144 <| bv (upd y3_riverPlace_1 v2.toNatClampNeg (y7_riverPlace v2.toNatClampNeg)) fun y3_riverPlace_3 =>
      bv (v2 + 1) fun v2_1 =>
      some (.inl (v2_1, y1_land_3, y2_riverOf_3, y3_riverPlace_3))
    ))
    ) : Option ((Int32 × (Nat → Int32) × (Nat → Int32) × (Nat → Int32)) ⊕ ((Nat → Int32) × (Nat → Int32) × (Nat → Int32))))) fun l26 =>
  bd3 (lq4 l26 0 y1_land y2_riverOf y3_riverPlace) fun (y1_land_2 : Nat → Int32) (y2_riverOf_2 : Nat → Int32) (y3_riverPlace_2 : Nat → Int32) =>
  some (x4_rows, x4_columns, x4_rivers, y1_land_2, y2_riverOf_2, y3_riverPlace_2)
noncomputable def f_X1_cells (x0_rows : Int32) (x0_columns : Int32)  : Option (Int32) :=
  some (x0_rows * x0_columns)
noncomputable def f_X1_ahead (x0_rows : Int32) (x0_columns : Int32) (p1 : Int32) (p2 : Int32) (p3 : Int32) : Option (Int32) :=
  (if p1 < 0 then (
    some (-1)
  ) else (
    (if (x0_rows * x0_columns) ≤ p1 then (
      some (-1)
    ) else (
      (if p2 < 0 then (
        some (-1)
      ) else (
        (if 4 ≤ p2 then (
          some (-1)
        ) else (
          (if 0 < x0_columns then (
            dv x0_columns <|
            ar p2 4 <|
            bv ((p1 / x0_columns) + ((rsI p2.toNatClampNeg) * p3)) fun v4 =>
            dv x0_columns <|
            ar p2 4 <|
            bv ((p1 - p1 / x0_columns * x0_columns) + ((csI p2.toNatClampNeg) * p3)) fun v5 =>
            bv (fun (t100 : Int32) => ((
              (if t100 = 0 then (
                some (-1)
              ) else (
                some ((v4 * x0_columns) + v5)
              ))
              ) : Option (Int32))) fun j100 =>
            bv (fun (_ : Unit) => ((
              j100 0
              ) : Option (Int32))) fun j99 =>
            (if v4 < 0 then (
              j99 ()
            ) else (
              (if x0_rows ≤ v4 then (
                j99 ()
              ) else (
                (if v5 < 0 then (
                  j99 ()
                ) else (
                  (if x0_columns ≤ v5 then (
                    j99 ()
                  ) else (
                    j100 1
                  ))
                ))
              ))
            ))
          ) else (
            some (-1)
          ))
        ))
      ))
    ))
  ))
noncomputable def f_X1_stepsTo (x0_columns : Int32) (p1 : Int32) (p2 : Int32) (p3 : Int32) : Option (Int32) :=
  (if p2 < 0 then (
    some (-1)
  ) else (
    (if 4 ≤ p2 then (
      some (-1)
    ) else (
      (if 0 < x0_columns then (
        dv x0_columns <|
        dv x0_columns <|
        bv ((p3 / x0_columns) - (p1 / x0_columns)) fun v4 =>
        dv x0_columns <|
        dv x0_columns <|
        bv ((p3 - p3 / x0_columns * x0_columns) - (p1 - p1 / x0_columns * x0_columns)) fun v5 =>
        ar p2 4 <|
        ar p2 4 <|
        bv ((v4 * (csI p2.toNatClampNeg)) + (v5 * (rsI p2.toNatClampNeg))) fun v6 =>
        ar p2 4 <|
        ar p2 4 <|
        bv ((v4 * (rsI p2.toNatClampNeg)) + (v5 * (csI p2.toNatClampNeg))) fun v7 =>
        bv (fun (_ : Unit) => ((
          some (-1)
          ) : Option (Int32))) fun j101 =>
        (if v6 = 0 then (
          (if v7 ≤ 0 then (
            j101 ()
          ) else (
            some v7
          ))
        ) else (
          j101 ()
        ))
      ) else (
        some (-1)
      ))
    ))
  ))
noncomputable def f_X1_isLand (y1_land : Nat → Int32) (p1 : Int32) : Option (Int32) :=
  bv (fun (_ : Unit) => ((
    some 0
    ) : Option (Int32))) fun j24 =>
  (if p1 < 0 then (
    j24 ()
  ) else (
    (if 144 ≤ p1 then (
      j24 ()
    ) else (
      ar p1 144 <|
      (if (y1_land p1.toNatClampNeg) = 0 then (
        j24 ()
      ) else (
        some 1
      ))
    ))
  ))
noncomputable def f_X1_riverIn (y1_riverOf : Nat → Int32) (p1 : Int32) : Option (Int32) :=
  bv (fun (_ : Unit) => ((
    some (-1)
    ) : Option (Int32))) fun j20 =>
  (if p1 < 0 then (
    j20 ()
  ) else (
    (if 144 ≤ p1 then (
      j20 ()
    ) else (
      ar p1 144 <|
      some (y1_riverOf p1.toNatClampNeg)
    ))
  ))
noncomputable def f_X1_isRiver (y1_riverOf : Nat → Int32) (p1 : Int32) : Option (Int32) :=
  bv (fun (_ : Unit) => ((
    some 0
    ) : Option (Int32))) fun j25 =>
  (if p1 < 0 then (
    j25 ()
  ) else (
    (if 144 ≤ p1 then (
      j25 ()
    ) else (
      ar p1 144 <|
      (if (y1_riverOf p1.toNatClampNeg) = (-1) then (
        j25 ()
      ) else (
        some 1
      ))
    ))
  ))
noncomputable def f_X1_setLand (y1_land : Nat → Int32) (p1 : Int32) (p2 : Int32) : Option ((Nat → Int32)) :=
  (if p1 < 0 then (
    some y1_land
  ) else (
    (if 144 ≤ p1 then (
      some y1_land
    ) else (
      ar p1 144 <| bv (upd y1_land p1.toNatClampNeg (vp_nar .boolean p2)) fun y1_land_1 =>
      some y1_land_1
    ))
  ))
noncomputable def f_X1_landCells (y1_land : Nat → Int32)  : Option (Int32) :=
  bv (fun (v1 : Int32) (v2 : Int32) => ((
    (if 144 ≤ v2 then (
      some (.inr v1)
    ) else (
      ar v2 144 <|
      bv (fun (v1_2 : Int32) => ((
        bv (v2 + 1) fun v2_1 =>
        some (.inl (v1_2, v2_1))
        ) : Option ((Int32 × Int32) ⊕ (Int32)))) fun j23 =>
      (if (y1_land v2.toNatClampNeg) = 0 then (
        j23 v1
      ) else (
        bv (v1 + 1) fun v1_3 =>
        j23 v1_3
      ))
    ))
    ) : Option ((Int32 × Int32) ⊕ (Int32)))) fun l4 =>
  bd1 (lq2 l4 0 0) fun (v1_1 : Int32) =>
  some v1_1
noncomputable def f_X1_hasSeaBeside (x0_rows : Int32) (x0_columns : Int32) (y1_land : Nat → Int32) (p1 : Int32) (p2 : Int32) : Option (Int32) :=
  bv (fun (v3 : Int32) => ((
    (if 4 ≤ v3 then (
      mr (some 0)
    ) else (
      bd1 (f_X1_ahead x0_rows x0_columns p1 v3 1) fun (r11 : Int32) =>
      (if r11 = (-1) then (
        mr (some 1)
      ) else (
        bv (fun (_ : Unit) => ((
          bv (v3 + 1) fun v3_1 =>
          some (.inl v3_1)
          ) : Option ((Int32) ⊕ (Int32)))) fun j39 =>
        (if r11 = p2 then (
          j39 ()
        ) else (
          bd1 (f_X1_isLand y1_land r11) fun (r31 : Int32) =>
          (if r31 = 0 then (
            mr (some 1)
          ) else (
            j39 ()
          ))
        ))
      ))
    ))
    ) : Option ((Int32) ⊕ (Int32)))) fun l2 =>
  lq1 l2 0
noncomputable def f_X1_endsRiver (x0_rows : Int32) (x0_columns : Int32) (y1_land : Nat → Int32) (y2_riverOf : Nat → Int32) (p1 : Int32) : Option (Int32) :=
  bv (fun (v2 : Int32) => ((
    (if 4 ≤ v2 then (
      mr (some 0)
    ) else (
      bd1 (f_X1_ahead x0_rows x0_columns p1 v2 1) fun (r11 : Int32) =>
      bd1 (f_X1_isLand y1_land r11) fun (r17 : Int32) =>
      (if r17 = 0 then (
        mr (some 1)
      ) else (
        bd1 (f_X1_isRiver y2_riverOf r11) fun (r25 : Int32) =>
        (if r25 = 0 then (
          bv (v2 + 1) fun v2_1 =>
          some (.inl v2_1)
        ) else (
          mr (some 1)
        ))
      ))
    ))
    ) : Option ((Int32) ⊕ (Int32)))) fun l2 =>
  lq1 l2 0
noncomputable def f_X1_depthOf (x0_rows : Int32) (x0_columns : Int32) (y1_land : Nat → Int32) (p1 : Int32) : Option (Int32) :=
  bd1 (f_X1_isLand y1_land p1) fun (r2 : Int32) =>
  (if r2 = 0 then (
    some 0
  ) else (
    (if 0 < x0_columns then (
      dv x0_columns <|
      bv (p1 / x0_columns) fun v2 =>
      dv x0_columns <|
      bv (p1 - p1 / x0_columns * x0_columns) fun v3 =>
      bv (if (x0_rows - v2) < (v2 + 1) then (x0_rows - v2) else (v2 + 1)) fun v4 =>
      bv (if (x0_columns - v3) < (v3 + 1) then (x0_columns - v3) else (v3 + 1)) fun v5 =>
      bv (if v5 < v4 then v5 else v4) fun v6 =>
      bv (fun (v6_1 : Int32) (v7 : Int32) => ((
        bd1 (f_X1_cells x0_rows x0_columns) fun (r74 : Int32) =>
        (if r74 ≤ v7 then (
          some (.inr v6_1)
        ) else (
          bd1 (f_X1_isLand y1_land v7) fun (r83 : Int32) =>
          bv (fun (v6_3 : Int32) => ((
            bv (v7 + 1) fun v7_1 =>
            some (.inl (v6_3, v7_1))
            ) : Option ((Int32 × Int32) ⊕ (Int32)))) fun j125 =>
          (if r83 = 0 then (
            dv x0_columns <|
            dv x0_columns <|
            bv ((if 0 ≤ ((v7 / x0_columns) - v2) then ((v7 / x0_columns) - v2) else 0 - ((v7 / x0_columns) - v2)) + (if 0 ≤ ((v7 - v7 / x0_columns * x0_columns) - v3) then ((v7 - v7 / x0_columns * x0_columns) - v3) else 0 - ((v7 - v7 / x0_columns * x0_columns) - v3))) fun v8 =>
            bv (if v8 < v6_1 then v8 else v6_1) fun v6_4 =>
            j125 v6_4
          ) else (
            j125 v6_1
          ))
        ))
        ) : Option ((Int32 × Int32) ⊕ (Int32)))) fun l71 =>
      bd1 (lq2 l71 v6 0) fun (v6_2 : Int32) =>
      some v6_2
    ) else (
      some 0
    ))
  ))
noncomputable def f_X1_riverCell (y1_riverOf : Nat → Int32) (y2_riverPlace : Nat → Int32) (p1 : Int32) (p2 : Int32) : Option (Int32) :=
  bv (fun (v3 : Int32) => ((
    (if 144 ≤ v3 then (
      mr (some (-1))
    ) else (
      bv (fun (_ : Unit) => ((
        bv (v3 + 1) fun v3_1 =>
        some (.inl v3_1)
        ) : Option ((Int32) ⊕ (Int32)))) fun j35 =>
      (if p2 < 0 then (
        j35 ()
      ) else (
        ar v3 144 <|
        (if (y1_riverOf v3.toNatClampNeg) = p1 then (
          ar v3 144 <|
          (if (y2_riverPlace v3.toNatClampNeg) = p2 then (
            mr (some v3)
          ) else (
            j35 ()
          ))
        ) else (
          j35 ()
        ))
      ))
    ))
    ) : Option ((Int32) ⊕ (Int32)))) fun l2 =>
  lq1 l2 0
noncomputable def f_X1_layRiver (x0_rivers : Int32) (y1_riverOf : Nat → Int32) (y2_riverPlace : Nat → Int32) (y3_p : Nat → Int32) (p2 : Int32) : Option (Int32 × (Nat → Int32) × (Nat → Int32)) :=
  bv (fun (v3 : Int32) (y1_riverOf_1 : Nat → Int32) (y2_riverPlace_1 : Nat → Int32) => ((
    (if p2 ≤ v3 then (
      some (.inr (y1_riverOf_1, y2_riverPlace_1))
    ) else (
      (if 144 ≤ v3 then (
        some (.inr (y1_riverOf_1, y2_riverPlace_1))
      ) else (
        ar v3 144 <|
        bv (y3_p v3.toNatClampNeg) fun v4 =>
        bv (fun (y1_riverOf_3 : Nat → Int32) (y2_riverPlace_3 : Nat → Int32) => ((
          bv (v3 + 1) fun v3_1 =>
          some (.inl (v3_1, y1_riverOf_3, y2_riverPlace_3))
          ) : Option ((Int32 × (Nat → Int32) × (Nat → Int32)) ⊕ ((Nat → Int32) × (Nat → Int32))))) fun j50 =>
        (if v4 < 0 then (
          j50 y1_riverOf_1 y2_riverPlace_1
        ) else (
          (if 144 ≤ v4 then (
            j50 y1_riverOf_1 y2_riverPlace_1
          ) else (
            ar v4 144 <| bv (upd y1_riverOf_1 v4.toNatClampNeg x0_rivers) fun y1_riverOf_4 =>
            ar v4 144 <| bv (upd y2_riverPlace_1 v4.toNatClampNeg v3) fun y2_riverPlace_4 =>
            j50 y1_riverOf_4 y2_riverPlace_4
          ))
        ))
      ))
    ))
    ) : Option ((Int32 × (Nat → Int32) × (Nat → Int32)) ⊕ ((Nat → Int32) × (Nat → Int32))))) fun l2 =>
  bd2 (lq3 l2 0 y1_riverOf y2_riverPlace) fun (y1_riverOf_2 : Nat → Int32) (y2_riverPlace_2 : Nat → Int32) =>
  bv (x0_rivers + 1) fun x0_rivers_1 =>
  some (x0_rivers_1, y1_riverOf_2, y2_riverPlace_2)
noncomputable def f_X1_dryRiver (x0_rivers : Int32) (y1_riverOf : Nat → Int32) (y2_riverPlace : Nat → Int32) (p1 : Int32) : Option (Int32 × Int32 × (Nat → Int32) × (Nat → Int32)) :=
  bv (fun (v2 : Int32) (v3 : Int32) (y1_riverOf_1 : Nat → Int32) (y2_riverPlace_1 : Nat → Int32) => ((
    (if 144 ≤ v3 then (
      some (.inr (v2, y1_riverOf_1, y2_riverPlace_1))
    ) else (
      ar v3 144 <|
      bv (fun (v2_2 : Int32) (y1_riverOf_3 : Nat → Int32) (y2_riverPlace_3 : Nat → Int32) => ((
        bv (v3 + 1) fun v3_1 =>
        some (.inl (v2_2, v3_1, y1_riverOf_3, y2_riverPlace_3))
        ) : Option ((Int32 × Int32 × (Nat → Int32) × (Nat → Int32)) ⊕ (Int32 × (Nat → Int32) × (Nat → Int32))))) fun j61 =>
      (if (y1_riverOf_1 v3.toNatClampNeg) = p1 then (
        ar v3 144 <| bv (upd y1_riverOf_1 v3.toNatClampNeg (-1)) fun y1_riverOf_5 =>
        ar v3 144 <| bv (upd y2_riverPlace_1 v3.toNatClampNeg (-1)) fun y2_riverPlace_4 =>
        bv (v2 + 1) fun v2_3 =>
        j61 v2_3 y1_riverOf_5 y2_riverPlace_4
      ) else (
        ar v3 144 <|
        (if (y1_riverOf_1 v3.toNatClampNeg) ≤ p1 then (
          j61 v2 y1_riverOf_1 y2_riverPlace_1
        ) else (
          ar v3 144 <|
          ar v3 144 <| bv (upd y1_riverOf_1 v3.toNatClampNeg ((y1_riverOf_1 v3.toNatClampNeg) - 1)) fun y1_riverOf_4 =>
          j61 v2 y1_riverOf_4 y2_riverPlace_1
        ))
      ))
    ))
    ) : Option ((Int32 × Int32 × (Nat → Int32) × (Nat → Int32)) ⊕ (Int32 × (Nat → Int32) × (Nat → Int32))))) fun l4 =>
  bd3 (lq4 l4 0 0 y1_riverOf y2_riverPlace) fun (v2_1 : Int32) (y1_riverOf_2 : Nat → Int32) (y2_riverPlace_2 : Nat → Int32) =>
  bv (x0_rivers - 1) fun x0_rivers_1 =>
  some (v2_1, x0_rivers_1, y1_riverOf_2, y2_riverPlace_2)
noncomputable def f_X2_beginEmpty (x0_count : Int32) (x0_reds : Int32)  : Option (Int32 × Int32) :=
  some (0, 0)
noncomputable def f_X2_copyFrom (x0_count : Int32) (x0_reds : Int32) (y1_direction : Nat → Int32) (y2_home : Nat → Int32) (y3_length : Nat → Int32) (y4_letters : Nat → Int32) (x5_count : Int32) (x5_reds : Int32) (y6_direction : Nat → Int32) (y7_home : Nat → Int32) (y8_length : Nat → Int32) (y9_letters : Nat → Int32)  : Option (Int32 × Int32 × (Nat → Int32) × (Nat → Int32) × (Nat → Int32) × (Nat → Int32)) :=
  bv (fun (v2 : Int32) (y1_direction_1 : Nat → Int32) (y2_home_1 : Nat → Int32) (y3_length_1 : Nat → Int32) => ((
    (if 8 ≤ v2 then (
      some (.inr (y1_direction_1, y2_home_1, y3_length_1))
    ) else (
      ar v2 8 <|
      ar v2 8 <| bv (upd y2_home_1 v2.toNatClampNeg (y7_home v2.toNatClampNeg)) fun y2_home_3 =>
      ar v2 8 <|
      ar v2 8 <| bv (upd y1_direction_1 v2.toNatClampNeg (y6_direction v2.toNatClampNeg)) fun y1_direction_3 =>
      ar v2 8 <|
      ar v2 8 <| bv (upd y3_length_1 v2.toNatClampNeg (y8_length v2.toNatClampNeg)) fun y3_length_3 =>
      bv (v2 + 1) fun v2_1 =>
      some (.inl (v2_1, y1_direction_3, y2_home_3, y3_length_3))
    ))
    ) : Option ((Int32 × (Nat → Int32) × (Nat → Int32) × (Nat → Int32)) ⊕ ((Nat → Int32) × (Nat → Int32) × (Nat → Int32))))) fun l18 =>
  bd3 (lq4 l18 0 y1_direction y2_home y3_length) fun (y1_direction_2 : Nat → Int32) (y2_home_2 : Nat → Int32) (y3_length_2 : Nat → Int32) =>
  bv (fun (v2_2 : Int32) (y4_letters_1 : Nat → Int32) => ((
    (if 64 ≤ v2_2 then (
      some (.inr y4_letters_1)
    ) else (
      ar v2_2 64 <|
      ar v2_2 64 <| bv (upd y4_letters_1 v2_2.toNatClampNeg (y9_letters v2_2.toNatClampNeg)) fun y4_letters_3 =>
      bv (v2_2 + 1) fun v2_3 =>
      some (.inl (v2_3, y4_letters_3))
    ))
    ) : Option ((Int32 × (Nat → Int32)) ⊕ ((Nat → Int32))))) fun l68 =>
  bd1 (lq2 l68 0 y4_letters) fun (y4_letters_2 : Nat → Int32) =>
  some (x5_count, x5_reds, y1_direction_2, y2_home_2, y3_length_2, y4_letters_2)
noncomputable def f_X2_addHarbour (x0_count : Int32) (y1_direction : Nat → Int32) (y2_home : Nat → Int32) (y3_length : Nat → Int32) (y4_letters : Nat → Int32) (y5_p : Nat → Int32) (p1 : Int32) (p3 : Int32) (p4 : Int32) : Option (Int32 × (Nat → Int32) × (Nat → Int32) × (Nat → Int32) × (Nat → Int32)) :=
  (if 8 ≤ x0_count then (
    some (x0_count, y1_direction, y2_home, y3_length, y4_letters)
  ) else (
    (if 0 ≤ p3 then (
      ar x0_count 8 <| bv (upd y2_home x0_count.toNatClampNeg p1) fun y2_home_1 =>
      ar x0_count 8 <| bv (upd y1_direction x0_count.toNatClampNeg (-1)) fun y1_direction_1 =>
      ar x0_count 8 <| bv (upd y3_length x0_count.toNatClampNeg (if 8 < p4 then 8 else p4)) fun y3_length_1 =>
      bv (fun (v5 : Int32) (y4_letters_1 : Nat → Int32) => ((
        ar x0_count 8 <|
        (if (y3_length_1 x0_count.toNatClampNeg) ≤ v5 then (
          some (.inr y4_letters_1)
        ) else (
          (if 500 ≤ (p3 + v5) then (
            some (.inr y4_letters_1)
          ) else (
            ar (p3 + v5) 500 <|
            ar ((x0_count * 8) + v5) 64 <| bv (upd y4_letters_1 ((x0_count * 8) + v5).toNatClampNeg (y5_p (p3 + v5).toNatClampNeg)) fun y4_letters_3 =>
            bv (v5 + 1) fun v5_1 =>
            some (.inl (v5_1, y4_letters_3))
          ))
        ))
        ) : Option ((Int32 × (Nat → Int32)) ⊕ ((Nat → Int32))))) fun l53 =>
      bd1 (lq2 l53 0 y4_letters) fun (y4_letters_2 : Nat → Int32) =>
      bv (x0_count + 1) fun x0_count_1 =>
      some (x0_count_1, y1_direction_1, y2_home_1, y3_length_1, y4_letters_2)
    ) else (
      some (x0_count, y1_direction, y2_home, y3_length, y4_letters)
    ))
  ))
noncomputable def f_X2_homeOf (x0_count : Int32) (y1_home : Nat → Int32) (p1 : Int32) : Option (Int32) :=
  bv (fun (_ : Unit) => ((
    some (-1)
    ) : Option (Int32))) fun j27 =>
  (if p1 < 0 then (
    j27 ()
  ) else (
    (if x0_count ≤ p1 then (
      j27 ()
    ) else (
      (if 8 ≤ p1 then (
        j27 ()
      ) else (
        ar p1 8 <|
        some (y1_home p1.toNatClampNeg)
      ))
    ))
  ))
noncomputable def f_X2_directionOf (x0_count : Int32) (y1_direction : Nat → Int32) (p1 : Int32) : Option (Int32) :=
  bv (fun (_ : Unit) => ((
    some (-1)
    ) : Option (Int32))) fun j27 =>
  (if p1 < 0 then (
    j27 ()
  ) else (
    (if x0_count ≤ p1 then (
      j27 ()
    ) else (
      (if 8 ≤ p1 then (
        j27 ()
      ) else (
        ar p1 8 <|
        some (y1_direction p1.toNatClampNeg)
      ))
    ))
  ))
noncomputable def f_X2_setDirection (x0_count : Int32) (y1_direction : Nat → Int32) (p1 : Int32) (p2 : Int32) : Option ((Nat → Int32)) :=
  (if p1 < 0 then (
    some y1_direction
  ) else (
    (if x0_count ≤ p1 then (
      some y1_direction
    ) else (
      (if 8 ≤ p1 then (
        some y1_direction
      ) else (
        ar p1 8 <| bv (upd y1_direction p1.toNatClampNeg p2) fun y1_direction_1 =>
        some y1_direction_1
      ))
    ))
  ))
noncomputable def f_X2_lengthOf (x0_count : Int32) (y1_length : Nat → Int32) (p1 : Int32) : Option (Int32) :=
  bv (fun (_ : Unit) => ((
    some 0
    ) : Option (Int32))) fun j27 =>
  (if p1 < 0 then (
    j27 ()
  ) else (
    (if x0_count ≤ p1 then (
      j27 ()
    ) else (
      (if 8 ≤ p1 then (
        j27 ()
      ) else (
        ar p1 8 <|
        some (y1_length p1.toNatClampNeg)
      ))
    ))
  ))
noncomputable def f_X2_letterOf (x0_count : Int32) (y1_length : Nat → Int32) (y2_letters : Nat → Int32) (p1 : Int32) (p2 : Int32) : Option (Int32) :=
  bv (fun (t24 : Int32) => ((
    (if t24 = 0 then (
      some (-1)
    ) else (
      ar ((p1 * 8) + p2) 64 <|
      some (y2_letters ((p1 * 8) + p2).toNatClampNeg)
    ))
    ) : Option (Int32))) fun j24 =>
  bv (fun (_ : Unit) => ((
    j24 0
    ) : Option (Int32))) fun j23 =>
  (if p2 < 0 then (
    j23 ()
  ) else (
    bd1 (f_X2_lengthOf x0_count y1_length p1) fun (r7 : Int32) =>
    (if r7 ≤ p2 then (
      j23 ()
    ) else (
      (if 8 ≤ p2 then (
        j23 ()
      ) else (
        j24 1
      ))
    ))
  ))
noncomputable def f_X2_isRed (x0_reds : Int32) (p1 : Int32) : Option (Int32) :=
  (if ((x0_reds >>> (p1 &&& 31)) &&& 1) = 1 then (
    some 1
  ) else (
    some 0
  ))
noncomputable def f_X2_redsIf (x0_reds : Int32) (p1 : Int32) (p2 : Int32) : Option (Int32) :=
  bv (1 <<< (p1 &&& 31)) fun v3 =>
  (if p2 = 0 then (
    some (x0_reds &&& (v3 ^^^ (-1)))
  ) else (
    some (x0_reds ||| v3)
  ))
noncomputable def f_X2_inCell (x0_count : Int32) (y1_home : Nat → Int32) (p1 : Int32) : Option (Int32) :=
  bv (fun (v2 : Int32) => ((
    (if x0_count ≤ v2 then (
      mr (some (-1))
    ) else (
      (if 8 ≤ v2 then (
        mr (some (-1))
      ) else (
        ar v2 8 <|
        (if (y1_home v2.toNatClampNeg) = p1 then (
          mr (some v2)
        ) else (
          bv (v2 + 1) fun v2_1 =>
          some (.inl v2_1)
        ))
      ))
    ))
    ) : Option ((Int32) ⊕ (Int32)))) fun l2 =>
  lq1 l2 0
noncomputable def f_X2_placedNames (x0_count : Int32) (y1_direction : Nat → Int32)  : Option (Int32) :=
  bv (fun (v1 : Int32) (v2 : Int32) => ((
    (if x0_count ≤ v2 then (
      some (.inr v1)
    ) else (
      bd1 (f_X2_directionOf x0_count y1_direction v2) fun (r14 : Int32) =>
      bv (fun (v1_2 : Int32) => ((
        bv (v2 + 1) fun v2_1 =>
        some (.inl (v1_2, v2_1))
        ) : Option ((Int32 × Int32) ⊕ (Int32)))) fun j27 =>
      (if r14 = (-1) then (
        j27 v1
      ) else (
        bv (v1 ||| (1 <<< (v2 &&& 31))) fun v1_3 =>
        j27 v1_3
      ))
    ))
    ) : Option ((Int32 × Int32) ⊕ (Int32)))) fun l4 =>
  bd1 (lq2 l4 0 0) fun (v1_1 : Int32) =>
  some v1_1
noncomputable def f_X4_beginEmpty (x0_count : Int32) (x0_next : Int32) (x0_turn : Int32) (x0_quarters : Int32)  : Option (Int32 × Int32 × Int32 × Int32) :=
  some (0, 0, 0, 0)
noncomputable def f_X4_copyFrom (x0_count : Int32) (x0_next : Int32) (x0_turn : Int32) (x0_quarters : Int32) (y1_stops : Nat → Int32) (x2_count : Int32) (x2_next : Int32) (x2_turn : Int32) (x2_quarters : Int32) (y3_stops : Nat → Int32)  : Option (Int32 × Int32 × Int32 × Int32 × (Nat → Int32)) :=
  bv (fun (v2 : Int32) (y1_stops_1 : Nat → Int32) => ((
    (if 16 ≤ v2 then (
      some (.inr y1_stops_1)
    ) else (
      ar v2 16 <|
      ar v2 16 <| bv (upd y1_stops_1 v2.toNatClampNeg (y3_stops v2.toNatClampNeg)) fun y1_stops_3 =>
      bv (v2 + 1) fun v2_1 =>
      some (.inl (v2_1, y1_stops_3))
    ))
    ) : Option ((Int32 × (Nat → Int32)) ⊕ ((Nat → Int32))))) fun l34 =>
  bd1 (lq2 l34 0 y1_stops) fun (y1_stops_2 : Nat → Int32) =>
  some (x2_count, x2_next, x2_turn, x2_quarters, y1_stops_2)
noncomputable def f_X4_stopAt (x0_count : Int32) (y1_stops : Nat → Int32) (p1 : Int32) : Option (Int32) :=
  bv (fun (_ : Unit) => ((
    some (-1)
    ) : Option (Int32))) fun j27 =>
  (if p1 < 0 then (
    j27 ()
  ) else (
    (if x0_count ≤ p1 then (
      j27 ()
    ) else (
      (if 16 ≤ p1 then (
        j27 ()
      ) else (
        ar p1 16 <|
        some (y1_stops p1.toNatClampNeg)
      ))
    ))
  ))
noncomputable def f_X4_timesOf (x0_count : Int32) (y1_stops : Nat → Int32) (p1 : Int32) : Option (Int32) :=
  bv (fun (v2 : Int32) (v3 : Int32) => ((
    (if x0_count ≤ v3 then (
      some (.inr v2)
    ) else (
      bd1 (f_X4_stopAt x0_count y1_stops v3) fun (r14 : Int32) =>
      bv (fun (v2_2 : Int32) => ((
        bv (v3 + 1) fun v3_1 =>
        some (.inl (v2_2, v3_1))
        ) : Option ((Int32 × Int32) ⊕ (Int32)))) fun j24 =>
      (if r14 = p1 then (
        bv (v2 + 1) fun v2_3 =>
        j24 v2_3
      ) else (
        j24 v2
      ))
    ))
    ) : Option ((Int32 × Int32) ⊕ (Int32)))) fun l4 =>
  bd1 (lq2 l4 0 0) fun (v2_1 : Int32) =>
  some v2_1
noncomputable def f_X4_addStop (x0_count : Int32) (y1_stops : Nat → Int32) (p1 : Int32) : Option (Int32 × (Nat → Int32)) :=
  (if 16 ≤ x0_count then (
    some (x0_count, y1_stops)
  ) else (
    ar x0_count 16 <| bv (upd y1_stops x0_count.toNatClampNeg p1) fun y1_stops_1 =>
    bv (x0_count + 1) fun x0_count_1 =>
    some (x0_count_1, y1_stops_1)
  ))
noncomputable def f_X4_dropStop (x0_count : Int32) (x0_next : Int32) (y1_stops : Nat → Int32) (p1 : Int32) : Option (Int32 × Int32 × (Nat → Int32)) :=
  (if p1 < 0 then (
    some (x0_count, x0_next, y1_stops)
  ) else (
    (if p1 < x0_count then (
      bv (p1 + 1) fun v2 =>
      bv (fun (v2_1 : Int32) (y1_stops_1 : Nat → Int32) => ((
        (if x0_count ≤ v2_1 then (
          some (.inr y1_stops_1)
        ) else (
          (if 16 ≤ v2_1 then (
            some (.inr y1_stops_1)
          ) else (
            ar v2_1 16 <|
            ar (v2_1 - 1) 16 <| bv (upd y1_stops_1 (v2_1 - 1).toNatClampNeg (y1_stops_1 v2_1.toNatClampNeg)) fun y1_stops_3 =>
            bv (v2_1 + 1) fun v2_2 =>
            some (.inl (v2_2, y1_stops_3))
          ))
        ))
        ) : Option ((Int32 × (Nat → Int32)) ⊕ ((Nat → Int32))))) fun l17 =>
      bd1 (lq2 l17 v2 y1_stops) fun (y1_stops_2 : Nat → Int32) =>
      bv (x0_count - 1) fun x0_count_1 =>
      bv (fun (x0_next_1 : Int32) => ((
        (if x0_next_1 < x0_count_1 then (
          some (x0_count_1, x0_next_1, y1_stops_2)
        ) else (
          some (x0_count_1, 0, y1_stops_2)
        ))
        ) : Option (Int32 × Int32 × (Nat → Int32)))) fun j79 =>
      (if x0_next ≤ p1 then (
        j79 x0_next
      ) else (
        bv (x0_next - 1) fun x0_next_2 =>
        j79 x0_next_2
      ))
    ) else (
      some (x0_count, x0_next, y1_stops)
    ))
  ))
noncomputable def f_X4_goOn (x0_count : Int32) (x0_next : Int32)  : Option (Int32) :=
  bv (fun (t24 : Int32) => ((
    some t24
    ) : Option (Int32))) fun j24 =>
  (if x0_count ≤ (x0_next + 1) then (
    j24 0
  ) else (
    j24 (x0_next + 1)
  ))
noncomputable def f_X4_turnTo (x0_turn : Int32) (x0_quarters : Int32) (p1 : Int32) : Option (Int32 × Int32 × Int32) :=
  bd1 (f_X8_quartersBetween x0_turn p1) fun (r5 : Int32) =>
  bv (x0_quarters + r5) fun x0_quarters_1 =>
  some (r5, p1, x0_quarters_1)
noncomputable def f_X4_turningBy (x0_count : Int32) (y1_stops : Nat → Int32) (y2_p : Nat → Int32) (p2 : Int32) : Option (Int32) :=
  bv (fun (v3 : Int32) (v4 : Int32) (v5 : Int32) => ((
    (if x0_count ≤ v5 then (
      some (.inr v3)
    ) else (
      bd1 (f_X4_stopAt x0_count y1_stops v5) fun (r20 : Int32) =>
      bv (fun (v3_2 : Int32) (v4_1 : Int32) => ((
        bv (v5 + 1) fun v5_1 =>
        some (.inl (v3_2, v4_1, v5_1))
        ) : Option ((Int32 × Int32 × Int32) ⊕ (Int32)))) fun j68 =>
      (if r20 < 0 then (
        j68 v3 v4
      ) else (
        (if 8 ≤ r20 then (
          j68 v3 v4
        ) else (
          ar r20 8 <|
          (if (y2_p r20.toNatClampNeg) = (-1) then (
            j68 v3 v4
          ) else (
            ar r20 8 <|
            bd1 (f_X8_uprightTurn (y2_p r20.toNatClampNeg)) fun (r49 : Int32) =>
            bd1 (f_X8_quartersBetween v4 r49) fun (r59 : Int32) =>
            bv (v3 + r59) fun v3_3 =>
            j68 v3_3 r49
          ))
        ))
      ))
    ))
    ) : Option ((Int32 × Int32 × Int32) ⊕ (Int32)))) fun l8 =>
  bd1 (lq3 l8 0 p2 0) fun (v3_1 : Int32) =>
  some v3_1
noncomputable def f_X6_beginSea (x1_rows : Int32) (x1_columns : Int32) (x1_rivers : Int32) (x2_count : Int32) (x2_reds : Int32) (x3_count : Int32) (x3_next : Int32) (x3_turn : Int32) (x3_quarters : Int32) (y4_letterOn : Nat → Int32) (y5_namesOn : Nat → Int32) (y6_land : Nat → Int32) (y7_riverOf : Nat → Int32) (y8_riverPlace : Nat → Int32) (p1 : Int32) (p2 : Int32) : Option (Int32 × Int32 × Int32 × Int32 × Int32 × Int32 × Int32 × Int32 × Int32 × (Nat → Int32) × (Nat → Int32) × (Nat → Int32) × (Nat → Int32) × (Nat → Int32)) :=
  bd6 (f_X1_beginSea x1_rows x1_columns x1_rivers y6_land y7_riverOf y8_riverPlace p1 p2) fun (x1_rows_1 : Int32) (x1_columns_1 : Int32) (x1_rivers_1 : Int32) (y6_land_1 : Nat → Int32) (y7_riverOf_1 : Nat → Int32) (y8_riverPlace_1 : Nat → Int32) =>
  bd2 (f_X2_beginEmpty x2_count x2_reds) fun (x2_count_1 : Int32) (x2_reds_1 : Int32) =>
  bd4 (f_X4_beginEmpty x3_count x3_next x3_turn x3_quarters) fun (x3_count_1 : Int32) (x3_next_1 : Int32) (x3_turn_1 : Int32) (x3_quarters_1 : Int32) =>
  bv (fun (v3 : Int32) (y4_letterOn_1 : Nat → Int32) (y5_namesOn_1 : Nat → Int32) => ((
    (if 144 ≤ v3 then (
      some (.inr (y4_letterOn_1, y5_namesOn_1))
    ) else (
      ar v3 144 <| bv (upd y5_namesOn_1 v3.toNatClampNeg 0) fun y5_namesOn_3 =>
      ar v3 144 <| bv (upd y4_letterOn_1 v3.toNatClampNeg (-1)) fun y4_letterOn_3 =>
      bv (v3 + 1) fun v3_1 =>
      some (.inl (v3_1, y4_letterOn_3, y5_namesOn_3))
    ))
    ) : Option ((Int32 × (Nat → Int32) × (Nat → Int32)) ⊕ ((Nat → Int32) × (Nat → Int32))))) fun l25 =>
  bd2 (lq3 l25 0 y4_letterOn y5_namesOn) fun (y4_letterOn_2 : Nat → Int32) (y5_namesOn_2 : Nat → Int32) =>
  some (x1_rows_1, x1_columns_1, x1_rivers_1, x2_count_1, x2_reds_1, x3_count_1, x3_next_1, x3_turn_1, x3_quarters_1, y4_letterOn_2, y5_namesOn_2, y6_land_1, y7_riverOf_1, y8_riverPlace_1)
noncomputable def f_X6_copyFrom (x1_rows : Int32) (x1_columns : Int32) (x1_rivers : Int32) (x2_count : Int32) (x2_reds : Int32) (x3_count : Int32) (x3_next : Int32) (x3_turn : Int32) (x3_quarters : Int32) (y4_letterOn : Nat → Int32) (y5_namesOn : Nat → Int32) (y6_land : Nat → Int32) (y7_riverOf : Nat → Int32) (y8_riverPlace : Nat → Int32) (y9_direction : Nat → Int32) (y10_home : Nat → Int32) (y11_length : Nat → Int32) (y12_letters : Nat → Int32) (y13_stops : Nat → Int32) (x15_rows : Int32) (x15_columns : Int32) (x15_rivers : Int32) (x16_count : Int32) (x16_reds : Int32) (x17_count : Int32) (x17_next : Int32) (x17_turn : Int32) (x17_quarters : Int32) (y18_letterOn : Nat → Int32) (y19_namesOn : Nat → Int32) (y20_land : Nat → Int32) (y21_riverOf : Nat → Int32) (y22_riverPlace : Nat → Int32) (y23_direction : Nat → Int32) (y24_home : Nat → Int32) (y25_length : Nat → Int32) (y26_letters : Nat → Int32) (y27_stops : Nat → Int32)  : Option (Int32 × Int32 × Int32 × Int32 × Int32 × Int32 × Int32 × Int32 × Int32 × (Nat → Int32) × (Nat → Int32) × (Nat → Int32) × (Nat → Int32) × (Nat → Int32) × (Nat → Int32) × (Nat → Int32) × (Nat → Int32) × (Nat → Int32) × (Nat → Int32)) :=
  bd6 (f_X1_copyFrom x1_rows x1_columns x1_rivers y6_land y7_riverOf y8_riverPlace x15_rows x15_columns x15_rivers y20_land y21_riverOf y22_riverPlace) fun (x1_rows_1 : Int32) (x1_columns_1 : Int32) (x1_rivers_1 : Int32) (y6_land_1 : Nat → Int32) (y7_riverOf_1 : Nat → Int32) (y8_riverPlace_1 : Nat → Int32) =>
  bd6 (f_X2_copyFrom x2_count x2_reds y9_direction y10_home y11_length y12_letters x16_count x16_reds y23_direction y24_home y25_length y26_letters) fun (x2_count_1 : Int32) (x2_reds_1 : Int32) (y9_direction_1 : Nat → Int32) (y10_home_1 : Nat → Int32) (y11_length_1 : Nat → Int32) (y12_letters_1 : Nat → Int32) =>
  bd5 (f_X4_copyFrom x3_count x3_next x3_turn x3_quarters y13_stops x17_count x17_next x17_turn x17_quarters y27_stops) fun (x3_count_1 : Int32) (x3_next_1 : Int32) (x3_turn_1 : Int32) (x3_quarters_1 : Int32) (y13_stops_1 : Nat → Int32) =>
  bv (fun (v2 : Int32) (y4_letterOn_1 : Nat → Int32) (y5_namesOn_1 : Nat → Int32) => ((
    (if 144 ≤ v2 then (
      some (.inr (y4_letterOn_1, y5_namesOn_1))
    ) else (
      ar v2 144 <|
      ar v2 144 <| bv (upd y5_namesOn_1 v2.toNatClampNeg (y19_namesOn v2.toNatClampNeg)) fun y5_namesOn_3 =>
      ar v2 144 <|
      ar v2 144 <| bv (upd y4_letterOn_1 v2.toNatClampNeg (y18_letterOn v2.toNatClampNeg)) fun y4_letterOn_3 =>
      bv (v2 + 1) fun v2_1 =>
      some (.inl (v2_1, y4_letterOn_3, y5_namesOn_3))
    ))
    ) : Option ((Int32 × (Nat → Int32) × (Nat → Int32)) ⊕ ((Nat → Int32) × (Nat → Int32))))) fun l35 =>
  bd2 (lq3 l35 0 y4_letterOn y5_namesOn) fun (y4_letterOn_2 : Nat → Int32) (y5_namesOn_2 : Nat → Int32) =>
  some (x1_rows_1, x1_columns_1, x1_rivers_1, x2_count_1, x2_reds_1, x3_count_1, x3_next_1, x3_turn_1, x3_quarters_1, y4_letterOn_2, y5_namesOn_2, y6_land_1, y7_riverOf_1, y8_riverPlace_1, y9_direction_1, y10_home_1, y11_length_1, y12_letters_1, y13_stops_1)
noncomputable def f_X6_namesIn (y1_namesOn : Nat → Int32) (p1 : Int32) : Option (Int32) :=
  bv (fun (_ : Unit) => ((
    some 0
    ) : Option (Int32))) fun j20 =>
  (if p1 < 0 then (
    j20 ()
  ) else (
    (if 144 ≤ p1 then (
      j20 ()
    ) else (
      ar p1 144 <|
      some (y1_namesOn p1.toNatClampNeg)
    ))
  ))
noncomputable def f_X6_letterIn (y1_letterOn : Nat → Int32) (y2_namesOn : Nat → Int32) (p1 : Int32) : Option (Int32) :=
  bd1 (f_X6_namesIn y2_namesOn p1) fun (r2 : Int32) =>
  (if r2 = 0 then (
    some (-1)
  ) else (
    ar p1 144 <|
    some (y1_letterOn p1.toNatClampNeg)
  ))
noncomputable def f_X6_isOpen (x2_count : Int32) (y3_land : Nat → Int32) (y4_riverOf : Nat → Int32) (y5_home : Nat → Int32) (p1 : Int32) : Option (Int32) :=
  bd1 (f_X1_isLand y3_land p1) fun (r5 : Int32) =>
  bv (fun (_ : Unit) => ((
    some 0
    ) : Option (Int32))) fun j38 =>
  (if r5 = 0 then (
    j38 ()
  ) else (
    bd1 (f_X1_isRiver y4_riverOf p1) fun (r16 : Int32) =>
    (if r16 = 0 then (
      bd1 (f_X2_inCell x2_count y5_home p1) fun (r27 : Int32) =>
      (if r27 = (-1) then (
        some 1
      ) else (
        j38 ()
      ))
    ) else (
      j38 ()
    ))
  ))
noncomputable def f_X6_cellReason (x2_count : Int32) (y3_land : Nat → Int32) (y4_riverOf : Nat → Int32) (y5_home : Nat → Int32) (p1 : Int32) (p2 : Int32) : Option (Int32) :=
  (if p1 = (-1) then (
    some 2
  ) else (
    bd1 (f_X1_isLand y3_land p1) fun (r12 : Int32) =>
    (if r12 = 0 then (
      some 3
    ) else (
      bd1 (f_X1_isRiver y4_riverOf p1) fun (r25 : Int32) =>
      (if r25 = 0 then (
        bd1 (f_X2_inCell x2_count y5_home p1) fun (r38 : Int32) =>
        bv (fun (_ : Unit) => ((
          some 0
          ) : Option (Int32))) fun j56 =>
        (if r38 = (-1) then (
          j56 ()
        ) else (
          (if r38 = p2 then (
            j56 ()
          ) else (
            some 5
          ))
        ))
      ) else (
        some 4
      ))
    ))
  ))
noncomputable def f_X6_groundReason (x1_rows : Int32) (x1_columns : Int32) (x2_count : Int32) (y3_land : Nat → Int32) (y4_riverOf : Nat → Int32) (y5_home : Nat → Int32) (y6_length : Nat → Int32) (p1 : Int32) (p2 : Int32) (p3 : Int32) : Option (Int32) :=
  bd1 (f_X2_homeOf x2_count y5_home p1) fun (r5 : Int32) =>
  bd1 (f_X1_ahead x1_rows x1_columns r5 ((p2 + 2) - (p2 + 2) / 4 * 4) 1) fun (r26 : Int32) =>
  bd1 (f_X1_isLand y3_land r26) fun (r29 : Int32) =>
  (if r29 = 0 then (
    bv (fun (v5 : Int32) (v6 : Int32) => ((
      bd1 (f_X2_lengthOf x2_count y6_length p1) fun (r50 : Int32) =>
      (if r50 ≤ v6 then (
        some (.inr v5)
      ) else (
        bd1 (f_X1_ahead x1_rows x1_columns r5 p2 (v6 + 1)) fun (r68 : Int32) =>
        bd1 (f_X6_cellReason x2_count y3_land y4_riverOf y5_home r68 p3) fun (r72 : Int32) =>
        bv (fun (v5_2 : Int32) => ((
          bv (v6 + 1) fun v6_1 =>
          some (.inl (v5_2, v6_1))
          ) : Option ((Int32 × Int32) ⊕ (Int32)))) fun j98 =>
        (if r72 = 0 then (
          j98 v5
        ) else (
          bv (fun (_ : Unit) => ((
            j98 r72
            ) : Option ((Int32 × Int32) ⊕ (Int32)))) fun j94 =>
          (if v5 = 0 then (
            j94 ()
          ) else (
            (if v5 ≤ r72 then (
              j98 v5
            ) else (
              j94 ()
            ))
          ))
        ))
      ))
      ) : Option ((Int32 × Int32) ⊕ (Int32)))) fun l43 =>
    bd1 (lq2 l43 0 0) fun (v5_1 : Int32) =>
    some v5_1
  ) else (
    some 1
  ))
noncomputable def f_X6_meetsOthers (x1_rows : Int32) (x1_columns : Int32) (x2_count : Int32) (x2_reds : Int32) (y3_letterOn : Nat → Int32) (y4_namesOn : Nat → Int32) (y5_home : Nat → Int32) (y6_length : Nat → Int32) (y7_letters : Nat → Int32) (p1 : Int32) (p2 : Int32) : Option (Int32) :=
  bv (1 <<< (p1 &&& 31)) fun v3 =>
  bd1 (f_X2_homeOf x2_count y5_home p1) fun (r9 : Int32) =>
  bv (fun (v5 : Int32) => ((
    bd1 (f_X2_lengthOf x2_count y6_length p1) fun (r24 : Int32) =>
    (if r24 ≤ v5 then (
      mr (some 0)
    ) else (
      bd1 (f_X1_ahead x1_rows x1_columns r9 p2 (v5 + 1)) fun (r41 : Int32) =>
      bd1 (f_X6_namesIn y4_namesOn r41) fun (r49 : Int32) =>
      bv (r49 &&& (v3 ^^^ (-1))) fun v7 =>
      bv (fun (t78 : Int32) => ((
        bv (fun (_ : Unit) => ((
          bv (v5 + 1) fun v5_1 =>
          some (.inl v5_1)
          ) : Option ((Int32) ⊕ (Int32)))) fun j111 =>
        (if v7 = 0 then (
          j111 ()
        ) else (
          (if t78 = 0 then (
            bd1 (f_X6_letterIn y3_letterOn y4_namesOn r41) fun (r93 : Int32) =>
            bd1 (f_X2_letterOf x2_count y6_length y7_letters p1 v5) fun (r103 : Int32) =>
            (if r93 = r103 then (
              j111 ()
            ) else (
              mr (some 1)
            ))
          ) else (
            mr (some 1)
          ))
        ))
        ) : Option ((Int32) ⊕ (Int32)))) fun j78 =>
      (if ((v7 ||| v3) &&& x2_reds) = 0 then (
        j78 0
      ) else (
        j78 1
      ))
    ))
    ) : Option ((Int32) ⊕ (Int32)))) fun l17 =>
  lq1 l17 0
noncomputable def f_X6_reasonAgainst (x1_rows : Int32) (x1_columns : Int32) (x2_count : Int32) (x2_reds : Int32) (y3_letterOn : Nat → Int32) (y4_namesOn : Nat → Int32) (y5_land : Nat → Int32) (y6_riverOf : Nat → Int32) (y7_home : Nat → Int32) (y8_length : Nat → Int32) (y9_letters : Nat → Int32) (p1 : Int32) (p2 : Int32) : Option (Int32) :=
  bd1 (f_X6_groundReason x1_rows x1_columns x2_count y5_land y6_riverOf y7_home y8_length p1 p2 (-1)) fun (r4 : Int32) =>
  (if r4 = 0 then (
    bd1 (f_X6_meetsOthers x1_rows x1_columns x2_count x2_reds y3_letterOn y4_namesOn y7_home y8_length y9_letters p1 p2) fun (r17 : Int32) =>
    (if r17 = 0 then (
      some 0
    ) else (
      some 6
    ))
  ) else (
    some r4
  ))
noncomputable def f_X6_takeName (x1_rows : Int32) (x1_columns : Int32) (x2_count : Int32) (y3_namesOn : Nat → Int32) (y4_direction : Nat → Int32) (y5_home : Nat → Int32) (y6_length : Nat → Int32) (p1 : Int32) : Option ((Nat → Int32) × (Nat → Int32)) :=
  bd1 (f_X2_homeOf x2_count y5_home p1) fun (r5 : Int32) =>
  bd1 (f_X2_directionOf x2_count y4_direction p1) fun (r14 : Int32) =>
  bv (fun (v4 : Int32) (y3_namesOn_1 : Nat → Int32) => ((
    bd1 (f_X2_lengthOf x2_count y6_length p1) fun (r28 : Int32) =>
    (if r28 ≤ v4 then (
      some (.inr y3_namesOn_1)
    ) else (
      (if r14 = (-1) then (
        some (.inr y3_namesOn_1)
      ) else (
        bd1 (f_X1_ahead x1_rows x1_columns r5 r14 (v4 + 1)) fun (r49 : Int32) =>
        bv (fun (y3_namesOn_3 : Nat → Int32) => ((
          bv (v4 + 1) fun v4_1 =>
          some (.inl (v4_1, y3_namesOn_3))
          ) : Option ((Int32 × (Nat → Int32)) ⊕ ((Nat → Int32))))) fun j82 =>
        (if r49 < 0 then (
          j82 y3_namesOn_1
        ) else (
          (if 144 ≤ r49 then (
            j82 y3_namesOn_1
          ) else (
            ar r49 144 <|
            ar r49 144 <| bv (upd y3_namesOn_1 r49.toNatClampNeg ((y3_namesOn_1 r49.toNatClampNeg) &&& ((1 <<< (p1 &&& 31)) ^^^ (-1)))) fun y3_namesOn_4 =>
            j82 y3_namesOn_4
          ))
        ))
      ))
    ))
    ) : Option ((Int32 × (Nat → Int32)) ⊕ ((Nat → Int32))))) fun l21 =>
  bd1 (lq2 l21 0 y3_namesOn) fun (y3_namesOn_2 : Nat → Int32) =>
  bd1 (f_X2_setDirection x2_count y4_direction p1 (-1)) fun (y4_direction_1 : Nat → Int32) =>
  some (y3_namesOn_2, y4_direction_1)
noncomputable def f_X6_putName (x1_rows : Int32) (x1_columns : Int32) (x2_count : Int32) (y3_letterOn : Nat → Int32) (y4_namesOn : Nat → Int32) (y5_direction : Nat → Int32) (y6_home : Nat → Int32) (y7_length : Nat → Int32) (y8_letters : Nat → Int32) (p1 : Int32) (p2 : Int32) : Option ((Nat → Int32) × (Nat → Int32) × (Nat → Int32)) :=
  bd2 (f_X6_takeName x1_rows x1_columns x2_count y4_namesOn y5_direction y6_home y7_length p1) fun (y4_namesOn_1 : Nat → Int32) (y5_direction_1 : Nat → Int32) =>
  bd1 (f_X2_homeOf x2_count y6_home p1) fun (r10 : Int32) =>
  bv (fun (v4 : Int32) (y3_letterOn_1 : Nat → Int32) (y4_namesOn_2 : Nat → Int32) => ((
    bd1 (f_X2_lengthOf x2_count y7_length p1) fun (r24 : Int32) =>
    (if r24 ≤ v4 then (
      some (.inr (y3_letterOn_1, y4_namesOn_2))
    ) else (
      bd1 (f_X1_ahead x1_rows x1_columns r10 p2 (v4 + 1)) fun (r40 : Int32) =>
      bv (fun (y3_letterOn_3 : Nat → Int32) (y4_namesOn_4 : Nat → Int32) => ((
        bv (v4 + 1) fun v4_1 =>
        some (.inl (v4_1, y3_letterOn_3, y4_namesOn_4))
        ) : Option ((Int32 × (Nat → Int32) × (Nat → Int32)) ⊕ ((Nat → Int32) × (Nat → Int32))))) fun j88 =>
      (if r40 < 0 then (
        j88 y3_letterOn_1 y4_namesOn_2
      ) else (
        (if 144 ≤ r40 then (
          j88 y3_letterOn_1 y4_namesOn_2
        ) else (
          ar r40 144 <|
          ar r40 144 <| bv (upd y4_namesOn_2 r40.toNatClampNeg ((y4_namesOn_2 r40.toNatClampNeg) ||| (1 <<< (p1 &&& 31)))) fun y4_namesOn_5 =>
          bd1 (f_X2_letterOf x2_count y7_length y8_letters p1 v4) fun (r84 : Int32) =>
          ar r40 144 <| bv (upd y3_letterOn_1 r40.toNatClampNeg r84) fun y3_letterOn_4 =>
          j88 y3_letterOn_4 y4_namesOn_5
        ))
      ))
    ))
    ) : Option ((Int32 × (Nat → Int32) × (Nat → Int32)) ⊕ ((Nat → Int32) × (Nat → Int32))))) fun l17 =>
  bd2 (lq3 l17 0 y3_letterOn y4_namesOn_1) fun (y3_letterOn_2 : Nat → Int32) (y4_namesOn_3 : Nat → Int32) =>
  bd1 (f_X2_setDirection x2_count y5_direction_1 p1 p2) fun (y5_direction_2 : Nat → Int32) =>
  some (y3_letterOn_2, y4_namesOn_3, y5_direction_2)
noncomputable def f_X6_takeNames (x1_rows : Int32) (x1_columns : Int32) (x2_count : Int32) (y3_namesOn : Nat → Int32) (y4_direction : Nat → Int32) (y5_home : Nat → Int32) (y6_length : Nat → Int32) (p1 : Int32) : Option ((Nat → Int32) × (Nat → Int32)) :=
  bv (fun (v2 : Int32) (y3_namesOn_1 : Nat → Int32) (y4_direction_1 : Nat → Int32) => ((
    (if x2_count ≤ v2 then (
      some (.inr (y3_namesOn_1, y4_direction_1))
    ) else (
      bv (fun (y3_namesOn_3 : Nat → Int32) (y4_direction_3 : Nat → Int32) => ((
        bv (v2 + 1) fun v2_1 =>
        some (.inl (v2_1, y3_namesOn_3, y4_direction_3))
        ) : Option ((Int32 × (Nat → Int32) × (Nat → Int32)) ⊕ ((Nat → Int32) × (Nat → Int32))))) fun j27 =>
      (if ((p1 >>> (v2 &&& 31)) &&& 1) = 1 then (
        bd2 (f_X6_takeName x1_rows x1_columns x2_count y3_namesOn_1 y4_direction_1 y5_home y6_length v2) fun (y3_namesOn_4 : Nat → Int32) (y4_direction_4 : Nat → Int32) =>
        j27 y3_namesOn_4 y4_direction_4
      ) else (
        j27 y3_namesOn_1 y4_direction_1
      ))
    ))
    ) : Option ((Int32 × (Nat → Int32) × (Nat → Int32)) ⊕ ((Nat → Int32) × (Nat → Int32))))) fun l2 =>
  bd2 (lq3 l2 0 y3_namesOn y4_direction) fun (y3_namesOn_2 : Nat → Int32) (y4_direction_2 : Nat → Int32) =>
  some (y3_namesOn_2, y4_direction_2)
noncomputable def f_X6_crossedBy (x1_rows : Int32) (x1_columns : Int32) (x2_count : Int32) (y3_namesOn : Nat → Int32) (y4_direction : Nat → Int32) (y5_home : Nat → Int32) (y6_length : Nat → Int32) (p1 : Int32) : Option (Int32) :=
  bd1 (f_X2_homeOf x2_count y5_home p1) fun (r5 : Int32) =>
  bd1 (f_X2_directionOf x2_count y4_direction p1) fun (r14 : Int32) =>
  bv (fun (v4 : Int32) (v5 : Int32) => ((
    bd1 (f_X2_lengthOf x2_count y6_length p1) fun (r31 : Int32) =>
    (if r31 ≤ v5 then (
      some (.inr v4)
    ) else (
      (if r14 = (-1) then (
        some (.inr v4)
      ) else (
        bd1 (f_X1_ahead x1_rows x1_columns r5 r14 (v5 + 1)) fun (r55 : Int32) =>
        bd1 (f_X6_namesIn y3_namesOn r55) fun (r58 : Int32) =>
        bv (v4 ||| r58) fun v4_2 =>
        bv (v5 + 1) fun v5_1 =>
        some (.inl (v4_2, v5_1))
      ))
    ))
    ) : Option ((Int32 × Int32) ⊕ (Int32)))) fun l24 =>
  bd1 (lq2 l24 0 0) fun (v4_1 : Int32) =>
  some (v4_1 &&& ((1 <<< (p1 &&& 31)) ^^^ (-1)))
noncomputable def f_X6_turningNow (x2_count : Int32) (y3_direction : Nat → Int32) (y4_stops : Nat → Int32) (p1 : Int32) : Option (Int32) :=
  bd1 (f_X4_turningBy x2_count y4_stops y3_direction p1) fun (r12 : Int32) =>
  some r12
noncomputable def f_X6_shutsHarbour (x1_rows : Int32) (x1_columns : Int32) (x2_count : Int32) (y3_land : Nat → Int32) (y4_home : Nat → Int32) (p1 : Int32) : Option (Int32) :=
  bv (fun (v2 : Int32) => ((
    (if x2_count ≤ v2 then (
      mr (some 0)
    ) else (
      bd1 (f_X2_homeOf x2_count y4_home v2) fun (r22 : Int32) =>
      bd1 (f_X1_hasSeaBeside x1_rows x1_columns y3_land r22 p1) fun (r26 : Int32) =>
      (if r26 = 0 then (
        mr (some 1)
      ) else (
        bv (v2 + 1) fun v2_1 =>
        some (.inl v2_1)
      ))
    ))
    ) : Option ((Int32) ⊕ (Int32)))) fun l2 =>
  lq1 l2 0
noncomputable def f_X6_namesWithBackTo (x1_rows : Int32) (x1_columns : Int32) (x2_count : Int32) (y3_direction : Nat → Int32) (y4_home : Nat → Int32) (p1 : Int32) : Option (Int32) :=
  bv (fun (v2 : Int32) (v3 : Int32) => ((
    (if x2_count ≤ v3 then (
      some (.inr v2)
    ) else (
      bd1 (f_X2_directionOf x2_count y3_direction v3) fun (r20 : Int32) =>
      bv ((r20 + 2) - (r20 + 2) / 4 * 4) fun v5 =>
      bv (fun (v2_2 : Int32) => ((
        bv (v3 + 1) fun v3_1 =>
        some (.inl (v2_2, v3_1))
        ) : Option ((Int32 × Int32) ⊕ (Int32)))) fun j67 =>
      (if r20 = (-1) then (
        j67 v2
      ) else (
        bd1 (f_X2_homeOf x2_count y4_home v3) fun (r48 : Int32) =>
        bd1 (f_X1_ahead x1_rows x1_columns r48 v5 1) fun (r54 : Int32) =>
        (if r54 = p1 then (
          bv (v2 ||| (1 <<< (v3 &&& 31))) fun v2_3 =>
          j67 v2_3
        ) else (
          j67 v2
        ))
      ))
    ))
    ) : Option ((Int32 × Int32) ⊕ (Int32)))) fun l4 =>
  bd1 (lq2 l4 0 0) fun (v2_1 : Int32) =>
  some v2_1
noncomputable def f_X7_sumOf (y1_sums : Nat → Int32) (p1 : Int32) : Option (Int32) :=
  bv (fun (_ : Unit) => ((
    some (-1)
    ) : Option (Int32))) fun j20 =>
  (if p1 < 0 then (
    j20 ()
  ) else (
    (if 144 ≤ p1 then (
      j20 ()
    ) else (
      ar p1 144 <|
      some (y1_sums p1.toNatClampNeg)
    ))
  ))
noncomputable def f_X7_improve (y1_costs : Nat → Int32) (y2_sums : Nat → Int32) (x3_rows : Int32) (x3_columns : Int32) (p2 : Int32) : Option (Int32 × (Nat → Int32)) :=
  bv (fun (v3 : Int32) (v4 : Int32) (y2_sums_1 : Nat → Int32) => ((
    (if p2 ≤ v4 then (
      some (.inr (v3, y2_sums_1))
    ) else (
      bv (fun (v3_2 : Int32) (v5 : Int32) (y2_sums_3 : Nat → Int32) => ((
        (if 4 ≤ v5 then (
          some (.inr (v3_2, y2_sums_3))
        ) else (
          ar v4 144 <|
          (if (y1_costs v4.toNatClampNeg) = 0 then (
            some (.inr (v3_2, y2_sums_3))
          ) else (
            bd1 (f_X1_ahead x3_rows x3_columns v4 v5 1) fun (r37 : Int32) =>
            bd1 (f_X7_sumOf y2_sums_3 r37) fun (r40 : Int32) =>
            bv (fun (v3_4 : Int32) (y2_sums_5 : Nat → Int32) => ((
              bv (v5 + 1) fun v5_1 =>
              some (.inl (v3_4, v5_1, y2_sums_5))
              ) : Option ((Int32 × Int32 × (Nat → Int32)) ⊕ (Int32 × (Nat → Int32))))) fun j101 =>
            (if r40 = (-1) then (
              j101 v3_2 y2_sums_3
            ) else (
              ar v4 144 <|
              bv (fun (_ : Unit) => ((
                ar v4 144 <|
                ar v4 144 <| bv (upd y2_sums_3 v4.toNatClampNeg (r40 + (y1_costs v4.toNatClampNeg))) fun y2_sums_6 =>
                j101 1 y2_sums_6
                ) : Option ((Int32 × Int32 × (Nat → Int32)) ⊕ (Int32 × (Nat → Int32))))) fun j82 =>
              (if (y2_sums_3 v4.toNatClampNeg) = (-1) then (
                j82 ()
              ) else (
                ar v4 144 <|
                ar v4 144 <|
                (if (y2_sums_3 v4.toNatClampNeg) ≤ (r40 + (y1_costs v4.toNatClampNeg)) then (
                  j101 v3_2 y2_sums_3
                ) else (
                  j82 ()
                ))
              ))
            ))
          ))
        ))
        ) : Option ((Int32 × Int32 × (Nat → Int32)) ⊕ (Int32 × (Nat → Int32))))) fun l14 =>
      bd2 (lq3 l14 v3 0 y2_sums_1) fun (v3_3 : Int32) (y2_sums_4 : Nat → Int32) =>
      bv (v4 + 1) fun v4_1 =>
      some (.inl (v3_3, v4_1, y2_sums_4))
    ))
    ) : Option ((Int32 × Int32 × (Nat → Int32)) ⊕ (Int32 × (Nat → Int32))))) fun l5 =>
  bd2 (lq3 l5 0 0 y2_sums) fun (v3_1 : Int32) (y2_sums_2 : Nat → Int32) =>
  zb v3_1 (some (v3_1, y2_sums_2))
noncomputable def f_X7_survey (y1_costs : Nat → Int32) (y2_sums : Nat → Int32) (x4_rows : Int32) (x4_columns : Int32) (x5_count : Int32) (y6_namesOn : Nat → Int32) (y7_land : Nat → Int32) (y8_riverOf : Nat → Int32) (y9_home : Nat → Int32)  : Option ((Nat → Int32) × (Nat → Int32)) :=
  bd1 (f_X1_cells x4_rows x4_columns) fun (r4 : Int32) =>
  bv (if 144 < r4 then 144 else r4) fun v2 =>
  bv (fun (v3 : Int32) (y1_costs_1 : Nat → Int32) (y2_sums_1 : Nat → Int32) => ((
    (if v2 ≤ v3 then (
      some (.inr (y1_costs_1, y2_sums_1))
    ) else (
      bd1 (f_X6_isOpen x5_count y7_land y8_riverOf y9_home v3) fun (r23 : Int32) =>
      bv (fun (t56 : Int32) => ((
        ar v3 144 <| bv (upd y1_costs_1 v3.toNatClampNeg t56) fun y1_costs_3 =>
        bv (fun (t88 : Int32) => ((
          ar v3 144 <| bv (upd y2_sums_1 v3.toNatClampNeg t88) fun y2_sums_3 =>
          bv (v3 + 1) fun v3_1 =>
          some (.inl (v3_1, y1_costs_3, y2_sums_3))
          ) : Option ((Int32 × (Nat → Int32) × (Nat → Int32)) ⊕ ((Nat → Int32) × (Nat → Int32))))) fun j88 =>
        bv (fun (_ : Unit) => ((
          j88 (-1)
          ) : Option ((Int32 × (Nat → Int32) × (Nat → Int32)) ⊕ ((Nat → Int32) × (Nat → Int32))))) fun j87 =>
        (if r23 = 0 then (
          j87 ()
        ) else (
          bd1 (f_X1_endsRiver x4_rows x4_columns y7_land y8_riverOf v3) fun (r72 : Int32) =>
          (if r72 = 0 then (
            j87 ()
          ) else (
            ar v3 144 <|
            j88 (y1_costs_3 v3.toNatClampNeg)
          ))
        ))
        ) : Option ((Int32 × (Nat → Int32) × (Nat → Int32)) ⊕ ((Nat → Int32) × (Nat → Int32))))) fun j56 =>
      (if r23 = 0 then (
        j56 0
      ) else (
        bd1 (f_X6_namesIn y6_namesOn v3) fun (r44 : Int32) =>
        (if r44 = 0 then (
          j56 1
        ) else (
          j56 11
        ))
      ))
    ))
    ) : Option ((Int32 × (Nat → Int32) × (Nat → Int32)) ⊕ ((Nat → Int32) × (Nat → Int32))))) fun l16 =>
  bd2 (lq3 l16 0 y1_costs y2_sums) fun (y1_costs_2 : Nat → Int32) (y2_sums_2 : Nat → Int32) =>
  bv (fun (v3_2 : Int32) (v4 : Int32) (y2_sums_4 : Nat → Int32) => ((
    (if v2 ≤ v4 then (
      some (.inr y2_sums_4)
    ) else (
      (if v3_2 = 0 then (
        some (.inr y2_sums_4)
      ) else (
        bd2 (f_X7_improve y1_costs_2 y2_sums_4 x4_rows x4_columns v2) fun (r116 : Int32) (y2_sums_6 : Nat → Int32) =>
        bv (v4 + 1) fun v4_1 =>
        some (.inl (r116, v4_1, y2_sums_6))
      ))
    ))
    ) : Option ((Int32 × Int32 × (Nat → Int32)) ⊕ ((Nat → Int32))))) fun l100 =>
  bd1 (lq3 l100 1 0 y2_sums_2) fun (y2_sums_5 : Nat → Int32) =>
  some (y1_costs_2, y2_sums_5)
noncomputable def f_X7_besideWithSum (y1_sums : Nat → Int32) (x2_rows : Int32) (x2_columns : Int32) (p2 : Int32) (p3 : Int32) : Option (Int32) :=
  bv (fun (v4 : Int32) => ((
    (if 4 ≤ v4 then (
      mr (some (-1))
    ) else (
      bd1 (f_X1_ahead x2_rows x2_columns p2 v4 1) fun (r14 : Int32) =>
      bd1 (f_X7_sumOf y1_sums r14) fun (r22 : Int32) =>
      (if r22 = p3 then (
        mr (some r14)
      ) else (
        bv (v4 + 1) fun v4_1 =>
        some (.inl v4_1)
      ))
    ))
    ) : Option ((Int32) ⊕ (Int32)))) fun l3 =>
  lq1 l3 0
noncomputable def f_X7_trace (x0_length : Int32) (y1_costs : Nat → Int32) (y2_sums : Nat → Int32) (y3_way : Nat → Int32) (x4_rows : Int32) (x4_columns : Int32) (p2 : Int32) : Option (Int32 × Int32 × (Nat → Int32)) :=
  bv (fun (v3 : Int32) (v4 : Int32) (y3_way_1 : Nat → Int32) => ((
    (if 144 ≤ v4 then (
      mr (some (0, 0, y3_way_1))
    ) else (
      bd1 (f_X7_sumOf y2_sums v3) fun (r20 : Int32) =>
      (if r20 = (-1) then (
        mr (some (0, 0, y3_way_1))
      ) else (
        ar v4 144 <| bv (upd y3_way_1 v4.toNatClampNeg v3) fun y3_way_2 =>
        ar v3 144 <|
        ar v3 144 <|
        bv ((y2_sums v3.toNatClampNeg) - (y1_costs v3.toNatClampNeg)) fun v5 =>
        (if v5 = 0 then (
          mr (bv (v4 + 1) fun x0_length_1 =>
          some (x0_length_1, x0_length_1, y3_way_2))
        ) else (
          bd1 (f_X7_besideWithSum y2_sums x4_rows x4_columns v3 v5) fun (r73 : Int32) =>
          bv (v4 + 1) fun v4_1 =>
          some (.inl (r73, v4_1, y3_way_2))
        ))
      ))
    ))
    ) : Option ((Int32 × Int32 × (Nat → Int32)) ⊕ (Int32 × Int32 × (Nat → Int32))))) fun l10 =>
  lq3 l10 p2 0 y3_way
noncomputable def f_X7_wayAt (x0_length : Int32) (y1_way : Nat → Int32) (p1 : Int32) : Option (Int32) :=
  bv (fun (_ : Unit) => ((
    some (-1)
    ) : Option (Int32))) fun j28 =>
  (if p1 < 0 then (
    j28 ()
  ) else (
    (if x0_length ≤ p1 then (
      j28 ()
    ) else (
      (if 144 ≤ p1 then (
        j28 ()
      ) else (
        ar p1 144 <|
        some (y1_way p1.toNatClampNeg)
      ))
    ))
  ))
noncomputable def f_X7_namesOnWay (x0_length : Int32) (y1_way : Nat → Int32) (y3_namesOn : Nat → Int32)  : Option (Int32) :=
  bv (fun (v2 : Int32) (v3 : Int32) => ((
    (if x0_length ≤ v3 then (
      some (.inr v2)
    ) else (
      bd1 (f_X7_wayAt x0_length y1_way v3) fun (r16 : Int32) =>
      bd1 (f_X6_namesIn y3_namesOn r16) fun (r19 : Int32) =>
      bv (v2 ||| r19) fun v2_2 =>
      bv (v3 + 1) fun v3_1 =>
      some (.inl (v2_2, v3_1))
    ))
    ) : Option ((Int32 × Int32) ⊕ (Int32)))) fun l4 =>
  bd1 (lq2 l4 0 0) fun (v2_1 : Int32) =>
  some v2_1
noncomputable def f_X0_groundWays (x2_rows : Int32) (x2_columns : Int32) (x3_count : Int32) (y4_land : Nat → Int32) (y5_riverOf : Nat → Int32) (y6_home : Nat → Int32) (y7_length : Nat → Int32) (p2 : Int32) (p3 : Int32) : Option (Int32) :=
  bv (fun (v4 : Int32) (v5 : Int32) => ((
    (if 4 ≤ v5 then (
      some (.inr v4)
    ) else (
      (if x3_count ≤ p2 then (
        some (.inr v4)
      ) else (
        bd1 (f_X6_groundReason x2_rows x2_columns x3_count y4_land y5_riverOf y6_home y7_length p2 v5 p3) fun (r28 : Int32) =>
        bv (fun (v4_2 : Int32) => ((
          bv (v5 + 1) fun v5_1 =>
          some (.inl (v4_2, v5_1))
          ) : Option ((Int32 × Int32) ⊕ (Int32)))) fun j43 =>
        (if r28 = 0 then (
          bv (v4 ||| (1 <<< (v5 &&& 31))) fun v4_3 =>
          j43 v4_3
        ) else (
          j43 v4
        ))
      ))
    ))
    ) : Option ((Int32 × Int32) ⊕ (Int32)))) fun l6 =>
  bd1 (lq2 l6 0 0) fun (v4_1 : Int32) =>
  some v4_1
noncomputable def f_X0_countLeft (x0_reds : Int32) (y1_allowed : Nat → Int32) (y2_namesLeft : Nat → Int32) (y3_redsLeft : Nat → Int32)  : Option ((Nat → Int32) × (Nat → Int32)) :=
  ar 8 9 <| bv (upd y2_namesLeft (8 : Int32).toNatClampNeg 0) fun y2_namesLeft_1 =>
  ar 8 9 <| bv (upd y3_redsLeft (8 : Int32).toNatClampNeg 0) fun y3_redsLeft_1 =>
  bv (fun (v1 : Int32) (y2_namesLeft_2 : Nat → Int32) (y3_redsLeft_2 : Nat → Int32) => ((
    (if v1 < 0 then (
      some (.inr (y2_namesLeft_2, y3_redsLeft_2))
    ) else (
      ar v1 8 <|
      bv (fun (t37 : Int32) => ((
        ar (v1 + 1) 9 <|
        ar v1 9 <| bv (upd y2_namesLeft_2 v1.toNatClampNeg ((y2_namesLeft_2 (v1 + 1).toNatClampNeg) + t37)) fun y2_namesLeft_4 =>
        ar (v1 + 1) 9 <|
        ar v1 9 <| bv (upd y3_redsLeft_2 v1.toNatClampNeg ((y3_redsLeft_2 (v1 + 1).toNatClampNeg) + (t37 * ((x0_reds >>> (v1 &&& 31)) &&& 1)))) fun y3_redsLeft_4 =>
        bv (v1 + (-1)) fun v1_1 =>
        some (.inl (v1_1, y2_namesLeft_4, y3_redsLeft_4))
        ) : Option ((Int32 × (Nat → Int32) × (Nat → Int32)) ⊕ ((Nat → Int32) × (Nat → Int32))))) fun j37 =>
      (if (y1_allowed v1.toNatClampNeg) = 0 then (
        j37 0
      ) else (
        j37 1
      ))
    ))
    ) : Option ((Int32 × (Nat → Int32) × (Nat → Int32)) ⊕ ((Nat → Int32) × (Nat → Int32))))) fun l19 =>
  bd2 (lq3 l19 7 y2_namesLeft_1 y3_redsLeft_1) fun (y2_namesLeft_3 : Nat → Int32) (y3_redsLeft_3 : Nat → Int32) =>
  some (y2_namesLeft_3, y3_redsLeft_3)
noncomputable def f_X0_isAllowed (y1_allowed : Nat → Int32) (p1 : Int32) : Option (Int32) :=
  bv (p1 / 4) fun v2 =>
  bv (fun (_ : Unit) => ((
    some 0
    ) : Option (Int32))) fun j30 =>
  (if 8 ≤ v2 then (
    j30 ()
  ) else (
    ar v2 8 <|
    (if (((y1_allowed v2.toNatClampNeg) >>> ((p1 - p1 / 4 * 4) &&& 31)) &&& 1) = 1 then (
      some 1
    ) else (
      j30 ()
    ))
  ))
noncomputable def f_X0_standAgainst (x0_reds : Int32) (x2_rows : Int32) (x2_columns : Int32) (x3_count : Int32) (y4_home : Nat → Int32) (y5_length : Nat → Int32) (y6_letters : Nat → Int32) (p2 : Int32) (p3 : Int32) : Option (Int32) :=
  bv (p2 / 4) fun v4 =>
  bv (p3 / 4) fun v5 =>
  bv (fun (t32 : Int32) => ((
    bd1 (f_X2_homeOf x3_count y4_home v4) fun (r40 : Int32) =>
    bd1 (f_X2_homeOf x3_count y4_home v5) fun (r51 : Int32) =>
    bv (fun (v9 : Int32) => ((
      bd1 (f_X2_lengthOf x3_count y5_length v4) fun (r67 : Int32) =>
      (if r67 ≤ v9 then (
        mr (some 0)
      ) else (
        bd1 (f_X1_ahead x2_rows x2_columns r40 (p2 - p2 / 4 * 4) (v9 + 1)) fun (r86 : Int32) =>
        bd1 (f_X1_stepsTo x2_columns r51 (p3 - p3 / 4 * 4) r86) fun (r102 : Int32) =>
        bd1 (f_X2_letterOf x3_count y5_length y6_letters v5 (r102 - 1)) fun (r117 : Int32) =>
        bv (fun (_ : Unit) => ((
          bv (v9 + 1) fun v9_1 =>
          some (.inl v9_1)
          ) : Option ((Int32) ⊕ (Int32)))) fun j151 =>
        (if r117 = (-1) then (
          j151 ()
        ) else (
          (if t32 = 0 then (
            bd1 (f_X2_letterOf x3_count y5_length y6_letters v4 v9) fun (r143 : Int32) =>
            (if r117 = r143 then (
              j151 ()
            ) else (
              mr (some 1)
            ))
          ) else (
            mr (some 1)
          ))
        ))
      ))
      ) : Option ((Int32) ⊕ (Int32)))) fun l59 =>
    lq1 l59 0
    ) : Option (Int32))) fun j32 =>
  (if (((1 <<< (v4 &&& 31)) ||| (1 <<< (v5 &&& 31))) &&& x0_reds) = 0 then (
    j32 0
  ) else (
    j32 1
  ))
noncomputable def f_X0_foesOf (x0_reds : Int32) (y1_allowed : Nat → Int32) (y2_foes : Nat → Int32) (x4_rows : Int32) (x4_columns : Int32) (x5_count : Int32) (y6_home : Nat → Int32) (y7_length : Nat → Int32) (y8_letters : Nat → Int32) (p2 : Int32) : Option (Int32) :=
  bv (fun (v3 : Int32) (v4 : Int32) => ((
    (if 32 ≤ v4 then (
      some (.inr v3)
    ) else (
      bv (fun (t30 : Int32) => ((
        bv (fun (v3_2 : Int32) => ((
          bv (v4 + 1) fun v4_1 =>
          some (.inl (v3_2, v4_1))
          ) : Option ((Int32 × Int32) ⊕ (Int32)))) fun j64 =>
        (if t30 = 0 then (
          bd1 (f_X0_isAllowed y1_allowed v4) fun (r40 : Int32) =>
          (if r40 = 0 then (
            j64 v3
          ) else (
            bd1 (f_X0_standAgainst x0_reds x4_rows x4_columns x5_count y6_home y7_length y8_letters p2 v4) fun (r51 : Int32) =>
            (if r51 = 0 then (
              j64 v3
            ) else (
              bv (v3 ||| (1 <<< (v4 &&& 31))) fun v3_3 =>
              j64 v3_3
            ))
          ))
        ) else (
          j64 v3
        ))
        ) : Option ((Int32 × Int32) ⊕ (Int32)))) fun j30 =>
      (if (v4 / 4) = (p2 / 4) then (
        j30 1
      ) else (
        j30 0
      ))
    ))
    ) : Option ((Int32 × Int32) ⊕ (Int32)))) fun l5 =>
  bd1 (lq2 l5 0 0) fun (v3_1 : Int32) =>
  some v3_1
noncomputable def f_X0_weigh (x0_bestReds : Int32) (x0_bestCount : Int32) (x0_bestTurning : Int32) (y1_best : Nat → Int32) (y2_trial : Nat → Int32) (x4_count : Int32) (x4_turn : Int32) (y5_stops : Nat → Int32) (p2 : Int32) (p3 : Int32) : Option (Int32 × Int32 × Int32 × (Nat → Int32)) :=
  bv (fun (t21 : Int32) => ((
    bv (fun (t52 : Int32) => ((
      bv (fun (_ : Unit) => ((
        bd1 (f_X4_turningBy x4_count y5_stops y2_trial x4_turn) fun (r80 : Int32) =>
        bv (fun (_ : Unit) => ((
          bv (fun (v7 : Int32) (y1_best_1 : Nat → Int32) => ((
            (if 8 ≤ v7 then (
              some (.inr y1_best_1)
            ) else (
              ar v7 8 <|
              ar v7 8 <| bv (upd y1_best_1 v7.toNatClampNeg (y2_trial v7.toNatClampNeg)) fun y1_best_3 =>
              bv (v7 + 1) fun v7_1 =>
              some (.inl (v7_1, y1_best_3))
            ))
            ) : Option ((Int32 × (Nat → Int32)) ⊕ ((Nat → Int32))))) fun l118 =>
          bd1 (lq2 l118 0 y1_best) fun (y1_best_2 : Nat → Int32) =>
          some (p2, p3, r80, y1_best_2)
          ) : Option (Int32 × Int32 × Int32 × (Nat → Int32)))) fun j99 =>
        (if t52 = 0 then (
          (if x0_bestTurning ≤ r80 then (
            some (x0_bestReds, x0_bestCount, x0_bestTurning, y1_best)
          ) else (
            j99 ()
          ))
        ) else (
          j99 ()
        ))
        ) : Option (Int32 × Int32 × Int32 × (Nat → Int32)))) fun j65 =>
      (if t21 = 0 then (
        (if t52 = 0 then (
          some (x0_bestReds, x0_bestCount, x0_bestTurning, y1_best)
        ) else (
          j65 ()
        ))
      ) else (
        j65 ()
      ))
      ) : Option (Int32 × Int32 × Int32 × (Nat → Int32)))) fun j52 =>
    bv (fun (_ : Unit) => ((
      j52 1
      ) : Option (Int32 × Int32 × Int32 × (Nat → Int32)))) fun j47 =>
    (if x0_bestReds < p2 then (
      j47 ()
    ) else (
      bv (fun (_ : Unit) => ((
        j52 0
        ) : Option (Int32 × Int32 × Int32 × (Nat → Int32)))) fun j51 =>
      (if p2 = x0_bestReds then (
        (if p3 ≤ x0_bestCount then (
          j51 ()
        ) else (
          j47 ()
        ))
      ) else (
        j51 ()
      ))
    ))
    ) : Option (Int32 × Int32 × Int32 × (Nat → Int32)))) fun j21 =>
  bv (fun (_ : Unit) => ((
    j21 0
    ) : Option (Int32 × Int32 × Int32 × (Nat → Int32)))) fun j20 =>
  (if p2 = x0_bestReds then (
    (if p3 = x0_bestCount then (
      j21 1
    ) else (
      j20 ()
    ))
  ) else (
    j20 ()
  ))
noncomputable def f_X0_seek : Nat → Int32 → Int32 → Int32 → Int32 → (Nat → Int32) → (Nat → Int32) → (Nat → Int32) → (Nat → Int32) → (Nat → Int32) → (Nat → Int32) → Int32 → Int32 → Int32 → (Nat → Int32) → Int32 → Int32 → Int32 → Int32 → Option (Int32 × Int32 × Int32 × (Nat → Int32) × (Nat → Int32))
  | 0, _, _, _, _, _, _, _, _, _, _, _, _, _, _, _, _, _, _ => none
  | d + 1, x0_reds, x0_bestReds, x0_bestCount, x0_bestTurning, y1_allowed, y2_best, y3_foes, y4_namesLeft, y5_redsLeft, y6_trial, x8_count, x9_count, x9_turn, y10_stops, p2, p3, p4, p5 =>
    bv (fun (_ : Unit) => ((
      bd4 (f_X0_weigh x0_bestReds x0_bestCount x0_bestTurning y2_best y6_trial x9_count x9_turn y10_stops p4 p5) fun (x0_bestReds_1 : Int32) (x0_bestCount_1 : Int32) (x0_bestTurning_1 : Int32) (y2_best_1 : Nat → Int32) =>
      some (x0_bestReds_1, x0_bestCount_1, x0_bestTurning_1, y2_best_1, y6_trial)
      ) : Option (Int32 × Int32 × Int32 × (Nat → Int32) × (Nat → Int32)))) fun j17 =>
    (if 8 ≤ p2 then (
      j17 ()
    ) else (
      (if p2 < x8_count then (
        ar p2 9 <|
        bv (p4 + (y5_redsLeft p2.toNatClampNeg)) fun v6 =>
        (if v6 < x0_bestReds then (
          some (x0_bestReds, x0_bestCount, x0_bestTurning, y2_best, y6_trial)
        ) else (
          bv (fun (_ : Unit) => ((
            bv (fun (v7 : Int32) (x0_bestReds_2 : Int32) (x0_bestCount_2 : Int32) (x0_bestTurning_2 : Int32) (y2_best_2 : Nat → Int32) (y6_trial_1 : Nat → Int32) => ((
              (if 4 ≤ v7 then (
                some (.inr (x0_bestReds_2, x0_bestCount_2, x0_bestTurning_2, y2_best_2, y6_trial_1))
              ) else (
                bv ((p2 * 4) + v7) fun v8 =>
                bd1 (f_X0_isAllowed y1_allowed v8) fun (r93 : Int32) =>
                bv (fun (x0_bestReds_4 : Int32) (x0_bestCount_4 : Int32) (x0_bestTurning_4 : Int32) (y2_best_4 : Nat → Int32) (y6_trial_3 : Nat → Int32) => ((
                  bv (v7 + 1) fun v7_1 =>
                  some (.inl (v7_1, x0_bestReds_4, x0_bestCount_4, x0_bestTurning_4, y2_best_4, y6_trial_3))
                  ) : Option ((Int32 × Int32 × Int32 × Int32 × (Nat → Int32) × (Nat → Int32)) ⊕ (Int32 × Int32 × Int32 × (Nat → Int32) × (Nat → Int32))))) fun j148 =>
                (if r93 = 0 then (
                  j148 x0_bestReds_2 x0_bestCount_2 x0_bestTurning_2 y2_best_2 y6_trial_1
                ) else (
                  ar v8 32 <|
                  (if ((y3_foes v8.toNatClampNeg) &&& p3) = 0 then (
                    ar p2 8 <| bv (upd y6_trial_1 p2.toNatClampNeg v7) fun y6_trial_4 =>
                    bd5 (f_X0_seek d x0_reds x0_bestReds_2 x0_bestCount_2 x0_bestTurning_2 y1_allowed y2_best_2 y3_foes y4_namesLeft y5_redsLeft y6_trial_4 x8_count x9_count x9_turn y10_stops (p2 + 1) (p3 ||| (1 <<< (v8 &&& 31))) (p4 + ((x0_reds >>> (p2 &&& 31)) &&& 1)) (p5 + 1)) fun (x0_bestReds_5 : Int32) (x0_bestCount_5 : Int32) (x0_bestTurning_5 : Int32) (y2_best_5 : Nat → Int32) (y6_trial_5 : Nat → Int32) =>
                    j148 x0_bestReds_5 x0_bestCount_5 x0_bestTurning_5 y2_best_5 y6_trial_5
                  ) else (
                    j148 x0_bestReds_2 x0_bestCount_2 x0_bestTurning_2 y2_best_2 y6_trial_1
                  ))
                ))
              ))
              ) : Option ((Int32 × Int32 × Int32 × Int32 × (Nat → Int32) × (Nat → Int32)) ⊕ (Int32 × Int32 × Int32 × (Nat → Int32) × (Nat → Int32))))) fun l76 =>
            bd5 (lq6 l76 0 x0_bestReds x0_bestCount x0_bestTurning y2_best y6_trial) fun (x0_bestReds_3 : Int32) (x0_bestCount_3 : Int32) (x0_bestTurning_3 : Int32) (y2_best_3 : Nat → Int32) (y6_trial_2 : Nat → Int32) =>
            ar p2 8 <| bv (upd y6_trial_2 p2.toNatClampNeg (-1)) fun y6_trial_6 =>
            bd5 (f_X0_seek d x0_reds x0_bestReds_3 x0_bestCount_3 x0_bestTurning_3 y1_allowed y2_best_3 y3_foes y4_namesLeft y5_redsLeft y6_trial_6 x8_count x9_count x9_turn y10_stops (p2 + 1) p3 p4 p5) fun (x0_bestReds_6 : Int32) (x0_bestCount_6 : Int32) (x0_bestTurning_6 : Int32) (y2_best_6 : Nat → Int32) (y6_trial_7 : Nat → Int32) =>
            some (x0_bestReds_6, x0_bestCount_6, x0_bestTurning_6, y2_best_6, y6_trial_7)
            ) : Option (Int32 × Int32 × Int32 × (Nat → Int32) × (Nat → Int32)))) fun j73 =>
          (if v6 = x0_bestReds then (
            ar p2 9 <|
            (if x0_bestCount ≤ (p5 + (y4_namesLeft p2.toNatClampNeg)) then (
              j73 ()
            ) else (
              some (x0_bestReds, x0_bestCount, x0_bestTurning, y2_best, y6_trial)
            ))
          ) else (
            j73 ()
          ))
        ))
      ) else (
        j17 ()
      ))
    ))
noncomputable def f_X0_findBest (x0_reds : Int32) (x0_bestReds : Int32) (x0_bestCount : Int32) (x0_bestTurning : Int32) (y1_allowed : Nat → Int32) (y2_best : Nat → Int32) (y3_foes : Nat → Int32) (y4_namesLeft : Nat → Int32) (y5_redsLeft : Nat → Int32) (y6_trial : Nat → Int32) (x8_rows : Int32) (x8_columns : Int32) (x9_count : Int32) (x10_count : Int32) (x10_turn : Int32) (y11_land : Nat → Int32) (y12_riverOf : Nat → Int32) (y13_home : Nat → Int32) (y14_length : Nat → Int32) (y15_letters : Nat → Int32) (y16_stops : Nat → Int32) (p2 : Int32) (p3 : Int32) : Option (Int32 × Int32 × Int32 × Int32 × (Nat → Int32) × (Nat → Int32) × (Nat → Int32) × (Nat → Int32) × (Nat → Int32) × (Nat → Int32)) :=
  bv (fun (v4 : Int32) (y1_allowed_1 : Nat → Int32) (y2_best_1 : Nat → Int32) (y6_trial_1 : Nat → Int32) => ((
    (if 8 ≤ v4 then (
      some (.inr (y1_allowed_1, y2_best_1, y6_trial_1))
    ) else (
      ar v4 8 <| bv (upd y6_trial_1 v4.toNatClampNeg (-1)) fun y6_trial_3 =>
      ar v4 8 <| bv (upd y2_best_1 v4.toNatClampNeg (-1)) fun y2_best_3 =>
      bv (fun (t70 : Int32) => ((
        ar v4 8 <| bv (upd y1_allowed_1 v4.toNatClampNeg t70) fun y1_allowed_3 =>
        bv (v4 + 1) fun v4_1 =>
        some (.inl (v4_1, y1_allowed_3, y2_best_3, y6_trial_3))
        ) : Option ((Int32 × (Nat → Int32) × (Nat → Int32) × (Nat → Int32)) ⊕ ((Nat → Int32) × (Nat → Int32) × (Nat → Int32))))) fun j70 =>
      (if v4 = p2 then (
        j70 0
      ) else (
        bd1 (f_X0_groundWays x8_rows x8_columns x9_count y11_land y12_riverOf y13_home y14_length v4 p2) fun (r67 : Int32) =>
        j70 r67
      ))
    ))
    ) : Option ((Int32 × (Nat → Int32) × (Nat → Int32) × (Nat → Int32)) ⊕ ((Nat → Int32) × (Nat → Int32) × (Nat → Int32))))) fun l23 =>
  bd3 (lq4 l23 0 y1_allowed y2_best y6_trial) fun (y1_allowed_2 : Nat → Int32) (y2_best_2 : Nat → Int32) (y6_trial_2 : Nat → Int32) =>
  bd2 (f_X0_countLeft p3 y1_allowed_2 y4_namesLeft y5_redsLeft) fun (y4_namesLeft_1 : Nat → Int32) (y5_redsLeft_1 : Nat → Int32) =>
  bv (fun (v4_2 : Int32) (y3_foes_1 : Nat → Int32) => ((
    (if 32 ≤ v4_2 then (
      some (.inr y3_foes_1)
    ) else (
      bd1 (f_X0_isAllowed y1_allowed_2 v4_2) fun (r103 : Int32) =>
      bv (fun (t120 : Int32) => ((
        ar v4_2 32 <| bv (upd y3_foes_1 v4_2.toNatClampNeg t120) fun y3_foes_3 =>
        bv (v4_2 + 1) fun v4_3 =>
        some (.inl (v4_3, y3_foes_3))
        ) : Option ((Int32 × (Nat → Int32)) ⊕ ((Nat → Int32))))) fun j120 =>
      (if r103 = 0 then (
        j120 0
      ) else (
        bd1 (f_X0_foesOf p3 y1_allowed_2 y3_foes_1 x8_rows x8_columns x9_count y13_home y14_length y15_letters v4_2) fun (r113 : Int32) =>
        j120 r113
      ))
    ))
    ) : Option ((Int32 × (Nat → Int32)) ⊕ ((Nat → Int32))))) fun l84 =>
  bd1 (lq2 l84 0 y3_foes) fun (y3_foes_2 : Nat → Int32) =>
  bd5 (f_X0_seek 10 p3 (-1) (-1) 0 y1_allowed_2 y2_best_2 y3_foes_2 y4_namesLeft_1 y5_redsLeft_1 y6_trial_2 x9_count x10_count x10_turn y16_stops 0 0 0 0) fun (x0_bestReds_1 : Int32) (x0_bestCount_1 : Int32) (x0_bestTurning_1 : Int32) (y2_best_4 : Nat → Int32) (y6_trial_4 : Nat → Int32) =>
  some (p3, x0_bestReds_1, x0_bestCount_1, x0_bestTurning_1, y1_allowed_2, y2_best_4, y3_foes_2, y4_namesLeft_1, y5_redsLeft_1, y6_trial_4)
noncomputable def f_X0_bestDirection (y1_best : Nat → Int32) (p1 : Int32) : Option (Int32) :=
  bv (fun (_ : Unit) => ((
    some (-1)
    ) : Option (Int32))) fun j19 =>
  (if p1 < 0 then (
    j19 ()
  ) else (
    (if 8 ≤ p1 then (
      j19 ()
    ) else (
      ar p1 8 <|
      some (y1_best p1.toNatClampNeg)
    ))
  ))
noncomputable def f_X3_forget (x0_count : Int32)  : Option (Int32) :=
  some 0
noncomputable def f_X5_addByte (x0_length : Int32) (y1_text : Nat → Int32) (p1 : Int32) : Option (Int32 × (Nat → Int32)) :=
  (if 500 ≤ x0_length then (
    some (x0_length, y1_text)
  ) else (
    ar x0_length 500 <| bv (upd y1_text x0_length.toNatClampNeg p1) fun y1_text_1 =>
    bv (x0_length + 1) fun x0_length_1 =>
    some (x0_length_1, y1_text_1)
  ))
noncomputable def f_X5_signAt (x0_length : Int32) (y1_text : Nat → Int32) (p1 : Int32) : Option (Int32) :=
  bv (fun (_ : Unit) => ((
    some (-1)
    ) : Option (Int32))) fun j28 =>
  (if p1 < 0 then (
    j28 ()
  ) else (
    (if x0_length ≤ p1 then (
      j28 ()
    ) else (
      (if 500 ≤ p1 then (
        j28 ()
      ) else (
        ar p1 500 <|
        some (y1_text p1.toNatClampNeg)
      ))
    ))
  ))
noncomputable def f_X5_nextSign (x0_length : Int32) (x0_at : Int32) (y1_text : Nat → Int32)  : Option (Int32 × Int32) :=
  bv (fun (v1 : Int32) (x0_at_1 : Int32) => ((
    (if x0_length ≤ v1 then (
      some (.inr x0_at_1)
    ) else (
      bd1 (f_X5_signAt x0_length y1_text x0_at_1) fun (r15 : Int32) =>
      (if r15 = 32 then (
        bv (x0_at_1 + 1) fun x0_at_3 =>
        bv (v1 + 1) fun v1_1 =>
        some (.inl (v1_1, x0_at_3))
      ) else (
        some (.inr x0_at_1)
      ))
    ))
    ) : Option ((Int32 × Int32) ⊕ (Int32)))) fun l2 =>
  bd1 (lq2 l2 0 x0_at) fun (x0_at_2 : Int32) =>
  bd1 (f_X5_signAt x0_length y1_text x0_at_2) fun (r44 : Int32) =>
  some (r44, x0_at_2)
noncomputable def f_X5_isLetter  (p0 : Int32) : Option (Int32) :=
  bv (fun (_ : Unit) => ((
    some 0
    ) : Option (Int32))) fun j16 =>
  (if p0 < 97 then (
    j16 ()
  ) else (
    (if 122 < p0 then (
      j16 ()
    ) else (
      some 1
    ))
  ))
noncomputable def f_X5_fail (x0_error : Int32) (x0_errorAt : Int32) (p1 : Int32) (p2 : Int32) : Option (Int32 × Int32 × Int32) :=
  some (0, p1, p2)
noncomputable def f_X5_takeWord (x0_length : Int32) (x0_at : Int32) (x0_wordStart : Int32) (x0_wordLength : Int32) (x0_error : Int32) (x0_errorAt : Int32) (y1_text : Nat → Int32)  : Option (Int32 × Int32 × Int32 × Int32 × Int32 × Int32) :=
  bd2 (f_X5_nextSign x0_length x0_at y1_text) fun (r1 : Int32) (x0_at_1 : Int32) =>
  bv (fun (v1 : Int32) (x0_at_2 : Int32) => ((
    (if x0_length ≤ v1 then (
      some (.inr x0_at_2)
    ) else (
      bd1 (f_X5_signAt x0_length y1_text x0_at_2) fun (r28 : Int32) =>
      bd1 (f_X5_isLetter r28) fun (r31 : Int32) =>
      (if r31 = 0 then (
        some (.inr x0_at_2)
      ) else (
        bv (x0_at_2 + 1) fun x0_at_4 =>
        bv (v1 + 1) fun v1_1 =>
        some (.inl (v1_1, x0_at_4))
      ))
    ))
    ) : Option ((Int32 × Int32) ⊕ (Int32)))) fun l15 =>
  bd1 (lq2 l15 0 x0_at_1) fun (x0_at_3 : Int32) =>
  bv (x0_at_3 - x0_at_1) fun x0_wordLength_1 =>
  bv (fun (x0_error_1 : Int32) (x0_errorAt_1 : Int32) => ((
    some (1, x0_at_3, x0_at_1, x0_wordLength_1, x0_error_1, x0_errorAt_1)
    ) : Option (Int32 × Int32 × Int32 × Int32 × Int32 × Int32))) fun j85 =>
  (if 0 < x0_wordLength_1 then (
    j85 x0_error x0_errorAt
  ) else (
    bd3 (f_X5_fail x0_error x0_errorAt 1 x0_at_1) fun (r79 : Int32) (x0_error_2 : Int32) (x0_errorAt_2 : Int32) =>
    (if r79 = 0 then (
      some (0, x0_at_3, x0_at_1, x0_wordLength_1, x0_error_2, x0_errorAt_2)
    ) else (
      j85 x0_error_2 x0_errorAt_2
    ))
  ))
noncomputable def f_X5_wordIs (x0_length : Int32) (x0_wordStart : Int32) (x0_wordLength : Int32) (y1_text : Nat → Int32) (k1 : Nat) : Option (Int32) :=
  (if x0_wordLength = (Int32.ofNat (kwLen.getD k1 0)) then (
    bv (fun (v2 : Int32) => ((
      (if (Int32.ofNat (kwLen.getD k1 0)) ≤ v2 then (
        mr (some 1)
      ) else (
        bd1 (f_X5_signAt x0_length y1_text (x0_wordStart + v2)) fun (r30 : Int32) =>
        ar v2 (kwLen.getD k1 0) <|
        (if r30 = (kch k1 v2.toNatClampNeg) then (
          bv (v2 + 1) fun v2_1 =>
          some (.inl v2_1)
        ) else (
          mr (some 0)
        ))
      ))
      ) : Option ((Int32) ⊕ (Int32)))) fun l15 =>
    lq1 l15 0
  ) else (
    some 0
  ))
noncomputable def f_X5_isDigit  (p0 : Int32) : Option (Int32) :=
  bv (fun (_ : Unit) => ((
    some 0
    ) : Option (Int32))) fun j16 =>
  (if p0 < 48 then (
    j16 ()
  ) else (
    (if 57 < p0 then (
      j16 ()
    ) else (
      some 1
    ))
  ))
noncomputable def f_X5_takeNumber (x0_length : Int32) (x0_at : Int32) (x0_numberStart : Int32) (x0_number : Int32) (x0_error : Int32) (x0_errorAt : Int32) (y1_text : Nat → Int32) (p1 : Int32) (p2 : Int32) : Option (Int32 × Int32 × Int32 × Int32 × Int32 × Int32) :=
  bd2 (f_X5_nextSign x0_length x0_at y1_text) fun (r1 : Int32) (x0_at_1 : Int32) =>
  bv (fun (v3 : Int32) (x0_at_2 : Int32) (x0_number_1 : Int32) => ((
    (if x0_length ≤ v3 then (
      some (.inr (x0_at_2, x0_number_1))
    ) else (
      bd1 (f_X5_signAt x0_length y1_text x0_at_2) fun (r33 : Int32) =>
      bd1 (f_X5_isDigit r33) fun (r36 : Int32) =>
      (if r36 = 0 then (
        some (.inr (x0_at_2, x0_number_1))
      ) else (
        bd1 (f_X5_signAt x0_length y1_text x0_at_2) fun (r55 : Int32) =>
        bv (if 1000 < (((x0_number_1 * 10) + r55) - 48) then 1000 else (((x0_number_1 * 10) + r55) - 48)) fun x0_number_3 =>
        bv (x0_at_2 + 1) fun x0_at_4 =>
        bv (v3 + 1) fun v3_1 =>
        some (.inl (v3_1, x0_at_4, x0_number_3))
      ))
    ))
    ) : Option ((Int32 × Int32 × Int32) ⊕ (Int32 × Int32)))) fun l20 =>
  bd2 (lq3 l20 0 x0_at_1 0) fun (x0_at_3 : Int32) (x0_number_2 : Int32) =>
  (if x0_at_3 = x0_at_1 then (
    bd3 (f_X5_fail x0_error x0_errorAt 1 x0_at_3) fun (r104 : Int32) (x0_error_3 : Int32) (x0_errorAt_3 : Int32) =>
    zb r104 (some (r104, x0_at_3, x0_at_1, x0_number_2, x0_error_3, x0_errorAt_3))
  ) else (
    bv (fun (x0_error_1 : Int32) (x0_errorAt_1 : Int32) => ((
      some (1, x0_at_3, x0_at_1, x0_number_2, x0_error_1, x0_errorAt_1)
      ) : Option (Int32 × Int32 × Int32 × Int32 × Int32 × Int32))) fun j136 =>
    bv (fun (_ : Unit) => ((
      bd3 (f_X5_fail x0_error x0_errorAt 2 x0_at_1) fun (r130 : Int32) (x0_error_2 : Int32) (x0_errorAt_2 : Int32) =>
      (if r130 = 0 then (
        some (0, x0_at_3, x0_at_1, x0_number_2, x0_error_2, x0_errorAt_2)
      ) else (
        j136 x0_error_2 x0_errorAt_2
      ))
      ) : Option (Int32 × Int32 × Int32 × Int32 × Int32 × Int32))) fun j124 =>
    (if x0_number_2 < p1 then (
      j124 ()
    ) else (
      (if x0_number_2 ≤ p2 then (
        j136 x0_error x0_errorAt
      ) else (
        j124 ()
      ))
    ))
  ))
noncomputable def f_X5_readChart (x0_length : Int32) (x0_at : Int32) (x0_wordStart : Int32) (x0_wordLength : Int32) (x0_numberStart : Int32) (x0_number : Int32) (x0_error : Int32) (x0_errorAt : Int32) (y2_text : Nat → Int32) (x3_rows : Int32) (x3_columns : Int32) (x3_rivers : Int32) (x4_count : Int32) (x4_reds : Int32) (x5_count : Int32) (x5_next : Int32) (x5_turn : Int32) (x5_quarters : Int32) (y6_letterOn : Nat → Int32) (y7_namesOn : Nat → Int32) (y8_land : Nat → Int32) (y9_riverOf : Nat → Int32) (y10_riverPlace : Nat → Int32)  : Option (Int32 × Int32 × Int32 × Int32 × Int32 × Int32 × Int32 × Int32 × Int32 × Int32 × Int32 × Int32 × Int32 × Int32 × Int32 × Int32 × Int32 × (Nat → Int32) × (Nat → Int32) × (Nat → Int32) × (Nat → Int32) × (Nat → Int32)) :=
  bd6 (f_X5_takeWord x0_length x0_at x0_wordStart x0_wordLength x0_error x0_errorAt y2_text) fun (r1 : Int32) (x0_at_1 : Int32) (x0_wordStart_1 : Int32) (x0_wordLength_1 : Int32) (x0_error_1 : Int32) (x0_errorAt_1 : Int32) =>
  (if r1 = 0 then (
    some (0, x0_at_1, x0_wordStart_1, x0_wordLength_1, x0_numberStart, x0_number, x0_error_1, x0_errorAt_1, x3_rows, x3_columns, x3_rivers, x4_count, x4_reds, x5_count, x5_next, x5_turn, x5_quarters, y6_letterOn, y7_namesOn, y8_land, y9_riverOf, y10_riverPlace)
  ) else (
    bd1 (f_X5_wordIs x0_length x0_wordStart_1 x0_wordLength_1 y2_text 0) fun (r12 : Int32) =>
    (if r12 = 0 then (
      bd3 (f_X5_fail x0_error_1 x0_errorAt_1 1 x0_wordStart_1) fun (r24 : Int32) (x0_error_4 : Int32) (x0_errorAt_4 : Int32) =>
      zb r24 (some (r24, x0_at_1, x0_wordStart_1, x0_wordLength_1, x0_numberStart, x0_number, x0_error_4, x0_errorAt_4, x3_rows, x3_columns, x3_rivers, x4_count, x4_reds, x5_count, x5_next, x5_turn, x5_quarters, y6_letterOn, y7_namesOn, y8_land, y9_riverOf, y10_riverPlace))
    ) else (
      bd6 (f_X5_takeNumber x0_length x0_at_1 x0_numberStart x0_number x0_error_1 x0_errorAt_1 y2_text 3 12) fun (r32 : Int32) (x0_at_2 : Int32) (x0_numberStart_1 : Int32) (x0_number_1 : Int32) (x0_error_2 : Int32) (x0_errorAt_2 : Int32) =>
      (if r32 = 0 then (
        some (0, x0_at_2, x0_wordStart_1, x0_wordLength_1, x0_numberStart_1, x0_number_1, x0_error_2, x0_errorAt_2, x3_rows, x3_columns, x3_rivers, x4_count, x4_reds, x5_count, x5_next, x5_turn, x5_quarters, y6_letterOn, y7_namesOn, y8_land, y9_riverOf, y10_riverPlace)
      ) else (
        bd6 (f_X5_takeNumber x0_length x0_at_2 x0_numberStart_1 x0_number_1 x0_error_2 x0_errorAt_2 y2_text 3 12) fun (r49 : Int32) (x0_at_3 : Int32) (x0_numberStart_2 : Int32) (x0_number_2 : Int32) (x0_error_3 : Int32) (x0_errorAt_3 : Int32) =>
        (if r49 = 0 then (
          some (0, x0_at_3, x0_wordStart_1, x0_wordLength_1, x0_numberStart_2, x0_number_2, x0_error_3, x0_errorAt_3, x3_rows, x3_columns, x3_rivers, x4_count, x4_reds, x5_count, x5_next, x5_turn, x5_quarters, y6_letterOn, y7_namesOn, y8_land, y9_riverOf, y10_riverPlace)
        ) else (
          bd14 (f_X6_beginSea x3_rows x3_columns x3_rivers x4_count x4_reds x5_count x5_next x5_turn x5_quarters y6_letterOn y7_namesOn y8_land y9_riverOf y10_riverPlace x0_number_1 x0_number_2) fun (x3_rows_1 : Int32) (x3_columns_1 : Int32) (x3_rivers_1 : Int32) (x4_count_1 : Int32) (x4_reds_1 : Int32) (x5_count_1 : Int32) (x5_next_1 : Int32) (x5_turn_1 : Int32) (x5_quarters_1 : Int32) (y6_letterOn_1 : Nat → Int32) (y7_namesOn_1 : Nat → Int32) (y8_land_1 : Nat → Int32) (y9_riverOf_1 : Nat → Int32) (y10_riverPlace_1 : Nat → Int32) =>
          some (1, x0_at_3, x0_wordStart_1, x0_wordLength_1, x0_numberStart_2, x0_number_2, x0_error_3, x0_errorAt_3, x3_rows_1, x3_columns_1, x3_rivers_1, x4_count_1, x4_reds_1, x5_count_1, x5_next_1, x5_turn_1, x5_quarters_1, y6_letterOn_1, y7_namesOn_1, y8_land_1, y9_riverOf_1, y10_riverPlace_1)
        ))
      ))
    ))
  ))
noncomputable def f_X5_takeSemicolon (x0_length : Int32) (x0_at : Int32) (x0_statement : Int32) (x0_error : Int32) (x0_errorAt : Int32) (y1_text : Nat → Int32)  : Option (Int32 × Int32 × Int32 × Int32 × Int32) :=
  bd2 (f_X5_nextSign x0_length x0_at y1_text) fun (r1 : Int32) (x0_at_1 : Int32) =>
  (if r1 = 59 then (
    bv (x0_at_1 + 1) fun x0_at_2 =>
    bv (x0_statement + 1) fun x0_statement_1 =>
    some (1, x0_at_2, x0_statement_1, x0_error, x0_errorAt)
  ) else (
    bd3 (f_X5_fail x0_error x0_errorAt 1 x0_at_1) fun (r15 : Int32) (x0_error_1 : Int32) (x0_errorAt_1 : Int32) =>
    zb r15 (some (r15, x0_at_1, x0_statement, x0_error_1, x0_errorAt_1))
  ))
noncomputable def f_X5_takeKeyword (x0_length : Int32) (x0_at : Int32) (x0_wordStart : Int32) (x0_wordLength : Int32) (x0_error : Int32) (x0_errorAt : Int32) (y1_text : Nat → Int32)  : Option (Int32 × Int32 × Int32 × Int32 × Int32 × Int32) :=
  bd6 (f_X5_takeWord x0_length x0_at x0_wordStart x0_wordLength x0_error x0_errorAt y1_text) fun (r1 : Int32) (x0_at_1 : Int32) (x0_wordStart_1 : Int32) (x0_wordLength_1 : Int32) (x0_error_1 : Int32) (x0_errorAt_1 : Int32) =>
  (if r1 = 0 then (
    some ((-1), x0_at_1, x0_wordStart_1, x0_wordLength_1, x0_error_1, x0_errorAt_1)
  ) else (
    bd1 (f_X5_wordIs x0_length x0_wordStart_1 x0_wordLength_1 y1_text 1) fun (r12 : Int32) =>
    bv (fun (t89 : Int32) => ((
      (if t89 = (-1) then (
        bd3 (f_X5_fail x0_error_1 x0_errorAt_1 1 x0_wordStart_1) fun (r101 : Int32) (x0_error_2 : Int32) (x0_errorAt_2 : Int32) =>
        some (t89, x0_at_1, x0_wordStart_1, x0_wordLength_1, x0_error_2, x0_errorAt_2)
      ) else (
        some (t89, x0_at_1, x0_wordStart_1, x0_wordLength_1, x0_error_1, x0_errorAt_1)
      ))
      ) : Option (Int32 × Int32 × Int32 × Int32 × Int32 × Int32))) fun j89 =>
    (if r12 = 0 then (
      bd1 (f_X5_wordIs x0_length x0_wordStart_1 x0_wordLength_1 y1_text 2) fun (r25 : Int32) =>
      (if r25 = 0 then (
        bd1 (f_X5_wordIs x0_length x0_wordStart_1 x0_wordLength_1 y1_text 3) fun (r38 : Int32) =>
        (if r38 = 0 then (
          bd1 (f_X5_wordIs x0_length x0_wordStart_1 x0_wordLength_1 y1_text 4) fun (r51 : Int32) =>
          (if r51 = 0 then (
            bd1 (f_X5_wordIs x0_length x0_wordStart_1 x0_wordLength_1 y1_text 5) fun (r64 : Int32) =>
            (if r64 = 0 then (
              bd1 (f_X5_wordIs x0_length x0_wordStart_1 x0_wordLength_1 y1_text 6) fun (r77 : Int32) =>
              (if r77 = 0 then (
                j89 (-1)
              ) else (
                j89 6
              ))
            ) else (
              j89 5
            ))
          ) else (
            j89 4
          ))
        ) else (
          j89 3
        ))
      ) else (
        j89 2
      ))
    ) else (
      j89 1
    ))
  ))
noncomputable def f_X5_takeCell (x0_length : Int32) (x0_at : Int32) (x0_numberStart : Int32) (x0_number : Int32) (x0_cell : Int32) (x0_error : Int32) (x0_errorAt : Int32) (y2_text : Nat → Int32) (x3_rows : Int32) (x3_columns : Int32)  : Option (Int32 × Int32 × Int32 × Int32 × Int32 × Int32 × Int32) :=
  bd6 (f_X5_takeNumber x0_length x0_at x0_numberStart x0_number x0_error x0_errorAt y2_text 0 (x3_rows - 1)) fun (r14 : Int32) (x0_at_1 : Int32) (x0_numberStart_1 : Int32) (x0_number_1 : Int32) (x0_error_1 : Int32) (x0_errorAt_1 : Int32) =>
  (if r14 = 0 then (
    some (0, x0_at_1, x0_numberStart_1, x0_number_1, x0_cell, x0_error_1, x0_errorAt_1)
  ) else (
    bd6 (f_X5_takeNumber x0_length x0_at_1 x0_numberStart_1 x0_number_1 x0_error_1 x0_errorAt_1 y2_text 0 (x3_columns - 1)) fun (r41 : Int32) (x0_at_2 : Int32) (x0_numberStart_2 : Int32) (x0_number_2 : Int32) (x0_error_2 : Int32) (x0_errorAt_2 : Int32) =>
    (if r41 = 0 then (
      some (0, x0_at_2, x0_numberStart_2, x0_number_2, x0_cell, x0_error_2, x0_errorAt_2)
    ) else (
      bv ((x0_number_1 * x3_columns) + x0_number_2) fun x0_cell_1 =>
      some (1, x0_at_2, x0_numberStart_2, x0_number_2, x0_cell_1, x0_error_2, x0_errorAt_2)
    ))
  ))
noncomputable def f_X5_readLand (x0_length : Int32) (x0_at : Int32) (x0_wordStart : Int32) (x0_numberStart : Int32) (x0_number : Int32) (x0_cell : Int32) (x0_error : Int32) (x0_errorAt : Int32) (y2_text : Nat → Int32) (x3_rows : Int32) (x3_columns : Int32) (x3_rivers : Int32) (x4_count : Int32) (y5_land : Nat → Int32)  : Option (Int32 × Int32 × Int32 × Int32 × Int32 × Int32 × Int32 × (Nat → Int32)) :=
  bv (fun (_ : Unit) => ((
    bd3 (f_X5_fail x0_error x0_errorAt 3 x0_wordStart) fun (r32 : Int32) (x0_error_1 : Int32) (x0_errorAt_1 : Int32) =>
    zb r32 (some (r32, x0_at, x0_numberStart, x0_number, x0_cell, x0_error_1, x0_errorAt_1, y5_land))
    ) : Option (Int32 × Int32 × Int32 × Int32 × Int32 × Int32 × Int32 × (Nat → Int32)))) fun j26 =>
  (if 0 < x4_count then (
    j26 ()
  ) else (
    (if x3_rivers ≤ 0 then (
      bd7 (f_X5_takeCell x0_length x0_at x0_numberStart x0_number x0_cell x0_error x0_errorAt y2_text x3_rows x3_columns) fun (r37 : Int32) (x0_at_1 : Int32) (x0_numberStart_1 : Int32) (x0_number_1 : Int32) (x0_cell_1 : Int32) (x0_error_2 : Int32) (x0_errorAt_2 : Int32) =>
      (if r37 = 0 then (
        some (0, x0_at_1, x0_numberStart_1, x0_number_1, x0_cell_1, x0_error_2, x0_errorAt_2, y5_land)
      ) else (
        bd6 (f_X5_takeNumber x0_length x0_at_1 x0_numberStart_1 x0_number_1 x0_error_2 x0_errorAt_2 y2_text x0_number_1 (x3_columns - 1)) fun (r67 : Int32) (x0_at_2 : Int32) (x0_numberStart_2 : Int32) (x0_number_2 : Int32) (x0_error_3 : Int32) (x0_errorAt_3 : Int32) =>
        (if r67 = 0 then (
          some (0, x0_at_2, x0_numberStart_2, x0_number_2, x0_cell_1, x0_error_3, x0_errorAt_3, y5_land)
        ) else (
          dv (if 1 < x3_columns then x3_columns else 1) <|
          bv ((x0_cell_1 - (x0_cell_1 - x0_cell_1 / (if 1 < x3_columns then x3_columns else 1) * (if 1 < x3_columns then x3_columns else 1))) + x0_number_2) fun v2 =>
          bv (fun (v3 : Int32) (y5_land_1 : Nat → Int32) => ((
            (if v2 < v3 then (
              some (.inr y5_land_1)
            ) else (
              bd1 (f_X1_setLand y5_land_1 v3 1) fun (y5_land_3 : Nat → Int32) =>
              bv (v3 + 1) fun v3_1 =>
              some (.inl (v3_1, y5_land_3))
            ))
            ) : Option ((Int32 × (Nat → Int32)) ⊕ ((Nat → Int32))))) fun l101 =>
          bd1 (lq2 l101 x0_cell_1 y5_land) fun (y5_land_2 : Nat → Int32) =>
          some (1, x0_at_2, x0_numberStart_2, x0_number_2, x0_cell_1, x0_error_3, x0_errorAt_3, y5_land_2)
        ))
      ))
    ) else (
      j26 ()
    ))
  ))
noncomputable def f_X5_takeName (x0_length : Int32) (x0_at : Int32) (x0_wordStart : Int32) (x0_wordLength : Int32) (x0_error : Int32) (x0_errorAt : Int32) (y1_text : Nat → Int32)  : Option (Int32 × Int32 × Int32 × Int32 × Int32 × Int32) :=
  bd6 (f_X5_takeWord x0_length x0_at x0_wordStart x0_wordLength x0_error x0_errorAt y1_text) fun (r1 : Int32) (x0_at_1 : Int32) (x0_wordStart_1 : Int32) (x0_wordLength_1 : Int32) (x0_error_1 : Int32) (x0_errorAt_1 : Int32) =>
  bv (fun (x0_error_2 : Int32) (x0_errorAt_2 : Int32) => ((
    some (0, x0_at_1, x0_wordStart_1, x0_wordLength_1, x0_error_2, x0_errorAt_2)
    ) : Option (Int32 × Int32 × Int32 × Int32 × Int32 × Int32))) fun j32 =>
  (if r1 = 0 then (
    j32 x0_error_1 x0_errorAt_1
  ) else (
    bv (fun (x0_error_3 : Int32) (x0_errorAt_3 : Int32) => ((
      some (1, x0_at_1, x0_wordStart_1, x0_wordLength_1, x0_error_3, x0_errorAt_3)
      ) : Option (Int32 × Int32 × Int32 × Int32 × Int32 × Int32))) fun j28 =>
    (if x0_wordLength_1 ≤ 8 then (
      j28 x0_error_1 x0_errorAt_1
    ) else (
      bd3 (f_X5_fail x0_error_1 x0_errorAt_1 1 x0_wordStart_1) fun (r22 : Int32) (x0_error_4 : Int32) (x0_errorAt_4 : Int32) =>
      (if r22 = 0 then (
        j32 x0_error_4 x0_errorAt_4
      ) else (
        j28 x0_error_4 x0_errorAt_4
      ))
    ))
  ))
noncomputable def f_X5_namedHarbour (x0_length : Int32) (x0_wordStart : Int32) (x0_wordLength : Int32) (y2_text : Nat → Int32) (x3_count : Int32) (y4_length : Nat → Int32) (y5_letters : Nat → Int32)  : Option (Int32) :=
  bv (fun (v1 : Int32) => ((
    (if x3_count ≤ v1 then (
      mr (some (-1))
    ) else (
      bd1 (f_X2_lengthOf x3_count y4_length v1) fun (r24 : Int32) =>
      bv (fun (t39 : Int32) => ((
        bv (fun (v2 : Int32) (v3 : Int32) => ((
          (if x0_wordLength ≤ v3 then (
            some (.inr v2)
          ) else (
            (if v2 = 0 then (
              some (.inr v2)
            ) else (
              bd1 (f_X2_letterOf x3_count y4_length y5_letters v1 v3) fun (r63 : Int32) =>
              bd1 (f_X5_signAt x0_length y2_text (x0_wordStart + v3)) fun (r73 : Int32) =>
              bv (fun (t84 : Int32) => ((
                bv (v3 + 1) fun v3_1 =>
                some (.inl (t84, v3_1))
                ) : Option ((Int32 × Int32) ⊕ (Int32)))) fun j84 =>
              (if r63 = r73 then (
                j84 1
              ) else (
                j84 0
              ))
            ))
          ))
          ) : Option ((Int32 × Int32) ⊕ (Int32)))) fun l42 =>
        bd1 (lq2 l42 t39 0) fun (v2_1 : Int32) =>
        (if v2_1 = 0 then (
          bv (v1 + 1) fun v1_1 =>
          some (.inl v1_1)
        ) else (
          mr (some v1)
        ))
        ) : Option ((Int32) ⊕ (Int32)))) fun j39 =>
      (if r24 = x0_wordLength then (
        j39 1
      ) else (
        j39 0
      ))
    ))
    ) : Option ((Int32) ⊕ (Int32)))) fun l2 =>
  lq1 l2 0
noncomputable def f_X5_readRed (x0_length : Int32) (x0_at : Int32) (x0_wordStart : Int32) (x0_wordLength : Int32) (x0_error : Int32) (x0_errorAt : Int32) (y2_text : Nat → Int32) (x3_reds : Int32) (p1 : Int32) : Option (Int32 × Int32 × Int32 × Int32 × Int32 × Int32 × Int32) :=
  bd2 (f_X5_nextSign x0_length x0_at y2_text) fun (r1 : Int32) (x0_at_1 : Int32) =>
  bd1 (f_X5_isLetter r1) fun (r4 : Int32) =>
  (if r4 = 0 then (
    some (1, x0_at_1, x0_wordStart, x0_wordLength, x0_error, x0_errorAt, x3_reds)
  ) else (
    bd6 (f_X5_takeWord x0_length x0_at_1 x0_wordStart x0_wordLength x0_error x0_errorAt y2_text) fun (r13 : Int32) (x0_at_2 : Int32) (x0_wordStart_1 : Int32) (x0_wordLength_1 : Int32) (x0_error_1 : Int32) (x0_errorAt_1 : Int32) =>
    bd1 (f_X5_wordIs x0_length x0_wordStart_1 x0_wordLength_1 y2_text 7) fun (r20 : Int32) =>
    (if r20 = 0 then (
      bd3 (f_X5_fail x0_error_1 x0_errorAt_1 1 x0_wordStart_1) fun (r32 : Int32) (x0_error_2 : Int32) (x0_errorAt_2 : Int32) =>
      zb r32 (some (r32, x0_at_2, x0_wordStart_1, x0_wordLength_1, x0_error_2, x0_errorAt_2, x3_reds))
    ) else (
      bd1 (f_X2_redsIf x3_reds p1 1) fun (r52 : Int32) =>
      some (1, x0_at_2, x0_wordStart_1, x0_wordLength_1, x0_error_1, x0_errorAt_1, r52)
    ))
  ))
noncomputable def f_X5_readHarbour (x0_length : Int32) (x0_at : Int32) (x0_wordStart : Int32) (x0_wordLength : Int32) (x0_numberStart : Int32) (x0_number : Int32) (x0_cell : Int32) (x0_error : Int32) (x0_errorAt : Int32) (y2_text : Nat → Int32) (x3_rows : Int32) (x3_columns : Int32) (x4_count : Int32) (x4_reds : Int32) (y5_namesOn : Nat → Int32) (y6_land : Nat → Int32) (y7_riverOf : Nat → Int32) (y8_direction : Nat → Int32) (y9_home : Nat → Int32) (y10_length : Nat → Int32) (y11_letters : Nat → Int32)  : Option (Int32 × Int32 × Int32 × Int32 × Int32 × Int32 × Int32 × Int32 × Int32 × Int32 × Int32 × (Nat → Int32) × (Nat → Int32) × (Nat → Int32) × (Nat → Int32)) :=
  (if x4_count < 8 then (
    bd6 (f_X5_takeName x0_length x0_at x0_wordStart x0_wordLength x0_error x0_errorAt y2_text) fun (r26 : Int32) (x0_at_1 : Int32) (x0_wordStart_1 : Int32) (x0_wordLength_1 : Int32) (x0_error_1 : Int32) (x0_errorAt_1 : Int32) =>
    (if r26 = 0 then (
      some (0, x0_at_1, x0_wordStart_1, x0_wordLength_1, x0_numberStart, x0_number, x0_cell, x0_error_1, x0_errorAt_1, x4_count, x4_reds, y8_direction, y9_home, y10_length, y11_letters)
    ) else (
      bd1 (f_X5_namedHarbour x0_length x0_wordStart_1 x0_wordLength_1 y2_text x4_count y10_length y11_letters) fun (r35 : Int32) =>
      (if r35 = (-1) then (
        bd7 (f_X5_takeCell x0_length x0_at_1 x0_numberStart x0_number x0_cell x0_error_1 x0_errorAt_1 y2_text x3_rows x3_columns) fun (r63 : Int32) (x0_at_2 : Int32) (x0_numberStart_1 : Int32) (x0_number_1 : Int32) (x0_cell_1 : Int32) (x0_error_2 : Int32) (x0_errorAt_2 : Int32) =>
        (if r63 = 0 then (
          some (0, x0_at_2, x0_wordStart_1, x0_wordLength_1, x0_numberStart_1, x0_number_1, x0_cell_1, x0_error_2, x0_errorAt_2, x4_count, x4_reds, y8_direction, y9_home, y10_length, y11_letters)
        ) else (
          bd1 (f_X6_isOpen x4_count y6_land y7_riverOf y9_home x0_cell_1) fun (r79 : Int32) =>
          bv (fun (_ : Unit) => ((
            bd3 (f_X5_fail x0_error_2 x0_errorAt_2 3 x0_numberStart_1) fun (r123 : Int32) (x0_error_3 : Int32) (x0_errorAt_3 : Int32) =>
            zb r123 (some (r123, x0_at_2, x0_wordStart_1, x0_wordLength_1, x0_numberStart_1, x0_number_1, x0_cell_1, x0_error_3, x0_errorAt_3, x4_count, x4_reds, y8_direction, y9_home, y10_length, y11_letters))
            ) : Option (Int32 × Int32 × Int32 × Int32 × Int32 × Int32 × Int32 × Int32 × Int32 × Int32 × Int32 × (Nat → Int32) × (Nat → Int32) × (Nat → Int32) × (Nat → Int32)))) fun j117 =>
          (if r79 = 0 then (
            j117 ()
          ) else (
            bd1 (f_X6_namesIn y5_namesOn x0_cell_1) fun (r93 : Int32) =>
            (if r93 = 0 then (
              bd1 (f_X1_hasSeaBeside x3_rows x3_columns y6_land x0_cell_1 (-1)) fun (r111 : Int32) =>
              (if r111 = 0 then (
                j117 ()
              ) else (
                bd5 (f_X2_addHarbour x4_count y8_direction y9_home y10_length y11_letters y2_text x0_cell_1 x0_wordStart_1 x0_wordLength_1) fun (x4_count_1 : Int32) (y8_direction_1 : Nat → Int32) (y9_home_1 : Nat → Int32) (y10_length_1 : Nat → Int32) (y11_letters_1 : Nat → Int32) =>
                bd7 (f_X5_readRed x0_length x0_at_2 x0_wordStart_1 x0_wordLength_1 x0_error_2 x0_errorAt_2 y2_text x4_reds (x4_count_1 - 1)) fun (r160 : Int32) (x0_at_3 : Int32) (x0_wordStart_2 : Int32) (x0_wordLength_2 : Int32) (x0_error_4 : Int32) (x0_errorAt_4 : Int32) (x4_reds_1 : Int32) =>
                zb r160 (some (r160, x0_at_3, x0_wordStart_2, x0_wordLength_2, x0_numberStart_1, x0_number_1, x0_cell_1, x0_error_4, x0_errorAt_4, x4_count_1, x4_reds_1, y8_direction_1, y9_home_1, y10_length_1, y11_letters_1))
              ))
            ) else (
              j117 ()
            ))
          ))
        ))
      ) else (
        bd3 (f_X5_fail x0_error_1 x0_errorAt_1 3 x0_wordStart_1) fun (r48 : Int32) (x0_error_5 : Int32) (x0_errorAt_5 : Int32) =>
        zb r48 (some (r48, x0_at_1, x0_wordStart_1, x0_wordLength_1, x0_numberStart, x0_number, x0_cell, x0_error_5, x0_errorAt_5, x4_count, x4_reds, y8_direction, y9_home, y10_length, y11_letters))
      ))
    ))
  ) else (
    bd3 (f_X5_fail x0_error x0_errorAt 3 x0_wordStart) fun (r21 : Int32) (x0_error_6 : Int32) (x0_errorAt_6 : Int32) =>
    zb r21 (some (r21, x0_at, x0_wordStart, x0_wordLength, x0_numberStart, x0_number, x0_cell, x0_error_6, x0_errorAt_6, x4_count, x4_reds, y8_direction, y9_home, y10_length, y11_letters))
  ))
noncomputable def f_X5_readRiver (x0_length : Int32) (x0_at : Int32) (x0_wordStart : Int32) (x0_numberStart : Int32) (x0_number : Int32) (x0_cell : Int32) (x0_error : Int32) (x0_errorAt : Int32) (x2_length : Int32) (y3_text : Nat → Int32) (x4_rows : Int32) (x4_columns : Int32) (x4_rivers : Int32) (x5_count : Int32) (y6_namesOn : Nat → Int32) (y7_costs : Nat → Int32) (y8_sums : Nat → Int32) (y9_way : Nat → Int32) (y10_land : Nat → Int32) (y11_riverOf : Nat → Int32) (y12_riverPlace : Nat → Int32) (y13_direction : Nat → Int32) (y14_home : Nat → Int32) (y15_length : Nat → Int32)  : Option (Int32 × Int32 × Int32 × Int32 × Int32 × Int32 × Int32 × Int32 × Int32 × (Nat → Int32) × (Nat → Int32) × (Nat → Int32) × (Nat → Int32) × (Nat → Int32) × (Nat → Int32) × (Nat → Int32)) :=
  (if x4_rivers < 8 then (
    bd7 (f_X5_takeCell x0_length x0_at x0_numberStart x0_number x0_cell x0_error x0_errorAt y3_text x4_rows x4_columns) fun (r26 : Int32) (x0_at_1 : Int32) (x0_numberStart_1 : Int32) (x0_number_1 : Int32) (x0_cell_1 : Int32) (x0_error_1 : Int32) (x0_errorAt_1 : Int32) =>
    (if r26 = 0 then (
      some (0, x0_at_1, x0_numberStart_1, x0_number_1, x0_cell_1, x0_error_1, x0_errorAt_1, x2_length, x4_rivers, y6_namesOn, y7_costs, y8_sums, y9_way, y11_riverOf, y12_riverPlace, y13_direction)
    ) else (
      bd2 (f_X7_survey y7_costs y8_sums x4_rows x4_columns x5_count y6_namesOn y10_land y11_riverOf y14_home) fun (y7_costs_1 : Nat → Int32) (y8_sums_1 : Nat → Int32) =>
      bd3 (f_X7_trace x2_length y7_costs_1 y8_sums_1 y9_way x4_rows x4_columns x0_cell_1) fun (r60 : Int32) (x2_length_1 : Int32) (y9_way_1 : Nat → Int32) =>
      (if r60 = 0 then (
        bd3 (f_X5_fail x0_error_1 x0_errorAt_1 3 x0_numberStart_1) fun (r72 : Int32) (x0_error_2 : Int32) (x0_errorAt_2 : Int32) =>
        zb r72 (some (r72, x0_at_1, x0_numberStart_1, x0_number_1, x0_cell_1, x0_error_2, x0_errorAt_2, x2_length_1, x4_rivers, y6_namesOn, y7_costs_1, y8_sums_1, y9_way_1, y11_riverOf, y12_riverPlace, y13_direction))
      ) else (
        bd1 (f_X7_namesOnWay x2_length_1 y9_way_1 y6_namesOn) fun (r88 : Int32) =>
        bd2 (f_X6_takeNames x4_rows x4_columns x5_count y6_namesOn y13_direction y14_home y15_length r88) fun (y6_namesOn_1 : Nat → Int32) (y13_direction_1 : Nat → Int32) =>
        bd3 (f_X1_layRiver x4_rivers y11_riverOf y12_riverPlace y9_way_1 x2_length_1) fun (x4_rivers_1 : Int32) (y11_riverOf_1 : Nat → Int32) (y12_riverPlace_1 : Nat → Int32) =>
        some (1, x0_at_1, x0_numberStart_1, x0_number_1, x0_cell_1, x0_error_1, x0_errorAt_1, x2_length_1, x4_rivers_1, y6_namesOn_1, y7_costs_1, y8_sums_1, y9_way_1, y11_riverOf_1, y12_riverPlace_1, y13_direction_1)
      ))
    ))
  ) else (
    bd3 (f_X5_fail x0_error x0_errorAt 3 x0_wordStart) fun (r21 : Int32) (x0_error_3 : Int32) (x0_errorAt_3 : Int32) =>
    zb r21 (some (r21, x0_at, x0_numberStart, x0_number, x0_cell, x0_error_3, x0_errorAt_3, x2_length, x4_rivers, y6_namesOn, y7_costs, y8_sums, y9_way, y11_riverOf, y12_riverPlace, y13_direction))
  ))
noncomputable def f_X5_directionWord (x0_length : Int32) (x0_wordStart : Int32) (x0_wordLength : Int32) (y1_text : Nat → Int32)  : Option (Int32) :=
  bd1 (f_X5_wordIs x0_length x0_wordStart x0_wordLength y1_text 8) fun (r3 : Int32) =>
  (if r3 = 0 then (
    bd1 (f_X5_wordIs x0_length x0_wordStart x0_wordLength y1_text 9) fun (r16 : Int32) =>
    (if r16 = 0 then (
      bd1 (f_X5_wordIs x0_length x0_wordStart x0_wordLength y1_text 10) fun (r29 : Int32) =>
      (if r29 = 0 then (
        bd1 (f_X5_wordIs x0_length x0_wordStart x0_wordLength y1_text 11) fun (r42 : Int32) =>
        (if r42 = 0 then (
          some (-1)
        ) else (
          some 3
        ))
      ) else (
        some 2
      ))
    ) else (
      some 1
    ))
  ) else (
    some 0
  ))
noncomputable def f_X5_readPlace (x0_length : Int32) (x0_at : Int32) (x0_wordStart : Int32) (x0_wordLength : Int32) (x0_error : Int32) (x0_errorAt : Int32) (y2_text : Nat → Int32) (x3_rows : Int32) (x3_columns : Int32) (x4_count : Int32) (x4_reds : Int32) (y5_letterOn : Nat → Int32) (y6_namesOn : Nat → Int32) (y7_land : Nat → Int32) (y8_riverOf : Nat → Int32) (y9_direction : Nat → Int32) (y10_home : Nat → Int32) (y11_length : Nat → Int32) (y12_letters : Nat → Int32)  : Option (Int32 × Int32 × Int32 × Int32 × Int32 × Int32 × (Nat → Int32) × (Nat → Int32) × (Nat → Int32)) :=
  bd6 (f_X5_takeName x0_length x0_at x0_wordStart x0_wordLength x0_error x0_errorAt y2_text) fun (r1 : Int32) (x0_at_1 : Int32) (x0_wordStart_1 : Int32) (x0_wordLength_1 : Int32) (x0_error_1 : Int32) (x0_errorAt_1 : Int32) =>
  (if r1 = 0 then (
    some (0, x0_at_1, x0_wordStart_1, x0_wordLength_1, x0_error_1, x0_errorAt_1, y5_letterOn, y6_namesOn, y9_direction)
  ) else (
    bd1 (f_X5_namedHarbour x0_length x0_wordStart_1 x0_wordLength_1 y2_text x4_count y11_length y12_letters) fun (r10 : Int32) =>
    (if r10 = (-1) then (
      bd3 (f_X5_fail x0_error_1 x0_errorAt_1 4 x0_wordStart_1) fun (r25 : Int32) (x0_error_5 : Int32) (x0_errorAt_5 : Int32) =>
      zb r25 (some (r25, x0_at_1, x0_wordStart_1, x0_wordLength_1, x0_error_5, x0_errorAt_5, y5_letterOn, y6_namesOn, y9_direction))
    ) else (
      bd6 (f_X5_takeWord x0_length x0_at_1 x0_wordStart_1 x0_wordLength_1 x0_error_1 x0_errorAt_1 y2_text) fun (r30 : Int32) (x0_at_2 : Int32) (x0_wordStart_2 : Int32) (x0_wordLength_2 : Int32) (x0_error_2 : Int32) (x0_errorAt_2 : Int32) =>
      (if r30 = 0 then (
        some (0, x0_at_2, x0_wordStart_2, x0_wordLength_2, x0_error_2, x0_errorAt_2, y5_letterOn, y6_namesOn, y9_direction)
      ) else (
        bd1 (f_X5_directionWord x0_length x0_wordStart_2 x0_wordLength_2 y2_text) fun (r39 : Int32) =>
        (if r39 = (-1) then (
          bd3 (f_X5_fail x0_error_2 x0_errorAt_2 1 x0_wordStart_2) fun (r54 : Int32) (x0_error_4 : Int32) (x0_errorAt_4 : Int32) =>
          zb r54 (some (r54, x0_at_2, x0_wordStart_2, x0_wordLength_2, x0_error_4, x0_errorAt_4, y5_letterOn, y6_namesOn, y9_direction))
        ) else (
          bd1 (f_X6_reasonAgainst x3_rows x3_columns x4_count x4_reds y5_letterOn y6_namesOn y7_land y8_riverOf y10_home y11_length y12_letters r10 r39) fun (r64 : Int32) =>
          (if r64 = 0 then (
            bd3 (f_X6_putName x3_rows x3_columns x4_count y5_letterOn y6_namesOn y9_direction y10_home y11_length y12_letters r10 r39) fun (y5_letterOn_1 : Nat → Int32) (y6_namesOn_1 : Nat → Int32) (y9_direction_1 : Nat → Int32) =>
            some (1, x0_at_2, x0_wordStart_2, x0_wordLength_2, x0_error_2, x0_errorAt_2, y5_letterOn_1, y6_namesOn_1, y9_direction_1)
          ) else (
            bd3 (f_X5_fail x0_error_2 x0_errorAt_2 3 x0_wordStart_2) fun (r76 : Int32) (x0_error_3 : Int32) (x0_errorAt_3 : Int32) =>
            zb r76 (some (r76, x0_at_2, x0_wordStart_2, x0_wordLength_2, x0_error_3, x0_errorAt_3, y5_letterOn, y6_namesOn, y9_direction))
          ))
        ))
      ))
    ))
  ))
noncomputable def f_X5_readVoyage (x0_length : Int32) (x0_at : Int32) (x0_voyageTold : Int32) (x0_wordStart : Int32) (x0_wordLength : Int32) (x0_error : Int32) (x0_errorAt : Int32) (y2_text : Nat → Int32) (x3_count : Int32) (x4_count : Int32) (y5_length : Nat → Int32) (y6_letters : Nat → Int32) (y7_stops : Nat → Int32)  : Option (Int32 × Int32 × Int32 × Int32 × Int32 × Int32 × Int32 × Int32 × (Nat → Int32)) :=
  (if x0_voyageTold = 0 then (
    bv (fun (v1 : Int32) (x0_at_1 : Int32) (x0_wordStart_1 : Int32) (x0_wordLength_1 : Int32) (x0_error_1 : Int32) (x0_errorAt_1 : Int32) (x4_count_1 : Int32) (y7_stops_1 : Nat → Int32) => ((
      bv (fun (x0_at_2 : Int32) => ((
        bd6 (f_X5_takeName x0_length x0_at_2 x0_wordStart_1 x0_wordLength_1 x0_error_1 x0_errorAt_1 y2_text) fun (r45 : Int32) (x0_at_3 : Int32) (x0_wordStart_2 : Int32) (x0_wordLength_2 : Int32) (x0_error_2 : Int32) (x0_errorAt_2 : Int32) =>
        (if r45 = 0 then (
          mr (some (0, x0_at_3, 1, x0_wordStart_2, x0_wordLength_2, x0_error_2, x0_errorAt_2, x4_count_1, y7_stops_1))
        ) else (
          (if v1 = 16 then (
            mr (bd3 (f_X5_fail x0_error_2 x0_errorAt_2 3 x0_wordStart_2) fun (r65 : Int32) (x0_error_4 : Int32) (x0_errorAt_4 : Int32) =>
            zb r65 (some (r65, x0_at_3, 1, x0_wordStart_2, x0_wordLength_2, x0_error_4, x0_errorAt_4, x4_count_1, y7_stops_1)))
          ) else (
            bd1 (f_X5_namedHarbour x0_length x0_wordStart_2 x0_wordLength_2 y2_text x3_count y5_length y6_letters) fun (r70 : Int32) =>
            (if r70 = (-1) then (
              mr (bd3 (f_X5_fail x0_error_2 x0_errorAt_2 4 x0_wordStart_2) fun (r85 : Int32) (x0_error_3 : Int32) (x0_errorAt_3 : Int32) =>
              zb r85 (some (r85, x0_at_3, 1, x0_wordStart_2, x0_wordLength_2, x0_error_3, x0_errorAt_3, x4_count_1, y7_stops_1)))
            ) else (
              bd2 (f_X4_addStop x4_count_1 y7_stops_1 r70) fun (x4_count_2 : Int32) (y7_stops_2 : Nat → Int32) =>
              bv (v1 + 1) fun v1_1 =>
              some (.inl (v1_1, x0_at_3, x0_wordStart_2, x0_wordLength_2, x0_error_2, x0_errorAt_2, x4_count_2, y7_stops_2))
            ))
          ))
        ))
        ) : Option ((Int32 × Int32 × Int32 × Int32 × Int32 × Int32 × Int32 × (Nat → Int32)) ⊕ (Int32 × Int32 × Int32 × Int32 × Int32 × Int32 × Int32 × Int32 × (Nat → Int32))))) fun j44 =>
      (if v1 = 0 then (
        j44 x0_at_1
      ) else (
        bd2 (f_X5_nextSign x0_length x0_at_1 y2_text) fun (r29 : Int32) (x0_at_4 : Int32) =>
        bd1 (f_X5_isLetter r29) fun (r32 : Int32) =>
        (if r32 = 0 then (
          mr (some (1, x0_at_4, 1, x0_wordStart_1, x0_wordLength_1, x0_error_1, x0_errorAt_1, x4_count_1, y7_stops_1))
        ) else (
          (if 16 < v1 then (
            mr (some (1, x0_at_4, 1, x0_wordStart_1, x0_wordLength_1, x0_error_1, x0_errorAt_1, x4_count_1, y7_stops_1))
          ) else (
            j44 x0_at_4
          ))
        ))
      ))
      ) : Option ((Int32 × Int32 × Int32 × Int32 × Int32 × Int32 × Int32 × (Nat → Int32)) ⊕ (Int32 × Int32 × Int32 × Int32 × Int32 × Int32 × Int32 × Int32 × (Nat → Int32))))) fun l24 =>
    lq8 l24 0 x0_at x0_wordStart x0_wordLength x0_error x0_errorAt x4_count y7_stops
  ) else (
    bd3 (f_X5_fail x0_error x0_errorAt 3 x0_wordStart) fun (r13 : Int32) (x0_error_5 : Int32) (x0_errorAt_5 : Int32) =>
    zb r13 (some (r13, x0_at, x0_voyageTold, x0_wordStart, x0_wordLength, x0_error_5, x0_errorAt_5, x4_count, y7_stops))
  ))
noncomputable def f_X5_readTurn (x0_length : Int32) (x0_at : Int32) (x0_numberStart : Int32) (x0_number : Int32) (x0_error : Int32) (x0_errorAt : Int32) (y2_text : Nat → Int32) (x3_turn : Int32)  : Option (Int32 × Int32 × Int32 × Int32 × Int32 × Int32 × Int32) :=
  bd6 (f_X5_takeNumber x0_length x0_at x0_numberStart x0_number x0_error x0_errorAt y2_text 0 3) fun (r3 : Int32) (x0_at_1 : Int32) (x0_numberStart_1 : Int32) (x0_number_1 : Int32) (x0_error_1 : Int32) (x0_errorAt_1 : Int32) =>
  (if r3 = 0 then (
    some (0, x0_at_1, x0_numberStart_1, x0_number_1, x0_error_1, x0_errorAt_1, x3_turn)
  ) else (
    some (1, x0_at_1, x0_numberStart_1, x0_number_1, x0_error_1, x0_errorAt_1, x0_number_1)
  ))
