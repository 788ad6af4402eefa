noncomputable def f_X9_tries : Nat → Int32 → Int32 → Int32 → (Nat → Int32) → (Nat → Int32) → (Nat → Int32) → (Nat → Int32) → (Nat → Int32) → (Nat → Int32) → Int32 → Int32 → Int32 → Option (Int32 × Int32 × Int32 × (Nat → Int32) × (Nat → Int32))
  | 0, _, _, _, _, _, _, _, _, _, _, _, _ => none
  | d + 1, x0_bestReds, x0_bestPlaced, x0_bestTurning, y1_against, y2_best, y3_may, y4_redThen, y5_s, y6_ways, p1, p2, p3 =>
    ar 2 552 <|
    (if p1 = (y5_s (2 : Int32).toNatClampNeg) then (
      bd4 (f_X9_weighs x0_bestReds x0_bestPlaced x0_bestTurning y2_best y5_s y6_ways p2 p3) fun (x0_bestReds_6 : Int32) (x0_bestPlaced_6 : Int32) (x0_bestTurning_6 : Int32) (y2_best_6 : Nat → Int32) =>
      some (x0_bestReds_6, x0_bestPlaced_6, x0_bestTurning_6, y2_best_6, y6_ways)
    ) else (
      bv (fun (v4 : Int32) (x0_bestReds_1 : Int32) (x0_bestPlaced_1 : Int32) (x0_bestTurning_1 : Int32) (y2_best_1 : Nat → Int32) (y6_ways_1 : Nat → Int32) => ((
        (if 4 ≤ v4 then (
          some (.inr (x0_bestReds_1, x0_bestPlaced_1, x0_bestTurning_1, y2_best_1, y6_ways_1))
        ) else (
          bd1 (f_X9_canLie y1_against y3_may y6_ways_1 p1 v4) fun (r30 : Int32) =>
          bv (fun (x0_bestReds_3 : Int32) (x0_bestPlaced_3 : Int32) (x0_bestTurning_3 : Int32) (y2_best_3 : Nat → Int32) (y6_ways_3 : Nat → Int32) => ((
            bv (v4 + 1) fun v4_1 =>
            some (.inl (v4_1, x0_bestReds_3, x0_bestPlaced_3, x0_bestTurning_3, y2_best_3, y6_ways_3))
            ) : Option ((Int32 × Int32 × Int32 × Int32 × (Nat → Int32) × (Nat → Int32)) ⊕ (Int32 × Int32 × Int32 × (Nat → Int32) × (Nat → Int32))))) fun j70 =>
          (if r30 = 0 then (
            j70 x0_bestReds_1 x0_bestPlaced_1 x0_bestTurning_1 y2_best_1 y6_ways_1
          ) else (
            ar p1 8 <| bv (upd y6_ways_1 p1.toNatClampNeg v4) fun y6_ways_4 =>
            ar p1 8 <|
            bv (fun (t66 : Int32) => ((
              bd5 (f_X9_tries d x0_bestReds_1 x0_bestPlaced_1 x0_bestTurning_1 y1_against y2_best_1 y3_may y4_redThen y5_s y6_ways_4 (p1 + 1) (p2 + 1) (p3 + t66)) fun (x0_bestReds_4 : Int32) (x0_bestPlaced_4 : Int32) (x0_bestTurning_4 : Int32) (y2_best_4 : Nat → Int32) (y6_ways_5 : Nat → Int32) =>
              j70 x0_bestReds_4 x0_bestPlaced_4 x0_bestTurning_4 y2_best_4 y6_ways_5
              ) : Option ((Int32 × Int32 × Int32 × Int32 × (Nat → Int32) × (Nat → Int32)) ⊕ (Int32 × Int32 × Int32 × (Nat → Int32) × (Nat → Int32))))) fun j66 =>
            (if (y4_redThen p1.toNatClampNeg) = 0 then (
              j66 0
            ) else (
              j66 1
            ))
          ))
        ))
        ) : Option ((Int32 × Int32 × Int32 × Int32 × (Nat → Int32) × (Nat → Int32)) ⊕ (Int32 × Int32 × Int32 × (Nat → Int32) × (Nat → Int32))))) fun l20 =>
      bd5 (lq6 l20 0 x0_bestReds x0_bestPlaced x0_bestTurning y2_best y6_ways) fun (x0_bestReds_2 : Int32) (x0_bestPlaced_2 : Int32) (x0_bestTurning_2 : Int32) (y2_best_2 : Nat → Int32) (y6_ways_2 : Nat → Int32) =>
      ar p1 8 <| bv (upd y6_ways_2 p1.toNatClampNeg (-1)) fun y6_ways_6 =>
      bd5 (f_X9_tries d x0_bestReds_2 x0_bestPlaced_2 x0_bestTurning_2 y1_against y2_best_2 y3_may y4_redThen y5_s y6_ways_6 (p1 + 1) p2 p3) fun (x0_bestReds_5 : Int32) (x0_bestPlaced_5 : Int32) (x0_bestTurning_5 : Int32) (y2_best_5 : Nat → Int32) (y6_ways_7 : Nat → Int32) =>
      some (x0_bestReds_5, x0_bestPlaced_5, x0_bestTurning_5, y2_best_5, y6_ways_7)
    ))
noncomputable def f_X9_arranges (x0_bestReds : Int32) (x0_bestPlaced : Int32) (x0_bestTurning : Int32) (y1_against : Nat → Int32) (y2_best : Nat → Int32) (y3_may : Nat → Int32) (y4_redThen : Nat → Int32) (y5_s : Nat → Int32) (y6_ways : Nat → Int32) (p1 : Int32) : Option (Int32 × Int32 × Int32 × (Nat → Int32) × (Nat → Int32) × (Nat → Int32) × (Nat → Int32)) :=
  bd2 (f_X9_laysPairs y1_against y3_may y4_redThen y5_s p1) fun (y1_against_1 : Nat → Int32) (y3_may_1 : Nat → Int32) =>
  bd5 (f_X9_tries 10 (-1) (-1) 1000000 y1_against_1 y2_best y3_may_1 y4_redThen y5_s y6_ways 0 0 0) fun (x0_bestReds_1 : Int32) (x0_bestPlaced_1 : Int32) (x0_bestTurning_1 : Int32) (y2_best_1 : Nat → Int32) (y6_ways_1 : Nat → Int32) =>
  some (x0_bestReds_1, x0_bestPlaced_1, x0_bestTurning_1, y1_against_1, y2_best_1, y3_may_1, y6_ways_1)
noncomputable def f_X9_arrangesNow (x0_bestReds : Int32) (x0_bestPlaced : Int32) (x0_bestTurning : Int32) (y1_against : Nat → Int32) (y2_best : Nat → Int32) (y3_may : Nat → Int32) (y4_redThen : Nat → Int32) (y5_s : Nat → Int32) (y6_ways : Nat → Int32)  : Option (Int32 × Int32 × Int32 × (Nat → Int32) × (Nat → Int32) × (Nat → Int32) × (Nat → Int32) × (Nat → Int32)) :=
  bv (fun (v1 : Int32) (y4_redThen_1 : Nat → Int32) => ((
    ar 2 552 <|
    (if (y5_s (2 : Int32).toNatClampNeg) ≤ v1 then (
      some (.inr y4_redThen_1)
    ) else (
      bd1 (f_X9_isRed y5_s v1) fun (r19 : Int32) =>
      ar v1 8 <| bv (upd y4_redThen_1 v1.toNatClampNeg (vp_nar .boolean r19)) fun y4_redThen_3 =>
      bv (v1 + 1) fun v1_1 =>
      some (.inl (v1_1, y4_redThen_3))
    ))
    ) : Option ((Int32 × (Nat → Int32)) ⊕ ((Nat → Int32))))) fun l2 =>
  bd1 (lq2 l2 0 y4_redThen) fun (y4_redThen_2 : Nat → Int32) =>
  bd7 (f_X9_arranges x0_bestReds x0_bestPlaced x0_bestTurning y1_against y2_best y3_may y4_redThen_2 y5_s y6_ways (-1)) fun (x0_bestReds_1 : Int32) (x0_bestPlaced_1 : Int32) (x0_bestTurning_1 : Int32) (y1_against_1 : Nat → Int32) (y2_best_1 : Nat → Int32) (y3_may_1 : Nat → Int32) (y6_ways_1 : Nat → Int32) =>
  some (x0_bestReds_1, x0_bestPlaced_1, x0_bestTurning_1, y1_against_1, y2_best_1, y3_may_1, y4_redThen_2, y6_ways_1)
noncomputable def f_X9_arrangesIf (x0_bestReds : Int32) (x0_bestPlaced : Int32) (x0_bestTurning : Int32) (y1_against : Nat → Int32) (y2_best : Nat → Int32) (y3_may : Nat → Int32) (y4_redThen : Nat → Int32) (y5_s : Nat → Int32) (y6_ways : Nat → Int32) (p1 : Int32) (p2 : Int32) : Option (Int32 × Int32 × Int32 × (Nat → Int32) × (Nat → Int32) × (Nat → Int32) × (Nat → Int32) × (Nat → Int32)) :=
  bv (fun (v3 : Int32) (y4_redThen_1 : Nat → Int32) => ((
    ar 2 552 <|
    (if (y5_s (2 : Int32).toNatClampNeg) ≤ v3 then (
      some (.inr y4_redThen_1)
    ) else (
      bv (fun (t31 : Int32) => ((
        ar v3 8 <| bv (upd y4_redThen_1 v3.toNatClampNeg (vp_nar .boolean t31)) fun y4_redThen_3 =>
        bv (v3 + 1) fun v3_1 =>
        some (.inl (v3_1, y4_redThen_3))
        ) : Option ((Int32 × (Nat → Int32)) ⊕ ((Nat → Int32))))) fun j31 =>
      (if v3 = p1 then (
        j31 p2
      ) else (
        bd1 (f_X9_isRed y5_s v3) fun (r28 : Int32) =>
        j31 r28
      ))
    ))
    ) : Option ((Int32 × (Nat → Int32)) ⊕ ((Nat → Int32))))) fun l2 =>
  bd1 (lq2 l2 0 y4_redThen) fun (y4_redThen_2 : Nat → Int32) =>
  bd7 (f_X9_arranges x0_bestReds x0_bestPlaced x0_bestTurning y1_against y2_best y3_may y4_redThen_2 y5_s y6_ways (-1)) fun (x0_bestReds_1 : Int32) (x0_bestPlaced_1 : Int32) (x0_bestTurning_1 : Int32) (y1_against_1 : Nat → Int32) (y2_best_1 : Nat → Int32) (y3_may_1 : Nat → Int32) (y6_ways_1 : Nat → Int32) =>
  some (x0_bestReds_1, x0_bestPlaced_1, x0_bestTurning_1, y1_against_1, y2_best_1, y3_may_1, y4_redThen_2, y6_ways_1)
noncomputable def f_X9_bytesIn  (p0 : Int64) : Option (Int32) :=
  bv (fun (v2 : Int32) (v3 : Int32) => ((
    (if v3 < 0 then (
      some (.inr v2)
    ) else (
      bv (fun (t27 : Int32) => ((
        bv (v2 + t27) fun v2_2 =>
        bv (v3 + (-8)) fun v3_1 =>
        some (.inl (v2_2, v3_1))
        ) : Option ((Int32 × Int32) ⊕ (Int32)))) fun j27 =>
      (if (lg_cmp ((lshrv p0 v3) &&& 255) 0) = 0 then (
        j27 0
      ) else (
        j27 1
      ))
    ))
    ) : Option ((Int32 × Int32) ⊕ (Int32)))) fun l5 =>
  bd1 (lq2 l5 0 56) fun (v2_1 : Int32) =>
  some v2_1
noncomputable def f_X9_append (x0_thrown : Int32) (x0_length : Int32) (y1_text : Nat → Int32) (p1 : Int64) : Option (Int32 × Int32 × Int32 × (Nat → Int32)) :=
  bd1 (f_X9_bytesIn p1) fun (r10 : Int32) =>
  (if (x0_length + r10) ≤ 500 then (
    bv (fun (v3 : Int32) (x0_length_1 : Int32) (y1_text_1 : Nat → Int32) => ((
      (if v3 < 0 then (
        some (.inr (x0_length_1, y1_text_1))
      ) else (
        bv ((((lshrv p1 v3) &&& 255) : Int64).toInt32) fun v4 =>
        bv (fun (x0_length_3 : Int32) (y1_text_3 : Nat → Int32) => ((
          bv (v3 + (-8)) fun v3_1 =>
          some (.inl (v3_1, x0_length_3, y1_text_3))
          ) : Option ((Int32 × Int32 × (Nat → Int32)) ⊕ (Int32 × (Nat → Int32))))) fun j66 =>
        (if v4 = 0 then (
          j66 x0_length_1 y1_text_1
        ) else (
          ar x0_length_1 500 <| bv (upd y1_text_1 x0_length_1.toNatClampNeg v4) fun y1_text_4 =>
          bv (x0_length_1 + 1) fun x0_length_4 =>
          j66 x0_length_4 y1_text_4
        ))
      ))
      ) : Option ((Int32 × Int32 × (Nat → Int32)) ⊕ (Int32 × (Nat → Int32))))) fun l26 =>
    bd2 (lq3 l26 56 x0_length y1_text) fun (x0_length_2 : Int32) (y1_text_2 : Nat → Int32) =>
    some (x0_length_2, 0, x0_length_2, y1_text_2)
  ) else (
    some ((-2), 0, x0_length, y1_text)
  ))
noncomputable def f_X9_byteAt (x0_length : Int32) (y1_text : Nat → Int32) (p1 : Int32) : Option (Int32) :=
  (if x0_length ≤ p1 then (
    some (-1)
  ) else (
    ar p1 500 <|
    some (y1_text p1.toNatClampNeg)
  ))
noncomputable def f_X9_fails (x0_error : Int32) (x0_errorAt : Int32) (p1 : Int32) (p2 : Int32) : Option (Int32 × Int32) :=
  (if x0_error = 0 then (
    some (p1, p2)
  ) else (
    some (x0_error, x0_errorAt)
  ))
noncomputable def f_X9_failsIf (x0_from : Int32) (x0_error : Int32) (x0_errorAt : Int32) (p1 : Int32) (p2 : Int32) : Option (Int32 × Int32) :=
  (if p1 = 0 then (
    some (x0_error, x0_errorAt)
  ) else (
    bd2 (f_X9_fails x0_error x0_errorAt p2 x0_from) fun (x0_error_1 : Int32) (x0_errorAt_1 : Int32) =>
    some (x0_error_1, x0_errorAt_1)
  ))
noncomputable def f_X9_isFine (x0_error : Int32)  : Option (Int32) :=
  (if x0_error = 0 then (
    some 1
  ) else (
    some 0
  ))
noncomputable def f_X9_looks (x0_length : Int32) (x0_at : Int32) (x0_from : Int32) (x0_error : Int32) (y1_text : Nat → Int32)  : Option (Int32 × Int32 × Int32) :=
  bv (fun (x0_at_1 : Int32) => ((
    bd1 (f_X9_byteAt x0_length y1_text x0_at_1) fun (r5 : Int32) =>
    (if r5 = 32 then (
      bv (x0_at_1 + 1) fun x0_at_3 =>
      some (.inl x0_at_3)
    ) else (
      some (.inr x0_at_1)
    ))
    ) : Option ((Int32) ⊕ (Int32)))) fun l0 =>
  bd1 (lq1 l0 x0_at) fun (x0_at_2 : Int32) =>
  bd1 (f_X9_isFine x0_error) fun (r27 : Int32) =>
  bv (fun (x0_from_1 : Int32) => ((
    bd1 (f_X9_byteAt x0_length y1_text x0_at_2) fun (r46 : Int32) =>
    some (r46, x0_at_2, x0_from_1)
    ) : Option (Int32 × Int32 × Int32))) fun j41 =>
  (if r27 = 0 then (
    j41 x0_from
  ) else (
    j41 x0_at_2
  ))
noncomputable def f_X9_isLetter  (p0 : Int32) : Option (Int32) :=
  bd1 (f_X9_isIn (p0.toInt64) 97 122) fun (r8 : Int32) =>
  zb r8 (some r8)
noncomputable def f_X9_isDigit  (p0 : Int32) : Option (Int32) :=
  bd1 (f_X9_isIn (p0.toInt64) 48 57) fun (r8 : Int32) =>
  zb r8 (some r8)
noncomputable def f_X9_word (x0_length : Int32) (x0_at : Int32) (x0_from : Int32) (x0_error : Int32) (y1_text : Nat → Int32)  : Option (Int32 × Int32) :=
  bd1 (f_X9_isFine x0_error) fun (r1 : Int32) =>
  (if r1 = 0 then (
    some (x0_at, x0_from)
  ) else (
    bd3 (f_X9_looks x0_length x0_at x0_from x0_error y1_text) fun (r9 : Int32) (x0_at_1 : Int32) (x0_from_1 : Int32) =>
    bv (fun (x0_at_2 : Int32) => ((
      bd1 (f_X9_byteAt x0_length y1_text x0_at_2) fun (r18 : Int32) =>
      bd1 (f_X9_isLetter r18) fun (r21 : Int32) =>
      (if r21 = 0 then (
        some (.inr x0_at_2)
      ) else (
        bv (x0_at_2 + 1) fun x0_at_4 =>
        some (.inl x0_at_4)
      ))
      ) : Option ((Int32) ⊕ (Int32)))) fun l13 =>
    bd1 (lq1 l13 x0_at_1) fun (x0_at_3 : Int32) =>
    some (x0_at_3, x0_from_1)
  ))
noncomputable def f_X9_was (x0_at : Int32) (x0_from : Int32) (x0_error : Int32) (y1_text : Nat → Int32) (k1 : Nat) : Option (Int32) :=
  bd1 (f_X9_isFine x0_error) fun (r1 : Int32) =>
  bv (fun (t28 : Int32) => ((
    bv (fun (v2 : Int32) (v3 : Int32) => ((
      (if (Int32.ofNat (kwLen.getD k1 0)) ≤ v3 then (
        some (.inr v2)
      ) else (
        (if v2 = 0 then (
          some (.inr v2)
        ) else (
          ar (x0_from + v3) 500 <|
          ar v3 (kwLen.getD k1 0) <|
          bv (fun (t67 : Int32) => ((
            bv (v3 + 1) fun v3_1 =>
            some (.inl (t67, v3_1))
            ) : Option ((Int32 × Int32) ⊕ (Int32)))) fun j67 =>
          (if (y1_text (x0_from + v3).toNatClampNeg) = (kch k1 v3.toNatClampNeg) then (
            j67 1
          ) else (
            j67 0
          ))
        ))
      ))
      ) : Option ((Int32 × Int32) ⊕ (Int32)))) fun l31 =>
    bd1 (lq2 l31 t28 0) fun (v2_1 : Int32) =>
    zb v2_1 (some v2_1)
    ) : Option (Int32))) fun j28 =>
  bv (fun (_ : Unit) => ((
    j28 0
    ) : Option (Int32))) fun j27 =>
  (if r1 = 0 then (
    j27 ()
  ) else (
    (if (x0_at - x0_from) = (Int32.ofNat (kwLen.getD k1 0)) then (
      j28 1
    ) else (
      j27 ()
    ))
  ))
noncomputable def f_X9_number (x0_length : Int32) (x0_at : Int32) (x0_from : Int32) (x0_error : Int32) (x0_errorAt : Int32) (y1_text : Nat → Int32) (p1 : Int32) (p2 : Int32) : Option (Int32 × Int32 × Int32 × Int32 × Int32) :=
  bd1 (f_X9_isFine x0_error) fun (r1 : Int32) =>
  (if r1 = 0 then (
    some (p1, x0_at, x0_from, x0_error, x0_errorAt)
  ) else (
    bd3 (f_X9_looks x0_length x0_at x0_from x0_error y1_text) fun (r10 : Int32) (x0_at_1 : Int32) (x0_from_1 : Int32) =>
    bd1 (f_X9_isDigit r10) fun (r13 : Int32) =>
    (if r13 = 0 then (
      bd2 (f_X9_fails x0_error x0_errorAt 1 x0_from_1) fun (x0_error_2 : Int32) (x0_errorAt_2 : Int32) =>
      some (p1, x0_at_1, x0_from_1, x0_error_2, x0_errorAt_2)
    ) else (
      bv (fun (v3 : Int32) (x0_at_2 : Int32) => ((
        bd1 (f_X9_byteAt x0_length y1_text x0_at_2) fun (r37 : Int32) =>
        bd1 (f_X9_isDigit r37) fun (r40 : Int32) =>
        (if r40 = 0 then (
          some (.inr (v3, x0_at_2))
        ) else (
          bd1 (f_X9_byteAt x0_length y1_text x0_at_2) fun (r57 : Int32) =>
          bv (if (((10 * v3) + r57) - 48) < 1000000 then (((10 * v3) + r57) - 48) else 1000000) fun v3_2 =>
          bv (x0_at_2 + 1) fun x0_at_4 =>
          some (.inl (v3_2, x0_at_4))
        ))
        ) : Option ((Int32 × Int32) ⊕ (Int32 × Int32)))) fun l32 =>
      bd2 (lq2 l32 0 x0_at_1) fun (v3_1 : Int32) (x0_at_3 : Int32) =>
      bd1 (f_X9_isIn (v3_1.toInt64) (p1.toInt64) (p2.toInt64)) fun (r88 : Int32) =>
      bv (fun (t99 : Int32) => ((
        bd2 (f_X9_failsIf x0_from_1 x0_error x0_errorAt t99 2) fun (x0_error_1 : Int32) (x0_errorAt_1 : Int32) =>
        bd1 (f_X9_isFine x0_error_1) fun (r104 : Int32) =>
        (if r104 = 0 then (
          some (p1, x0_at_3, x0_from_1, x0_error_1, x0_errorAt_1)
        ) else (
          some (v3_1, x0_at_3, x0_from_1, x0_error_1, x0_errorAt_1)
        ))
        ) : Option (Int32 × Int32 × Int32 × Int32 × Int32))) fun j99 =>
      (if r88 = 0 then (
        j99 1
      ) else (
        j99 0
      ))
    ))
  ))
noncomputable def f_X9_name (x0_length : Int32) (x0_at : Int32) (x0_from : Int32) (x0_error : Int32) (x0_errorAt : Int32) (y1_text : Nat → Int32)  : Option (Int32 × Int32 × Int32 × Int32) :=
  bd2 (f_X9_word x0_length x0_at x0_from x0_error y1_text) fun (x0_at_1 : Int32) (x0_from_1 : Int32) =>
  bv (fun (t35 : Int32) => ((
    bd2 (f_X9_failsIf x0_from_1 x0_error x0_errorAt t35 1) fun (x0_error_1 : Int32) (x0_errorAt_1 : Int32) =>
    some (x0_at_1, x0_from_1, x0_error_1, x0_errorAt_1)
    ) : Option (Int32 × Int32 × Int32 × Int32))) fun j35 =>
  bv (fun (_ : Unit) => ((
    j35 1
    ) : Option (Int32 × Int32 × Int32 × Int32))) fun j30 =>
  (if x0_at_1 = x0_from_1 then (
    j30 ()
  ) else (
    (if (x0_at_1 - x0_from_1) ≤ 8 then (
      j35 0
    ) else (
      j30 ()
    ))
  ))
noncomputable def f_X9_named (x0_at : Int32) (x0_from : Int32) (y1_s : Nat → Int32) (y2_text : Nat → Int32)  : Option (Int32) :=
  bv (fun (v1 : Int32) => ((
    ar 2 552 <|
    (if (y1_s (2 : Int32).toNatClampNeg) ≤ v1 then (
      mr (some (-1))
    ) else (
      bd1 (f_X9_of y1_s v1 3) fun (r15 : Int32) =>
      bv (fun (t35 : Int32) => ((
        bv (fun (v2 : Int32) (v3 : Int32) => ((
          (if (x0_at - x0_from) ≤ v3 then (
            some (.inr v2)
          ) else (
            (if v2 = 0 then (
              some (.inr v2)
            ) else (
              bd1 (f_X9_of y1_s v1 (4 + v3)) fun (r60 : Int32) =>
              ar (x0_from + v3) 500 <|
              bv (fun (t82 : Int32) => ((
                bv (v3 + 1) fun v3_1 =>
                some (.inl (t82, v3_1))
                ) : Option ((Int32 × Int32) ⊕ (Int32)))) fun j82 =>
              (if r60 = (y2_text (x0_from + v3).toNatClampNeg) then (
                j82 1
              ) else (
                j82 0
              ))
            ))
          ))
          ) : Option ((Int32 × Int32) ⊕ (Int32)))) fun l38 =>
        bd1 (lq2 l38 t35 0) fun (v2_1 : Int32) =>
        (if v2_1 = 0 then (
          bv (v1 + 1) fun v1_1 =>
          some (.inl v1_1)
        ) else (
          mr (some v1)
        ))
        ) : Option ((Int32) ⊕ (Int32)))) fun j35 =>
      (if r15 = (x0_at - x0_from) then (
        j35 1
      ) else (
        j35 0
      ))
    ))
    ) : Option ((Int32) ⊕ (Int32)))) fun l2 =>
  lq1 l2 0
noncomputable def f_X9_readsLand (x0_length : Int32) (x0_at : Int32) (x0_from : Int32) (x0_error : Int32) (x0_errorAt : Int32) (y1_s : Nat → Int32) (y2_text : Nat → Int32)  : Option (Int32 × Int32 × Int32 × Int32 × (Nat → Int32)) :=
  ar 0 552 <|
  bd5 (f_X9_number x0_length x0_at x0_from x0_error x0_errorAt y2_text 0 ((y1_s (0 : Int32).toNatClampNeg) - 1)) fun (r10 : Int32) (x0_at_1 : Int32) (x0_from_1 : Int32) (x0_error_1 : Int32) (x0_errorAt_1 : Int32) =>
  ar 1 552 <|
  bd5 (f_X9_number x0_length x0_at_1 x0_from_1 x0_error_1 x0_errorAt_1 y2_text 0 ((y1_s (1 : Int32).toNatClampNeg) - 1)) fun (r24 : Int32) (x0_at_2 : Int32) (x0_from_2 : Int32) (x0_error_2 : Int32) (x0_errorAt_2 : Int32) =>
  ar 1 552 <|
  bd5 (f_X9_number x0_length x0_at_2 x0_from_2 x0_error_2 x0_errorAt_2 y2_text r24 ((y1_s (1 : Int32).toNatClampNeg) - 1)) fun (r38 : Int32) (x0_at_3 : Int32) (x0_from_3 : Int32) (x0_error_3 : Int32) (x0_errorAt_3 : Int32) =>
  bv (fun (v4 : Int32) (y1_s_1 : Nat → Int32) => ((
    (if r38 < v4 then (
      some (.inr y1_s_1)
    ) else (
      bd1 (f_X9_isFine x0_error_3) fun (r52 : Int32) =>
      (if r52 = 0 then (
        some (.inr y1_s_1)
      ) else (
        ar 1 552 <|
        ar ((8 + ((y1_s_1 (1 : Int32).toNatClampNeg) * r10)) + v4) 552 <| bv (upd y1_s_1 ((8 + ((y1_s_1 (1 : Int32).toNatClampNeg) * r10)) + v4).toNatClampNeg 1) fun y1_s_3 =>
        bv (v4 + 1) fun v4_1 =>
        some (.inl (v4_1, y1_s_3))
      ))
    ))
    ) : Option ((Int32 × (Nat → Int32)) ⊕ ((Nat → Int32))))) fun l45 =>
  bd1 (lq2 l45 r24 y1_s) fun (y1_s_2 : Nat → Int32) =>
  some (x0_at_3, x0_from_3, x0_error_3, x0_errorAt_3, y1_s_2)
noncomputable def f_X9_readsHarbour (x0_length : Int32) (x0_at : Int32) (x0_from : Int32) (x0_error : Int32) (x0_errorAt : Int32) (y1_s : Nat → Int32) (y2_text : Nat → Int32)  : Option (Int32 × Int32 × Int32 × Int32 × (Nat → Int32)) :=
  bd4 (f_X9_name x0_length x0_at x0_from x0_error x0_errorAt y2_text) fun (x0_at_1 : Int32) (x0_from_1 : Int32) (x0_error_1 : Int32) (x0_errorAt_1 : Int32) =>
  bv (x0_at_1 - x0_from_1) fun v2 =>
  bd1 (f_X9_isFine x0_error_1) fun (r21 : Int32) =>
  bv (fun (t40 : Int32) => ((
    bd2 (f_X9_failsIf x0_from_1 x0_error_1 x0_errorAt_1 t40 3) fun (x0_error_2 : Int32) (x0_errorAt_2 : Int32) =>
    ar 0 552 <|
    bd5 (f_X9_number x0_length x0_at_1 x0_from_1 x0_error_2 x0_errorAt_2 y2_text 0 ((y1_s (0 : Int32).toNatClampNeg) - 1)) fun (r54 : Int32) (x0_at_2 : Int32) (x0_from_2 : Int32) (x0_error_3 : Int32) (x0_errorAt_3 : Int32) =>
    ar 1 552 <|
    bd5 (f_X9_number x0_length x0_at_2 x0_from_2 x0_error_3 x0_errorAt_3 y2_text 0 ((y1_s (1 : Int32).toNatClampNeg) - 1)) fun (r68 : Int32) (x0_at_3 : Int32) (x0_from_3 : Int32) (x0_error_4 : Int32) (x0_errorAt_4 : Int32) =>
    ar 1 552 <|
    bv (((y1_s (1 : Int32).toNatClampNeg) * r54) + r68) fun v5 =>
    bd1 (f_X9_isFine x0_error_4) fun (r87 : Int32) =>
    (if r87 = 0 then (
      some (x0_at_3, x0_from_3, x0_error_4, x0_errorAt_4, y1_s)
    ) else (
      bd1 (f_X9_isCoast y1_s v5) fun (r98 : Int32) =>
      bv (fun (t127 : Int32) => ((
        bd2 (f_X9_failsIf x0_from_3 x0_error_4 x0_errorAt_4 t127 3) fun (x0_error_5 : Int32) (x0_errorAt_5 : Int32) =>
        bd3 (f_X9_looks x0_length x0_at_3 x0_from_3 x0_error_5 y2_text) fun (r135 : Int32) (x0_at_4 : Int32) (x0_from_4 : Int32) =>
        bd1 (f_X9_isLetter r135) fun (r138 : Int32) =>
        bv (fun (v6 : Int32) (x0_at_5 : Int32) (x0_from_5 : Int32) (x0_error_6 : Int32) (x0_errorAt_6 : Int32) => ((
          bd1 (f_X9_isFine x0_error_6) fun (r172 : Int32) =>
          (if r172 = 0 then (
            some (x0_at_5, x0_from_5, x0_error_6, x0_errorAt_6, y1_s)
          ) else (
            ar 2 552 <|
            bv (y1_s (2 : Int32).toNatClampNeg) fun v7 =>
            bd1 (f_X9_puts y1_s v7 0 v5) fun (y1_s_1 : Nat → Int32) =>
            bv (fun (t210 : Int32) => ((
              bd1 (f_X9_puts y1_s_1 v7 1 t210) fun (y1_s_2 : Nat → Int32) =>
              bd1 (f_X9_puts y1_s_2 v7 2 (-1)) fun (y1_s_3 : Nat → Int32) =>
              bd1 (f_X9_puts y1_s_3 v7 3 v2) fun (y1_s_4 : Nat → Int32) =>
              bv (fun (v8 : Int32) (y1_s_5 : Nat → Int32) => ((
                (if v2 ≤ v8 then (
                  some (.inr y1_s_5)
                ) else (
                  ar (x0_from_1 + v8) 500 <|
                  bd1 (f_X9_puts y1_s_5 v7 (4 + v8) (y2_text (x0_from_1 + v8).toNatClampNeg)) fun (y1_s_7 : Nat → Int32) =>
                  bv (v8 + 1) fun v8_1 =>
                  some (.inl (v8_1, y1_s_7))
                ))
                ) : Option ((Int32 × (Nat → Int32)) ⊕ ((Nat → Int32))))) fun l232 =>
              bd1 (lq2 l232 0 y1_s_4) fun (y1_s_6 : Nat → Int32) =>
              ar 2 552 <|
              ar 2 552 <| bv (upd y1_s_6 (2 : Int32).toNatClampNeg ((y1_s_6 (2 : Int32).toNatClampNeg) + 1)) fun y1_s_8 =>
              some (x0_at_5, x0_from_5, x0_error_6, x0_errorAt_6, y1_s_8)
              ) : Option (Int32 × Int32 × Int32 × Int32 × (Nat → Int32)))) fun j210 =>
            (if v6 = 0 then (
              j210 0
            ) else (
              j210 1
            ))
          ))
          ) : Option (Int32 × Int32 × Int32 × Int32 × (Nat → Int32)))) fun j171 =>
        (if r138 = 0 then (
          j171 0 x0_at_4 x0_from_4 x0_error_5 x0_errorAt_5
        ) else (
          bd2 (f_X9_word x0_length x0_at_4 x0_from_4 x0_error_5 y2_text) fun (x0_at_6 : Int32) (x0_from_6 : Int32) =>
          bd1 (f_X9_was x0_at_6 x0_from_6 x0_error_5 y2_text 7) fun (r153 : Int32) =>
          bv (fun (t164 : Int32) => ((
            bd2 (f_X9_failsIf x0_from_6 x0_error_5 x0_errorAt_5 t164 1) fun (x0_error_7 : Int32) (x0_errorAt_7 : Int32) =>
            j171 1 x0_at_6 x0_from_6 x0_error_7 x0_errorAt_7
            ) : Option (Int32 × Int32 × Int32 × Int32 × (Nat → Int32)))) fun j164 =>
          (if r153 = 0 then (
            j164 1
          ) else (
            j164 0
          ))
        ))
        ) : Option (Int32 × Int32 × Int32 × Int32 × (Nat → Int32)))) fun j127 =>
      bv (fun (_ : Unit) => ((
        j127 1
        ) : Option (Int32 × Int32 × Int32 × Int32 × (Nat → Int32)))) fun j122 =>
      (if r98 = 0 then (
        j122 ()
      ) else (
        bd1 (f_X9_canBegin y1_s v5) fun (r107 : Int32) =>
        (if r107 = 0 then (
          j122 ()
        ) else (
          bd1 (f_X9_namesIn y1_s v5) fun (r116 : Int32) =>
          (if r116 = 0 then (
            j127 0
          ) else (
            j122 ()
          ))
        ))
      ))
    ))
    ) : Option (Int32 × Int32 × Int32 × Int32 × (Nat → Int32)))) fun j40 =>
  bv (fun (_ : Unit) => ((
    j40 0
    ) : Option (Int32 × Int32 × Int32 × Int32 × (Nat → Int32)))) fun j39 =>
  (if r21 = 0 then (
    j39 ()
  ) else (
    bd1 (f_X9_named x0_at_1 x0_from_1 y1_s y2_text) fun (r28 : Int32) =>
    (if r28 = (-1) then (
      j39 ()
    ) else (
      j40 1
    ))
  ))
noncomputable def f_X9_readsRiver (x0_flowLong : Int32) (x0_length : Int32) (x0_at : Int32) (x0_from : Int32) (x0_error : Int32) (x0_errorAt : Int32) (y1_flow : Nat → Int32) (y2_s : Nat → Int32) (y3_sums : Nat → Int32) (y4_text : Nat → Int32)  : Option (Int32 × Int32 × Int32 × Int32 × Int32 × (Nat → Int32) × (Nat → Int32) × (Nat → Int32)) :=
  ar 0 552 <|
  bd5 (f_X9_number x0_length x0_at x0_from x0_error x0_errorAt y4_text 0 ((y2_s (0 : Int32).toNatClampNeg) - 1)) fun (r10 : Int32) (x0_at_1 : Int32) (x0_from_1 : Int32) (x0_error_1 : Int32) (x0_errorAt_1 : Int32) =>
  ar 1 552 <|
  bd5 (f_X9_number x0_length x0_at_1 x0_from_1 x0_error_1 x0_errorAt_1 y4_text 0 ((y2_s (1 : Int32).toNatClampNeg) - 1)) fun (r24 : Int32) (x0_at_2 : Int32) (x0_from_2 : Int32) (x0_error_2 : Int32) (x0_errorAt_2 : Int32) =>
  bd1 (f_X9_isFine x0_error_2) fun (r29 : Int32) =>
  (if r29 = 0 then (
    some (x0_flowLong, x0_at_2, x0_from_2, x0_error_2, x0_errorAt_2, y1_flow, y2_s, y3_sums)
  ) else (
    ar 1 552 <|
    bd4 (f_X9_findsFlow x0_flowLong y1_flow y2_s y3_sums (((y2_s (1 : Int32).toNatClampNeg) * r10) + r24)) fun (r47 : Int32) (x0_flowLong_1 : Int32) (y1_flow_1 : Nat → Int32) (y3_sums_1 : Nat → Int32) =>
    (if r47 = 0 then (
      bd2 (f_X9_fails x0_error_2 x0_errorAt_2 3 x0_from_2) fun (x0_error_3 : Int32) (x0_errorAt_3 : Int32) =>
      some (x0_flowLong_1, x0_at_2, x0_from_2, x0_error_3, x0_errorAt_3, y1_flow_1, y2_s, y3_sums_1)
    ) else (
      bd1 (f_X9_flows x0_flowLong_1 y1_flow_1 y2_s) fun (y2_s_1 : Nat → Int32) =>
      some (x0_flowLong_1, x0_at_2, x0_from_2, x0_error_2, x0_errorAt_2, y1_flow_1, y2_s_1, y3_sums_1)
    ))
  ))
noncomputable def f_X9_wayHere (x0_at : Int32) (x0_from : Int32) (x0_error : Int32) (y1_text : Nat → Int32)  : Option (Int32) :=
  bd1 (f_X9_was x0_at x0_from x0_error y1_text 8) fun (r4 : Int32) =>
  (if r4 = 0 then (
    bd1 (f_X9_was x0_at x0_from x0_error y1_text 9) fun (r18 : Int32) =>
    (if r18 = 0 then (
      bd1 (f_X9_was x0_at x0_from x0_error y1_text 10) fun (r32 : Int32) =>
      (if r32 = 0 then (
        bd1 (f_X9_was x0_at x0_from x0_error y1_text 11) fun (r46 : Int32) =>
        (if r46 = 0 then (
          some (-1)
        ) else (
          some 3
        ))
      ) else (
        some 2
      ))
    ) else (
      some 1
    ))
  ) else (
    some 0
  ))
noncomputable def f_X9_readsPlace (x0_length : Int32) (x0_at : Int32) (x0_from : Int32) (x0_error : Int32) (x0_errorAt : Int32) (y1_s : Nat → Int32) (y2_text : Nat → Int32)  : Option (Int32 × Int32 × Int32 × Int32 × (Nat → Int32)) :=
  bd4 (f_X9_name x0_length x0_at x0_from x0_error x0_errorAt y2_text) fun (x0_at_1 : Int32) (x0_from_1 : Int32) (x0_error_1 : Int32) (x0_errorAt_1 : Int32) =>
  bd1 (f_X9_isFine x0_error_1) fun (r5 : Int32) =>
  bv (fun (t19 : Int32) => ((
    bv (fun (t31 : Int32) => ((
      bd2 (f_X9_failsIf x0_from_1 x0_error_1 x0_errorAt_1 t31 4) fun (x0_error_2 : Int32) (x0_errorAt_2 : Int32) =>
      bd2 (f_X9_word x0_length x0_at_1 x0_from_1 x0_error_2 y2_text) fun (x0_at_2 : Int32) (x0_from_2 : Int32) =>
      bd1 (f_X9_wayHere x0_at_2 x0_from_2 x0_error_2 y2_text) fun (r40 : Int32) =>
      bv (fun (t55 : Int32) => ((
        bd2 (f_X9_failsIf x0_from_2 x0_error_2 x0_errorAt_2 t55 1) fun (x0_error_3 : Int32) (x0_errorAt_3 : Int32) =>
        bd1 (f_X9_isFine x0_error_3) fun (r60 : Int32) =>
        (if r60 = 0 then (
          some (x0_at_2, x0_from_2, x0_error_3, x0_errorAt_3, y1_s)
        ) else (
          bd1 (f_X9_reason y1_s t19 r40) fun (r71 : Int32) =>
          bv (fun (t82 : Int32) => ((
            bd2 (f_X9_failsIf x0_from_2 x0_error_3 x0_errorAt_3 t82 3) fun (x0_error_4 : Int32) (x0_errorAt_4 : Int32) =>
            bd1 (f_X9_isFine x0_error_4) fun (r87 : Int32) =>
            (if r87 = 0 then (
              some (x0_at_2, x0_from_2, x0_error_4, x0_errorAt_4, y1_s)
            ) else (
              bd1 (f_X9_puts y1_s t19 2 r40) fun (y1_s_1 : Nat → Int32) =>
              some (x0_at_2, x0_from_2, x0_error_4, x0_errorAt_4, y1_s_1)
            ))
            ) : Option (Int32 × Int32 × Int32 × Int32 × (Nat → Int32)))) fun j82 =>
          (if r71 = 0 then (
            j82 0
          ) else (
            j82 1
          ))
        ))
        ) : Option (Int32 × Int32 × Int32 × Int32 × (Nat → Int32)))) fun j55 =>
      (if r40 = (-1) then (
        j55 1
      ) else (
        j55 0
      ))
      ) : Option (Int32 × Int32 × Int32 × Int32 × (Nat → Int32)))) fun j31 =>
    (if t19 = (-1) then (
      j31 1
    ) else (
      j31 0
    ))
    ) : Option (Int32 × Int32 × Int32 × Int32 × (Nat → Int32)))) fun j19 =>
  (if r5 = 0 then (
    j19 (-1)
  ) else (
    bd1 (f_X9_named x0_at_1 x0_from_1 y1_s y2_text) fun (r12 : Int32) =>
    j19 r12
  ))
noncomputable def f_X9_readsVoyage (x0_length : Int32) (x0_at : Int32) (x0_from : Int32) (x0_error : Int32) (x0_errorAt : Int32) (y1_s : Nat → Int32) (y2_text : Nat → Int32)  : Option (Int32 × Int32 × Int32 × Int32 × (Nat → Int32)) :=
  bv (fun (x0_at_1 : Int32) (x0_from_1 : Int32) (x0_error_1 : Int32) (x0_errorAt_1 : Int32) (y1_s_1 : Nat → Int32) => ((
    bd4 (f_X9_name x0_length x0_at_1 x0_from_1 x0_error_1 x0_errorAt_1 y2_text) fun (x0_at_3 : Int32) (x0_from_3 : Int32) (x0_error_3 : Int32) (x0_errorAt_3 : Int32) =>
    ar 4 552 <|
    bv (fun (t21 : Int32) => ((
      bd2 (f_X9_failsIf x0_from_3 x0_error_3 x0_errorAt_3 t21 3) fun (x0_error_4 : Int32) (x0_errorAt_4 : Int32) =>
      bd1 (f_X9_isFine x0_error_4) fun (r26 : Int32) =>
      bv (fun (t40 : Int32) => ((
        bv (fun (t52 : Int32) => ((
          bd2 (f_X9_failsIf x0_from_3 x0_error_4 x0_errorAt_4 t52 4) fun (x0_error_5 : Int32) (x0_errorAt_5 : Int32) =>
          bd1 (f_X9_isFine x0_error_5) fun (r57 : Int32) =>
          bv (fun (y1_s_3 : Nat → Int32) => ((
            bd1 (f_X9_isFine x0_error_5) fun (r90 : Int32) =>
            (if r90 = 0 then (
              some (.inr (x0_at_3, x0_from_3, x0_error_5, x0_errorAt_5, y1_s_3))
            ) else (
              bd3 (f_X9_looks x0_length x0_at_3 x0_from_3 x0_error_5 y2_text) fun (r97 : Int32) (x0_at_4 : Int32) (x0_from_4 : Int32) =>
              bd1 (f_X9_isLetter r97) fun (r100 : Int32) =>
              (if r100 = 0 then (
                some (.inr (x0_at_4, x0_from_4, x0_error_5, x0_errorAt_5, y1_s_3))
              ) else (
                some (.inl (x0_at_4, x0_from_4, x0_error_5, x0_errorAt_5, y1_s_3))
              ))
            ))
            ) : Option ((Int32 × Int32 × Int32 × Int32 × (Nat → Int32)) ⊕ (Int32 × Int32 × Int32 × Int32 × (Nat → Int32))))) fun j89 =>
          (if r57 = 0 then (
            j89 y1_s_1
          ) else (
            ar 4 552 <|
            ar (536 + (y1_s_1 (4 : Int32).toNatClampNeg)) 552 <| bv (upd y1_s_1 (536 + (y1_s_1 (4 : Int32).toNatClampNeg)).toNatClampNeg t40) fun y1_s_4 =>
            ar 4 552 <|
            ar 4 552 <| bv (upd y1_s_4 (4 : Int32).toNatClampNeg ((y1_s_4 (4 : Int32).toNatClampNeg) + 1)) fun y1_s_5 =>
            j89 y1_s_5
          ))
          ) : Option ((Int32 × Int32 × Int32 × Int32 × (Nat → Int32)) ⊕ (Int32 × Int32 × Int32 × Int32 × (Nat → Int32))))) fun j52 =>
        (if t40 = (-1) then (
          j52 1
        ) else (
          j52 0
        ))
        ) : Option ((Int32 × Int32 × Int32 × Int32 × (Nat → Int32)) ⊕ (Int32 × Int32 × Int32 × Int32 × (Nat → Int32))))) fun j40 =>
      (if r26 = 0 then (
        j40 (-1)
      ) else (
        bd1 (f_X9_named x0_at_3 x0_from_3 y1_s_1 y2_text) fun (r33 : Int32) =>
        j40 r33
      ))
      ) : Option ((Int32 × Int32 × Int32 × Int32 × (Nat → Int32)) ⊕ (Int32 × Int32 × Int32 × Int32 × (Nat → Int32))))) fun j21 =>
    (if (y1_s_1 (4 : Int32).toNatClampNeg) = 16 then (
      j21 1
    ) else (
      j21 0
    ))
    ) : Option ((Int32 × Int32 × Int32 × Int32 × (Nat → Int32)) ⊕ (Int32 × Int32 × Int32 × Int32 × (Nat → Int32))))) fun l0 =>
  bd5 (lq5 l0 x0_at x0_from x0_error x0_errorAt y1_s) fun (x0_at_2 : Int32) (x0_from_2 : Int32) (x0_error_2 : Int32) (x0_errorAt_2 : Int32) (y1_s_2 : Nat → Int32) =>
  some (x0_at_2, x0_from_2, x0_error_2, x0_errorAt_2, y1_s_2)
noncomputable def f_X9_readsOne (x0_flowLong : Int32) (x0_length : Int32) (x0_at : Int32) (x0_from : Int32) (x0_error : Int32) (x0_errorAt : Int32) (x0_hasVoyage : Int32) (y1_flow : Nat → Int32) (y2_s : Nat → Int32) (y3_sums : Nat → Int32) (y4_text : Nat → Int32)  : Option (Int32 × Int32 × Int32 × Int32 × Int32 × Int32 × (Nat → Int32) × (Nat → Int32) × (Nat → Int32)) :=
  bd1 (f_X9_was x0_at x0_from x0_error y4_text 1) fun (r4 : Int32) =>
  (if r4 = 0 then (
    bd1 (f_X9_was x0_at x0_from x0_error y4_text 2) fun (r47 : Int32) =>
    (if r47 = 0 then (
      bd1 (f_X9_was x0_at x0_from x0_error y4_text 3) fun (r85 : Int32) =>
      (if r85 = 0 then (
        bd1 (f_X9_was x0_at x0_from x0_error y4_text 4) fun (r123 : Int32) =>
        (if r123 = 0 then (
          bd1 (f_X9_was x0_at x0_from x0_error y4_text 5) fun (r140 : Int32) =>
          (if r140 = 0 then (
            bd1 (f_X9_was x0_at x0_from x0_error y4_text 6) fun (r171 : Int32) =>
            (if r171 = 0 then (
              bd2 (f_X9_fails x0_error x0_errorAt 1 x0_from) fun (x0_error_1 : Int32) (x0_errorAt_1 : Int32) =>
              some (x0_flowLong, x0_at, x0_from, x0_error_1, x0_errorAt_1, x0_hasVoyage, y1_flow, y2_s, y3_sums)
            ) else (
              bd5 (f_X9_number x0_length x0_at x0_from x0_error x0_errorAt y4_text 0 3) fun (r180 : Int32) (x0_at_1 : Int32) (x0_from_1 : Int32) (x0_error_2 : Int32) (x0_errorAt_2 : Int32) =>
              ar 5 552 <| bv (upd y2_s (5 : Int32).toNatClampNeg r180) fun y2_s_1 =>
              some (x0_flowLong, x0_at_1, x0_from_1, x0_error_2, x0_errorAt_2, x0_hasVoyage, y1_flow, y2_s_1, y3_sums)
            ))
          ) else (
            bd2 (f_X9_failsIf x0_from x0_error x0_errorAt x0_hasVoyage 3) fun (x0_error_3 : Int32) (x0_errorAt_3 : Int32) =>
            bd5 (f_X9_readsVoyage x0_length x0_at x0_from x0_error_3 x0_errorAt_3 y2_s y4_text) fun (x0_at_2 : Int32) (x0_from_2 : Int32) (x0_error_4 : Int32) (x0_errorAt_4 : Int32) (y2_s_2 : Nat → Int32) =>
            some (x0_flowLong, x0_at_2, x0_from_2, x0_error_4, x0_errorAt_4, 1, y1_flow, y2_s_2, y3_sums)
          ))
        ) else (
          bd5 (f_X9_readsPlace x0_length x0_at x0_from x0_error x0_errorAt y2_s y4_text) fun (x0_at_3 : Int32) (x0_from_3 : Int32) (x0_error_5 : Int32) (x0_errorAt_5 : Int32) (y2_s_3 : Nat → Int32) =>
          some (x0_flowLong, x0_at_3, x0_from_3, x0_error_5, x0_errorAt_5, x0_hasVoyage, y1_flow, y2_s_3, y3_sums)
        ))
      ) else (
        ar 3 552 <|
        bv (fun (t108 : Int32) => ((
          bd2 (f_X9_failsIf x0_from x0_error x0_errorAt t108 3) fun (x0_error_6 : Int32) (x0_errorAt_6 : Int32) =>
          bd8 (f_X9_readsRiver x0_flowLong x0_length x0_at x0_from x0_error_6 x0_errorAt_6 y1_flow y2_s y3_sums y4_text) fun (x0_flowLong_1 : Int32) (x0_at_4 : Int32) (x0_from_4 : Int32) (x0_error_7 : Int32) (x0_errorAt_7 : Int32) (y1_flow_1 : Nat → Int32) (y2_s_4 : Nat → Int32) (y3_sums_1 : Nat → Int32) =>
          some (x0_flowLong_1, x0_at_4, x0_from_4, x0_error_7, x0_errorAt_7, x0_hasVoyage, y1_flow_1, y2_s_4, y3_sums_1)
          ) : Option (Int32 × Int32 × Int32 × Int32 × Int32 × Int32 × (Nat → Int32) × (Nat → Int32) × (Nat → Int32)))) fun j108 =>
        (if (y2_s (3 : Int32).toNatClampNeg) = 8 then (
          j108 1
        ) else (
          j108 0
        ))
      ))
    ) else (
      ar 2 552 <|
      bv (fun (t70 : Int32) => ((
        bd2 (f_X9_failsIf x0_from x0_error x0_errorAt t70 3) fun (x0_error_8 : Int32) (x0_errorAt_8 : Int32) =>
        bd5 (f_X9_readsHarbour x0_length x0_at x0_from x0_error_8 x0_errorAt_8 y2_s y4_text) fun (x0_at_5 : Int32) (x0_from_5 : Int32) (x0_error_9 : Int32) (x0_errorAt_9 : Int32) (y2_s_5 : Nat → Int32) =>
        some (x0_flowLong, x0_at_5, x0_from_5, x0_error_9, x0_errorAt_9, x0_hasVoyage, y1_flow, y2_s_5, y3_sums)
        ) : Option (Int32 × Int32 × Int32 × Int32 × Int32 × Int32 × (Nat → Int32) × (Nat → Int32) × (Nat → Int32)))) fun j70 =>
      (if (y2_s (2 : Int32).toNatClampNeg) = 8 then (
        j70 1
      ) else (
        j70 0
      ))
    ))
  ) else (
    ar 2 552 <|
    ar 3 552 <|
    bv (fun (t32 : Int32) => ((
      bd2 (f_X9_failsIf x0_from x0_error x0_errorAt t32 3) fun (x0_error_10 : Int32) (x0_errorAt_10 : Int32) =>
      bd5 (f_X9_readsLand x0_length x0_at x0_from x0_error_10 x0_errorAt_10 y2_s y4_text) fun (x0_at_6 : Int32) (x0_from_6 : Int32) (x0_error_11 : Int32) (x0_errorAt_11 : Int32) (y2_s_6 : Nat → Int32) =>
      some (x0_flowLong, x0_at_6, x0_from_6, x0_error_11, x0_errorAt_11, x0_hasVoyage, y1_flow, y2_s_6, y3_sums)
      ) : Option (Int32 × Int32 × Int32 × Int32 × Int32 × Int32 × (Nat → Int32) × (Nat → Int32) × (Nat → Int32)))) fun j32 =>
    (if ((y2_s (2 : Int32).toNatClampNeg) + (y2_s (3 : Int32).toNatClampNeg)) ≤ 0 then (
      j32 0
    ) else (
      j32 1
    ))
  ))
noncomputable def f_X9_reads (x0_flowLong : Int32) (x0_length : Int32) (x0_at : Int32) (x0_from : Int32) (x0_error : Int32) (x0_errorAt : Int32) (x0_statement : Int32) (x0_hasVoyage : Int32) (y1_flow : Nat → Int32) (y2_s : Nat → Int32) (y3_sums : Nat → Int32) (y4_text : Nat → Int32)  : Option (Int32 × Int32 × Int32 × Int32 × Int32 × Int32 × Int32 × (Nat → Int32) × (Nat → Int32) × (Nat → Int32)) :=
  bd2 (f_X9_word x0_length x0_at x0_from x0_error y4_text) fun (x0_at_1 : Int32) (x0_from_1 : Int32) =>
  bd1 (f_X9_was x0_at_1 x0_from_1 x0_error y4_text 0) fun (r9 : Int32) =>
  bv (fun (t20 : Int32) => ((
    bd2 (f_X9_failsIf x0_from_1 x0_error x0_errorAt t20 1) fun (x0_error_1 : Int32) (x0_errorAt_1 : Int32) =>
    bd5 (f_X9_number x0_length x0_at_1 x0_from_1 x0_error_1 x0_errorAt_1 y4_text 3 12) fun (r28 : Int32) (x0_at_2 : Int32) (x0_from_2 : Int32) (x0_error_2 : Int32) (x0_errorAt_2 : Int32) =>
    bd5 (f_X9_number x0_length x0_at_2 x0_from_2 x0_error_2 x0_errorAt_2 y4_text 3 12) fun (r36 : Int32) (x0_at_3 : Int32) (x0_from_3 : Int32) (x0_error_3 : Int32) (x0_errorAt_3 : Int32) =>
    bd1 (f_X9_begins y2_s r28 r36) fun (y2_s_1 : Nat → Int32) =>
    bv (fun (x0_flowLong_1 : Int32) (x0_at_4 : Int32) (x0_from_4 : Int32) (x0_error_4 : Int32) (x0_errorAt_4 : Int32) (x0_statement_1 : Int32) (x0_hasVoyage_1 : Int32) (y1_flow_1 : Nat → Int32) (y2_s_2 : Nat → Int32) (y3_sums_1 : Nat → Int32) => ((
      bd1 (f_X9_isFine x0_error_4) fun (r52 : Int32) =>
      (if r52 = 0 then (
        mr (some (x0_flowLong_1, x0_at_4, x0_from_4, x0_error_4, x0_errorAt_4, x0_statement_1, x0_hasVoyage_1, y1_flow_1, y2_s_2, y3_sums_1))
      ) else (
        bd3 (f_X9_looks x0_length x0_at_4 x0_from_4 x0_error_4 y4_text) fun (r59 : Int32) (x0_at_5 : Int32) (x0_from_5 : Int32) =>
        (if r59 = (-1) then (
          mr (some (x0_flowLong_1, x0_at_5, x0_from_5, x0_error_4, x0_errorAt_4, x0_statement_1, x0_hasVoyage_1, y1_flow_1, y2_s_2, y3_sums_1))
        ) else (
          bd1 (f_X9_byteAt x0_length y4_text x0_at_5) fun (r71 : Int32) =>
          (if r71 = 59 then (
            bv (x0_at_5 + 1) fun x0_at_6 =>
            bv (x0_statement_1 + 1) fun x0_statement_2 =>
            bd2 (f_X9_word x0_length x0_at_6 x0_from_5 x0_error_4 y4_text) fun (x0_at_7 : Int32) (x0_from_6 : Int32) =>
            bd9 (f_X9_readsOne x0_flowLong_1 x0_length x0_at_7 x0_from_6 x0_error_4 x0_errorAt_4 x0_hasVoyage_1 y1_flow_1 y2_s_2 y3_sums_1 y4_text) fun (x0_flowLong_2 : Int32) (x0_at_8 : Int32) (x0_from_7 : Int32) (x0_error_5 : Int32) (x0_errorAt_5 : Int32) (x0_hasVoyage_2 : Int32) (y1_flow_2 : Nat → Int32) (y2_s_3 : Nat → Int32) (y3_sums_2 : Nat → Int32) =>
            some (.inl (x0_flowLong_2, x0_at_8, x0_from_7, x0_error_5, x0_errorAt_5, x0_statement_2, x0_hasVoyage_2, y1_flow_2, y2_s_3, y3_sums_2))
          ) else (
            mr (bd2 (f_X9_fails x0_error_4 x0_errorAt_4 1 x0_from_5) fun (x0_error_6 : Int32) (x0_errorAt_6 : Int32) =>
            some (x0_flowLong_1, x0_at_5, x0_from_5, x0_error_6, x0_errorAt_6, x0_statement_1, x0_hasVoyage_1, y1_flow_1, y2_s_2, y3_sums_1))
          ))
        ))
      ))
      ) : Option ((Int32 × Int32 × Int32 × Int32 × Int32 × Int32 × Int32 × (Nat → Int32) × (Nat → Int32) × (Nat → Int32)) ⊕ (Int32 × Int32 × Int32 × Int32 × Int32 × Int32 × Int32 × (Nat → Int32) × (Nat → Int32) × (Nat → Int32))))) fun l51 =>
    lq10 l51 x0_flowLong x0_at_3 x0_from_3 x0_error_3 x0_errorAt_3 x0_statement 0 y1_flow y2_s_1 y3_sums
    ) : Option (Int32 × Int32 × Int32 × Int32 × Int32 × Int32 × Int32 × (Nat → Int32) × (Nat → Int32) × (Nat → Int32)))) fun j20 =>
  (if r9 = 0 then (
    j20 1
  ) else (
    j20 0
  ))
noncomputable def f_X9_load (x0_acts : Int32) (x0_thrown : Int32) (x0_flowLong : Int32) (x0_length : Int32) (x0_at : Int32) (x0_from : Int32) (x0_error : Int32) (x0_errorAt : Int32) (x0_errorKind : Int32) (x0_errorStatement : Int32) (x0_statement : Int32) (x0_hasVoyage : Int32) (y1_draft : Nat → Int32) (y2_flow : Nat → Int32) (y3_now : Nat → Int32) (y4_sums : Nat → Int32) (y5_text : Nat → Int32)  : Option (Int32 × Int32 × Int32 × Int32 × Int32 × Int32 × Int32 × Int32 × Int32 × Int32 × Int32 × Int32 × Int32 × (Nat → Int32) × (Nat → Int32) × (Nat → Int32) × (Nat → Int32)) :=
  bd10 (f_X9_reads x0_flowLong x0_length 0 0 0 0 0 x0_hasVoyage y2_flow y1_draft y4_sums y5_text) fun (x0_flowLong_1 : Int32) (x0_at_1 : Int32) (x0_from_1 : Int32) (x0_error_1 : Int32) (x0_errorAt_1 : Int32) (x0_statement_1 : Int32) (x0_hasVoyage_1 : Int32) (y2_flow_1 : Nat → Int32) (y1_draft_1 : Nat → Int32) (y4_sums_1 : Nat → Int32) =>
  bd1 (f_X9_isFine x0_error_1) fun (r65 : Int32) =>
  bv (fun (t79 : Int32) => ((
    bd1 (f_X9_isFine x0_error_1) fun (r83 : Int32) =>
    (if r83 = 0 then (
      some (((-100) - x0_errorAt_1), x0_acts, 0, x0_flowLong_1, 0, x0_at_1, x0_from_1, x0_error_1, x0_errorAt_1, x0_error_1, t79, x0_statement_1, x0_hasVoyage_1, y1_draft_1, y2_flow_1, y3_now, y4_sums_1)
    ) else (
      bd1 (f_X9_copies 552 552 y1_draft_1 y3_now 0 0) fun (y3_now_1 : Nat → Int32) =>
      ar 2 552 <|
      some ((y3_now_1 (2 : Int32).toNatClampNeg), 0, 0, x0_flowLong_1, 0, x0_at_1, x0_from_1, x0_error_1, x0_errorAt_1, x0_error_1, t79, x0_statement_1, x0_hasVoyage_1, y1_draft_1, y2_flow_1, y3_now_1, y4_sums_1)
    ))
    ) : Option (Int32 × Int32 × Int32 × Int32 × Int32 × Int32 × Int32 × Int32 × Int32 × Int32 × Int32 × Int32 × Int32 × (Nat → Int32) × (Nat → Int32) × (Nat → Int32) × (Nat → Int32)))) fun j79 =>
  (if r65 = 0 then (
    j79 x0_statement_1
  ) else (
    j79 (-1)
  ))
noncomputable def f_X9_loadError (x0_thrown : Int32) (x0_errorKind : Int32)  : Option (Int32 × Int32) :=
  some (x0_errorKind, 0)
noncomputable def f_X9_loadStatement (x0_thrown : Int32) (x0_errorStatement : Int32)  : Option (Int32 × Int32) :=
  some (x0_errorStatement, 0)
noncomputable def f_X9_landCells (y1_s : Nat → Int32)  : Option (Int32) :=
  bv (fun (v1 : Int32) (v2 : Int32) => ((
    bd1 (f_X9_cells y1_s) fun (r6 : Int32) =>
    (if r6 ≤ v2 then (
      some (.inr v1)
    ) else (
      ar (8 + v2) 552 <|
      bv (v1 + (y1_s (8 + v2).toNatClampNeg)) fun v1_2 =>
      bv (v2 + 1) fun v2_1 =>
      some (.inl (v1_2, v2_1))
    ))
    ) : Option ((Int32 × Int32) ⊕ (Int32)))) fun l4 =>
  bd1 (lq2 l4 0 0) fun (v1_1 : Int32) =>
  some v1_1
noncomputable def f_X9_placedNow (y1_s : Nat → Int32) (p1 : Int32) : Option (Int32) :=
  bv (fun (v2 : Int32) (v3 : Int32) => ((
    ar 2 552 <|
    (if (y1_s (2 : Int32).toNatClampNeg) ≤ v3 then (
      some (.inr v2)
    ) else (
      bd1 (f_X9_isPlaced y1_s v3) fun (r17 : Int32) =>
      bv (fun (t40 : Int32) => ((
        bv (v2 + t40) fun v2_2 =>
        bv (v3 + 1) fun v3_1 =>
        some (.inl (v2_2, v3_1))
        ) : Option ((Int32 × Int32) ⊕ (Int32)))) fun j40 =>
      bv (fun (_ : Unit) => ((
        j40 0
        ) : Option ((Int32 × Int32) ⊕ (Int32)))) fun j39 =>
      (if r17 = 0 then (
        j39 ()
      ) else (
        bv (fun (_ : Unit) => ((
          j40 1
          ) : Option ((Int32 × Int32) ⊕ (Int32)))) fun j35 =>
        (if p1 = 0 then (
          j35 ()
        ) else (
          bd1 (f_X9_isRed y1_s v3) fun (r29 : Int32) =>
          (if r29 = 0 then (
            j39 ()
          ) else (
            j35 ()
          ))
        ))
      ))
    ))
    ) : Option ((Int32 × Int32) ⊕ (Int32)))) fun l4 =>
  bd1 (lq2 l4 0 0) fun (v2_1 : Int32) =>
  some v2_1
noncomputable def f_X9_size (x0_acts : Int32) (x0_thrown : Int32) (y1_s : Nat → Int32) (p1 : Int32) : Option (Int32 × Int32) :=
  bd1 (f_X9_isIn (p1.toInt64) 0 11) fun (r7 : Int32) =>
  bd2 (f_X9_passes x0_thrown r7 1) fun (r11 : Int32) (x0_thrown_1 : Int32) =>
  (if r11 = 0 then (
    some (0, x0_thrown_1)
  ) else (
    (if p1 = 0 then (
      ar 0 552 <|
      some ((y1_s (0 : Int32).toNatClampNeg), x0_thrown_1)
    ) else (
    (if p1 = 1 then (
      ar 1 552 <|
      some ((y1_s (1 : Int32).toNatClampNeg), x0_thrown_1)
    ) else (
    (if p1 = 2 then (
      bd1 (f_X9_landCells y1_s) fun (r95 : Int32) =>
      some (r95, x0_thrown_1)
    ) else (
    (if p1 = 3 then (
      ar 2 552 <|
      some ((y1_s (2 : Int32).toNatClampNeg), x0_thrown_1)
    ) else (
    (if p1 = 4 then (
      ar 3 552 <|
      some ((y1_s (3 : Int32).toNatClampNeg), x0_thrown_1)
    ) else (
    (if p1 = 5 then (
      bd1 (f_X9_placedNow y1_s 0) fun (r115 : Int32) =>
      some (r115, x0_thrown_1)
    ) else (
    (if p1 = 6 then (
      bd1 (f_X9_placedNow y1_s 1) fun (r121 : Int32) =>
      some (r121, x0_thrown_1)
    ) else (
    (if p1 = 7 then (
      ar 4 552 <|
      some ((y1_s (4 : Int32).toNatClampNeg), x0_thrown_1)
    ) else (
    (if p1 = 8 then (
      ar 5 552 <|
      some ((y1_s (5 : Int32).toNatClampNeg), x0_thrown_1)
    ) else (
    (if p1 = 9 then (
      ar 6 552 <|
      some ((y1_s (6 : Int32).toNatClampNeg), x0_thrown_1)
    ) else (
    (if p1 = 10 then (
      ar 7 552 <|
      some ((y1_s (7 : Int32).toNatClampNeg), x0_thrown_1)
    ) else (
    some (x0_acts, x0_thrown_1)
    ))
    ))
    ))
    ))
    ))
    ))
    ))
    ))
    ))
    ))
    ))
  ))
noncomputable def f_X9_cell (x0_thrown : Int32) (y1_s : Nat → Int32) (p1 : Int32) (p2 : Int32) : Option (Int32 × Int32) :=
  bd1 (f_X9_isCell y1_s p1) fun (r3 : Int32) =>
  bd1 (f_X9_isIn (p2.toInt64) 0 5) fun (r12 : Int32) =>
  bd2 (f_X9_passes x0_thrown r3 r12) fun (r15 : Int32) (x0_thrown_1 : Int32) =>
  (if r15 = 0 then (
    some (0, x0_thrown_1)
  ) else (
    (if p2 = 0 then (
      bd1 (f_X9_isRiver y1_s p1) fun (r62 : Int32) =>
      (if r62 = 0 then (
        ar (8 + p1) 552 <|
        some ((y1_s (8 + p1).toNatClampNeg), x0_thrown_1)
      ) else (
        some (2, x0_thrown_1)
      ))
    ) else (
    (if p2 = 1 then (
      bd1 (f_X9_harbourAt y1_s p1 (-1)) fun (r85 : Int32) =>
      some (r85, x0_thrown_1)
    ) else (
    (if p2 = 2 then (
      bd1 (f_X9_riverAt y1_s p1) fun (r91 : Int32) =>
      some (r91, x0_thrown_1)
    ) else (
    (if p2 = 3 then (
      bd1 (f_X9_letterAt y1_s p1) fun (r97 : Int32) =>
      some (r97, x0_thrown_1)
    ) else (
    (if p2 = 4 then (
      bd1 (f_X9_namesIn y1_s p1) fun (r103 : Int32) =>
      some (r103, x0_thrown_1)
    ) else (
    bd1 (f_X9_depthOf y1_s p1) fun (r109 : Int32) =>
    some (r109, x0_thrown_1)
    ))
    ))
    ))
    ))
    ))
  ))
noncomputable def f_X9_timesIn (y1_s : Nat → Int32) (p1 : Int32) : Option (Int32) :=
  bv (fun (v2 : Int32) (v3 : Int32) => ((
    ar 4 552 <|
    (if (y1_s (4 : Int32).toNatClampNeg) ≤ v3 then (
      some (.inr v2)
    ) else (
      ar (536 + v3) 552 <|
      bv (fun (t34 : Int32) => ((
        bv (v2 + t34) fun v2_2 =>
        bv (v3 + 1) fun v3_1 =>
        some (.inl (v2_2, v3_1))
        ) : Option ((Int32 × Int32) ⊕ (Int32)))) fun j34 =>
      (if (y1_s (536 + v3).toNatClampNeg) = p1 then (
        j34 1
      ) else (
        j34 0
      ))
    ))
    ) : Option ((Int32 × Int32) ⊕ (Int32)))) fun l4 =>
  bd1 (lq2 l4 0 0) fun (v2_1 : Int32) =>
  some v2_1
noncomputable def f_X9_harbour (x0_thrown : Int32) (y1_s : Nat → Int32) (p1 : Int32) (p2 : Int32) : Option (Int32 × Int32) :=
  bd1 (f_X9_isHarbour y1_s p1) fun (r3 : Int32) =>
  bd1 (f_X9_isIn (p2.toInt64) 0 4) fun (r12 : Int32) =>
  bd2 (f_X9_passes x0_thrown r3 r12) fun (r15 : Int32) (x0_thrown_1 : Int32) =>
  (if r15 = 0 then (
    some (0, x0_thrown_1)
  ) else (
    (if p2 = 4 then (
      bd1 (f_X9_timesIn y1_s p1) fun (r30 : Int32) =>
      some (r30, x0_thrown_1)
    ) else (
      bd1 (f_X9_of y1_s p1 p2) fun (r39 : Int32) =>
      some (r39, x0_thrown_1)
    ))
  ))
noncomputable def f_X9_mayHarbour (x0_thrown : Int32) (y1_s : Nat → Int32) (p1 : Int32) : Option (Int32 × Int32) :=
  bd1 (f_X9_isHarbour y1_s p1) fun (r3 : Int32) =>
  bd2 (f_X9_passes x0_thrown r3 1) fun (r7 : Int32) (x0_thrown_1 : Int32) =>
  zb r7 (some (r7, x0_thrown_1))
noncomputable def f_X9_letter (x0_thrown : Int32) (y1_s : Nat → Int32) (p1 : Int32) (p2 : Int32) : Option (Int32 × Int32) :=
  bd2 (f_X9_mayHarbour x0_thrown y1_s p1) fun (r2 : Int32) (x0_thrown_1 : Int32) =>
  (if r2 = 0 then (
    some (0, x0_thrown_1)
  ) else (
    bd1 (f_X9_of y1_s p1 3) fun (r16 : Int32) =>
    bd1 (f_X9_isIn (p2.toInt64) 0 (((r16 - 1)).toInt64)) fun (r22 : Int32) =>
    (if r22 = 0 then (
      some ((-1), x0_thrown_1)
    ) else (
      bd1 (f_X9_of y1_s p1 (4 + p2)) fun (r33 : Int32) =>
      some (r33, x0_thrown_1)
    ))
  ))
noncomputable def f_X9_mayRiver (x0_thrown : Int32) (y1_s : Nat → Int32) (p1 : Int32) : Option (Int32 × Int32) :=
  ar 3 552 <|
  bd1 (f_X9_isIn (p1.toInt64) 0 ((((y1_s (3 : Int32).toNatClampNeg) - 1)).toInt64)) fun (r13 : Int32) =>
  bd2 (f_X9_passes x0_thrown r13 1) fun (r17 : Int32) (x0_thrown_1 : Int32) =>
  zb r17 (some (r17, x0_thrown_1))
noncomputable def f_X9_river (x0_thrown : Int32) (y1_s : Nat → Int32) (p1 : Int32) (p2 : Int32) : Option (Int32 × Int32) :=
  bd2 (f_X9_mayRiver x0_thrown y1_s p1) fun (r2 : Int32) (x0_thrown_1 : Int32) =>
  (if r2 = 0 then (
    some (0, x0_thrown_1)
  ) else (
    bv (fun (v3 : Int32) => ((
      bd1 (f_X9_cells y1_s) fun (r14 : Int32) =>
      (if r14 ≤ v3 then (
        mr (some ((-1), x0_thrown_1))
      ) else (
        bd1 (f_X9_riverAt y1_s v3) fun (r22 : Int32) =>
        bv (fun (_ : Unit) => ((
          bv (v3 + 1) fun v3_1 =>
          some (.inl v3_1)
          ) : Option ((Int32) ⊕ (Int32 × Int32)))) fun j45 =>
        (if r22 = p1 then (
          ar (296 + v3) 552 <|
          (if (y1_s (296 + v3).toNatClampNeg) = p2 then (
            mr (some (v3, x0_thrown_1))
          ) else (
            j45 ()
          ))
        ) else (
          j45 ()
        ))
      ))
      ) : Option ((Int32) ⊕ (Int32 × Int32)))) fun l12 =>
    lq1 l12 0
  ))
noncomputable def f_X9_voyage (x0_thrown : Int32) (y1_s : Nat → Int32) (p1 : Int32) : Option (Int32 × Int32) :=
  ar 4 552 <|
  bd1 (f_X9_isIn (p1.toInt64) 0 ((((y1_s (4 : Int32).toNatClampNeg) - 1)).toInt64)) fun (r17 : Int32) =>
  (if r17 = 0 then (
    some ((-1), 0)
  ) else (
    ar (536 + p1) 552 <|
    some ((y1_s (536 + p1).toNatClampNeg), 0)
  ))
noncomputable def f_X9_isWay  (p0 : Int32) : Option (Int32) :=
  bd1 (f_X9_isIn (p0.toInt64) 0 3) fun (r6 : Int32) =>
  zb r6 (some r6)
noncomputable def f_X9_why (x0_thrown : Int32) (y1_s : Nat → Int32) (p1 : Int32) (p2 : Int32) : Option (Int32 × Int32) :=
  bd1 (f_X9_isHarbour y1_s p1) fun (r3 : Int32) =>
  bd1 (f_X9_isWay p2) fun (r7 : Int32) =>
  bd2 (f_X9_passes x0_thrown r3 r7) fun (r10 : Int32) (x0_thrown_1 : Int32) =>
  (if r10 = 0 then (
    some (0, x0_thrown_1)
  ) else (
    bd1 (f_X9_reason y1_s p1 p2) fun (r19 : Int32) =>
    some (r19, x0_thrown_1)
  ))
noncomputable def f_X9_ways (x0_thrown : Int32) (y1_s : Nat → Int32) (p1 : Int32) : Option (Int32 × Int32) :=
  bd2 (f_X9_mayHarbour x0_thrown y1_s p1) fun (r2 : Int32) (x0_thrown_1 : Int32) =>
  (if r2 = 0 then (
    some (0, x0_thrown_1)
  ) else (
    bv (fun (v2 : Int32) (v3 : Int32) => ((
      (if 4 ≤ v3 then (
        some (.inr v2)
      ) else (
        bd1 (f_X9_reason y1_s p1 v3) fun (r23 : Int32) =>
        bv (fun (t36 : Int32) => ((
          bv (v2 ||| t36) fun v2_2 =>
          bv (v3 + 1) fun v3_1 =>
          some (.inl (v2_2, v3_1))
          ) : Option ((Int32 × Int32) ⊕ (Int32)))) fun j36 =>
        (if r23 = 0 then (
          j36 (1 <<< (v3 &&& 31))
        ) else (
          j36 0
        ))
      ))
      ) : Option ((Int32 × Int32) ⊕ (Int32)))) fun l14 =>
    bd1 (lq2 l14 0 0) fun (v2_1 : Int32) =>
    some (v2_1, x0_thrown_1)
  ))
noncomputable def f_X9_room (x0_thrown : Int32) (y1_s : Nat → Int32) (p1 : Int32) (p2 : Int32) : Option (Int32 × Int32) :=
  bd1 (f_X9_isHarbour y1_s p1) fun (r3 : Int32) =>
  bd1 (f_X9_isWay p2) fun (r7 : Int32) =>
  bd2 (f_X9_passes x0_thrown r3 r7) fun (r10 : Int32) (x0_thrown_1 : Int32) =>
  (if r10 = 0 then (
    some (0, x0_thrown_1)
  ) else (
    bd1 (f_X9_of y1_s p1 0) fun (r24 : Int32) =>
    bd1 (f_X9_away y1_s r24 p2 1) fun (r29 : Int32) =>
    bv (fun (v3 : Int32) (v4 : Int32) => ((
      bd1 (f_X9_isLand y1_s v4) fun (r37 : Int32) =>
      (if r37 = 0 then (
        some (.inr v3)
      ) else (
        bd1 (f_X9_isRiver y1_s v4) fun (r46 : Int32) =>
        (if r46 = 0 then (
          bd1 (f_X9_harbourAt y1_s v4 (-1)) fun (r56 : Int32) =>
          (if r56 = (-1) then (
            bv (v3 + 1) fun v3_2 =>
            bd1 (f_X9_away y1_s v4 p2 1) fun (r71 : Int32) =>
            some (.inl (v3_2, r71))
          ) else (
            some (.inr v3)
          ))
        ) else (
          some (.inr v3)
        ))
      ))
      ) : Option ((Int32 × Int32) ⊕ (Int32)))) fun l34 =>
    bd1 (lq2 l34 0 r29) fun (v3_1 : Int32) =>
    some (v3_1, x0_thrown_1)
  ))
noncomputable def f_X9_crossings (x0_thrown : Int32) (y1_s : Nat → Int32)  : Option (Int32 × Int32) :=
  bv (fun (v1 : Int32) (v2 : Int32) => ((
    ar 2 552 <|
    (if (y1_s (2 : Int32).toNatClampNeg) ≤ v2 then (
      some (.inr v1)
    ) else (
      bd1 (f_X9_crossedBy y1_s v2) fun (r22 : Int32) =>
      bd1 (f_X9_ones r22) fun (r25 : Int32) =>
      bv (v1 + r25) fun v1_2 =>
      bv (v2 + 1) fun v2_1 =>
      some (.inl (v1_2, v2_1))
    ))
    ) : Option ((Int32 × Int32) ⊕ (Int32)))) fun l9 =>
  bd1 (lq2 l9 0 0) fun (v1_1 : Int32) =>
  some ((v1_1 / 2), 0)
noncomputable def f_X9_crossed (x0_thrown : Int32) (y1_s : Nat → Int32) (p1 : Int32) : Option (Int32 × Int32) :=
  bd2 (f_X9_mayHarbour x0_thrown y1_s p1) fun (r2 : Int32) (x0_thrown_1 : Int32) =>
  (if r2 = 0 then (
    some (0, x0_thrown_1)
  ) else (
    bd1 (f_X9_crossedBy y1_s p1) fun (r10 : Int32) =>
    some (r10, x0_thrown_1)
  ))
noncomputable def f_X9_free (x0_thrown : Int32) (y1_s : Nat → Int32)  : Option (Int32 × Int32) :=
  bv (fun (v1 : Int32) (v2 : Int32) => ((
    bd1 (f_X9_cells y1_s) fun (r11 : Int32) =>
    (if r11 ≤ v2 then (
      some (.inr v1)
    ) else (
      bd1 (f_X9_canBegin y1_s v2) fun (r20 : Int32) =>
      bv (fun (t39 : Int32) => ((
        bv (v1 + t39) fun v1_2 =>
        bv (v2 + 1) fun v2_1 =>
        some (.inl (v1_2, v2_1))
        ) : Option ((Int32 × Int32) ⊕ (Int32)))) fun j39 =>
      bv (fun (_ : Unit) => ((
        j39 0
        ) : Option ((Int32 × Int32) ⊕ (Int32)))) fun j38 =>
      (if r20 = 0 then (
        j38 ()
      ) else (
        bd1 (f_X9_namesIn y1_s v2) fun (r28 : Int32) =>
        (if r28 = 0 then (
          j39 1
        ) else (
          j38 ()
        ))
      ))
    ))
    ) : Option ((Int32 × Int32) ⊕ (Int32)))) fun l9 =>
  bd1 (lq2 l9 0 0) fun (v1_1 : Int32) =>
  some (v1_1, 0)
noncomputable def f_X9_mayTurn (x0_thrown : Int32) (p1 : Int32) : Option (Int32 × Int32) :=
  bd1 (f_X9_isIn (p1.toInt64) 0 3) fun (r7 : Int32) =>
  bd2 (f_X9_passes x0_thrown r7 1) fun (r11 : Int32) (x0_thrown_1 : Int32) =>
  zb r11 (some (r11, x0_thrown_1))
noncomputable def f_X9_upright (x0_thrown : Int32) (y1_s : Nat → Int32) (p1 : Int32) : Option (Int32 × Int32) :=
  bd2 (f_X9_mayTurn x0_thrown p1) fun (r2 : Int32) (x0_thrown_1 : Int32) =>
  (if r2 = 0 then (
    some (0, x0_thrown_1)
  ) else (
    bv (fun (v2 : Int32) (v3 : Int32) => ((
      ar 2 552 <|
      (if (y1_s (2 : Int32).toNatClampNeg) ≤ v3 then (
        some (.inr v2)
      ) else (
        bd1 (f_X9_isPlaced y1_s v3) fun (r27 : Int32) =>
        bv (fun (t53 : Int32) => ((
          bv (v2 ||| t53) fun v2_2 =>
          bv (v3 + 1) fun v3_1 =>
          some (.inl (v2_2, v3_1))
          ) : Option ((Int32 × Int32) ⊕ (Int32)))) fun j53 =>
        bv (fun (_ : Unit) => ((
          j53 0
          ) : Option ((Int32 × Int32) ⊕ (Int32)))) fun j52 =>
        (if r27 = 0 then (
          j52 ()
        ) else (
          bd1 (f_X9_of y1_s v3 2) fun (r36 : Int32) =>
          bd1 (f_X9_uprightBy r36) fun (r39 : Int32) =>
          (if r39 = p1 then (
            j53 (1 <<< (v3 &&& 31))
          ) else (
            j52 ()
          ))
        ))
      ))
      ) : Option ((Int32 × Int32) ⊕ (Int32)))) fun l14 =>
    bd1 (lq2 l14 0 0) fun (v2_1 : Int32) =>
    some (v2_1, x0_thrown_1)
  ))
noncomputable def f_X9_turning (x0_thrown : Int32) (y1_s : Nat → Int32) (y2_ways : Nat → Int32)  : Option (Int32 × Int32 × (Nat → Int32)) :=
  ar 5 552 <|
  bd2 (f_X9_turningNow y1_s y2_ways (y1_s (5 : Int32).toNatClampNeg)) fun (r12 : Int32) (y2_ways_1 : Nat → Int32) =>
  some (r12, 0, y2_ways_1)
noncomputable def f_X9_turningFrom (x0_thrown : Int32) (y1_s : Nat → Int32) (y2_ways : Nat → Int32) (p1 : Int32) : Option (Int32 × Int32 × (Nat → Int32)) :=
  bd2 (f_X9_mayTurn x0_thrown p1) fun (r2 : Int32) (x0_thrown_1 : Int32) =>
  (if r2 = 0 then (
    some (0, x0_thrown_1, y2_ways)
  ) else (
    bd2 (f_X9_turningNow y1_s y2_ways p1) fun (r10 : Int32) (y2_ways_1 : Nat → Int32) =>
    some (r10, x0_thrown_1, y2_ways_1)
  ))
noncomputable def f_X9_bestTurn (x0_thrown : Int32) (y1_s : Nat → Int32) (y2_ways : Nat → Int32)  : Option (Int32 × Int32 × (Nat → Int32)) :=
  bv (fun (v1 : Int32) (v2 : Int32) (y2_ways_1 : Nat → Int32) => ((
    (if 4 ≤ v2 then (
      some (.inr (v1, y2_ways_1))
    ) else (
      bd2 (f_X9_turningNow y1_s y2_ways_1 v2) fun (r16 : Int32) (y2_ways_3 : Nat → Int32) =>
      bd2 (f_X9_turningNow y1_s y2_ways_3 v1) fun (r21 : Int32) (y2_ways_4 : Nat → Int32) =>
      bv (fun (t32 : Int32) => ((
        bv (v2 + 1) fun v2_1 =>
        some (.inl (t32, v2_1, y2_ways_4))
        ) : Option ((Int32 × Int32 × (Nat → Int32)) ⊕ (Int32 × (Nat → Int32))))) fun j32 =>
      (if r21 ≤ r16 then (
        j32 v1
      ) else (
        j32 v2
      ))
    ))
    ) : Option ((Int32 × Int32 × (Nat → Int32)) ⊕ (Int32 × (Nat → Int32))))) fun l9 =>
  bd2 (lq3 l9 0 1 y2_ways) fun (v1_1 : Int32) (y2_ways_2 : Nat → Int32) =>
  some (v1_1, 0, y2_ways_2)
noncomputable def f_X9_hardest (x0_thrown : Int32) (y1_s : Nat → Int32)  : Option (Int32 × Int32) :=
  ar 5 552 <|
  bv (y1_s (5 : Int32).toNatClampNeg) fun v3 =>
  bv (fun (v1 : Int32) (v2 : Int32) (v3_1 : Int32) (v4 : Int32) => ((
    ar 4 552 <|
    (if (y1_s (4 : Int32).toNatClampNeg) ≤ v4 then (
      some (.inr v1)
    ) else (
      ar (536 + v4) 552 <|
      bv (y1_s (536 + v4).toNatClampNeg) fun v5 =>
      bd1 (f_X9_isPlaced y1_s v5) fun (r46 : Int32) =>
      bv (fun (v1_2 : Int32) (v2_1 : Int32) (v3_2 : Int32) => ((
        bv (v4 + 1) fun v4_1 =>
        some (.inl (v1_2, v2_1, v3_2, v4_1))
        ) : Option ((Int32 × Int32 × Int32 × Int32) ⊕ (Int32)))) fun j102 =>
      (if r46 = 0 then (
        j102 v1 v2 v3_1
      ) else (
        bd1 (f_X9_of y1_s v5 2) fun (r60 : Int32) =>
        bd1 (f_X9_uprightBy r60) fun (r63 : Int32) =>
        bd1 (f_X9_quarters v3_1 r63) fun (r66 : Int32) =>
        bv (fun (t83 : Int32) => ((
          bv (if v2 < r66 then r66 else v2) fun v2_2 =>
          bd1 (f_X9_of y1_s v5 2) fun (r95 : Int32) =>
          bd1 (f_X9_uprightBy r95) fun (r98 : Int32) =>
          j102 t83 v2_2 r98
          ) : Option ((Int32 × Int32 × Int32 × Int32) ⊕ (Int32)))) fun j83 =>
        (if r66 ≤ v2 then (
          j83 v1
        ) else (
          j83 v4
        ))
      ))
    ))
    ) : Option ((Int32 × Int32 × Int32 × Int32) ⊕ (Int32)))) fun l19 =>
  bd1 (lq4 l19 (-1) 0 v3 0) fun (v1_1 : Int32) =>
  some (v1_1, 0)
noncomputable def f_X9_least (x0_thrown : Int32) (x0_bestReds : Int32) (x0_bestPlaced : Int32) (x0_bestTurning : Int32) (y1_against : Nat → Int32) (y2_best : Nat → Int32) (y3_may : Nat → Int32) (y4_redThen : Nat → Int32) (y5_s : Nat → Int32) (y6_ways : Nat → Int32)  : Option (Int32 × Int32 × Int32 × Int32 × Int32 × (Nat → Int32) × (Nat → Int32) × (Nat → Int32) × (Nat → Int32) × (Nat → Int32)) :=
  bd8 (f_X9_arrangesNow x0_bestReds x0_bestPlaced x0_bestTurning y1_against y2_best y3_may y4_redThen y5_s y6_ways) fun (x0_bestReds_1 : Int32) (x0_bestPlaced_1 : Int32) (x0_bestTurning_1 : Int32) (y1_against_1 : Nat → Int32) (y2_best_1 : Nat → Int32) (y3_may_1 : Nat → Int32) (y4_redThen_1 : Nat → Int32) (y6_ways_1 : Nat → Int32) =>
  some (x0_bestTurning_1, 0, x0_bestReds_1, x0_bestPlaced_1, x0_bestTurning_1, y1_against_1, y2_best_1, y3_may_1, y4_redThen_1, y6_ways_1)
noncomputable def f_X9_placedThen (x0_thrown : Int32) (x0_bestReds : Int32) (x0_bestPlaced : Int32) (x0_bestTurning : Int32) (y1_against : Nat → Int32) (y2_best : Nat → Int32) (y3_may : Nat → Int32) (y4_redThen : Nat → Int32) (y5_s : Nat → Int32) (y6_ways : Nat → Int32)  : Option (Int32 × Int32 × Int32 × Int32 × Int32 × (Nat → Int32) × (Nat → Int32) × (Nat → Int32) × (Nat → Int32) × (Nat → Int32)) :=
  bd8 (f_X9_arrangesNow x0_bestReds x0_bestPlaced x0_bestTurning y1_against y2_best y3_may y4_redThen y5_s y6_ways) fun (x0_bestReds_1 : Int32) (x0_bestPlaced_1 : Int32) (x0_bestTurning_1 : Int32) (y1_against_1 : Nat → Int32) (y2_best_1 : Nat → Int32) (y3_may_1 : Nat → Int32) (y4_redThen_1 : Nat → Int32) (y6_ways_1 : Nat → Int32) =>
  some (x0_bestPlaced_1, 0, x0_bestReds_1, x0_bestPlaced_1, x0_bestTurning_1, y1_against_1, y2_best_1, y3_may_1, y4_redThen_1, y6_ways_1)
noncomputable def f_X9_arranged (x0_thrown : Int32) (x0_bestReds : Int32) (x0_bestPlaced : Int32) (x0_bestTurning : Int32) (y1_against : Nat → Int32) (y2_best : Nat → Int32) (y3_may : Nat → Int32) (y4_redThen : Nat → Int32) (y5_s : Nat → Int32) (y6_ways : Nat → Int32) (p1 : Int32) : Option (Int32 × Int32 × Int32 × Int32 × Int32 × (Nat → Int32) × (Nat → Int32) × (Nat → Int32) × (Nat → Int32) × (Nat → Int32)) :=
  bd2 (f_X9_mayHarbour x0_thrown y5_s p1) fun (r2 : Int32) (x0_thrown_1 : Int32) =>
  (if r2 = 0 then (
    some (0, x0_thrown_1, x0_bestReds, x0_bestPlaced, x0_bestTurning, y1_against, y2_best, y3_may, y4_redThen, y6_ways)
  ) else (
    bd8 (f_X9_arrangesNow x0_bestReds x0_bestPlaced x0_bestTurning y1_against y2_best y3_may y4_redThen y5_s y6_ways) fun (x0_bestReds_1 : Int32) (x0_bestPlaced_1 : Int32) (x0_bestTurning_1 : Int32) (y1_against_1 : Nat → Int32) (y2_best_1 : Nat → Int32) (y3_may_1 : Nat → Int32) (y4_redThen_1 : Nat → Int32) (y6_ways_1 : Nat → Int32) =>
    ar p1 8 <|
    some ((y2_best_1 p1.toNatClampNeg), x0_thrown_1, x0_bestReds_1, x0_bestPlaced_1, x0_bestTurning_1, y1_against_1, y2_best_1, y3_may_1, y4_redThen_1, y6_ways_1)
  ))
noncomputable def f_X9_leastIf (x0_thrown : Int32) (x0_bestReds : Int32) (x0_bestPlaced : Int32) (x0_bestTurning : Int32) (y1_against : Nat → Int32) (y2_best : Nat → Int32) (y3_may : Nat → Int32) (y4_redThen : Nat → Int32) (y5_s : Nat → Int32) (y6_ways : Nat → Int32) (p1 : Int32) (p2 : Int32) : Option (Int32 × Int32 × Int32 × Int32 × Int32 × (Nat → Int32) × (Nat → Int32) × (Nat → Int32) × (Nat → Int32) × (Nat → Int32)) :=
  bd2 (f_X9_mayHarbour x0_thrown y5_s p1) fun (r2 : Int32) (x0_thrown_1 : Int32) =>
  (if r2 = 0 then (
    some (0, x0_thrown_1, x0_bestReds, x0_bestPlaced, x0_bestTurning, y1_against, y2_best, y3_may, y4_redThen, y6_ways)
  ) else (
    bd8 (f_X9_arrangesIf x0_bestReds x0_bestPlaced x0_bestTurning y1_against y2_best y3_may y4_redThen y5_s y6_ways p1 p2) fun (x0_bestReds_1 : Int32) (x0_bestPlaced_1 : Int32) (x0_bestTurning_1 : Int32) (y1_against_1 : Nat → Int32) (y2_best_1 : Nat → Int32) (y3_may_1 : Nat → Int32) (y4_redThen_1 : Nat → Int32) (y6_ways_1 : Nat → Int32) =>
    some (x0_bestTurning_1, x0_thrown_1, x0_bestReds_1, x0_bestPlaced_1, x0_bestTurning_1, y1_against_1, y2_best_1, y3_may_1, y4_redThen_1, y6_ways_1)
  ))
noncomputable def f_X9_placedIf (x0_thrown : Int32) (x0_bestReds : Int32) (x0_bestPlaced : Int32) (x0_bestTurning : Int32) (y1_against : Nat → Int32) (y2_best : Nat → Int32) (y3_may : Nat → Int32) (y4_redThen : Nat → Int32) (y5_s : Nat → Int32) (y6_ways : Nat → Int32) (p1 : Int32) (p2 : Int32) : Option (Int32 × Int32 × Int32 × Int32 × Int32 × (Nat → Int32) × (Nat → Int32) × (Nat → Int32) × (Nat → Int32) × (Nat → Int32)) :=
  bd2 (f_X9_mayHarbour x0_thrown y5_s p1) fun (r2 : Int32) (x0_thrown_1 : Int32) =>
  (if r2 = 0 then (
    some (0, x0_thrown_1, x0_bestReds, x0_bestPlaced, x0_bestTurning, y1_against, y2_best, y3_may, y4_redThen, y6_ways)
  ) else (
    bd8 (f_X9_arrangesIf x0_bestReds x0_bestPlaced x0_bestTurning y1_against y2_best y3_may y4_redThen y5_s y6_ways p1 p2) fun (x0_bestReds_1 : Int32) (x0_bestPlaced_1 : Int32) (x0_bestTurning_1 : Int32) (y1_against_1 : Nat → Int32) (y2_best_1 : Nat → Int32) (y3_may_1 : Nat → Int32) (y4_redThen_1 : Nat → Int32) (y6_ways_1 : Nat → Int32) =>
    some (x0_bestPlaced_1, x0_thrown_1, x0_bestReds_1, x0_bestPlaced_1, x0_bestTurning_1, y1_against_1, y2_best_1, y3_may_1, y4_redThen_1, y6_ways_1)
  ))
noncomputable def f_X9_shy (x0_thrown : Int32) (x0_bestReds : Int32) (x0_bestPlaced : Int32) (x0_bestTurning : Int32) (y1_against : Nat → Int32) (y2_best : Nat → Int32) (y3_may : Nat → Int32) (y4_redThen : Nat → Int32) (y5_s : Nat → Int32) (y6_ways : Nat → Int32)  : Option (Int32 × Int32 × Int32 × Int32 × Int32 × (Nat → Int32) × (Nat → Int32) × (Nat → Int32) × (Nat → Int32) × (Nat → Int32)) :=
  bv (fun (v1 : Int32) (v2 : Int32) (x0_bestReds_1 : Int32) (x0_bestPlaced_1 : Int32) (x0_bestTurning_1 : Int32) (y1_against_1 : Nat → Int32) (y2_best_1 : Nat → Int32) (y3_may_1 : Nat → Int32) (y4_redThen_1 : Nat → Int32) (y6_ways_1 : Nat → Int32) => ((
    ar 2 552 <|
    (if (y5_s (2 : Int32).toNatClampNeg) ≤ v2 then (
      some (.inr (v1, x0_bestReds_1, x0_bestPlaced_1, x0_bestTurning_1, y1_against_1, y2_best_1, y3_may_1, y4_redThen_1, y6_ways_1))
    ) else (
      bv (fun (v3 : Int32) (y4_redThen_3 : Nat → Int32) => ((
        ar 2 552 <|
        (if (y5_s (2 : Int32).toNatClampNeg) ≤ v3 then (
          some (.inr y4_redThen_3)
        ) else (
          bd1 (f_X9_isRed y5_s v3) fun (r38 : Int32) =>
          ar v3 8 <| bv (upd y4_redThen_3 v3.toNatClampNeg (vp_nar .boolean r38)) fun y4_redThen_5 =>
          bv (v3 + 1) fun v3_1 =>
          some (.inl (v3_1, y4_redThen_5))
        ))
        ) : Option ((Int32 × (Nat → Int32)) ⊕ ((Nat → Int32))))) fun l21 =>
      bd1 (lq2 l21 0 y4_redThen_1) fun (y4_redThen_4 : Nat → Int32) =>
      bd7 (f_X9_arranges x0_bestReds_1 x0_bestPlaced_1 x0_bestTurning_1 y1_against_1 y2_best_1 y3_may_1 y4_redThen_4 y5_s y6_ways_1 v2) fun (x0_bestReds_3 : Int32) (x0_bestPlaced_3 : Int32) (x0_bestTurning_3 : Int32) (y1_against_3 : Nat → Int32) (y2_best_3 : Nat → Int32) (y3_may_3 : Nat → Int32) (y6_ways_3 : Nat → Int32) =>
      ar 2 552 <|
      bv (fun (t76 : Int32) => ((
        bv (v1 ||| t76) fun v1_2 =>
        bv (v2 + 1) fun v2_1 =>
        some (.inl (v1_2, v2_1, x0_bestReds_3, x0_bestPlaced_3, x0_bestTurning_3, y1_against_3, y2_best_3, y3_may_3, y4_redThen_4, y6_ways_3))
        ) : Option ((Int32 × Int32 × Int32 × Int32 × Int32 × (Nat → Int32) × (Nat → Int32) × (Nat → Int32) × (Nat → Int32) × (Nat → Int32)) ⊕ (Int32 × Int32 × Int32 × Int32 × (Nat → Int32) × (Nat → Int32) × (Nat → Int32) × (Nat → Int32) × (Nat → Int32))))) fun j76 =>
      (if x0_bestPlaced_3 = ((y5_s (2 : Int32).toNatClampNeg) - 1) then (
        j76 (1 <<< (v2 &&& 31))
      ) else (
        j76 0
      ))
    ))
    ) : Option ((Int32 × Int32 × Int32 × Int32 × Int32 × (Nat → Int32) × (Nat → Int32) × (Nat → Int32) × (Nat → Int32) × (Nat → Int32)) ⊕ (Int32 × Int32 × Int32 × Int32 × (Nat → Int32) × (Nat → Int32) × (Nat → Int32) × (Nat → Int32) × (Nat → Int32))))) fun l9 =>
  bd9 (lq10 l9 0 0 x0_bestReds x0_bestPlaced x0_bestTurning y1_against y2_best y3_may y4_redThen y6_ways) fun (v1_1 : Int32) (x0_bestReds_2 : Int32) (x0_bestPlaced_2 : Int32) (x0_bestTurning_2 : Int32) (y1_against_2 : Nat → Int32) (y2_best_2 : Nat → Int32) (y3_may_2 : Nat → Int32) (y4_redThen_2 : Nat → Int32) (y6_ways_2 : Nat → Int32) =>
  some (v1_1, 0, x0_bestReds_2, x0_bestPlaced_2, x0_bestTurning_2, y1_against_2, y2_best_2, y3_may_2, y4_redThen_2, y6_ways_2)
noncomputable def f_X9_mayCell (x0_thrown : Int32) (y1_s : Nat → Int32) (p1 : Int32) : Option (Int32 × Int32) :=
  bd1 (f_X9_isCell y1_s p1) fun (r3 : Int32) =>
  bd2 (f_X9_passes x0_thrown r3 1) fun (r7 : Int32) (x0_thrown_1 : Int32) =>
  zb r7 (some (r7, x0_thrown_1))
noncomputable def f_X9_wayLength (x0_thrown : Int32) (x0_flowLong : Int32) (y1_flow : Nat → Int32) (y2_s : Nat → Int32) (y3_sums : Nat → Int32) (p1 : Int32) : Option (Int32 × Int32 × Int32 × (Nat → Int32) × (Nat → Int32)) :=
  bd2 (f_X9_mayCell x0_thrown y2_s p1) fun (r2 : Int32) (x0_thrown_1 : Int32) =>
  (if r2 = 0 then (
    some (0, x0_thrown_1, x0_flowLong, y1_flow, y3_sums)
  ) else (
    bd4 (f_X9_findsFlow x0_flowLong y1_flow y2_s y3_sums p1) fun (r12 : Int32) (x0_flowLong_1 : Int32) (y1_flow_1 : Nat → Int32) (y3_sums_1 : Nat → Int32) =>
    (if r12 = 0 then (
      some ((-3), x0_thrown_1, x0_flowLong_1, y1_flow_1, y3_sums_1)
    ) else (
      some (x0_flowLong_1, x0_thrown_1, x0_flowLong_1, y1_flow_1, y3_sums_1)
    ))
  ))
noncomputable def f_X9_wayCell (x0_thrown : Int32) (x0_flowLong : Int32) (y1_flow : Nat → Int32) (y2_s : Nat → Int32) (y3_sums : Nat → Int32) (p1 : Int32) (p2 : Int32) : Option (Int32 × Int32 × Int32 × (Nat → Int32) × (Nat → Int32)) :=
  bd2 (f_X9_mayCell x0_thrown y2_s p1) fun (r2 : Int32) (x0_thrown_1 : Int32) =>
  (if r2 = 0 then (
    some (0, x0_thrown_1, x0_flowLong, y1_flow, y3_sums)
  ) else (
    bd4 (f_X9_findsFlow x0_flowLong y1_flow y2_s y3_sums p1) fun (r12 : Int32) (x0_flowLong_1 : Int32) (y1_flow_1 : Nat → Int32) (y3_sums_1 : Nat → Int32) =>
    bv (fun (_ : Unit) => ((
      some ((-1), x0_thrown_1, x0_flowLong_1, y1_flow_1, y3_sums_1)
      ) : Option (Int32 × Int32 × Int32 × (Nat → Int32) × (Nat → Int32)))) fun j43 =>
    (if r12 = 0 then (
      j43 ()
    ) else (
      bd1 (f_X9_isIn (p2.toInt64) 0 (((x0_flowLong_1 - 1)).toInt64)) fun (r28 : Int32) =>
      (if r28 = 0 then (
        j43 ()
      ) else (
        ar p2 144 <|
        some ((y1_flow_1 p2.toNatClampNeg), x0_thrown_1, x0_flowLong_1, y1_flow_1, y3_sums_1)
      ))
    ))
  ))
noncomputable def f_X9_washes (x0_thrown : Int32) (x0_flowLong : Int32) (y1_flow : Nat → Int32) (y2_s : Nat → Int32) (y3_sums : Nat → Int32) (p1 : Int32) : Option (Int32 × Int32 × Int32 × (Nat → Int32) × (Nat → Int32)) :=
  bd2 (f_X9_mayCell x0_thrown y2_s p1) fun (r2 : Int32) (x0_thrown_1 : Int32) =>
  (if r2 = 0 then (
    some (0, x0_thrown_1, x0_flowLong, y1_flow, y3_sums)
  ) else (
    bd4 (f_X9_findsFlow x0_flowLong y1_flow y2_s y3_sums p1) fun (r12 : Int32) (x0_flowLong_1 : Int32) (y1_flow_1 : Nat → Int32) (y3_sums_1 : Nat → Int32) =>
    (if r12 = 0 then (
      some (0, x0_thrown_1, x0_flowLong_1, y1_flow_1, y3_sums_1)
    ) else (
      bd1 (f_X9_washedBy x0_flowLong_1 y1_flow_1 y2_s) fun (r19 : Int32) =>
      some (r19, x0_thrown_1, x0_flowLong_1, y1_flow_1, y3_sums_1)
    ))
  ))
noncomputable def f_X9_mildest (x0_thrown : Int32) (x0_flowLong : Int32) (y1_flow : Nat → Int32) (y2_s : Nat → Int32) (y3_sums : Nat → Int32)  : Option (Int32 × Int32 × Int32 × (Nat → Int32) × (Nat → Int32)) :=
  bd1 (f_X9_laysSums y2_s y3_sums) fun (y3_sums_1 : Nat → Int32) =>
  bv (fun (v1 : Int32) (v2 : Int32) (v3 : Int32) (v4 : Int32) (x0_flowLong_1 : Int32) (y1_flow_1 : Nat → Int32) => ((
    bd1 (f_X9_cells y2_s) fun (r21 : Int32) =>
    (if r21 ≤ v4 then (
      some (.inr (v1, x0_flowLong_1, y1_flow_1))
    ) else (
      bd3 (f_X9_laysFlow x0_flowLong_1 y1_flow_1 y2_s y3_sums_1 v4) fun (r30 : Int32) (x0_flowLong_3 : Int32) (y1_flow_3 : Nat → Int32) =>
      bv (fun (v1_2 : Int32) (v2_1 : Int32) (v3_1 : Int32) => ((
        bv (v4 + 1) fun v4_1 =>
        some (.inl (v1_2, v2_1, v3_1, v4_1, x0_flowLong_3, y1_flow_3))
        ) : Option ((Int32 × Int32 × Int32 × Int32 × Int32 × (Nat → Int32)) ⊕ (Int32 × Int32 × (Nat → Int32))))) fun j84 =>
      (if r30 = 0 then (
        j84 v1 v2 v3
      ) else (
        bd1 (f_X9_washedBy x0_flowLong_3 y1_flow_3 y2_s) fun (r40 : Int32) =>
        bd1 (f_X9_ones r40) fun (r43 : Int32) =>
        bv (fun (_ : Unit) => ((
          j84 v4 r43 x0_flowLong_3
          ) : Option ((Int32 × Int32 × Int32 × Int32 × Int32 × (Nat → Int32)) ⊕ (Int32 × Int32 × (Nat → Int32))))) fun j73 =>
        (if v1 = (-1) then (
          j73 ()
        ) else (
          (if r43 < v2 then (
            j73 ()
          ) else (
            (if r43 = v2 then (
              (if x0_flowLong_3 ≤ v3 then (
                j84 v1 v2 v3
              ) else (
                j73 ()
              ))
            ) else (
              j84 v1 v2 v3
            ))
          ))
        ))
      ))
    ))
    ) : Option ((Int32 × Int32 × Int32 × Int32 × Int32 × (Nat → Int32)) ⊕ (Int32 × Int32 × (Nat → Int32))))) fun l18 =>
  bd3 (lq6 l18 (-1) 0 0 0 x0_flowLong y1_flow) fun (v1_1 : Int32) (x0_flowLong_2 : Int32) (y1_flow_2 : Nat → Int32) =>
  some (v1_1, 0, x0_flowLong_2, y1_flow_2, y3_sums_1)
noncomputable def f_X9_drowns (x0_thrown : Int32) (y1_s : Nat → Int32) (p1 : Int32) : Option (Int32 × Int32) :=
  bd2 (f_X9_mayCell x0_thrown y1_s p1) fun (r2 : Int32) (x0_thrown_1 : Int32) =>
  (if r2 = 0 then (
    some (0, x0_thrown_1)
  ) else (
    bd1 (f_X9_namesIn y1_s p1) fun (r10 : Int32) =>
    some (r10, x0_thrown_1)
  ))
noncomputable def f_X9_place (x0_acts : Int32) (x0_thrown : Int32) (y1_past : Nat → Int32) (y2_s : Nat → Int32) (p1 : Int32) (p2 : Int32) : Option (Int32 × Int32 × Int32 × (Nat → Int32) × (Nat → Int32)) :=
  bd1 (f_X9_isHarbour y2_s p1) fun (r3 : Int32) =>
  bd1 (f_X9_isWay p2) fun (r7 : Int32) =>
  bd2 (f_X9_passes x0_thrown r3 r7) fun (r10 : Int32) (x0_thrown_1 : Int32) =>
  (if r10 = 0 then (
    some (0, x0_acts, x0_thrown_1, y1_past, y2_s)
  ) else (
    bd1 (f_X9_reason y2_s p1 p2) fun (r21 : Int32) =>
    (if r21 = 0 then (
      bd2 (f_X9_keeps x0_acts y1_past y2_s) fun (x0_acts_1 : Int32) (y1_past_1 : Nat → Int32) =>
      bd1 (f_X9_of y2_s p1 2) fun (r37 : Int32) =>
      bd1 (f_X9_puts y2_s p1 2 p2) fun (y2_s_1 : Nat → Int32) =>
      some (r37, x0_acts_1, x0_thrown_1, y1_past_1, y2_s_1)
    ) else (
      some ((-3), x0_acts, x0_thrown_1, y1_past, y2_s)
    ))
  ))
noncomputable def f_X9_lift (x0_acts : Int32) (x0_thrown : Int32) (y1_past : Nat → Int32) (y2_s : Nat → Int32) (p1 : Int32) : Option (Int32 × Int32 × Int32 × (Nat → Int32) × (Nat → Int32)) :=
  bd2 (f_X9_mayHarbour x0_thrown y2_s p1) fun (r2 : Int32) (x0_thrown_1 : Int32) =>
  (if r2 = 0 then (
    some (0, x0_acts, x0_thrown_1, y1_past, y2_s)
  ) else (
    bd1 (f_X9_of y2_s p1 2) fun (r13 : Int32) =>
    (if r13 = (-1) then (
      some ((-3), x0_acts, x0_thrown_1, y1_past, y2_s)
    ) else (
      bd2 (f_X9_keeps x0_acts y1_past y2_s) fun (x0_acts_1 : Int32) (y1_past_1 : Nat → Int32) =>
      bd1 (f_X9_puts y2_s p1 2 (-1)) fun (y2_s_1 : Nat → Int32) =>
      some (r13, x0_acts_1, x0_thrown_1, y1_past_1, y2_s_1)
    ))
  ))
noncomputable def f_X9_arrange (x0_acts : Int32) (x0_thrown : Int32) (x0_bestReds : Int32) (x0_bestPlaced : Int32) (x0_bestTurning : Int32) (y1_against : Nat → Int32) (y2_best : Nat → Int32) (y3_may : Nat → Int32) (y4_past : Nat → Int32) (y5_redThen : Nat → Int32) (y6_s : Nat → Int32) (y7_ways : Nat → Int32)  : Option (Int32 × Int32 × Int32 × Int32 × Int32 × Int32 × (Nat → Int32) × (Nat → Int32) × (Nat → Int32) × (Nat → Int32) × (Nat → Int32) × (Nat → Int32) × (Nat → Int32)) :=
  bd8 (f_X9_arrangesNow x0_bestReds x0_bestPlaced x0_bestTurning y1_against y2_best y3_may y5_redThen y6_s y7_ways) fun (x0_bestReds_1 : Int32) (x0_bestPlaced_1 : Int32) (x0_bestTurning_1 : Int32) (y1_against_1 : Nat → Int32) (y2_best_1 : Nat → Int32) (y3_may_1 : Nat → Int32) (y5_redThen_1 : Nat → Int32) (y7_ways_1 : Nat → Int32) =>
  bd2 (f_X9_keeps x0_acts y4_past y6_s) fun (x0_acts_1 : Int32) (y4_past_1 : Nat → Int32) =>
  bv (fun (v1 : Int32) (y6_s_1 : Nat → Int32) => ((
    ar 2 552 <|
    (if (y6_s_1 (2 : Int32).toNatClampNeg) ≤ v1 then (
      some (.inr y6_s_1)
    ) else (
      ar v1 8 <|
      bd1 (f_X9_puts y6_s_1 v1 2 (y2_best_1 v1.toNatClampNeg)) fun (y6_s_3 : Nat → Int32) =>
      bv (v1 + 1) fun v1_1 =>
      some (.inl (v1_1, y6_s_3))
    ))
    ) : Option ((Int32 × (Nat → Int32)) ⊕ ((Nat → Int32))))) fun l15 =>
  bd1 (lq2 l15 0 y6_s) fun (y6_s_2 : Nat → Int32) =>
  some (x0_bestPlaced_1, x0_acts_1, 0, x0_bestReds_1, x0_bestPlaced_1, x0_bestTurning_1, y1_against_1, y2_best_1, y3_may_1, y4_past_1, y5_redThen_1, y6_s_2, y7_ways_1)
noncomputable def f_X9_setRed (x0_acts : Int32) (x0_thrown : Int32) (y1_past : Nat → Int32) (y2_s : Nat → Int32) (p1 : Int32) (p2 : Int32) : Option (Int32 × Int32 × Int32 × (Nat → Int32) × (Nat → Int32)) :=
  bd2 (f_X9_mayHarbour x0_thrown y2_s p1) fun (r2 : Int32) (x0_thrown_1 : Int32) =>
  (if r2 = 0 then (
    some (0, x0_acts, x0_thrown_1, y1_past, y2_s)
  ) else (
    bd2 (f_X9_keeps x0_acts y1_past y2_s) fun (x0_acts_1 : Int32) (y1_past_1 : Nat → Int32) =>
    bd1 (f_X9_isRed y2_s p1) fun (r16 : Int32) =>
    bv (fun (t32 : Int32) => ((
      bd1 (f_X9_puts y2_s p1 1 t32) fun (y2_s_1 : Nat → Int32) =>
      (if p2 = 0 then (
        zb r16 (some (r16, x0_acts_1, x0_thrown_1, y1_past_1, y2_s_1))
      ) else (
        bd1 (f_X9_crossedBy y2_s_1 p1) fun (r42 : Int32) =>
        bd2 (f_X9_lifts y2_s_1 r42) fun (r45 : Int32) (y2_s_2 : Nat → Int32) =>
        zb r16 (some (r16, x0_acts_1, x0_thrown_1, y1_past_1, y2_s_2))
      ))
      ) : Option (Int32 × Int32 × Int32 × (Nat → Int32) × (Nat → Int32)))) fun j32 =>
    (if p2 = 0 then (
      j32 0
    ) else (
      j32 1
    ))
  ))
noncomputable def f_X9_addRiver (x0_acts : Int32) (x0_thrown : Int32) (x0_flowLong : Int32) (y1_flow : Nat → Int32) (y2_past : Nat → Int32) (y3_s : Nat → Int32) (y4_sums : Nat → Int32) (p1 : Int32) : Option (Int32 × Int32 × Int32 × Int32 × (Nat → Int32) × (Nat → Int32) × (Nat → Int32) × (Nat → Int32)) :=
  bd2 (f_X9_mayCell x0_thrown y3_s p1) fun (r2 : Int32) (x0_thrown_1 : Int32) =>
  (if r2 = 0 then (
    some (0, x0_acts, x0_thrown_1, x0_flowLong, y1_flow, y2_past, y3_s, y4_sums)
  ) else (
    ar 3 552 <|
    (if (y3_s (3 : Int32).toNatClampNeg) = 8 then (
      some ((-2), x0_acts, x0_thrown_1, x0_flowLong, y1_flow, y2_past, y3_s, y4_sums)
    ) else (
      bd4 (f_X9_findsFlow x0_flowLong y1_flow y3_s y4_sums p1) fun (r26 : Int32) (x0_flowLong_1 : Int32) (y1_flow_1 : Nat → Int32) (y4_sums_1 : Nat → Int32) =>
      (if r26 = 0 then (
        some ((-3), x0_acts, x0_thrown_1, x0_flowLong_1, y1_flow_1, y2_past, y3_s, y4_sums_1)
      ) else (
        bd2 (f_X9_keeps x0_acts y2_past y3_s) fun (x0_acts_1 : Int32) (y2_past_1 : Nat → Int32) =>
        bd1 (f_X9_flows x0_flowLong_1 y1_flow_1 y3_s) fun (y3_s_1 : Nat → Int32) =>
        ar 3 552 <|
        some (((y3_s_1 (3 : Int32).toNatClampNeg) - 1), x0_acts_1, x0_thrown_1, x0_flowLong_1, y1_flow_1, y2_past_1, y3_s_1, y4_sums_1)
      ))
    ))
  ))
noncomputable def f_X9_dropRiver (x0_acts : Int32) (x0_thrown : Int32) (y1_past : Nat → Int32) (y2_s : Nat → Int32) (p1 : Int32) : Option (Int32 × Int32 × Int32 × (Nat → Int32) × (Nat → Int32)) :=
  bd2 (f_X9_mayRiver x0_thrown y2_s p1) fun (r2 : Int32) (x0_thrown_1 : Int32) =>
  (if r2 = 0 then (
    some (0, x0_acts, x0_thrown_1, y1_past, y2_s)
  ) else (
    bd2 (f_X9_keeps x0_acts y1_past y2_s) fun (x0_acts_1 : Int32) (y1_past_1 : Nat → Int32) =>
    bv (fun (v2 : Int32) (v3 : Int32) (y2_s_1 : Nat → Int32) => ((
      bd1 (f_X9_cells y2_s_1) fun (r20 : Int32) =>
      (if r20 ≤ v3 then (
        some (.inr (v2, y2_s_1))
      ) else (
        bd1 (f_X9_riverAt y2_s_1 v3) fun (r28 : Int32) =>
        bv (fun (t45 : Int32) => ((
          bv (v2 + t45) fun v2_2 =>
          bv (fun (t81 : Int32) => ((
            ar (152 + v3) 552 <| bv (upd y2_s_1 (152 + v3).toNatClampNeg t81) fun y2_s_3 =>
            bv (fun (t111 : Int32) => ((
              ar (296 + v3) 552 <| bv (upd y2_s_3 (296 + v3).toNatClampNeg t111) fun y2_s_4 =>
              bv (v3 + 1) fun v3_1 =>
              some (.inl (v2_2, v3_1, y2_s_4))
              ) : Option ((Int32 × Int32 × (Nat → Int32)) ⊕ (Int32 × (Nat → Int32))))) fun j111 =>
            (if r28 = p1 then (
              j111 0
            ) else (
              ar (296 + v3) 552 <|
              j111 (y2_s_3 (296 + v3).toNatClampNeg)
            ))
            ) : Option ((Int32 × Int32 × (Nat → Int32)) ⊕ (Int32 × (Nat → Int32))))) fun j81 =>
          (if r28 = p1 then (
            j81 0
          ) else (
            (if r28 ≤ p1 then (
              j81 (r28 + 1)
            ) else (
              j81 r28
            ))
          ))
          ) : Option ((Int32 × Int32 × (Nat → Int32)) ⊕ (Int32 × (Nat → Int32))))) fun j45 =>
        (if r28 = p1 then (
          j45 1
        ) else (
          j45 0
        ))
      ))
      ) : Option ((Int32 × Int32 × (Nat → Int32)) ⊕ (Int32 × (Nat → Int32))))) fun l18 =>
    bd2 (lq3 l18 0 0 y2_s) fun (v2_1 : Int32) (y2_s_2 : Nat → Int32) =>
    ar 3 552 <|
    ar 3 552 <| bv (upd y2_s_2 (3 : Int32).toNatClampNeg ((y2_s_2 (3 : Int32).toNatClampNeg) - 1)) fun y2_s_5 =>
    some (v2_1, x0_acts_1, x0_thrown_1, y1_past_1, y2_s_5)
  ))
noncomputable def f_X9_erode (x0_acts : Int32) (x0_thrown : Int32) (y1_past : Nat → Int32) (y2_s : Nat → Int32) (p1 : Int32) : Option (Int32 × Int32 × Int32 × (Nat → Int32) × (Nat → Int32)) :=
  bd2 (f_X9_mayCell x0_thrown y2_s p1) fun (r2 : Int32) (x0_thrown_1 : Int32) =>
  (if r2 = 0 then (
    some (0, x0_acts, x0_thrown_1, y1_past, y2_s)
  ) else (
    bd1 (f_X9_canBegin y2_s p1) fun (r12 : Int32) =>
    (if r12 = 0 then (
      some ((-3), x0_acts, x0_thrown_1, y1_past, y2_s)
    ) else (
      bd2 (f_X9_keeps x0_acts y1_past y2_s) fun (x0_acts_1 : Int32) (y1_past_1 : Nat → Int32) =>
      bd1 (f_X9_namesIn y2_s p1) fun (r28 : Int32) =>
      bd2 (f_X9_lifts y2_s r28) fun (r31 : Int32) (y2_s_1 : Nat → Int32) =>
      ar (8 + p1) 552 <| bv (upd y2_s_1 (8 + p1).toNatClampNeg 0) fun y2_s_2 =>
      some (r31, x0_acts_1, x0_thrown_1, y1_past_1, y2_s_2)
    ))
  ))
noncomputable def f_X9_raise (x0_acts : Int32) (x0_thrown : Int32) (y1_past : Nat → Int32) (y2_s : Nat → Int32) (p1 : Int32) : Option (Int32 × Int32 × Int32 × (Nat → Int32) × (Nat → Int32)) :=
  bd2 (f_X9_mayCell x0_thrown y2_s p1) fun (r2 : Int32) (x0_thrown_1 : Int32) =>
  (if r2 = 0 then (
    some (0, x0_acts, x0_thrown_1, y1_past, y2_s)
  ) else (
    bd1 (f_X9_isLand y2_s p1) fun (r12 : Int32) =>
    (if r12 = 0 then (
      ar (8 + p1) 552 <| bv (upd y2_s (8 + p1).toNatClampNeg 1) fun y2_s_1 =>
      bv (fun (v2 : Int32) (v3 : Int32) (v4 : Int32) => ((
        ar 2 552 <|
        (if (y2_s_1 (2 : Int32).toNatClampNeg) ≤ v4 then (
          some (.inr (v2, v3))
        ) else (
          bv (fun (t72 : Int32) => ((
            bd1 (f_X9_isPlaced y2_s_1 v4) fun (r77 : Int32) =>
            bv (fun (t121 : Int32) => ((
              bv (v3 ||| t121) fun v3_2 =>
              bv (v4 + 1) fun v4_1 =>
              some (.inl (t72, v3_2, v4_1))
              ) : Option ((Int32 × Int32 × Int32) ⊕ (Int32 × Int32)))) fun j121 =>
            bv (fun (_ : Unit) => ((
              j121 0
              ) : Option ((Int32 × Int32 × Int32) ⊕ (Int32 × Int32)))) fun j120 =>
            (if r77 = 0 then (
              j120 ()
            ) else (
              bd1 (f_X9_of y2_s_1 v4 0) fun (r89 : Int32) =>
              bd1 (f_X9_of y2_s_1 v4 2) fun (r96 : Int32) =>
              bd1 (f_X9_away y2_s_1 r89 ((r96 + 2) - (r96 + 2) / 4 * 4) 1) fun (r104 : Int32) =>
              bd1 (f_X9_isLand y2_s_1 r104) fun (r107 : Int32) =>
              (if r107 = 0 then (
                j120 ()
              ) else (
                j121 (1 <<< (v4 &&& 31))
              ))
            ))
            ) : Option ((Int32 × Int32 × Int32) ⊕ (Int32 × Int32)))) fun j72 =>
          bv (fun (_ : Unit) => ((
            j72 0
            ) : Option ((Int32 × Int32 × Int32) ⊕ (Int32 × Int32)))) fun j71 =>
          (if v2 = 0 then (
            j71 ()
          ) else (
            bd1 (f_X9_of y2_s_1 v4 0) fun (r58 : Int32) =>
            bd1 (f_X9_isCoast y2_s_1 r58) fun (r61 : Int32) =>
            (if r61 = 0 then (
              j71 ()
            ) else (
              j72 1
            ))
          ))
        ))
        ) : Option ((Int32 × Int32 × Int32) ⊕ (Int32 × Int32)))) fun l38 =>
      bd2 (lq3 l38 1 0 0) fun (v2_1 : Int32) (v3_1 : Int32) =>
      ar (8 + p1) 552 <| bv (upd y2_s_1 (8 + p1).toNatClampNeg 0) fun y2_s_2 =>
      (if v2_1 = 0 then (
        some ((-3), x0_acts, x0_thrown_1, y1_past, y2_s_2)
      ) else (
        bd2 (f_X9_keeps x0_acts y1_past y2_s_2) fun (x0_acts_1 : Int32) (y1_past_1 : Nat → Int32) =>
        ar (8 + p1) 552 <| bv (upd y2_s_2 (8 + p1).toNatClampNeg 1) fun y2_s_3 =>
        bd2 (f_X9_lifts y2_s_3 v3_1) fun (r162 : Int32) (y2_s_4 : Nat → Int32) =>
        some (r162, x0_acts_1, x0_thrown_1, y1_past_1, y2_s_4)
      ))
    ) else (
      some ((-3), x0_acts, x0_thrown_1, y1_past, y2_s)
    ))
  ))
noncomputable def f_X9_sail (x0_acts : Int32) (x0_thrown : Int32) (y1_past : Nat → Int32) (y2_s : Nat → Int32) (p1 : Int32) : Option (Int32 × Int32 × Int32 × (Nat → Int32) × (Nat → Int32)) :=
  bd2 (f_X9_mayHarbour x0_thrown y2_s p1) fun (r2 : Int32) (x0_thrown_1 : Int32) =>
  (if r2 = 0 then (
    some (0, x0_acts, x0_thrown_1, y1_past, y2_s)
  ) else (
    ar 4 552 <|
    (if (y2_s (4 : Int32).toNatClampNeg) = 16 then (
      some ((-2), x0_acts, x0_thrown_1, y1_past, y2_s)
    ) else (
      bd2 (f_X9_keeps x0_acts y1_past y2_s) fun (x0_acts_1 : Int32) (y1_past_1 : Nat → Int32) =>
      ar 4 552 <|
      ar (536 + (y2_s (4 : Int32).toNatClampNeg)) 552 <| bv (upd y2_s (536 + (y2_s (4 : Int32).toNatClampNeg)).toNatClampNeg p1) fun y2_s_1 =>
      ar 4 552 <|
      ar 4 552 <| bv (upd y2_s_1 (4 : Int32).toNatClampNeg ((y2_s_1 (4 : Int32).toNatClampNeg) + 1)) fun y2_s_2 =>
      ar 4 552 <|
      some ((y2_s_2 (4 : Int32).toNatClampNeg), x0_acts_1, x0_thrown_1, y1_past_1, y2_s_2)
    ))
  ))
noncomputable def f_X9_cut (x0_acts : Int32) (x0_thrown : Int32) (y1_past : Nat → Int32) (y2_s : Nat → Int32) (p1 : Int32) : Option (Int32 × Int32 × Int32 × (Nat → Int32) × (Nat → Int32)) :=
  ar 4 552 <|
  bd1 (f_X9_isIn (p1.toInt64) 0 ((((y2_s (4 : Int32).toNatClampNeg) - 1)).toInt64)) fun (r13 : Int32) =>
  bd2 (f_X9_passes x0_thrown r13 1) fun (r17 : Int32) (x0_thrown_1 : Int32) =>
  (if r17 = 0 then (
    some (0, x0_acts, x0_thrown_1, y1_past, y2_s)
  ) else (
    bd2 (f_X9_keeps x0_acts y1_past y2_s) fun (x0_acts_1 : Int32) (y1_past_1 : Nat → Int32) =>
    ar (536 + p1) 552 <|
    bv (y2_s (536 + p1).toNatClampNeg) fun v2 =>
    ar 4 552 <|
    ar 4 552 <| bv (upd y2_s (4 : Int32).toNatClampNeg ((y2_s (4 : Int32).toNatClampNeg) - 1)) fun y2_s_1 =>
    bv (fun (v3 : Int32) (y2_s_2 : Nat → Int32) => ((
      ar 4 552 <|
      (if (y2_s_2 (4 : Int32).toNatClampNeg) ≤ v3 then (
        some (.inr y2_s_2)
      ) else (
        ar ((536 + v3) + 1) 552 <|
        ar (536 + v3) 552 <| bv (upd y2_s_2 (536 + v3).toNatClampNeg (y2_s_2 ((536 + v3) + 1).toNatClampNeg)) fun y2_s_4 =>
        bv (v3 + 1) fun v3_1 =>
        some (.inl (v3_1, y2_s_4))
      ))
      ) : Option ((Int32 × (Nat → Int32)) ⊕ ((Nat → Int32))))) fun l52 =>
    bd1 (lq2 l52 p1 y2_s_1) fun (y2_s_3 : Nat → Int32) =>
    ar 4 552 <|
    ar (536 + (y2_s_3 (4 : Int32).toNatClampNeg)) 552 <| bv (upd y2_s_3 (536 + (y2_s_3 (4 : Int32).toNatClampNeg)).toNatClampNeg 0) fun y2_s_5 =>
    ar 6 552 <|
    ar 6 552 <|
    bv (fun (t130 : Int32) => ((
      ar 6 552 <| bv (upd y2_s_5 (6 : Int32).toNatClampNeg ((y2_s_5 (6 : Int32).toNatClampNeg) - t130)) fun y2_s_6 =>
      ar 6 552 <|
      ar 4 552 <|
      bv (fun (t165 : Int32) => ((
        ar 6 552 <| bv (upd y2_s_6 (6 : Int32).toNatClampNeg t165) fun y2_s_7 =>
        some (v2, x0_acts_1, x0_thrown_1, y1_past_1, y2_s_7)
        ) : Option (Int32 × Int32 × Int32 × (Nat → Int32) × (Nat → Int32)))) fun j165 =>
      (if (y2_s_6 (4 : Int32).toNatClampNeg) ≤ (y2_s_6 (6 : Int32).toNatClampNeg) then (
        j165 0
      ) else (
        ar 6 552 <|
        j165 (y2_s_6 (6 : Int32).toNatClampNeg)
      ))
      ) : Option (Int32 × Int32 × Int32 × (Nat → Int32) × (Nat → Int32)))) fun j130 =>
    (if (y2_s_5 (6 : Int32).toNatClampNeg) ≤ p1 then (
      j130 0
    ) else (
      j130 1
    ))
  ))
noncomputable def f_X9_turns (y1_s : Nat → Int32) (p1 : Int32) : Option (Int32 × (Nat → Int32)) :=
  ar 5 552 <|
  bd1 (f_X9_quarters (y1_s (5 : Int32).toNatClampNeg) p1) fun (r7 : Int32) =>
  ar 5 552 <| bv (upd y1_s (5 : Int32).toNatClampNeg p1) fun y1_s_1 =>
  ar 7 552 <|
  ar 7 552 <| bv (upd y1_s_1 (7 : Int32).toNatClampNeg ((y1_s_1 (7 : Int32).toNatClampNeg) + r7)) fun y1_s_2 =>
  some (r7, y1_s_2)
noncomputable def f_X9_turnPage (x0_acts : Int32) (x0_thrown : Int32) (y1_past : Nat → Int32) (y2_s : Nat → Int32) (p1 : Int32) : Option (Int32 × Int32 × Int32 × (Nat → Int32) × (Nat → Int32)) :=
  bd2 (f_X9_mayTurn x0_thrown p1) fun (r2 : Int32) (x0_thrown_1 : Int32) =>
  (if r2 = 0 then (
    some (0, x0_acts, x0_thrown_1, y1_past, y2_s)
  ) else (
    bd2 (f_X9_keeps x0_acts y1_past y2_s) fun (x0_acts_1 : Int32) (y1_past_1 : Nat → Int32) =>
    bd2 (f_X9_turns y2_s p1) fun (r16 : Int32) (y2_s_1 : Nat → Int32) =>
    some (r16, x0_acts_1, x0_thrown_1, y1_past_1, y2_s_1)
  ))
noncomputable def f_X9_read (x0_acts : Int32) (x0_thrown : Int32) (y1_past : Nat → Int32) (y2_s : Nat → Int32)  : Option (Int32 × Int32 × Int32 × (Nat → Int32) × (Nat → Int32)) :=
  ar 4 552 <|
  (if (y2_s (4 : Int32).toNatClampNeg) = 0 then (
    some ((-3), x0_acts, 0, y1_past, y2_s)
  ) else (
    bd2 (f_X9_keeps x0_acts y1_past y2_s) fun (x0_acts_1 : Int32) (y1_past_1 : Nat → Int32) =>
    ar 6 552 <|
    ar (536 + (y2_s (6 : Int32).toNatClampNeg)) 552 <|
    bv (y2_s (536 + (y2_s (6 : Int32).toNatClampNeg)).toNatClampNeg) fun v1 =>
    bd1 (f_X9_isPlaced y2_s v1) fun (r40 : Int32) =>
    bv (fun (y2_s_1 : Nat → Int32) => ((
      ar 6 552 <|
      ar 4 552 <|
      dv (y2_s_1 (4 : Int32).toNatClampNeg) <|
      ar 6 552 <| bv (upd y2_s_1 (6 : Int32).toNatClampNeg (((y2_s_1 (6 : Int32).toNatClampNeg) + 1) - ((y2_s_1 (6 : Int32).toNatClampNeg) + 1) / (y2_s_1 (4 : Int32).toNatClampNeg) * (y2_s_1 (4 : Int32).toNatClampNeg))) fun y2_s_2 =>
      some (v1, x0_acts_1, 0, y1_past_1, y2_s_2)
      ) : Option (Int32 × Int32 × Int32 × (Nat → Int32) × (Nat → Int32)))) fun j60 =>
    (if r40 = 0 then (
      j60 y2_s
    ) else (
      bd1 (f_X9_of y2_s v1 2) fun (r50 : Int32) =>
      bd1 (f_X9_uprightBy r50) fun (r53 : Int32) =>
      bd2 (f_X9_turns y2_s r53) fun (r56 : Int32) (y2_s_3 : Nat → Int32) =>
      j60 y2_s_3
    ))
  ))
noncomputable def f_X9_meanTurn (x0_thrown : Int32) (y1_s : Nat → Int32) (y2_ways : Nat → Int32)  : Option (UInt64 × Int32 × (Nat → Int32)) :=
  bv (fun (v1 : Int32) (v2 : Int32) => ((
    ar 4 552 <|
    (if (y1_s (4 : Int32).toNatClampNeg) ≤ v2 then (
      some (.inr v1)
    ) else (
      ar (536 + v2) 552 <|
      bd1 (f_X9_isPlaced y1_s (y1_s (536 + v2).toNatClampNeg)) fun (r31 : Int32) =>
      bv (fun (t42 : Int32) => ((
        bv (v1 + t42) fun v1_2 =>
        bv (v2 + 1) fun v2_1 =>
        some (.inl (v1_2, v2_1))
        ) : Option ((Int32 × Int32) ⊕ (Int32)))) fun j42 =>
      (if r31 = 0 then (
        j42 0
      ) else (
        j42 1
      ))
    ))
    ) : Option ((Int32 × Int32) ⊕ (Int32)))) fun l9 =>
  bd1 (lq2 l9 0 0) fun (v1_1 : Int32) =>
  bv (fun (y2_ways_1 : Nat → Int32) (t72 : UInt64) => ((
    some (t72, 0, y2_ways_1)
    ) : Option (UInt64 × Int32 × (Nat → Int32)))) fun j72 =>
  (if v1_1 = 0 then (
    j72 y2_ways FP.dconst0
  ) else (
    ar 5 552 <|
    bd2 (f_X9_turningNow y1_s y2_ways (y1_s (5 : Int32).toNatClampNeg)) fun (r65 : Int32) (y2_ways_2 : Nat → Int32) =>
    nn64 (FP.ddiv (FP.i2d r65) (FP.i2d v1_1)) <|
    j72 y2_ways_2 (FP.ddiv (FP.i2d r65) (FP.i2d v1_1))
  ))
noncomputable def f_X9_cover (x0_thrown : Int32) (y1_s : Nat → Int32)  : Option (UInt32 × Int32) :=
  bv (fun (v1 : Int32) (v2 : Int32) => ((
    bd1 (f_X9_cells y1_s) fun (r11 : Int32) =>
    (if r11 ≤ v2 then (
      some (.inr v1)
    ) else (
      bd1 (f_X9_namesIn y1_s v2) fun (r20 : Int32) =>
      bv (fun (t31 : Int32) => ((
        bv (v1 + t31) fun v1_2 =>
        bv (v2 + 1) fun v2_1 =>
        some (.inl (v1_2, v2_1))
        ) : Option ((Int32 × Int32) ⊕ (Int32)))) fun j31 =>
      (if r20 = 0 then (
        j31 0
      ) else (
        j31 1
      ))
    ))
    ) : Option ((Int32 × Int32) ⊕ (Int32)))) fun l9 =>
  bd1 (lq2 l9 0 0) fun (v1_1 : Int32) =>
  bd1 (f_X9_landCells y1_s) fun (r40 : Int32) =>
  bv (fun (t57 : UInt32) => ((
    some (t57, 0)
    ) : Option (UInt32 × Int32))) fun j57 =>
  (if r40 = 0 then (
    j57 FP.fconst0
  ) else (
    nn32 (FP.fdiv (FP.i2f v1_1) (FP.i2f r40)) <|
    j57 (FP.fdiv (FP.i2f v1_1) (FP.i2f r40))
  ))
noncomputable def f_X9_isRedIn (y1_s : Nat → Int32) (p1 : Int32) : Option (Int32) :=
  bv (fun (v2 : Int32) (v3 : Int32) => ((
    ar 2 552 <|
    (if (y1_s (2 : Int32).toNatClampNeg) ≤ v3 then (
      some (.inr v2)
    ) else (
      bv (fun (t41 : Int32) => ((
        bv (v3 + 1) fun v3_1 =>
        some (.inl (t41, v3_1))
        ) : Option ((Int32 × Int32) ⊕ (Int32)))) fun j41 =>
      bv (fun (_ : Unit) => ((
        j41 1
        ) : Option ((Int32 × Int32) ⊕ (Int32)))) fun j36 =>
      (if v2 = 0 then (
        bd1 (f_X9_isRed y1_s v3) fun (r20 : Int32) =>
        bv (fun (_ : Unit) => ((
          j41 0
          ) : Option ((Int32 × Int32) ⊕ (Int32)))) fun j40 =>
        (if r20 = 0 then (
          j40 ()
        ) else (
          bd1 (f_X9_letterOf y1_s v3 p1) fun (r29 : Int32) =>
          (if r29 = (-1) then (
            j40 ()
          ) else (
            j36 ()
          ))
        ))
      ) else (
        j36 ()
      ))
    ))
    ) : Option ((Int32 × Int32) ⊕ (Int32)))) fun l4 =>
  bd1 (lq2 l4 0 0) fun (v2_1 : Int32) =>
  zb v2_1 (some v2_1)
