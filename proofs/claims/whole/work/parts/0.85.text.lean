def txOut (X : Option (Int32 × Int32 × Int32 × Int32 × Int32 × Int32 × Int32 × Int32 × Int32 × Int32 × Int32 × Int32 × Int32 × Int32 × Int32 × Int32 × Int32 × Int32 × Int32 × Int32 × Int32 × (Nat → Int32) × (Nat → Int32) × (Nat → Int32) × (Nat → Int32) × (Nat → Int32) × (Nat → Int32) × (Nat → Int32) × (Nat → Int32) × (Nat → Int32) × (Nat → Int32) × (Nat → Int32) × (Nat → Int32) × (Nat → Int32))) (M : Option (Int32 × Int32 × Int32 × Int32 × Int32 × Int32 × Int32 × (Nat → Int32) × (Nat → Int32) × (Nat → Int32))) : Prop :=
  (∃ k p st : Int, 1 ≤ k ∧ k ≤ 4 ∧ (∃ r, X = some r ∧ r.1 = iI 0 ∧ r.2.2.2.2.2.2.2.2.1 = iI st ∧ r.2.2.2.2.2.2.2.2.2.1 = iI k ∧ r.2.2.2.2.2.2.2.2.2.2.1 = iI p) ∧ ∃ r, M = some r ∧ r.2.2.2.1 = iI k ∧ r.2.2.2.2.1 = iI p ∧ r.2.2.2.2.2.1 = iI st) ∨
  (∃ S' : Int → Int, wS S' ∧ (∃ r, X = some r ∧ r.1 = iI 1 ∧ RC (r.2.2.2.2.2.2.2.2.2.2.2.2.1, r.2.2.2.2.2.2.2.2.2.2.2.2.2.1, r.2.2.2.2.2.2.2.2.2.2.2.2.2.2.1, r.2.2.2.2.2.2.2.2.2.2.2.2.2.2.2.1, r.2.2.2.2.2.2.2.2.2.2.2.2.2.2.2.2.1, r.2.2.2.2.2.2.2.2.2.2.2.2.2.2.2.2.2.1, r.2.2.2.2.2.2.2.2.2.2.2.2.2.2.2.2.2.2.1, r.2.2.2.2.2.2.2.2.2.2.2.2.2.2.2.2.2.2.2.1, r.2.2.2.2.2.2.2.2.2.2.2.2.2.2.2.2.2.2.2.2.1, r.2.2.2.2.2.2.2.2.2.2.2.2.2.2.2.2.2.2.2.2.2.1, r.2.2.2.2.2.2.2.2.2.2.2.2.2.2.2.2.2.2.2.2.2.2.1, r.2.2.2.2.2.2.2.2.2.2.2.2.2.2.2.2.2.2.2.2.2.2.2.2.2.2.1, r.2.2.2.2.2.2.2.2.2.2.2.2.2.2.2.2.2.2.2.2.2.2.2.2.2.2.2.1, r.2.2.2.2.2.2.2.2.2.2.2.2.2.2.2.2.2.2.2.2.2.2.2.2.2.2.2.2.1, r.2.2.2.2.2.2.2.2.2.2.2.2.2.2.2.2.2.2.2.2.2.2.2.2.2.2.2.2.2.1, r.2.2.2.2.2.2.2.2.2.2.2.2.2.2.2.2.2.2.2.2.2.2.2.2.2.2.2.2.2.2.1, r.2.2.2.2.2.2.2.2.2.2.2.2.2.2.2.2.2.2.2.2.2.2.2.2.2.2.2.2.2.2.2.1, r.2.2.2.2.2.2.2.2.2.2.2.2.2.2.2.2.2.2.2.2.2.2.2.2.2.2.2.2.2.2.2.2.1, r.2.2.2.2.2.2.2.2.2.2.2.2.2.2.2.2.2.2.2.2.2.2.2.2.2.2.2.2.2.2.2.2.2) S') ∧ ∃ r, M = some r ∧ r.2.2.2.1 = iI 0 ∧ mS (r.2.2.2.2.2.2.2.2.1) S')
theorem pc_b30e {α0 α1 α2 α3 α4 α5 α6 α7 α8 α9 α10 α11 α12 α13 α14 α15 α16 α17 α18 α19 α20 α21 α22 α23 α24 α25 α26 α27 α28 α29 β : Type} {o : Option (α0 × α1 × α2 × α3 × α4 × α5 × α6 × α7 × α8 × α9 × α10 × α11 × α12 × α13 × α14 × α15 × α16 × α17 × α18 × α19 × α20 × α21 × α22 × α23 × α24 × α25 × α26 × α27 × α28 × α29)} {k : α0 → α1 → α2 → α3 → α4 → α5 → α6 → α7 → α8 → α9 → α10 → α11 → α12 → α13 → α14 → α15 → α16 → α17 → α18 → α19 → α20 → α21 → α22 → α23 → α24 → α25 → α26 → α27 → α28 → α29 → Option β} {r : α0 × α1 × α2 × α3 × α4 × α5 × α6 × α7 × α8 × α9 × α10 × α11 × α12 × α13 × α14 × α15 × α16 × α17 × α18 × α19 × α20 × α21 × α22 × α23 × α24 × α25 × α26 × α27 × α28 × α29} {x : Option β} (h : o = some r) (e : k (r.1) (r.2.1) (r.2.2.1) (r.2.2.2.1) (r.2.2.2.2.1) (r.2.2.2.2.2.1) (r.2.2.2.2.2.2.1) (r.2.2.2.2.2.2.2.1) (r.2.2.2.2.2.2.2.2.1) (r.2.2.2.2.2.2.2.2.2.1) (r.2.2.2.2.2.2.2.2.2.2.1) (r.2.2.2.2.2.2.2.2.2.2.2.1) (r.2.2.2.2.2.2.2.2.2.2.2.2.1) (r.2.2.2.2.2.2.2.2.2.2.2.2.2.1) (r.2.2.2.2.2.2.2.2.2.2.2.2.2.2.1) (r.2.2.2.2.2.2.2.2.2.2.2.2.2.2.2.1) (r.2.2.2.2.2.2.2.2.2.2.2.2.2.2.2.2.1) (r.2.2.2.2.2.2.2.2.2.2.2.2.2.2.2.2.2.1) (r.2.2.2.2.2.2.2.2.2.2.2.2.2.2.2.2.2.2.1) (r.2.2.2.2.2.2.2.2.2.2.2.2.2.2.2.2.2.2.2.1) (r.2.2.2.2.2.2.2.2.2.2.2.2.2.2.2.2.2.2.2.2.1) (r.2.2.2.2.2.2.2.2.2.2.2.2.2.2.2.2.2.2.2.2.2.1) (r.2.2.2.2.2.2.2.2.2.2.2.2.2.2.2.2.2.2.2.2.2.2.1) (r.2.2.2.2.2.2.2.2.2.2.2.2.2.2.2.2.2.2.2.2.2.2.2.1) (r.2.2.2.2.2.2.2.2.2.2.2.2.2.2.2.2.2.2.2.2.2.2.2.2.1) (r.2.2.2.2.2.2.2.2.2.2.2.2.2.2.2.2.2.2.2.2.2.2.2.2.2.1) (r.2.2.2.2.2.2.2.2.2.2.2.2.2.2.2.2.2.2.2.2.2.2.2.2.2.2.1) (r.2.2.2.2.2.2.2.2.2.2.2.2.2.2.2.2.2.2.2.2.2.2.2.2.2.2.2.1) (r.2.2.2.2.2.2.2.2.2.2.2.2.2.2.2.2.2.2.2.2.2.2.2.2.2.2.2.2.1) (r.2.2.2.2.2.2.2.2.2.2.2.2.2.2.2.2.2.2.2.2.2.2.2.2.2.2.2.2.2) = x) : bd30 o k = x := by
  subst h; exact e
section
variable {n : Int} {t : Int → Int} {y yc ym : Nat → Int32}
theorem x_txtKo {c_at c_vt c_ws c_wl c_ns c_nu c_ce c_st c_e c_ea c_ln g_rows g_cols g_rv g_cn g_rd g_jc g_nx g_tn g_qu : Int32} {lOn nOn co sm wy land riv ord dir hom len let' stp : Nat → Int32} {d1 d2 d3 d4 d5 d6 d7 d8 d9 d10 d11 d12 d13 d14 d15 d16 : Int32} {d17 d18 d19 d20 d21 : Nat → Int32} (hc : f_X5_readChart (iI n) (iI 0) c_ws c_wl c_ns c_nu (iI 0) (iI 0) yc g_rows g_cols g_rv g_cn g_rd g_jc g_nx g_tn g_qu lOn nOn land riv ord = some (iI 0, d1, d2, d3, d4, d5, d6, d7, d8, d9, d10, d11, d12, d13, d14, d15, d16, d17, d18, d19, d20, d21)) : ∃ r, f_X5_readText (iI n) c_at c_vt c_ws c_wl c_ns c_nu c_ce c_st c_e c_ea c_ln yc g_rows g_cols g_rv g_cn g_rd g_jc g_nx g_tn g_qu lOn nOn co sm wy land riv ord dir hom len let' stp = some r ∧ r.1 = iI 0 ∧ r.2.2.2.2.2.2.2.2.1 = iI 0 ∧ r.2.2.2.2.2.2.2.2.2.1 = d6 ∧ r.2.2.2.2.2.2.2.2.2.2.1 = d7 := by
  refine ⟨(iI 0, d1, iI 0, d2, d3, d4, d5, c_ce, iI 0, d6, d7, c_ln, d8, d9, d10, d11, d12, d13, d14, d15, d16, d17, d18, co, sm, wy, d19, d20, d21, dir, hom, len, let', stp), ?_, rfl, rfl, rfl, rfl⟩
  unfold f_X5_readText
  rw [show (0 : Int32) = iI 0 from rfl, hc, pd_22]
  exact pc_b30e (lq31_r rC_stop) rfl
theorem m_txtKo {fl a f e hv' nn : Int32} {fw s sm : Nat → Int32} (he : ¬ e = iI 0) {ea st : Int32} : lq10 (rM1 nn ym) fl a f e ea st hv' fw s sm = some (fl, a, f, e, ea, st, hv', fw, s, sm) := lq10_r (rM_stop he)
theorem txt (h : tT n t) (hx : tX n t yc) (hy : tX n t ym) {c_at c_vt c_ws c_wl c_ns c_nu c_ce c_st c_e c_ea c_ln g_rows g_cols g_rv g_cn g_rd g_jc g_nx g_tn g_qu : Int32} {lOn nOn co sm wy land riv ord dir hom len let' stp : Nat → Int32} {fl hv' : Int32} {flow s sums : Nat → Int32} : txOut (f_X5_readText (iI n) c_at c_vt c_ws c_wl c_ns c_nu c_ce c_st c_e c_ea c_ln yc g_rows g_cols g_rv g_cn g_rd g_jc g_nx g_tn g_qu lOn nOn co sm wy land riv ord dir hom len let' stp) (f_X9_reads fl (iI n) (iI 0) (iI 0) (iI 0) (iI 0) (iI 0) hv' flow s sums ym) := by
  have hn := h.1
  have hn2 := h.2.1
  have c0 := tw_end h (a := 0) (by omega) (by omega)
  have e11 : ¬ iI 1 = iI 0 := by decide
  have mw := m_word h hy (a := 0) (by omega) (by omega) (fr := iI 0)
  have mk' := m_was h hy (b := tws t n 0) (l := twl t n 0) (by omega) (by omega) (by omega) 0
  have xk := x_wordIs h hx (b := tws t n 0) (l := twl t n 0) (by omega) (by omega) (by omega) 0
  have c1 := nE_c h (a := tws t n 0 + twl t n 0) (by omega) (by omega)
  have c2 := nE_c h (a := nE t n (tws t n 0 + twl t n 0)) (by omega) (by omega)
  cases ik : isK t (tws t n 0) (twl t n 0) 0
  · left
    rw [ik] at mk' xk
    have X : ∃ d1 d2 d3 d4 d5 d8 d9 d10 d11 d12 d13 d14 d15 d16 d17 d18 d19 d20 d21, f_X5_readChart (iI n) (iI 0) c_ws c_wl c_ns c_nu (iI 0) (iI 0) yc g_rows g_cols g_rv g_cn g_rd g_jc g_nx g_tn g_qu lOn nOn land riv ord = some (iI 0, d1, d2, d3, d4, d5, iI 1, iI (tws t n 0), d8, d9, d10, d11, d12, d13, d14, d15, d16, d17, d18, d19, d20, d21) := by
      by_cases hl : 0 < twl t n 0
      · have xw := x_word1 h hx (a := 0) (by omega) (by omega) (v2 := c_ws) (v3 := c_wl) (e := iI 0) (ea := iI 0) hl
        refine ⟨?_, ?_, ?_, ?_, ?_, ?_, ?_, ?_, ?_, ?_, ?_, ?_, ?_, ?_, ?_, ?_, ?_, ?_, ?_, ?xx⟩
        case xx =>
          unfold f_X5_readChart
          simp only [xw, pd_6]
          simp only [pc_lit, pc_10, if_false, xk, pd_1, pc_zB0, if_true, f_X5_fail, pd_3, pc_zbI0]
          try rfl
      · have xw := x_word0 h hx (a := 0) (by omega) (by omega) (v2 := c_ws) (v3 := c_wl) (e := iI 0) (ea := iI 0) hl
        refine ⟨?_, ?_, ?_, ?_, ?_, ?_, ?_, ?_, ?_, ?_, ?_, ?_, ?_, ?_, ?_, ?_, ?_, ?_, ?_, ?yy⟩
        case yy =>
          unfold f_X5_readChart
          simp only [xw, pd_6]
          simp only [pc_lit, if_true]
          try rfl
    obtain ⟨d1, d2, d3, d4, d5, d8, d9, d10, d11, d12, d13, d14, d15, d16, d17, d18, d19, d20, d21, X⟩ := X
    obtain ⟨s', b1, b2⟩ := m_begins (s := s) (r := 3) (c := 3)
    obtain ⟨R, R1, R2, R3, R4, R5⟩ := x_txtKo  X
    refine ⟨1, tws t n 0, 0, by omega, by omega, ⟨R, R1, R2, R3, R4, R5⟩, (fl, iI (tws t n 0 + twl t n 0), iI (tws t n 0), iI 1, iI (tws t n 0), iI 0, iI 0, flow, s', sums), ?mm, rfl, rfl, rfl⟩
    case mm =>
      unfold f_X9_reads
      rw [mw, pd_2, mk', pd_1]
      simp only [pc_lit, pc_zB0, if_true, pc_bv, m_fail1, pd_2, m_numE e11, pd_5, b1, pd_1]
      exact m_txtKo (ym := ym) (nn := iI n) e11
  · rw [ik] at mk' xk
    have hl : 0 < twl t n 0 := by
      by_cases z : 0 < twl t n 0
      · exact z
      · have e : twl t n 0 = 0 := by omega
        rw [e, isK_0 t _ (by omega)] at ik
        cases ik
    have xw := x_word1 h hx (a := 0) (by omega) (by omega) (v2 := c_ws) (v3 := c_wl) (e := iI 0) (ea := iI 0) hl
    generalize hA : tws t n 0 + twl t n 0 = A at mw xw c1 c2 c0 mk'
    have k1c := nK_c t n A 3 12
    by_cases q1 : nK t n A 3 12 = 0
    · have n1 := m_numOk h hy (a := A) (by omega) (by omega) (fr := iI (tws t n 0)) (ea := iI 0) (lo := 3) (hi := 12) (by omega) (by omega) (by omega) (by omega) q1
      have x1 := x_numOk h hx (a := A) (by omega) (by omega) (v2 := c_ns) (v3 := c_nu) (e := iI 0) (ea := iI 0) (lo := 3) (hi := 12) (by omega) (by omega) (by omega) (by omega) q1
      have k2c := nK_c t n (nE t n A) 3 12
      by_cases q2 : nK t n (nE t n A) 3 12 = 0
      · have n2 := m_numOk h hy (a := nE t n A) (by omega) (by omega) (fr := iI (tws t n A)) (ea := iI 0) (lo := 3) (hi := 12) (by omega) (by omega) (by omega) (by omega) q2
        have x2 := x_numOk h hx (a := nE t n A) (by omega) (by omega) (v2 := iI (tws t n A)) (v3 := iI (tnv t n A)) (e := iI 0) (ea := iI 0) (lo := 3) (hi := 12) (by omega) (by omega) (by omega) (by omega) q2
        have r1 := nK_0 q1
        have r2 := nK_0 q2
        generalize tnv t n A = r at n1 x1 r1 x2
        generalize tnv t n (nE t n A) = c at n2 x2 r2
        obtain ⟨lOn', nOn', land', riv', ord', b1, ra⟩ := x_beginSea (a0 := g_rows) (a1 := g_cols) (a2 := g_rv) (a3 := g_cn) (a4 := g_rd) (a5 := g_jc) (a6 := g_nx) (a7 := g_tn) (a8 := g_qu) (lOn := lOn) (nOn := nOn) (land := land) (riv := riv) (ord := ord) (dir := dir) (hom := hom) (len := len) (let' := let') (stp := stp) (r := r) (c := c)
        obtain ⟨s', b2, ms⟩ := m_begins (s := s) (r := r) (c := c)
        have w := sea_wS (r := r) (c := c) (by omega) (by omega) (by omega) (by omega)
        have z : ∀ k, 2 ≤ k → seaS r c k = 0 := fun k h => sea_z h
        have L := rd_loop h hx hy 600 (seaS r c) s' lOn' nOn' co sm wy land' riv' ord' dir hom len let' stp flow sums (iI (tws t n 0)) (iI (twl t n 0)) (iI (tws t n (nE t n A))) (iI c) c_ce c_ln fl (iI (tws t n (nE t n A))) 0 0 0 (nE t n (nE t n A)) (by omega) (by omega) (by omega) (by omega) w ms ra (.inl rfl) (fun _ => z 4 (by omega))
        rw [z 2 (by omega), z 3 (by omega), z 4 (by omega), z 5 (by omega), sea_rM] at L
        have XC : f_X5_readChart (iI n) (iI 0) c_ws c_wl c_ns c_nu (iI 0) (iI 0) yc g_rows g_cols g_rv g_cn g_rd g_jc g_nx g_tn g_qu lOn nOn land riv ord = some (iI 1, iI (nE t n (nE t n A)), iI (tws t n 0), iI (twl t n 0), iI (tws t n (nE t n A)), iI c, iI 0, iI 0, iI r, iI c, iI 0, iI 0, iI 0, iI 0, iI 0, iI 0, iI 0, lOn', nOn', land', riv', ord') := by
          unfold f_X5_readChart
          simp only [xw, pd_6]
          simp only [pc_lit, pc_10, if_false, xk, pd_1, pc_zB1, x1, pd_6, x2, b1, pd_14]
        have FIN : ∀ e0 e1 e2 e3 e4 e5 e6 e7 e8 e9 e10 e11 e12 e13 e14 e15 e16 e17 e18 e19 e20 e21 e22 e23 e24 e25 e26 e27 e28 e29, lq31 (rC (iI n) yc (iI (seaS r c 0)) (iI (seaS r c 1))) (iI 1) (iI 0) (iI (nE t n (nE t n A))) (iI 0) (iI (tws t n 0)) (iI (twl t n 0)) (iI (tws t n (nE t n A))) (iI c) c_ce (iI 0) (iI 0) (iI 0) c_ln (iI 0) (iI 0) (iI 0) (iI 0) (iI 0) lOn' nOn' co sm wy land' riv' ord' dir hom len let' stp = some (e0, e1, e2, e3, e4, e5, e6, e7, e8, e9, e10, e11, e12, e13, e14, e15, e16, e17, e18, e19, e20, e21, e22, e23, e24, e25, e26, e27, e28, e29) → (e0 = iI 0 ∨ e0 = iI 1) → f_X5_readText (iI n) c_at c_vt c_ws c_wl c_ns c_nu c_ce c_st c_e c_ea c_ln yc g_rows g_cols g_rv g_cn g_rd g_jc g_nx g_tn g_qu lOn nOn co sm wy land riv ord dir hom len let' stp = some (e0, e1, e2, e3, e4, e5, e6, e7, e8, e9, e10, e11, iI r, iI c, e12, e13, e14, e15, iI 0, e16, iI 0, e17, e18, e19, e20, e21, e22, e23, e24, e25, e26, e27, e28, e29) := by
          intro e0 e1 e2 e3 e4 e5 e6 e7 e8 e9 e10 e11 e12 e13 e14 e15 e16 e17 e18 e19 e20 e21 e22 e23 e24 e25 e26 e27 e28 e29 X he
          unfold f_X5_readText
          rw [show (0 : Int32) = iI 0 from rfl, XC, pd_22]
          refine pc_b30e X ?_
          rcases he with rfl | rfl <;> rfl
        have FM : f_X9_reads fl (iI n) (iI 0) (iI 0) (iI 0) (iI 0) (iI 0) hv' flow s sums ym = lq10 (rM1 (iI n) ym) fl (iI (nE t n (nE t n A))) (iI (tws t n (nE t n A))) (iI 0) (iI 0) (iI 0) (iI 0) flow s' sums := by
          unfold f_X9_reads
          rw [mw, pd_2, mk', pd_1]
          simp only [pc_lit, pc_zB1, pc_10, if_false, pc_bv, m_fail0, pd_2, n1, pd_5, n2, b2, pd_1]
          rfl
        rcases L with ⟨k, p, st, j1, j2, ⟨⟨e0, e1, e2, e3, e4, e5, e6, e7, e8, e9, e10, e11, e12, e13, e14, e15, e16, e17, e18, e19, e20, e21, e22, e23, e24, e25, e26, e27, e28, e29⟩, X, h1, h2, h3, h4⟩, RM, M, h5, h6, h7⟩ | ⟨S', w', f0, f1, f6, f7, ⟨⟨e0, e1, e2, e3, e4, e5, e6, e7, e8, e9, e10, e11, e12, e13, e14, e15, e16, e17, e18, e19, e20, e21, e22, e23, e24, e25, e26, e27, e28, e29⟩, X, h1, h2, h3, h4, h5, h6, ra'⟩, RM, M, h7, h8⟩
        · left
          exact ⟨k, p, st, j1, j2, ⟨_, FIN _ _ _ _ _ _ _ _ _ _ _ _ _ _ _ _ _ _ _ _ _ _ _ _ _ _ _ _ _ _  X (.inl h1), h1, h2, h3, h4⟩, RM, FM.trans M, h5, h6, h7⟩
        · right
          refine ⟨S', w', ⟨_, FIN _ _ _ _ _ _ _ _ _ _ _ _ _ _ _ _ _ _ _ _ _ _ _ _ _ _ _ _ _ _  X (.inr h1), h1, ?_⟩, RM, FM.trans M, h7, h8⟩
          exact RC.mk (by rw [f0]; rfl) (by rw [f1]; rfl) h2 h3 h4 h5 (by rw [f6, z 6 (by omega)]) h6 (by rw [f7, z 7 (by omega)]) ra'
      · left
        obtain ⟨z1, n2, v1, v2⟩ := m_numKo h hy (a := nE t n A) (by omega) (by omega) (fr := iI (tws t n A)) (ea := iI 0) (lo := 3) (hi := 12) (by omega) (by omega) (by omega) (by omega) q2
        obtain ⟨y1, y2, y3, x2⟩ := x_numKo h hx (a := nE t n A) (by omega) (by omega) (v2 := iI (tws t n A)) (v3 := iI (tnv t n A)) (e := iI 0) (ea := iI 0) (lo := 3) (hi := 12) (by omega) (by omega) (by omega) (by omega) q2
        have ne := pc_ne0 (k := nK t n (nE t n A) 3 12) q2 (by omega) (by omega)
        obtain ⟨s', b1, b2⟩ := m_begins (s := s) (r := tnv t n A) (c := 3)
        have X : ∃ d1 d2 d3 d4 d5 d8 d9 d10 d11 d12 d13 d14 d15 d16 d17 d18 d19 d20 d21, f_X5_readChart (iI n) (iI 0) c_ws c_wl c_ns c_nu (iI 0) (iI 0) yc g_rows g_cols g_rv g_cn g_rd g_jc g_nx g_tn g_qu lOn nOn land riv ord = some (iI 0, d1, d2, d3, d4, d5, iI (nK t n (nE t n A) 3 12), iI (tws t n (nE t n A)), d8, d9, d10, d11, d12, d13, d14, d15, d16, d17, d18, d19, d20, d21) := by
          refine ⟨?_, ?_, ?_, ?_, ?_, ?_, ?_, ?_, ?_, ?_, ?_, ?_, ?_, ?_, ?_, ?_, ?_, ?_, ?_, ?xx⟩
          case xx =>
            unfold f_X5_readChart
            simp only [xw, pd_6]
            simp only [pc_lit, pc_10, if_false, xk, pd_1, pc_zB1, x1, pd_6, x2, if_true]
            try rfl
        obtain ⟨d1, d2, d3, d4, d5, d8, d9, d10, d11, d12, d13, d14, d15, d16, d17, d18, d19, d20, d21, X⟩ := X
        obtain ⟨R, R1, R2, R3, R4, R5⟩ := x_txtKo X
        refine ⟨nK t n (nE t n A) 3 12, tws t n (nE t n A), 0, by omega, by omega, ⟨R, R1, R2, R3, R4, R5⟩, (fl, iI z1, iI (tws t n (nE t n A)), iI (nK t n (nE t n A) 3 12), iI (tws t n (nE t n A)), iI 0, iI 0, flow, s', sums), ?mm, rfl, rfl, rfl⟩
        case mm =>
          unfold f_X9_reads
          rw [mw, pd_2, mk', pd_1]
          simp only [pc_lit, pc_zB1, pc_10, if_false, pc_bv, m_fail0, pd_2, n1, pd_5, n2, b1, pd_1]
          exact m_txtKo (ym := ym) (nn := iI n) ne
    · left
      obtain ⟨z1, n1, v1, v2⟩ := m_numKo h hy (a := A) (by omega) (by omega) (fr := iI (tws t n 0)) (ea := iI 0) (lo := 3) (hi := 12) (by omega) (by omega) (by omega) (by omega) q1
      obtain ⟨y1, y2, y3, x1⟩ := x_numKo h hx (a := A) (by omega) (by omega) (v2 := c_ns) (v3 := c_nu) (e := iI 0) (ea := iI 0) (lo := 3) (hi := 12) (by omega) (by omega) (by omega) (by omega) q1
      have ne := pc_ne0 (k := nK t n A 3 12) q1 (by omega) (by omega)
      obtain ⟨s', b1, b2⟩ := m_begins (s := s) (r := 3) (c := 3)
      have X : ∃ d1 d2 d3 d4 d5 d8 d9 d10 d11 d12 d13 d14 d15 d16 d17 d18 d19 d20 d21, f_X5_readChart (iI n) (iI 0) c_ws c_wl c_ns c_nu (iI 0) (iI 0) yc g_rows g_cols g_rv g_cn g_rd g_jc g_nx g_tn g_qu lOn nOn land riv ord = some (iI 0, d1, d2, d3, d4, d5, iI (nK t n A 3 12), iI (tws t n A), d8, d9, d10, d11, d12, d13, d14, d15, d16, d17, d18, d19, d20, d21) := by
        refine ⟨?_, ?_, ?_, ?_, ?_, ?_, ?_, ?_, ?_, ?_, ?_, ?_, ?_, ?_, ?_, ?_, ?_, ?_, ?_, ?xx⟩
        case xx =>
          unfold f_X5_readChart
          simp only [xw, pd_6]
          simp only [pc_lit, pc_10, if_false, xk, pd_1, pc_zB1, x1, pd_6, if_true]
          try rfl
      obtain ⟨d1, d2, d3, d4, d5, d8, d9, d10, d11, d12, d13, d14, d15, d16, d17, d18, d19, d20, d21, X⟩ := X
      obtain ⟨R, R1, R2, R3, R4, R5⟩ := x_txtKo X
      refine ⟨nK t n A 3 12, tws t n A, 0, by omega, by omega, ⟨R, R1, R2, R3, R4, R5⟩, (fl, iI z1, iI (tws t n A), iI (nK t n A 3 12), iI (tws t n A), iI 0, iI 0, flow, s', sums), ?mm, rfl, rfl, rfl⟩
      case mm =>
        unfold f_X9_reads
        rw [mw, pd_2, mk', pd_1]
        simp only [pc_lit, pc_zB1, pc_10, if_false, pc_bv, m_fail0, pd_2, n1, m_numE ne, pd_5, b1, pd_1]
        exact m_txtKo (ym := ym) (nn := iI n) ne
end
