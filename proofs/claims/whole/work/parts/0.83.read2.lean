def rdOut (S : Int → Int) (X : Option (Int32 × Int32 × Int32 × Int32 × Int32 × Int32 × Int32 × Int32 × Int32 × Int32 × Int32 × Int32 × Int32 × Int32 × Int32 × Int32 × Int32 × (Nat → Int32) × (Nat → Int32) × (Nat → Int32) × (Nat → Int32) × (Nat → Int32) × (Nat → Int32) × (Nat → Int32) × (Nat → Int32) × (Nat → Int32) × (Nat → Int32) × (Nat → Int32) × (Nat → Int32) × (Nat → Int32))) (M : Option (Int32 × Int32 × Int32 × Int32 × Int32 × Int32 × Int32 × (Nat → Int32) × (Nat → Int32) × (Nat → Int32))) : Prop :=
  (∃ k p st : Int, 1 ≤ k ∧ k ≤ 4 ∧ (∃ r, X = some r ∧ r.1 = iI 0 ∧ r.2.2.2.2.2.2.2.2.1 = iI st ∧ r.2.2.2.2.2.2.2.2.2.1 = iI k ∧ r.2.2.2.2.2.2.2.2.2.2.1 = iI p) ∧ ∃ r, M = some r ∧ r.2.2.2.1 = iI k ∧ r.2.2.2.2.1 = iI p ∧ r.2.2.2.2.2.1 = iI st) ∨
  (∃ S' : Int → Int, wS S' ∧ S' 0 = S 0 ∧ S' 1 = S 1 ∧ S' 6 = S 6 ∧ S' 7 = S 7 ∧ (∃ r, X = some r ∧ r.1 = iI 1 ∧ r.2.2.2.2.2.2.2.2.2.2.2.2.1 = iI (S' 3) ∧ r.2.2.2.2.2.2.2.2.2.2.2.2.2.1 = iI (S' 2) ∧ r.2.2.2.2.2.2.2.2.2.2.2.2.2.2.1 = rM S' ∧ r.2.2.2.2.2.2.2.2.2.2.2.2.2.2.2.1 = iI (S' 4) ∧ r.2.2.2.2.2.2.2.2.2.2.2.2.2.2.2.2.1 = iI (S' 5) ∧ RA (r.2.2.2.2.2.2.2.2.2.2.2.2.2.2.2.2.2.1) (r.2.2.2.2.2.2.2.2.2.2.2.2.2.2.2.2.2.2.1) (r.2.2.2.2.2.2.2.2.2.2.2.2.2.2.2.2.2.2.2.2.2.2.1) (r.2.2.2.2.2.2.2.2.2.2.2.2.2.2.2.2.2.2.2.2.2.2.2.1) (r.2.2.2.2.2.2.2.2.2.2.2.2.2.2.2.2.2.2.2.2.2.2.2.2.1) (r.2.2.2.2.2.2.2.2.2.2.2.2.2.2.2.2.2.2.2.2.2.2.2.2.2.1) (r.2.2.2.2.2.2.2.2.2.2.2.2.2.2.2.2.2.2.2.2.2.2.2.2.2.2.1) (r.2.2.2.2.2.2.2.2.2.2.2.2.2.2.2.2.2.2.2.2.2.2.2.2.2.2.2.1) (r.2.2.2.2.2.2.2.2.2.2.2.2.2.2.2.2.2.2.2.2.2.2.2.2.2.2.2.2.1) (r.2.2.2.2.2.2.2.2.2.2.2.2.2.2.2.2.2.2.2.2.2.2.2.2.2.2.2.2.2) S') ∧ ∃ r, M = some r ∧ r.2.2.2.1 = iI 0 ∧ mS (r.2.2.2.2.2.2.2.2.1) S')
theorem rdOut_s {S S' : Int → Int} {X X' : Option (Int32 × Int32 × Int32 × Int32 × Int32 × Int32 × Int32 × Int32 × Int32 × Int32 × Int32 × Int32 × Int32 × Int32 × Int32 × Int32 × Int32 × (Nat → Int32) × (Nat → Int32) × (Nat → Int32) × (Nat → Int32) × (Nat → Int32) × (Nat → Int32) × (Nat → Int32) × (Nat → Int32) × (Nat → Int32) × (Nat → Int32) × (Nat → Int32) × (Nat → Int32) × (Nat → Int32))} {M M' : Option (Int32 × Int32 × Int32 × Int32 × Int32 × Int32 × Int32 × (Nat → Int32) × (Nat → Int32) × (Nat → Int32))} (hX : ∀ r, X' = some r → X = some r) (hM : ∀ r, M' = some r → M = some r) (f0 : S' 0 = S 0) (f1 : S' 1 = S 1) (f6 : S' 6 = S 6) (f7 : S' 7 = S 7) (h : rdOut S' X' M') : rdOut S X M := by
  rcases h with ⟨k, p, st, k1, k2, ⟨r, e, h1⟩, r', e', h2⟩ | ⟨T, w, t0, t1, t6, t7, ⟨r, e, h1⟩, r', e', h2⟩
  · exact .inl ⟨k, p, st, k1, k2, ⟨r, hX r e, h1⟩, r', hM r' e', h2⟩
  · exact .inr ⟨T, w, t0.trans f0, t1.trans f1, t6.trans f6, t7.trans f7, ⟨r, hX r e, h1⟩, r', hM r' e', h2⟩
section
variable {n : Int} {t : Int → Int} {y yc ym : Nat → Int32} {S : Int → Int}
theorem m_end (h : tT n t) (hy : tX n t ym) {a : Int} (a0 : 0 ≤ a) (a1 : a ≤ n) (q : t (tws t n a) = -1) {fl fr st hv' : Int32} {fw s sm : Nat → Int32} : rM1 (iI n) ym fl (iI a) fr (iI 0) (iI 0) st hv' fw s sm = some (.inr (fl, iI (tws t n a), iI (tws t n a), iI 0, iI 0, st, hv', fw, s, sm)) := by
  have lk := m_looks h hy a0 a1 (fr := fr)
  rw [q] at lk
  unfold rM1
  simp only [pc_lit, m_fine0, pd_1, pc_10, if_false, lk, pd_3, pc_neg, if_true, pc_mr]
theorem m_semi (h : tT n t) (hy : tX n t ym) {a : Int} (a0 : 0 ≤ a) (a1 : a ≤ n) (q : ¬ t (tws t n a) = -1) (q2 : ¬ t (tws t n a) = 59) {fl fr st hv' : Int32} {fw s sm : Nat → Int32} : rM1 (iI n) ym fl (iI a) fr (iI 0) (iI 0) st hv' fw s sm = some (.inr (fl, iI (tws t n a), iI (tws t n a), iI 1, iI (tws t n a), st, hv', fw, s, sm)) := by
  have hn2 := h.2.1
  have c := tws_c h a0 a1
  have g := t_rg h (k := tws t n a) (by omega)
  have lk := m_looks h hy a0 a1 (fr := fr)
  have bt := m_byteAt h hy (c := tws t n a) (by omega) (by omega)
  have p2 : (iI (t (tws t n a)) = iI (-1)) = False := (pc_eq (by omega) (by omega) (by omega) (by omega)).trans (eq_false q)
  have p3 : (iI (t (tws t n a)) = iI 59) = False := (pc_eq (by omega) (by omega) (by omega) (by omega)).trans (eq_false q2)
  unfold rM1
  simp only [pc_lit, m_fine0, pd_1, pc_10, if_false, lk, pd_3, pc_neg, p2, bt, p3, f_X9_fails, if_true, pd_2, pc_mr]
theorem m_key (h : tT n t) (hy : tX n t ym) {a : Int} (a0 : 0 ≤ a) (a1 : a ≤ n) (q2 : t (tws t n a) = 59) (a2 : tws t n a + 1 ≤ n) {st0 : Int} {fl fr hv' : Int32} {fw s sm : Nat → Int32} {u1 u2 u3 u4 u5 u6 : Int32} {u7 u8 u9 : Nat → Int32} (hR : f_X9_readsOne fl (iI n) (iI (tws t n (tws t n a + 1) + twl t n (tws t n a + 1))) (iI (tws t n (tws t n a + 1))) (iI 0) (iI 0) hv' fw s sm ym = some (u1, u2, u3, u4, u5, u6, u7, u8, u9)) : rM1 (iI n) ym fl (iI a) fr (iI 0) (iI 0) (iI st0) hv' fw s sm = some (.inl (u1, u2, u3, u4, u5, iI (st0 + 1), u6, u7, u8, u9)) := by
  have hn2 := h.2.1
  have c := tws_c h a0 a1
  have lk := m_looks h hy a0 a1 (fr := fr)
  have bt := m_byteAt h hy (c := tws t n a) (by omega) (by omega)
  have p2 : (iI 59 = iI (-1)) = False := eq_false (by decide)
  have mw := m_word h hy (a := tws t n a + 1) (by omega) a2 (fr := iI (tws t n a))
  rw [q2] at lk bt
  unfold rM1
  simp only [pc_bv, pc_lit, m_fine0, pd_1, pc_10, if_false, lk, pd_3, pc_neg, p2, bt, if_true, pc_add, mw, pd_2, hR, pd_9]
theorem rd_loop (h : tT n t) (hx : tX n t yc) (hy : tX n t ym) : ∀ (d : Nat) (S : Int → Int) (s lOn nOn co sm wy land riv ord dir hom len let' stp flow sums : Nat → Int32) (ws wl ns nu ce ln fl fr : Int32) (vt st v2 a : Int), n - a < d → 0 ≤ v2 → v2 ≤ a → a ≤ n → wS S → mS s S → RA lOn nOn land riv ord dir hom len let' stp S → (vt = 0 ∨ vt = 1) → (vt = 0 → S 4 = 0) → rdOut S (lq31 (rC (iI n) yc (iI (S 0)) (iI (S 1))) (iI 1) (iI v2) (iI a) (iI vt) ws wl ns nu ce (iI st) (iI 0) (iI 0) ln (iI (S 3)) (iI (S 2)) (rM S) (iI (S 4)) (iI (S 5)) lOn nOn co sm wy land riv ord dir hom len let' stp) (lq10 (rM1 (iI n) ym) fl (iI a) fr (iI 0) (iI 0) (iI st) (iI vt) flow s sums) := by
  intro d
  induction d with
  | zero =>
    intro S s lOn nOn co sm wy land riv ord dir hom len let' stp flow sums ws wl ns nu ce ln fl fr vt st v2 a hd h0 hva an
    omega
  | succ d ih =>
    intro S s lOn nOn co sm wy land riv ord dir hom len let' stp flow sums ws wl ns nu ce ln fl fr vt st v2 a hd h0 hva an w hm ra hvt hv4
    have hn2 := h.2.1
    have a0 : 0 ≤ a := by omega
    have c := tws_c h a0 an
    have e11 : ¬ iI 1 = iI 0 := by decide
    by_cases q : t (tws t n a) = -1
    · right
      exact ⟨S, w, rfl, rfl, rfl, rfl, ⟨_, lq31_r (rC_end h hx a0 an h0 hva q), rfl, rfl, rfl, rfl, rfl, rfl, ra⟩, _, lq10_r (m_end h hy a0 an q), rfl, hm⟩
    · by_cases q2 : t (tws t n a) = 59
      · have a2 : tws t n a + 1 ≤ n := by
          by_cases z : tws t n a < n
          · omega
          · have := h.2.2.2 (tws t n a) (by omega)
            omega
        have c1 := tw_end h (a := tws t n a + 1) (by omega) a2
        have kc : ∀ k : Int, 1 ≤ k → k ≤ 4 → ¬ iI k = iI 0 := fun k k1 k2 => pc_ne0 (by omega) (by omega) (by omega)
        have key := fun R hR => rC_key (R := R) (vt := iI vt) (lOn := lOn) (nOn := nOn) (co := co) (sm := sm) (wy := wy) (land := land) (riv := riv) (ord := ord) (dir := dir) (hom := hom) (len := len) (let' := let') (stp := stp) (ws := ws) (wl := wl) (ns := ns) (nu := nu) (ce := ce) (ln := ln) (st0 := st) (S := S) h hx a0 an h0 hva q2 hR
        have kok := fun k k0 hk => x_keyOk h hx (a := tws t n a + 1) (by omega) a2 (v2 := ws) (v3 := wl) (e := iI 0) (ea := iI 0) (k := k) k0 hk
        have mk' := fun u1 u2 u3 u4 u5 u6 u7 u8 u9 hR => m_key h hy (u1 := u1) (u2 := u2) (u3 := u3) (u4 := u4) (u5 := u5) (u6 := u6) (u7 := u7) (u8 := u8) (u9 := u9) (st0 := st) (fl := fl) (fr := fr) (hv' := iI vt) (fw := flow) (s := s) (sm := sums) a0 an q2 a2 hR
        by_cases qk : kwd t (tws t n (tws t n a + 1)) (twl t n (tws t n a + 1)) = -1
        · left
          obtain ⟨z1, z2, z3, X⟩ := x_keyKo h hx (a := tws t n a + 1) (by omega) a2 (v2 := ws) (v3 := wl) (e := iI 0) (ea := iI 0) qk
          have M := m_oneKo h hy (b := tws t n (tws t n a + 1)) (l := twl t n (tws t n a + 1)) (by omega) (by omega) (by omega) qk (hv' := iI vt) (fl := fl) (flow := flow) (s := s) (sums := sums)
          have stepX : rC (iI n) yc (iI (S 0)) (iI (S 1)) (iI 1) (iI v2) (iI a) (iI vt) ws wl ns nu ce (iI st) (iI 0) (iI 0) ln (iI (S 3)) (iI (S 2)) (rM S) (iI (S 4)) (iI (S 5)) lOn nOn co sm wy land riv ord dir hom len let' stp = some (.inl (iI 0, iI (v2 + 1), z1, iI vt, z2, z3, ns, nu, ce, iI (st + 1), iI 1, iI (tws t n (tws t n a + 1)), ln, iI (S 3), iI (S 2), rM S, iI (S 4), iI (S 5), lOn, nOn, co, sm, wy, land, riv, ord, dir, hom, len, let', stp)) := by
            rw [key _ X]
            unfold rJ
            simp only [pc_bv, pc_lit, pc_k2_1, pc_k3_1, pc_k3_2, pc_k4_1, pc_k4_2, pc_k4_3, pc_k5_1, pc_k5_2, pc_k5_3, pc_k5_4, pc_k6_1, pc_k6_2, pc_k6_3, pc_k6_4, pc_k6_5, pc_km_1, pc_km_2, pc_km_3, pc_km_4, pc_km_5, pc_km_6, if_false, pc_add]
          refine ⟨1, tws t n (tws t n a + 1), st + 1, by omega, by omega, ⟨_, lq31_l stepX (lq31_r rC_stop), rfl, rfl, rfl, rfl⟩, _, lq10_l (mk' _ _ _ _ _ _ _ _ _ M) (lq10_r (rM_stop e11)), rfl, rfl, rfl⟩
        · skip
          cases i1 : isK t (tws t n (tws t n a + 1)) (twl t n (tws t n a + 1)) 1
          · skip
            cases i2 : isK t (tws t n (tws t n a + 1)) (twl t n (tws t n a + 1)) 2
            · skip
              cases i3 : isK t (tws t n (tws t n a + 1)) (twl t n (tws t n a + 1)) 3
              · skip
                cases i4 : isK t (tws t n (tws t n a + 1)) (twl t n (tws t n a + 1)) 4
                · skip
                  cases i5 : isK t (tws t n (tws t n a + 1)) (twl t n (tws t n a + 1)) 5
                  · skip
                    cases i6 : isK t (tws t n (tws t n a + 1)) (twl t n (tws t n a + 1)) 6
                    · skip
                      exfalso
                      apply qk
                      unfold kwd
                      rw [i1, i2, i3, i4, i5, i6]
                      rfl
                    · skip
                      obtain R := s_turn h hx hy w hm ra (b := tws t n (tws t n a + 1)) (l := twl t n (tws t n a + 1)) (by omega) (by omega) (by omega) i1 i2 i3 i4 i5 i6 (ns := ns) (nu := nu) (hv' := iI vt) (fl := fl) (flow := flow) (sums := sums)
                      rcases R with ⟨k, p, j1, j2, ⟨z1, z2, z3, z4, X⟩, u1, u2, u3, u6, u7, u8, u9, M⟩ | ⟨a', S', y1, y2, w', f0, f1, f6, f7, ⟨z2, z3, X, g2, g3, gM, g4, R⟩, u1, u3, u7, u8, u9, M, M2⟩
                      · left
                        have stepX : rC (iI n) yc (iI (S 0)) (iI (S 1)) (iI 1) (iI v2) (iI a) (iI vt) ws wl ns nu ce (iI st) (iI 0) (iI 0) ln (iI (S 3)) (iI (S 2)) (rM S) (iI (S 4)) (iI (S 5)) lOn nOn co sm wy land riv ord dir hom len let' stp = some (.inl (iI 0, iI (v2 + 1), z1, iI vt, iI (tws t n (tws t n a + 1)), iI (twl t n (tws t n a + 1)), z2, z3, ce, iI (st + 1), iI k, iI p, ln, iI (S 3), iI (S 2), rM S, iI (S 4), z4, lOn, nOn, co, sm, wy, land, riv, ord, dir, hom, len, let', stp)) := by
                          rw [key _ (kok 6 (by omega) (by unfold kwd; rw [i1, i2, i3, i4, i5, i6]; rfl))]
                          unfold rJ
                          simp only [pc_bv, pc_lit, pc_k2_1, pc_k3_1, pc_k3_2, pc_k4_1, pc_k4_2, pc_k4_3, pc_k5_1, pc_k5_2, pc_k5_3, pc_k5_4, pc_k6_1, pc_k6_2, pc_k6_3, pc_k6_4, pc_k6_5, pc_km_1, pc_km_2, pc_km_3, pc_km_4, pc_km_5, pc_km_6, if_false, if_true, X, pd_7, pc_add]
                        exact ⟨k, p, st + 1, j1, j2, ⟨_, lq31_l stepX (lq31_r rC_stop), rfl, rfl, rfl, rfl⟩, _, lq10_l (mk' _ _ _ _ _ _ _ _ _ M) (lq10_r (rM_stop (kc k j1 j2))), rfl, rfl, rfl⟩
                      · have stepX : rC (iI n) yc (iI (S 0)) (iI (S 1)) (iI 1) (iI v2) (iI a) (iI vt) ws wl ns nu ce (iI st) (iI 0) (iI 0) ln (iI (S 3)) (iI (S 2)) (rM S) (iI (S 4)) (iI (S 5)) lOn nOn co sm wy land riv ord dir hom len let' stp = some (.inl (iI 1, iI (v2 + 1), iI a', iI vt, iI (tws t n (tws t n a + 1)), iI (twl t n (tws t n a + 1)), z2, z3, ce, iI (st + 1), iI 0, iI 0, ln, iI (S 3), iI (S 2), rM S, iI (S 4), iI (S' 5), lOn, nOn, co, sm, wy, land, riv, ord, dir, hom, len, let', stp)) := by
                          rw [key _ (kok 6 (by omega) (by unfold kwd; rw [i1, i2, i3, i4, i5, i6]; rfl))]
                          unfold rJ
                          simp only [pc_bv, pc_lit, pc_k2_1, pc_k3_1, pc_k3_2, pc_k4_1, pc_k4_2, pc_k4_3, pc_k5_1, pc_k5_2, pc_k5_3, pc_k5_4, pc_k6_1, pc_k6_2, pc_k6_3, pc_k6_4, pc_k6_5, pc_km_1, pc_km_2, pc_km_3, pc_km_4, pc_km_5, pc_km_6, if_false, if_true, X, pd_7, pc_add]
                        have I := ih S' u8 lOn nOn co sm wy land riv ord dir hom len let' stp u7 u9 (iI (tws t n (tws t n a + 1))) (iI (twl t n (tws t n a + 1))) z2 z3 ce ln u1 u3 vt (st + 1) (v2 + 1) a' (by omega) (by omega) (by omega) y2 w' M2 R hvt (fun z => by rw [g4]; exact hv4 z)
                        refine rdOut_s (fun r e => lq31_l stepX ?_) (fun r e => lq10_l (mk' _ _ _ _ _ _ _ _ _ M) e) f0 f1 f6 f7 I
                        rw [f0, f1, g2, g3, gM, g4] at e
                        exact e
                  · skip
                    obtain R := s_voyage h hx hy w hm ra (b := tws t n (tws t n a + 1)) (l := twl t n (tws t n a + 1)) (by omega) (by omega) (by omega) i1 i2 i3 i4 i5 hvt hv4 (wl0 := iI (twl t n (tws t n a + 1))) (fl := fl) (flow := flow) (sums := sums)
                    rcases R with ⟨k, p, j1, j2, ⟨z1, z2, z3, z4, z5, z6, X⟩, u1, u2, u3, u6, u7, u8, u9, M⟩ | ⟨a', S', y1, y2, w', f0, f1, f6, f7, ⟨z2, z3, z6, X, g2, g3, gM, g5, R⟩, u1, u3, u7, u8, u9, M, M2⟩
                    · left
                      have stepX : rC (iI n) yc (iI (S 0)) (iI (S 1)) (iI 1) (iI v2) (iI a) (iI vt) ws wl ns nu ce (iI st) (iI 0) (iI 0) ln (iI (S 3)) (iI (S 2)) (rM S) (iI (S 4)) (iI (S 5)) lOn nOn co sm wy land riv ord dir hom len let' stp = some (.inl (iI 0, iI (v2 + 1), z1, z2, z3, z4, ns, nu, ce, iI (st + 1), iI k, iI p, ln, iI (S 3), iI (S 2), rM S, z5, iI (S 5), lOn, nOn, co, sm, wy, land, riv, ord, dir, hom, len, let', z6)) := by
                        rw [key _ (kok 5 (by omega) (by unfold kwd; rw [i1, i2, i3, i4, i5]; rfl))]
                        unfold rJ
                        simp only [pc_bv, pc_lit, pc_k2_1, pc_k3_1, pc_k3_2, pc_k4_1, pc_k4_2, pc_k4_3, pc_k5_1, pc_k5_2, pc_k5_3, pc_k5_4, pc_k6_1, pc_k6_2, pc_k6_3, pc_k6_4, pc_k6_5, pc_km_1, pc_km_2, pc_km_3, pc_km_4, pc_km_5, pc_km_6, if_false, if_true, X, pd_9, pc_add]
                      exact ⟨k, p, st + 1, j1, j2, ⟨_, lq31_l stepX (lq31_r rC_stop), rfl, rfl, rfl, rfl⟩, _, lq10_l (mk' _ _ _ _ _ _ _ _ _ M) (lq10_r (rM_stop (kc k j1 j2))), rfl, rfl, rfl⟩
                    · have stepX : rC (iI n) yc (iI (S 0)) (iI (S 1)) (iI 1) (iI v2) (iI a) (iI vt) ws wl ns nu ce (iI st) (iI 0) (iI 0) ln (iI (S 3)) (iI (S 2)) (rM S) (iI (S 4)) (iI (S 5)) lOn nOn co sm wy land riv ord dir hom len let' stp = some (.inl (iI 1, iI (v2 + 1), iI a', iI 1, z2, z3, ns, nu, ce, iI (st + 1), iI 0, iI 0, ln, iI (S 3), iI (S 2), rM S, iI (S' 4), iI (S 5), lOn, nOn, co, sm, wy, land, riv, ord, dir, hom, len, let', z6)) := by
                        rw [key _ (kok 5 (by omega) (by unfold kwd; rw [i1, i2, i3, i4, i5]; rfl))]
                        unfold rJ
                        simp only [pc_bv, pc_lit, pc_k2_1, pc_k3_1, pc_k3_2, pc_k4_1, pc_k4_2, pc_k4_3, pc_k5_1, pc_k5_2, pc_k5_3, pc_k5_4, pc_k6_1, pc_k6_2, pc_k6_3, pc_k6_4, pc_k6_5, pc_km_1, pc_km_2, pc_km_3, pc_km_4, pc_km_5, pc_km_6, if_false, if_true, X, pd_9, pc_add]
                      have I := ih S' u8 lOn nOn co sm wy land riv ord dir hom len let' z6 u7 u9 z2 z3 ns nu ce ln u1 u3 1 (st + 1) (v2 + 1) a' (by omega) (by omega) (by omega) y2 w' M2 R (.inr rfl) (fun z => absurd z (by omega))
                      refine rdOut_s (fun r e => lq31_l stepX ?_) (fun r e => lq10_l (mk' _ _ _ _ _ _ _ _ _ M) e) f0 f1 f6 f7 I
                      rw [f0, f1, g2, g3, gM, g5] at e
                      exact e
                · skip
                  obtain R := s_place h hx hy w hm ra (b := tws t n (tws t n a + 1)) (l := twl t n (tws t n a + 1)) (by omega) (by omega) (by omega) i1 i2 i3 i4 (wl0 := iI (twl t n (tws t n a + 1))) (hv' := iI vt) (fl := fl) (flow := flow) (sums := sums)
                  rcases R with ⟨k, p, j1, j2, ⟨z1, z2, z3, z4, z5, z6, X⟩, u1, u2, u3, u6, u7, u8, u9, M⟩ | ⟨a', S', y1, y2, w', f0, f1, f6, f7, ⟨z2, z3, z4, z5, z6, X, g2, g3, gM, g4, g5, R⟩, u1, u3, u7, u8, u9, M, M2⟩
                  · left
                    have stepX : rC (iI n) yc (iI (S 0)) (iI (S 1)) (iI 1) (iI v2) (iI a) (iI vt) ws wl ns nu ce (iI st) (iI 0) (iI 0) ln (iI (S 3)) (iI (S 2)) (rM S) (iI (S 4)) (iI (S 5)) lOn nOn co sm wy land riv ord dir hom len let' stp = some (.inl (iI 0, iI (v2 + 1), z1, iI vt, z2, z3, ns, nu, ce, iI (st + 1), iI k, iI p, ln, iI (S 3), iI (S 2), rM S, iI (S 4), iI (S 5), z4, z5, co, sm, wy, land, riv, ord, z6, hom, len, let', stp)) := by
                      rw [key _ (kok 4 (by omega) (by unfold kwd; rw [i1, i2, i3, i4]; rfl))]
                      unfold rJ
                      simp only [pc_bv, pc_lit, pc_k2_1, pc_k3_1, pc_k3_2, pc_k4_1, pc_k4_2, pc_k4_3, pc_k5_1, pc_k5_2, pc_k5_3, pc_k5_4, pc_k6_1, pc_k6_2, pc_k6_3, pc_k6_4, pc_k6_5, pc_km_1, pc_km_2, pc_km_3, pc_km_4, pc_km_5, pc_km_6, if_false, if_true, X, pd_9, pc_add]
                    exact ⟨k, p, st + 1, j1, j2, ⟨_, lq31_l stepX (lq31_r rC_stop), rfl, rfl, rfl, rfl⟩, _, lq10_l (mk' _ _ _ _ _ _ _ _ _ M) (lq10_r (rM_stop (kc k j1 j2))), rfl, rfl, rfl⟩
                  · have stepX : rC (iI n) yc (iI (S 0)) (iI (S 1)) (iI 1) (iI v2) (iI a) (iI vt) ws wl ns nu ce (iI st) (iI 0) (iI 0) ln (iI (S 3)) (iI (S 2)) (rM S) (iI (S 4)) (iI (S 5)) lOn nOn co sm wy land riv ord dir hom len let' stp = some (.inl (iI 1, iI (v2 + 1), iI a', iI vt, z2, z3, ns, nu, ce, iI (st + 1), iI 0, iI 0, ln, iI (S 3), iI (S 2), rM S, iI (S 4), iI (S 5), z4, z5, co, sm, wy, land, riv, ord, z6, hom, len, let', stp)) := by
                      rw [key _ (kok 4 (by omega) (by unfold kwd; rw [i1, i2, i3, i4]; rfl))]
                      unfold rJ
                      simp only [pc_bv, pc_lit, pc_k2_1, pc_k3_1, pc_k3_2, pc_k4_1, pc_k4_2, pc_k4_3, pc_k5_1, pc_k5_2, pc_k5_3, pc_k5_4, pc_k6_1, pc_k6_2, pc_k6_3, pc_k6_4, pc_k6_5, pc_km_1, pc_km_2, pc_km_3, pc_km_4, pc_km_5, pc_km_6, if_false, if_true, X, pd_9, pc_add]
                    have I := ih S' u8 z4 z5 co sm wy land riv ord z6 hom len let' stp u7 u9 z2 z3 ns nu ce ln u1 u3 vt (st + 1) (v2 + 1) a' (by omega) (by omega) (by omega) y2 w' M2 R hvt (fun z => by rw [g4]; exact hv4 z)
                    refine rdOut_s (fun r e => lq31_l stepX ?_) (fun r e => lq10_l (mk' _ _ _ _ _ _ _ _ _ M) e) f0 f1 f6 f7 I
                    rw [f0, f1, g2, g3, gM, g4, g5] at e
                    exact e
              · skip
                obtain R := s_river h hx hy w hm ra (b := tws t n (tws t n a + 1)) (l := twl t n (tws t n a + 1)) (by omega) (by omega) (by omega) i1 i2 i3 (ns := ns) (nu := nu) (ce := ce) (ln := ln) (co0 := co) (sm0 := sm) (wy := wy) (hv' := iI vt) (fl := fl) (flow := flow) (sums := sums)
                rcases R with ⟨k, p, j1, j2, ⟨z1, z2, z3, z4, z5, z6, z7, z8, z9, z10, z11, z12, z13, X⟩, u1, u2, u3, u6, u7, u8, u9, M⟩ | ⟨a', S', y1, y2, w', f0, f1, f6, f7, ⟨z2, z3, z4, z5, z7, z8, z9, z10, z11, z12, z13, X, g2, gM, g4, g5, R⟩, u1, u3, u7, u8, u9, M, M2⟩
                · left
                  have stepX : rC (iI n) yc (iI (S 0)) (iI (S 1)) (iI 1) (iI v2) (iI a) (iI vt) ws wl ns nu ce (iI st) (iI 0) (iI 0) ln (iI (S 3)) (iI (S 2)) (rM S) (iI (S 4)) (iI (S 5)) lOn nOn co sm wy land riv ord dir hom len let' stp = some (.inl (iI 0, iI (v2 + 1), z1, iI vt, iI (tws t n (tws t n a + 1)), iI (twl t n (tws t n a + 1)), z2, z3, z4, iI (st + 1), iI k, iI p, z5, z6, iI (S 2), rM S, iI (S 4), iI (S 5), lOn, z7, z8, z9, z10, land, z11, z12, z13, hom, len, let', stp)) := by
                    rw [key _ (kok 3 (by omega) (by unfold kwd; rw [i1, i2, i3]; rfl))]
                    unfold rJ
                    simp only [pc_bv, pc_lit, pc_k2_1, pc_k3_1, pc_k3_2, pc_k4_1, pc_k4_2, pc_k4_3, pc_k5_1, pc_k5_2, pc_k5_3, pc_k5_4, pc_k6_1, pc_k6_2, pc_k6_3, pc_k6_4, pc_k6_5, pc_km_1, pc_km_2, pc_km_3, pc_km_4, pc_km_5, pc_km_6, if_false, if_true, X, pd_16, pc_add]
                  exact ⟨k, p, st + 1, j1, j2, ⟨_, lq31_l stepX (lq31_r rC_stop), rfl, rfl, rfl, rfl⟩, _, lq10_l (mk' _ _ _ _ _ _ _ _ _ M) (lq10_r (rM_stop (kc k j1 j2))), rfl, rfl, rfl⟩
                · have stepX : rC (iI n) yc (iI (S 0)) (iI (S 1)) (iI 1) (iI v2) (iI a) (iI vt) ws wl ns nu ce (iI st) (iI 0) (iI 0) ln (iI (S 3)) (iI (S 2)) (rM S) (iI (S 4)) (iI (S 5)) lOn nOn co sm wy land riv ord dir hom len let' stp = some (.inl (iI 1, iI (v2 + 1), iI a', iI vt, iI (tws t n (tws t n a + 1)), iI (twl t n (tws t n a + 1)), z2, z3, z4, iI (st + 1), iI 0, iI 0, z5, iI (S' 3), iI (S 2), rM S, iI (S 4), iI (S 5), lOn, z7, z8, z9, z10, land, z11, z12, z13, hom, len, let', stp)) := by
                    rw [key _ (kok 3 (by omega) (by unfold kwd; rw [i1, i2, i3]; rfl))]
                    unfold rJ
                    simp only [pc_bv, pc_lit, pc_k2_1, pc_k3_1, pc_k3_2, pc_k4_1, pc_k4_2, pc_k4_3, pc_k5_1, pc_k5_2, pc_k5_3, pc_k5_4, pc_k6_1, pc_k6_2, pc_k6_3, pc_k6_4, pc_k6_5, pc_km_1, pc_km_2, pc_km_3, pc_km_4, pc_km_5, pc_km_6, if_false, if_true, X, pd_16, pc_add]
                  have I := ih S' u8 lOn z7 z8 z9 z10 land z11 z12 z13 hom len let' stp u7 u9 (iI (tws t n (tws t n a + 1))) (iI (twl t n (tws t n a + 1))) z2 z3 z4 z5 u1 u3 vt (st + 1) (v2 + 1) a' (by omega) (by omega) (by omega) y2 w' M2 R hvt (fun z => by rw [g4]; exact hv4 z)
                  refine rdOut_s (fun r e => lq31_l stepX ?_) (fun r e => lq10_l (mk' _ _ _ _ _ _ _ _ _ M) e) f0 f1 f6 f7 I
                  rw [f0, f1, g2, gM, g4, g5] at e
                  exact e
            · skip
              obtain R := s_harbour h hx hy w hm ra (b := tws t n (tws t n a + 1)) (l := twl t n (tws t n a + 1)) (by omega) (by omega) (by omega) i1 i2 (wl0 := iI (twl t n (tws t n a + 1))) (ns := ns) (nu := nu) (ce := ce) (hv' := iI vt) (fl := fl) (flow := flow) (sums := sums)
              rcases R with ⟨k, p, j1, j2, ⟨z1, z2, z3, z4, z5, z6, z7, z8, z9, z10, z11, z12, X⟩, u1, u2, u3, u6, u7, u8, u9, M⟩ | ⟨a', S', y1, y2, w', f0, f1, f6, f7, ⟨z2, z3, z4, z5, z6, z7, z8, z9, z10, X, g3, g4, g5, R⟩, u1, u3, u7, u8, u9, M, M2⟩
              · left
                have stepX : rC (iI n) yc (iI (S 0)) (iI (S 1)) (iI 1) (iI v2) (iI a) (iI vt) ws wl ns nu ce (iI st) (iI 0) (iI 0) ln (iI (S 3)) (iI (S 2)) (rM S) (iI (S 4)) (iI (S 5)) lOn nOn co sm wy land riv ord dir hom len let' stp = some (.inl (iI 0, iI (v2 + 1), z1, iI vt, z2, z3, z4, z5, z6, iI (st + 1), iI k, iI p, ln, iI (S 3), z7, z8, iI (S 4), iI (S 5), lOn, nOn, co, sm, wy, land, riv, ord, z9, z10, z11, z12, stp)) := by
                  rw [key _ (kok 2 (by omega) (by unfold kwd; rw [i1, i2]; rfl))]
                  unfold rJ
                  simp only [pc_bv, pc_lit, pc_k2_1, pc_k3_1, pc_k3_2, pc_k4_1, pc_k4_2, pc_k4_3, pc_k5_1, pc_k5_2, pc_k5_3, pc_k5_4, pc_k6_1, pc_k6_2, pc_k6_3, pc_k6_4, pc_k6_5, pc_km_1, pc_km_2, pc_km_3, pc_km_4, pc_km_5, pc_km_6, if_false, if_true, X, pd_15, pc_add]
                exact ⟨k, p, st + 1, j1, j2, ⟨_, lq31_l stepX (lq31_r rC_stop), rfl, rfl, rfl, rfl⟩, _, lq10_l (mk' _ _ _ _ _ _ _ _ _ M) (lq10_r (rM_stop (kc k j1 j2))), rfl, rfl, rfl⟩
              · have stepX : rC (iI n) yc (iI (S 0)) (iI (S 1)) (iI 1) (iI v2) (iI a) (iI vt) ws wl ns nu ce (iI st) (iI 0) (iI 0) ln (iI (S 3)) (iI (S 2)) (rM S) (iI (S 4)) (iI (S 5)) lOn nOn co sm wy land riv ord dir hom len let' stp = some (.inl (iI 1, iI (v2 + 1), iI a', iI vt, z2, z3, z4, z5, z6, iI (st + 1), iI 0, iI 0, ln, iI (S 3), iI (S' 2), rM S', iI (S 4), iI (S 5), lOn, nOn, co, sm, wy, land, riv, ord, z7, z8, z9, z10, stp)) := by
                  rw [key _ (kok 2 (by omega) (by unfold kwd; rw [i1, i2]; rfl))]
                  unfold rJ
                  simp only [pc_bv, pc_lit, pc_k2_1, pc_k3_1, pc_k3_2, pc_k4_1, pc_k4_2, pc_k4_3, pc_k5_1, pc_k5_2, pc_k5_3, pc_k5_4, pc_k6_1, pc_k6_2, pc_k6_3, pc_k6_4, pc_k6_5, pc_km_1, pc_km_2, pc_km_3, pc_km_4, pc_km_5, pc_km_6, if_false, if_true, X, pd_15, pc_add]
                have I := ih S' u8 lOn nOn co sm wy land riv ord z7 z8 z9 z10 stp u7 u9 z2 z3 z4 z5 z6 ln u1 u3 vt (st + 1) (v2 + 1) a' (by omega) (by omega) (by omega) y2 w' M2 R hvt (fun z => by rw [g4]; exact hv4 z)
                refine rdOut_s (fun r e => lq31_l stepX ?_) (fun r e => lq10_l (mk' _ _ _ _ _ _ _ _ _ M) e) f0 f1 f6 f7 I
                rw [f0, f1, g3, g4, g5] at e
                exact e
          · skip
            obtain R := s_land h hx hy w hm ra (b := tws t n (tws t n a + 1)) (l := twl t n (tws t n a + 1)) (by omega) (by omega) (by omega) i1 (ns := ns) (nu := nu) (ce := ce) (hv' := iI vt) (fl := fl) (flow := flow) (sums := sums)
            rcases R with ⟨k, p, j1, j2, ⟨z1, z2, z3, z4, z5, X⟩, u1, u2, u3, u6, u7, u8, u9, M⟩ | ⟨a', S', y1, y2, w', f0, f1, f6, f7, ⟨z2, z3, z4, z5, X, g2, g3, gM, g4, g5, R⟩, u1, u3, u7, u8, u9, M, M2⟩
            · left
              have stepX : rC (iI n) yc (iI (S 0)) (iI (S 1)) (iI 1) (iI v2) (iI a) (iI vt) ws wl ns nu ce (iI st) (iI 0) (iI 0) ln (iI (S 3)) (iI (S 2)) (rM S) (iI (S 4)) (iI (S 5)) lOn nOn co sm wy land riv ord dir hom len let' stp = some (.inl (iI 0, iI (v2 + 1), z1, iI vt, iI (tws t n (tws t n a + 1)), iI (twl t n (tws t n a + 1)), z2, z3, z4, iI (st + 1), iI k, iI p, ln, iI (S 3), iI (S 2), rM S, iI (S 4), iI (S 5), lOn, nOn, co, sm, wy, z5, riv, ord, dir, hom, len, let', stp)) := by
                rw [key _ (kok 1 (by omega) (by unfold kwd; rw [i1]; rfl))]
                unfold rJ
                simp only [pc_bv, pc_lit, pc_k2_1, pc_k3_1, pc_k3_2, pc_k4_1, pc_k4_2, pc_k4_3, pc_k5_1, pc_k5_2, pc_k5_3, pc_k5_4, pc_k6_1, pc_k6_2, pc_k6_3, pc_k6_4, pc_k6_5, pc_km_1, pc_km_2, pc_km_3, pc_km_4, pc_km_5, pc_km_6, if_false, if_true, X, pd_8, pc_add]
              exact ⟨k, p, st + 1, j1, j2, ⟨_, lq31_l stepX (lq31_r rC_stop), rfl, rfl, rfl, rfl⟩, _, lq10_l (mk' _ _ _ _ _ _ _ _ _ M) (lq10_r (rM_stop (kc k j1 j2))), rfl, rfl, rfl⟩
            · have stepX : rC (iI n) yc (iI (S 0)) (iI (S 1)) (iI 1) (iI v2) (iI a) (iI vt) ws wl ns nu ce (iI st) (iI 0) (iI 0) ln (iI (S 3)) (iI (S 2)) (rM S) (iI (S 4)) (iI (S 5)) lOn nOn co sm wy land riv ord dir hom len let' stp = some (.inl (iI 1, iI (v2 + 1), iI a', iI vt, iI (tws t n (tws t n a + 1)), iI (twl t n (tws t n a + 1)), z2, z3, z4, iI (st + 1), iI 0, iI 0, ln, iI (S 3), iI (S 2), rM S, iI (S 4), iI (S 5), lOn, nOn, co, sm, wy, z5, riv, ord, dir, hom, len, let', stp)) := by
                rw [key _ (kok 1 (by omega) (by unfold kwd; rw [i1]; rfl))]
                unfold rJ
                simp only [pc_bv, pc_lit, pc_k2_1, pc_k3_1, pc_k3_2, pc_k4_1, pc_k4_2, pc_k4_3, pc_k5_1, pc_k5_2, pc_k5_3, pc_k5_4, pc_k6_1, pc_k6_2, pc_k6_3, pc_k6_4, pc_k6_5, pc_km_1, pc_km_2, pc_km_3, pc_km_4, pc_km_5, pc_km_6, if_false, if_true, X, pd_8, pc_add]
              have I := ih S' u8 lOn nOn co sm wy z5 riv ord dir hom len let' stp u7 u9 (iI (tws t n (tws t n a + 1))) (iI (twl t n (tws t n a + 1))) z2 z3 z4 ln u1 u3 vt (st + 1) (v2 + 1) a' (by omega) (by omega) (by omega) y2 w' M2 R hvt (fun z => by rw [g4]; exact hv4 z)
              refine rdOut_s (fun r e => lq31_l stepX ?_) (fun r e => lq10_l (mk' _ _ _ _ _ _ _ _ _ M) e) f0 f1 f6 f7 I
              rw [f0, f1, g2, g3, gM, g4, g5] at e
              exact e
      · left
        exact ⟨1, tws t n a, st, by omega, by omega, ⟨_, lq31_l (rC_semi h hx a0 an h0 hva q q2) (lq31_r rC_stop), rfl, rfl, rfl, rfl⟩, _, lq10_r (m_semi h hy a0 an q q2), rfl, rfl, rfl⟩
end
