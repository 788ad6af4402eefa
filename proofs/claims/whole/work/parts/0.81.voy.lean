section
variable {n : Int} {t : Int → Int} {y yc ym : Nat → Int32} {lOn nOn land riv ord dir hom len let' : Nat → Int32}
theorem vC_in (h : tT n t) (hx : tX n t yc) {v1 a p : Int} {ws wl e ea jc cn : Int32} {st : Nat → Int32} (a0 : 0 ≤ a) (a1 : a ≤ n) (hp : (v1 = 0 ∧ p = a) ∨ (0 < v1 ∧ v1 ≤ 16 ∧ p = tws t n a ∧ sgL (t p) = true)) : vC (iI n) yc cn len let' (iI v1) (iI a) ws wl e ea jc st = vJ (iI n) ws wl e ea yc jc st (iI v1) cn len let' (iI p) := by
  rcases hp with ⟨e1, e2⟩ | ⟨e1, e2, e3, e4⟩
  · subst e1; subst e2
    unfold vC vJ
    simp only [pc_bv, pc_lit, if_true]
  · subst e3
    have c := tws_c h a0 a1
    have g := t_rg h (k := tws t n a) (by omega)
    have q1 : (iI v1 = iI 0) = False := (pc_eq (by omega) (by omega) (by omega) (by omega)).trans (eq_false (by omega))
    have q2 : (iI 16 < iI v1) = False := (pc_lt (by omega) (by omega) (by omega) (by omega)).trans (eq_false (by omega))
    have il := x_isLetter (c := t (tws t n a)) (by omega) (by omega)
    rw [e4] at il
    unfold vC vJ
    simp only [pc_bv, pc_lit, q1, if_false, x_nextSign h hx a0 a1, pd_2, il, pd_1, pc_zB1, pc_10, q2]
theorem vC_out (h : tT n t) (hx : tX n t yc) {v1 a : Int} {ws wl e ea jc cn : Int32} {st : Nat → Int32} (a0 : 0 ≤ a) (a1 : a ≤ n) (v0 : 0 < v1) (v16 : v1 ≤ 16) (k : sgL (t (tws t n a)) = false) : vC (iI n) yc cn len let' (iI v1) (iI a) ws wl e ea jc st = some (.inr (iI 1, iI (tws t n a), iI 1, ws, wl, e, ea, jc, st)) := by
  have c := tws_c h a0 a1
  have g := t_rg h (k := tws t n a) (by omega)
  have q1 : (iI v1 = iI 0) = False := (pc_eq (by omega) (by omega) (by omega) (by omega)).trans (eq_false (by omega))
  have il := x_isLetter (c := t (tws t n a)) (by omega) (by omega)
  rw [k] at il
  unfold vC
  simp only [pc_bv, pc_lit, q1, if_false, x_nextSign h hx a0 a1, pd_2, il, pd_1, pc_zB0, if_true, pc_mr]
theorem voy (h : tT n t) (hx : tX n t yc) (hy : tX n t ym) : ∀ (d : Nat) (S : Int → Int) (s stp : Nat → Int32) (v1 a p : Int) (ws0 wl0 fr : Int32), wS S → mS s S → RA lOn nOn land riv ord dir hom len let' stp S → S 4 = v1 → 16 - v1 < d → 0 ≤ a → a ≤ p → p ≤ n → ((v1 = 0 ∧ p = a) ∨ (0 < v1 ∧ v1 ≤ 16 ∧ p = tws t n a ∧ sgL (t p) = true)) →
    (∃ k q : Int, 1 ≤ k ∧ k ≤ 4 ∧ (∃ z1 z2 z3 z4 z5 z6, lq8 (vC (iI n) yc (iI (S 2)) len let') (iI v1) (iI a) ws0 wl0 (iI 0) (iI 0) (iI (S 4)) stp = some (iI 0, z1, z2, z3, z4, iI k, iI q, z5, z6)) ∧ ∃ u1 u2 u5, lq5 (vM (iI n) ym) (iI p) fr (iI 0) (iI 0) s = some (u1, u2, iI k, iI q, u5)) ∨
    (∃ (a' : Int) (S' : Int → Int), a ≤ a' ∧ a' ≤ n ∧ wS S' ∧ JN S S' ∧ S' 5 = S 5 ∧ S' 6 = S 6 ∧ S' 7 = S 7 ∧ (∃ z2 z3 z6, lq8 (vC (iI n) yc (iI (S 2)) len let') (iI v1) (iI a) ws0 wl0 (iI 0) (iI 0) (iI (S 4)) stp = some (iI 1, iI a', iI 1, z2, z3, iI 0, iI 0, iI (S' 4), z6) ∧ RA lOn nOn land riv ord dir hom len let' z6 S') ∧ ∃ u2 u5, lq5 (vM (iI n) ym) (iI p) fr (iI 0) (iI 0) s = some (iI a', u2, iI 0, iI 0, u5) ∧ mS u5 S') := by
  intro d
  induction d with
  | zero =>
    intro S s stp v1 a p ws0 wl0 fr w hm ra h4 hd
    have hC := w.C
    omega
  | succ d ih =>
    intro S s stp v1 a p ws0 wl0 fr w hm ra h4 hd a0 ap pn hp
    have hC := w.C
    have c1 := tw_end h (a := p) (by omega) pn
    have g4 : s (4 : Int32).toNatClampNeg = iI (S 4) := hm 4 (by omega) (by omega)
    have mn := m_name h hy (a := p) (by omega) pn (fr := fr) (ea := iI 0)
    have e11 : ¬ iI 1 = iI 0 := by decide
    have e33 : ¬ iI 3 = iI 0 := by decide
    have e44 : ¬ iI 4 = iI 0 := by decide
    have vin := vC_in (len := len) (let' := let') h hx (ws := ws0) (wl := wl0) (e := iI 0) (ea := iI 0) (jc := iI (S 4)) (cn := iI (S 2)) (st := stp) a0 (by omega) hp
    have q16 : (iI (S 4) = iI 16) = (S 4 = 16) := pc_eq (by omega) (by omega) (by omega) (by omega)
    have x16 : (iI v1 = iI 16) = (S 4 = 16) := by rw [← h4]; exact q16
    by_cases q : nmK t n p = 0
    · obtain ⟨x1, x2, x3⟩ := x_nameOk h hx (a := p) (by omega) pn (v2 := ws0) (v3 := wl0) (e := iI 0) (ea := iI 0) q
      have nx := x_named h hx w ra.length ra.letters (b := tws t n p) (l := twl t n p) (by omega) (by omega) (by omega)
      have nm' := m_named h hy hm w (b := tws t n p) (l := twl t n p) (by omega) (by omega) (by omega)
      have hr : nmH S t (tws t n p) (twl t n p) = -1 ∨ (0 ≤ nmH S t (tws t n p) (twl t n p) ∧ nmH S t (tws t n p) (twl t n p) < S 2) := by
        rcases fi_rg (nmP S t (tws t n p) (twl t n p)) (S 2) with z | ⟨z1, z2, _⟩
        · exact .inl z
        · exact .inr ⟨z1, z2⟩
      rw [q, if_pos rfl] at mn
      generalize nmH S t (tws t n p) (twl t n p) = H at nx nm' hr
      generalize ha : tws t n p + twl t n p = A at x1 nm' mn c1
      by_cases z16 : S 4 = 16
      · left
        refine ⟨3, tws t n p, by omega, by omega, ⟨?_, ?_, ?_, ?_, ?_, ?_, lq8_r ?xx⟩, ?_, ?_, ?_, lq5_r ?mm⟩
        case xx =>
          rw [vin]
          unfold vJ
          simp only [pc_bv, pc_lit, x1, pd_6, pc_10, if_false, x16, z16, if_true, f_X5_fail, pd_3, pc_zbI0, pc_mr]
          try rfl
        case mm =>
          unfold vM
          simp only [pc_bv, mn, pd_4, pc_ar4, g4]
          simp only [pc_lit, q16, z16, if_true, m_fail1, pd_2, m_fineE e33, pd_1, pc_neg, m_failE e33]
          try rfl
      · by_cases qH : H = -1
        · left
          subst qH
          refine ⟨4, tws t n p, by omega, by omega, ⟨?_, ?_, ?_, ?_, ?_, ?_, lq8_r ?xx⟩, ?_, ?_, ?_, lq5_r ?mm⟩
          case xx =>
            rw [vin]
            unfold vJ
            simp only [pc_bv, pc_lit, x1, pd_6, pc_10, if_false, x16, z16, nx, pd_1, pc_neg, if_true, f_X5_fail, pd_3, pc_zbI0, pc_mr]
            try rfl
          case mm =>
            unfold vM
            simp only [pc_bv, mn, pd_4, pc_ar4, g4]
            simp only [pc_lit, q16, z16, if_false, m_fail0, pd_2, m_fine0, pd_1, pc_10, nm', pc_neg, if_true, m_fail1, m_fineE e44]
            try rfl
        · have hH : 0 ≤ H ∧ H < S 2 := by omega
          have nH : (iI H = iI (-1)) = False := (pc_eq (by omega) (by omega) (by omega) (by omega)).trans (eq_false qH)
          have as := x_addStop (stp := stp) w (h := H) (by omega)
          have jn := sa_jn w H
          have w' := sa_wS w hH.1 hH.2 (by omega)
          have rj := jn_RA w ra jn (sa_aJ w ra.stops (by omega))
          have h1' : mS (upd s (536 + S 4).toNat (iI H)) (wr1 S (536 + S 4) H) := mS_wr hm (by omega)
          have e5 : upd s (536 + S 4).toNat (iI H) (4 : Int).toNat = iI (S 4) := by
            rw [upd_at, if_neg (by omega)]; exact g4
          have n4 : (iI 4).toNatClampNeg = (4 : Int).toNat := pc_nat (by omega) (by omega)
          have hm2 : mS (upd (upd s (536 + S 4).toNat (iI H)) (4 : Int).toNat (iI (S 4 + 1))) (saS S H) := mS_wr h1' (by omega)
          have S4 : saS S H 4 = S 4 + 1 := by rw [sa_at w, if_pos rfl]
          have Sx : ∀ k, 5 ≤ k → k ≤ 7 → saS S H k = S k := fun k k1 k2 => by rw [sa_at w, if_neg (by omega), if_neg (by omega)]
          have S2 : saS S H 2 = S 2 := jn 2 (by omega)
          have c2 := tws_c h (a := A) (by omega) (by omega)
          have tg := t_rg h (k := tws t n A) (by omega)
          have iml := m_isLetter (c := t (tws t n A)) (by omega) (by omega)
          have n536 : (iI (536 + S 4)).toNatClampNeg = (536 + S 4).toNat := pc_nat (by omega) (by omega)
          have ar536 : ∀ {α : Type} {k : Option α}, ar (iI (536 + S 4)) 552 k = k := pc_ar (by omega) (by omega) (by omega)
          have stepX : vC (iI n) yc (iI (S 2)) len let' (iI v1) (iI a) ws0 wl0 (iI 0) (iI 0) (iI (S 4)) stp = some (.inl (iI (v1 + 1), iI A, iI (tws t n p), iI (twl t n p), iI 0, iI 0, iI (S 4 + 1), upd stp (S 4).toNat (iI H))) := by
            rw [vin]
            unfold vJ
            simp only [pc_bv, pc_lit, x1, pd_6, pc_10, if_false, x16, z16, nx, pd_1, pc_neg, nH, as, pd_2, pc_add]
          have stepM : vM (iI n) ym (iI p) fr (iI 0) (iI 0) s = if sgL (t (tws t n A)) = true then some (.inl (iI (tws t n A), iI (tws t n A), iI 0, iI 0, upd (upd s (536 + S 4).toNat (iI H)) (4 : Int).toNat (iI (S 4 + 1)))) else some (.inr (iI (tws t n A), iI (tws t n A), iI 0, iI 0, upd (upd s (536 + S 4).toNat (iI H)) (4 : Int).toNat (iI (S 4 + 1)))) := by
            have a536 : (536 : Int32) + iI (S 4) = iI (536 + S 4) := pc_add 536 (S 4)
            have lk := m_looks h hy (a := A) (by omega) (by omega) (fr := iI (tws t n p))
            unfold vM
            simp only [pc_bv, mn, pd_4, pc_ar4, g4, a536, ar536, n536]
            simp only [pc_lit, q16, z16, if_false, m_fail0, pd_2, m_fine0, pd_1, pc_10, nm', pc_neg, nH, n4, e5, lk, pd_3, iml, pc_add]
            cases sgL (t (tws t n A))
            · simp only [pc_zB0, if_true, Bool.false_eq_true, if_false]
              try rfl
            · simp only [pc_zB1, pc_10, if_true, if_false]
              try rfl
          cases sl : sgL (t (tws t n A))
          · right
            rw [sl, if_neg (by decide)] at stepM
            have out := vC_out (len := len) (let' := let') h hx (v1 := v1 + 1) (a := A) (ws := iI (tws t n p)) (wl := iI (twl t n p)) (e := iI 0) (ea := iI 0) (jc := iI (S 4 + 1)) (cn := iI (S 2)) (st := upd stp (S 4).toNat (iI H)) (by omega) (by omega) (by omega) (by omega) sl
            refine ⟨tws t n A, saS S H, by omega, by omega, w', jn, Sx 5 (by omega) (by omega), Sx 6 (by omega) (by omega), Sx 7 (by omega) (by omega), ⟨iI (tws t n p), iI (twl t n p), upd stp (S 4).toNat (iI H), ?_, rj⟩, iI (tws t n A), _, lq5_r stepM, hm2⟩
            rw [S4]
            exact lq8_l stepX (lq8_r out)
          · rw [sl, if_pos rfl] at stepM
            have I := ih (saS S H) _ _ (v1 + 1) A (tws t n A) (iI (tws t n p)) (iI (twl t n p)) (iI (tws t n A)) w' hm2 rj (by rw [S4, h4]) (by omega) (by omega) (by omega) (by omega) (.inr ⟨by omega, by omega, rfl, sl⟩)
            rw [S4, S2] at I
            rcases I with ⟨k, qq, k1, k2, ⟨z1, z2, z3, z4, z5, z6, X⟩, u1, u2, u5, M⟩ | ⟨a', S', i1, i2, i3, i4, i5, i6, i7, ⟨z2, z3, z6, X, R⟩, u2, u5, M, M2⟩
            · left
              exact ⟨k, qq, k1, k2, ⟨z1, z2, z3, z4, z5, z6, lq8_l stepX X⟩, u1, u2, u5, lq5_l stepM M⟩
            · right
              have y5 := Sx 5 (by omega) (by omega)
              have y6 := Sx 6 (by omega) (by omega)
              have y7 := Sx 7 (by omega) (by omega)
              exact ⟨a', S', by omega, i2, i3, jn.tr i4, i5.trans y5, i6.trans y6, i7.trans y7, ⟨z2, z3, z6, lq8_l stepX X, R⟩, u2, u5, lq5_l stepM M, M2⟩
    · left
      obtain ⟨y1, y2, y3, x1⟩ := x_nameKo h hx (a := p) (by omega) pn (v2 := ws0) (v3 := wl0) (e := iI 0) (ea := iI 0) q
      have q1 : nmK t n p = 1 := by
        unfold nmK at q ⊢
        split at q
        · omega
        · rw [if_neg (by assumption)]
      rw [q1, if_neg (by omega)] at mn
      refine ⟨1, tws t n p, by omega, by omega, ⟨?_, ?_, ?_, ?_, ?_, ?_, lq8_r ?xx⟩, ?_, ?_, ?_, lq5_r ?mm⟩
      case xx =>
        rw [vin]
        unfold vJ
        simp only [pc_bv, pc_lit, x1, pd_6, if_true, pc_mr]
        try rfl
      case mm =>
        unfold vM
        simp only [pc_bv, mn, pd_4, pc_ar4, g4]
        simp only [pc_lit, m_failE e11, pd_2, m_fineE e11, pd_1, if_true, pc_neg, ite_self]
        try rfl
theorem m_readsVoyageE {nn a fr e ea : Int32} {s : Nat → Int32} (he : ¬ e = iI 0) : f_X9_readsVoyage nn a fr e ea s ym = some (a, fr, e, ea, s) := by
  have M : lq5 (vM nn ym) a fr e ea s = some (a, fr, e, ea, s) := by
    refine lq5_r ?_
    unfold vM
    simp only [pc_bv, m_nameE he, pd_4, pc_ar4]
    simp only [pc_lit, m_failE he, pd_2, m_fineE he, pd_1, if_true, pc_neg, ite_self]
  show bd5 (lq5 (vM nn ym) a fr e ea s) _ = _
  rw [M]
  rfl
theorem s_voyage (h : tT n t) (hx : tX n t yc) (hy : tX n t ym) {S : Int → Int} {s stp : Nat → Int32} (w : wS S) (hm : mS s S) (ra : RA lOn nOn land riv ord dir hom len let' stp S) {b l : Int} (b0 : 0 ≤ b) (l0 : 0 ≤ l) (bl : b + l ≤ n) (k1 : isK t b l 1 = false) (k2 : isK t b l 2 = false) (k3 : isK t b l 3 = false) (k4 : isK t b l 4 = false) (k5 : isK t b l 5 = true) {vt : Int} (v0 : vt = 0 ∨ vt = 1) (v4 : vt = 0 → S 4 = 0) {wl0 fl : Int32} {flow sums : Nat → Int32} :
    (∃ k p : Int, 1 ≤ k ∧ k ≤ 4 ∧ (∃ z1 z2 z3 z4 z5 z6, f_X5_readVoyage (iI n) (iI (b + l)) (iI vt) (iI b) wl0 (iI 0) (iI 0) yc (iI (S 2)) (iI (S 4)) len let' stp = some (iI 0, z1, z2, z3, z4, iI k, iI p, z5, z6)) ∧ ∃ u1 u2 u3 u6 u7 u8 u9, f_X9_readsOne fl (iI n) (iI (b + l)) (iI b) (iI 0) (iI 0) (iI vt) flow s sums ym = some (u1, u2, u3, iI k, iI p, u6, u7, u8, u9)) ∨
    (∃ (a' : Int) (S' : Int → Int), b + l ≤ a' ∧ a' ≤ n ∧ wS S' ∧ S' 0 = S 0 ∧ S' 1 = S 1 ∧ S' 6 = S 6 ∧ S' 7 = S 7 ∧ (∃ z2 z3 z6, f_X5_readVoyage (iI n) (iI (b + l)) (iI vt) (iI b) wl0 (iI 0) (iI 0) yc (iI (S 2)) (iI (S 4)) len let' stp = some (iI 1, iI a', iI 1, z2, z3, iI 0, iI 0, iI (S' 4), z6) ∧ S' 2 = S 2 ∧ S' 3 = S 3 ∧ rM S' = rM S ∧ S' 5 = S 5 ∧ RA lOn nOn land riv ord dir hom len let' z6 S') ∧ ∃ u1 u3 u7 u8 u9, f_X9_readsOne fl (iI n) (iI (b + l)) (iI b) (iI 0) (iI 0) (iI vt) flow s sums ym = some (u1, iI a', u3, iI 0, iI 0, iI 1, u7, u8, u9) ∧ mS u8 S') := by
  have hC := w.C
  have e33 : ¬ iI 3 = iI 0 := by decide
  rcases v0 with rfl | rfl
  · have MM : f_X9_readsOne fl (iI n) (iI (b + l)) (iI b) (iI 0) (iI 0) (iI 0) flow s sums ym = bd5 (f_X9_readsVoyage (iI n) (iI (b + l)) (iI b) (iI 0) (iI 0) s ym) fun a f e ea s' => some (fl, a, f, e, ea, iI 1, flow, s', sums) := by
      unfold f_X9_readsOne
      simp only [pc_bv]
      rw [m_was h hy b0 l0 bl 1, k1, pd_1, if_pos (by rfl), m_was h hy b0 l0 bl 2, k2, pd_1, if_pos (by rfl), m_was h hy b0 l0 bl 3, k3, pd_1, if_pos (by rfl), m_was h hy b0 l0 bl 4, k4, pd_1, if_pos (by rfl), m_was h hy b0 l0 bl 5, k5, pd_1, if_neg (by decide), m_fail0, pd_2]
      rfl
    have XX : f_X5_readVoyage (iI n) (iI (b + l)) (iI 0) (iI b) wl0 (iI 0) (iI 0) yc (iI (S 2)) (iI (S 4)) len let' stp = lq8 (vC (iI n) yc (iI (S 2)) len let') (iI 0) (iI (b + l)) (iI b) wl0 (iI 0) (iI 0) (iI (S 4)) stp := by
      unfold f_X5_readVoyage
      rw [if_pos (by rfl)]
      rfl
    have VV : f_X9_readsVoyage (iI n) (iI (b + l)) (iI b) (iI 0) (iI 0) s ym = bd5 (lq5 (vM (iI n) ym) (iI (b + l)) (iI b) (iI 0) (iI 0) s) fun a f e ea s' => some (a, f, e, ea, s') := rfl
    have V := voy (lOn := lOn) (nOn := nOn) (land := land) (riv := riv) (ord := ord) (dir := dir) (hom := hom) (len := len) (let' := let') h hx hy 17 S s stp 0 (b + l) (b + l) (iI b) wl0 (iI b) w hm ra (v4 rfl) (by omega) (by omega) (by omega) bl (.inl ⟨rfl, rfl⟩)
    rcases V with ⟨k, qq, j1, j2, ⟨z1, z2, z3, z4, z5, z6, X⟩, u1, u2, u5, M⟩ | ⟨a', S', i1, i2, i3, i4, i5, i6, i7, ⟨z2, z3, z6, X, R⟩, u2, u5, M, M2⟩
    · left
      exact ⟨k, qq, j1, j2, ⟨z1, z2, z3, z4, z5, z6, XX.trans X⟩, fl, u1, u2, iI 1, flow, u5, sums, by rw [MM, VV, M, pd_5, pd_5]⟩
    · right
      exact ⟨a', S', i1, i2, i3, i4 0 (by omega), i4 1 (by omega), i6, i7, ⟨z2, z3, z6, XX.trans X, i4 2 (by omega), i4 3 (by omega), jn_rM w i4, i5, R⟩, fl, u2, flow, u5, sums, by rw [MM, VV, M, pd_5, pd_5], M2⟩
  · left
    refine ⟨3, b, by omega, by omega, ⟨?_, ?_, ?_, ?_, ?_, ?_, ?xx⟩, ?_, ?_, ?_, ?_, ?_, ?_, ?_, ?mm⟩
    case xx =>
      unfold f_X5_readVoyage
      rw [if_neg (by decide)]
      simp only [f_X5_fail, pd_3]
      simp only [pc_lit, pc_zbI0]
      rfl
    case mm =>
      unfold f_X9_readsOne
      simp only [pc_bv]
      rw [m_was h hy b0 l0 bl 1, k1, pd_1, if_pos (by rfl), m_was h hy b0 l0 bl 2, k2, pd_1, if_pos (by rfl), m_was h hy b0 l0 bl 3, k3, pd_1, if_pos (by rfl), m_was h hy b0 l0 bl 4, k4, pd_1, if_pos (by rfl), m_was h hy b0 l0 bl 5, k5, pd_1, if_neg (by decide), m_fail1, pd_2, show (3 : Int32) = iI 3 from rfl, m_readsVoyageE e33, pd_5]
end
