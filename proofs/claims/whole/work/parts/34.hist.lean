abbrev shv (g : GE) (b0 b1 b2 b3 b4 b5 b6 b7 b8 b9 b10 b11 b12 b13 : Nat) (x1_rows : Int32) (x1_columns : Int32) (x1_rivers : Int32) (x2_count : Int32) (x2_reds : Int32) (x3_count : Int32) (x3_next : Int32) (x3_turn : Int32) (x3_quarters : Int32) (y4_letterOn : Nat → Int32) (y5_namesOn : Nat → Int32) (y6_land : Nat → Int32) (y7_riverOf : Nat → Int32) (y8_riverPlace : Nat → Int32) (y9_direction : Nat → Int32) (y10_home : Nat → Int32) (y11_length : Nat → Int32) (y12_letters : Nat → Int32) (y13_stops : Nat → Int32) : va_W := [(b0, .inr (6, [.ref b1, .ref b2, .ref b3, .ref b5, .ref b4])), (b1, .inr (1, [.int x1_rows, .int x1_columns, .int x1_rivers, .ref b6, .ref b7, .ref b8])), (b2, .inr (2, [.int x2_count, .int x2_reds, .ref b10, .ref b9, .ref b11, .ref b12])), (b3, .inr (4, [.int x3_count, .int x3_next, .int x3_turn, .int x3_quarters, .ref b13])), (b4, .inl (g.2.1 0, 144, .inl y4_letterOn)), (b5, .inl (g.2.1 0, 144, .inl y5_namesOn)), (b6, .inl (g.2.1 1, 144, .inl y6_land)), (b7, .inl (g.2.1 0, 144, .inl y7_riverOf)), (b8, .inl (g.2.1 0, 144, .inl y8_riverPlace)), (b9, .inl (g.2.1 0, 8, .inl y9_direction)), (b10, .inl (g.2.1 0, 8, .inl y10_home)), (b11, .inl (g.2.1 0, 8, .inl y11_length)), (b12, .inl (g.2.1 0, 64, .inl y12_letters)), (b13, .inl (g.2.1 0, 16, .inl y13_stops))]
def wSh (g : GE) (a : Nat → Nat) (d : ShT) : va_W := shv g (a 0) (a 1) (a 2) (a 3) (a 4) (a 5) (a 6) (a 7) (a 8) (a 9) (a 10) (a 11) (a 12) (a 13) (d.1) (d.2.1) (d.2.2.1) (d.2.2.2.1) (d.2.2.2.2.1) (d.2.2.2.2.2.1) (d.2.2.2.2.2.2.1) (d.2.2.2.2.2.2.2.1) (d.2.2.2.2.2.2.2.2.1) (d.2.2.2.2.2.2.2.2.2.1) (d.2.2.2.2.2.2.2.2.2.2.1) (d.2.2.2.2.2.2.2.2.2.2.2.1) (d.2.2.2.2.2.2.2.2.2.2.2.2.1) (d.2.2.2.2.2.2.2.2.2.2.2.2.2.1) (d.2.2.2.2.2.2.2.2.2.2.2.2.2.2.1) (d.2.2.2.2.2.2.2.2.2.2.2.2.2.2.2.1) (d.2.2.2.2.2.2.2.2.2.2.2.2.2.2.2.2.1) (d.2.2.2.2.2.2.2.2.2.2.2.2.2.2.2.2.2.1) (d.2.2.2.2.2.2.2.2.2.2.2.2.2.2.2.2.2.2)
def hF (as : Nat → Nat → Nat) (D : Nat → Option ShT) : Nat → Option Nat := fun i => (D i).map (fun _ => as i 0)
def hW1 (g : GE) (a : Nat → Nat) (o : Option ShT) : va_W := match o with | none => [] | some d => wSh g a d
def hW (g : GE) (as : Nat → Nat → Nat) (D : Nat → Option ShT) : Nat → va_W
  | 0 => []
  | n + 1 => hW g as D n ++ hW1 g (as n) (D n)
def updA (as : Nat → Nat → Nat) (i : Nat) (a : Nat → Nat) : Nat → Nat → Nat := fun j => if j = i then a else as j
theorem hW_ext {g : GE} {as as2 : Nat → Nat → Nat} {D D2 : Nat → Option ShT} : ∀ n : Nat, (∀ j, j < n → as j = as2 j ∧ D j = D2 j) → hW g as D n = hW g as2 D2 n := by
  intro n
  induction n with
  | zero => intro _; rfl
  | succ n ih =>
    intro h
    show hW g as D n ++ hW1 g (as n) (D n) = hW g as2 D2 n ++ hW1 g (as2 n) (D2 n)
    rw [ih (fun j hj => h j (Nat.lt_succ_of_lt hj)), (h n (Nat.lt_succ_self n)).1, (h n (Nat.lt_succ_self n)).2]
theorem hW_at {g : GE} {as : Nat → Nat → Nat} {D : Nat → Option ShT} {i : Nat} : ∀ n : Nat, i < n → ∃ pre post : va_W, hW g as D n = pre ++ (hW1 g (as i) (D i) ++ post) ∧ ∀ (a : Nat → Nat) (d : ShT), hW g (updA as i a) (updD D i d) n = pre ++ (wSh g a d ++ post) := by
  intro n
  induction n with
  | zero => intro h; exact absurd h (Nat.not_lt_zero _)
  | succ n ih =>
    intro h
    by_cases e : i = n
    · subst e
      refine ⟨hW g as D i, [], by rw [List.append_nil]; rfl, fun a d => ?_⟩
      rw [List.append_nil]
      show hW g (updA as i a) (updD D i d) i ++ hW1 g (updA as i a i) (updD D i d i) = _
      rw [hW_ext (as2 := as) (D2 := D) i (fun j hj => by unfold updA updD; rw [if_neg (Nat.ne_of_lt hj), if_neg (Nat.ne_of_lt hj)]; exact ⟨rfl, rfl⟩)]
      unfold updA updD
      rw [if_pos rfl, if_pos rfl]
      rfl
    · obtain ⟨pre, post, h1, h2⟩ := ih (by omega)
      refine ⟨pre, post ++ hW1 g (as n) (D n), ?_, fun a d => ?_⟩
      · show hW g as D n ++ hW1 g (as n) (D n) = _
        rw [h1]; simp only [List.append_assoc]
      · show hW g (updA as i a) (updD D i d) n ++ hW1 g (updA as i a n) (updD D i d n) = _
        rw [h2 a d]
        unfold updA updD
        rw [if_neg (fun z => e z.symm), if_neg (fun z => e z.symm)]
        simp only [List.append_assoc]
theorem hF_at {as : Nat → Nat → Nat} {D : Nat → Option ShT} {i : Nat} {d : ShT} (h : D i = some d) : hF as D i = some (as i 0) := by unfold hF; rw [h]; rfl
theorem hF_no {as : Nat → Nat → Nat} {D : Nat → Option ShT} {i : Nat} (h : D i = none) : hF as D i = none := by unfold hF; rw [h]; rfl
theorem hF_same {as : Nat → Nat → Nat} {D : Nat → Option ShT} {i : Nat} {d d2 : ShT} (h : D i = some d) : hF as (updD D i d2) = hF as D := by
  funext j
  unfold hF updD
  by_cases e : j = i
  · subst e; rw [if_pos rfl, h]; rfl
  · rw [if_neg e]
theorem hF_up {as : Nat → Nat → Nat} {D : Nat → Option ShT} {i : Nat} {a : Nat → Nat} {d : ShT} : hF (updA as i a) (updD D i d) = va_up (hF as D) i (some (a 0)) := by
  funext j
  unfold hF updD updA va_up
  by_cases e : j = i
  · subst e; rw [if_pos rfl, if_pos rfl, if_pos rfl]; rfl
  · rw [if_neg e, if_neg e, if_neg e]
theorem updA_self {as : Nat → Nat → Nat} {i : Nat} : updA as i (as i) = as := by
  funext j
  unfold updA
  by_cases e : j = i
  · subst e; rw [if_pos rfl]
  · rw [if_neg e]
theorem va_Nw_dummy : True := trivial

def ad14 (q z1 z2 z3 z4 z5 z6 z7 z8 z9 z10 z11 z12 z13 : Nat) : Nat → Nat := fun k => match k with | 0 => q | 1 => z1 | 2 => z2 | 3 => z3 | 4 => z4 | 5 => z5 | 6 => z6 | 7 => z7 | 8 => z8 | 9 => z9 | 10 => z10 | 11 => z11 | 12 => z12 | 13 => z13 | _ => 0
theorem pm_new {α : Type} (X T S : List α) : ((X ++ T) ++ S).Perm ((X ++ S) ++ T) := by
  rw [List.append_assoc, List.append_assoc]
  exact List.Perm.append_left X List.perm_append_comm
set_option maxRecDepth 20000 in
theorem c_X3_keep (l : Launch) (g : GE) (a0 a1 ea0 ea1 ea2 ea3 ea4 ea5 ea6 ea7 ea8 ea9 ea10 ea11 ea12 ea13 : Nat) (sz : Nat) (as : Nat → Nat → Nat) (x0_latest x0_count : Int32) (D : Nat → Option ShT) (s_x1_rows : Int32) (s_x1_columns : Int32) (s_x1_rivers : Int32) (s_x2_count : Int32) (s_x2_reds : Int32) (s_x3_count : Int32) (s_x3_next : Int32) (s_x3_turn : Int32) (s_x3_quarters : Int32) (s_y4_letterOn : Nat → Int32) (s_y5_namesOn : Nat → Int32) (s_y6_land : Nat → Int32) (s_y7_riverOf : Nat → Int32) (s_y8_riverPlace : Nat → Int32) (s_y9_direction : Nat → Int32) (s_y10_home : Nat → Int32) (s_y11_length : Nat → Int32) (s_y12_letters : Nat → Int32) (s_y13_stops : Nat → Int32) (o_l o_c : Int32) (o_D : Nat → Option ShT) (hf : f_X3_keep x0_latest x0_count D s_x1_rows s_x1_columns s_x1_rivers s_x2_count s_x2_reds s_x3_count s_x3_next s_x3_turn s_x3_quarters s_y4_letterOn s_y5_namesOn s_y6_land s_y7_riverOf s_y8_riverPlace s_y9_direction s_y10_home s_y11_length s_y12_letters s_y13_stops = some (o_l, o_c, o_D)) : ME l g yX3_keep wsX3_keep 3 68 14 846 [.ref a0, .ref ea0] (((a0, .inr (3, [.ref a1, .int x0_latest, .int x0_count])) :: (a1, .inl (g.2.1 2, 8, .inr (.inr (.inr (.inr (hF as D)))))) :: shv g ea0 ea1 ea2 ea3 ea4 ea5 ea6 ea7 ea8 ea9 ea10 ea11 ea12 ea13 s_x1_rows s_x1_columns s_x1_rivers s_x2_count s_x2_reds s_x3_count s_x3_next s_x3_turn s_x3_quarters s_y4_letterOn s_y5_namesOn s_y6_land s_y7_riverOf s_y8_riverPlace s_y9_direction s_y10_home s_y11_length s_y12_letters s_y13_stops) ++ hW g as D 8) sz none (fun w1 => ∃ as2 : Nat → Nat → Nat, w1 = ((a0, .inr (3, [.ref a1, .int o_l, .int o_c])) :: (a1, .inl (g.2.1 2, 8, .inr (.inr (.inr (.inr (hF as2 o_D)))))) :: shv g ea0 ea1 ea2 ea3 ea4 ea5 ea6 ea7 ea8 ea9 ea10 ea11 ea12 ea13 s_x1_rows s_x1_columns s_x1_rivers s_x2_count s_x2_reds s_x3_count s_x3_next s_x3_turn s_x3_quarters s_y4_letterOn s_y5_namesOn s_y6_land s_y7_riverOf s_y8_riverPlace s_y9_direction s_y10_home s_y11_length s_y12_letters s_y13_stops) ++ hW g as2 o_D 8) := by
  refine ME.start (cc := cX3_keep) (maxL := 3) (ret := none) rfl rfl (nle rfl) ?_
  intro p e s m args below meth c A ls Q hQ hexec hb hr hts hown hlocks hml hnm hA hP hD hG hS hl
  unfold f_X3_keep at hf
  have hWX3 : ∀ w ∈ wsX30, w.before args s = true := fun w h => hts w (List.mem_cons_of_mem _ (List.mem_append_left _ (List.mem_append_left _ (List.mem_append_left _ (List.mem_append_left _ (List.mem_append_right _ h))))))
  have hWX6 : ∀ w ∈ wsX60, w.before args s = true := fun w h => hts w (List.mem_cons_of_mem _ (List.mem_append_left _ (List.mem_append_left _ (List.mem_append_left _ (List.mem_append_right _ h)))))
  have hWX1 : ∀ w ∈ wsX10, w.before args s = true := fun w h => hts w (List.mem_cons_of_mem _ (List.mem_append_left _ (List.mem_append_left _ (List.mem_append_right _ h))))
  have hWX2 : ∀ w ∈ wsX20, w.before args s = true := fun w h => hts w (List.mem_cons_of_mem _ (List.mem_append_left _ (List.mem_append_right _ h)))
  have hWX4 : ∀ w ∈ wsX40, w.before args s = true := fun w h => hts w (List.mem_cons_of_mem _ (List.mem_append_right _ h))
  obtain ⟨lt, elt, hf⟩ := bv_e hf
  refine lv_aload_n (pc := 0) hexec hb dX3_keep_0 rfl (lv_at hl 0 rfl) ?_
  refine lv_aload_n (pc := 1) hexec hb dX3_keep_1 rfl (lv_at hl 0 rfl) ?_
  refine kg_get (pc := 2) hexec hb (own := RX3) hWX3 hown hG hP 0 rfl rfl 1 (nle rfl) (hts _ (List.mem_cons_of_mem _ (List.mem_append_left _ (List.mem_append_left _ (List.mem_append_left _ (List.mem_append_left _ (List.mem_append_left _ (List.mem_append_left _ (List.mem_of_getElem? (i := 0) rfl))))))))) rfl rfl dX3_keep_2 ?_
  refine lv_iconst (pc := 5) hexec hb dX3_keep_5 ki_1 ?_
  refine lv_iadd (pc := 6) hexec hb dX3_keep_6 ?_
  refine lv_bipush (pc := 7) hexec hb dX3_keep_7 kb_8 ?_
  refine lv_irem (pc := 9) hexec hb dX3_keep_9 (by decide) ?_
  refine kn_i elt ?_
  refine kp_put (pc := 10) hexec hb (own := RX3) hWX3 tyX3 tyX3_ok nmX3 hown hG hP hD hS 0 rfl rfl 1 (nle rfl) (hts _ (List.mem_cons_of_mem _ (List.mem_append_left _ (List.mem_append_left _ (List.mem_append_left _ (List.mem_append_left _ (List.mem_append_left _ (List.mem_append_left _ (List.mem_of_getElem? (i := 0) rfl))))))))) rfl rfl rfl rfl (nle rfl) dX3_keep_10 (fun H locs (hP : va_P g.1 vwCl (((a0, .inr (3, [.ref a1, .int lt, .int x0_count])) :: (a1, .inl (g.2.1 2, 8, .inr (.inr (.inr (.inr (hF as D)))))) :: shv g ea0 ea1 ea2 ea3 ea4 ea5 ea6 ea7 ea8 ea9 ea10 ea11 ea12 ea13 s_x1_rows s_x1_columns s_x1_rivers s_x2_count s_x2_reds s_x3_count s_x3_next s_x3_turn s_x3_quarters s_y4_letterOn s_y5_namesOn s_y6_land s_y7_riverOf s_y8_riverPlace s_y9_direction s_y10_home s_y11_length s_y12_letters s_y13_stops) ++ hW g as D 8) H) (hD : va_D A (((a0, .inr (3, [.ref a1, .int lt, .int x0_count])) :: (a1, .inl (g.2.1 2, 8, .inr (.inr (.inr (.inr (hF as D)))))) :: shv g ea0 ea1 ea2 ea3 ea4 ea5 ea6 ea7 ea8 ea9 ea10 ea11 ea12 ea13 s_x1_rows s_x1_columns s_x1_rivers s_x2_count s_x2_reds s_x3_count s_x3_next s_x3_turn s_x3_quarters s_y4_letterOn s_y5_namesOn s_y6_land s_y7_riverOf s_y8_riverPlace s_y9_direction s_y10_home s_y11_length s_y12_letters s_y13_stops) ++ hW g as D 8)) hS => ?_)
  refine lv_aload_n (pc := 13) hexec hb dX3_keep_13 rfl (lv_at hl 0 rfl) ?_
  refine kg_get (pc := 14) hexec hb (own := RX3) hWX3 hown hG hP 0 rfl rfl 0 (nle rfl) (hts _ (List.mem_cons_of_mem _ (List.mem_append_left _ (List.mem_append_left _ (List.mem_append_left _ (List.mem_append_left _ (List.mem_append_left _ (List.mem_append_left _ (List.mem_of_getElem? (i := 1) rfl))))))))) rfl rfl dX3_keep_14 ?_
  refine lv_aload_n (pc := 17) hexec hb dX3_keep_17 rfl (lv_at hl 0 rfl) ?_
  refine kg_get (pc := 18) hexec hb (own := RX3) hWX3 hown hG hP 0 rfl rfl 1 (nle rfl) (hts _ (List.mem_cons_of_mem _ (List.mem_append_left _ (List.mem_append_left _ (List.mem_append_left _ (List.mem_append_left _ (List.mem_append_left _ (List.mem_append_left _ (List.mem_of_getElem? (i := 0) rfl))))))))) rfl rfl dX3_keep_18 ?_
  obtain ⟨hin, hf⟩ := ar_e hf
  have hi8 : lt.toNatClampNeg < 8 := Nat.not_le.mp fun z => hin (Or.inr z)
  refine va_aldq (pc := 21) hexec hb hG.1.1 hP 1 2 rfl rfl hin dX3_keep_21 ?_
  obtain ⟨d, ed, hf⟩ := bv_e hf
  obtain ⟨o_x1_rows, o_x1_columns, o_x1_rivers, o_x2_count, o_x2_reds, o_x3_count, o_x3_next, o_x3_turn, o_x3_quarters, o_y4_letterOn, o_y5_namesOn, o_y6_land, o_y7_riverOf, o_y8_riverPlace, o_y9_direction, o_y10_home, o_y11_length, o_y12_letters, o_y13_stops, hc, hf⟩ := bd19_e hf
  obtain ⟨ct, ect, hf⟩ := bv_e hf
  obtain ⟨pre, post, e1, e2⟩ := hW_at (g := g) (as := as) (D := D) 8 hi8
  obtain ⟨h1, h2, h3⟩ : lt = o_l ∧ ct = o_c ∧ updD D lt.toNatClampNeg (o_x1_rows, o_x1_columns, o_x1_rivers, o_x2_count, o_x2_reds, o_x3_count, o_x3_next, o_x3_turn, o_x3_quarters, o_y4_letterOn, o_y5_namesOn, o_y6_land, o_y7_riverOf, o_y8_riverPlace, o_y9_direction, o_y10_home, o_y11_length, o_y12_letters, o_y13_stops) = o_D := by cases hf; exact ⟨rfl, rfl, rfl⟩
  subst h1
  subst h2
  subst h3
  have hend : ∀ (f : Nat → Nat) (d : ShT) (P8 : Nat → Option Nat) (H : Heap) (locs : List Loc) (ls : Array Slot) (k1 k2 : Nat), f_X6_copyFrom (d.1) (d.2.1) (d.2.2.1) (d.2.2.2.1) (d.2.2.2.2.1) (d.2.2.2.2.2.1) (d.2.2.2.2.2.2.1) (d.2.2.2.2.2.2.2.1) (d.2.2.2.2.2.2.2.2.1) (d.2.2.2.2.2.2.2.2.2.1) (d.2.2.2.2.2.2.2.2.2.2.1) (d.2.2.2.2.2.2.2.2.2.2.2.1) (d.2.2.2.2.2.2.2.2.2.2.2.2.1) (d.2.2.2.2.2.2.2.2.2.2.2.2.2.1) (d.2.2.2.2.2.2.2.2.2.2.2.2.2.2.1) (d.2.2.2.2.2.2.2.2.2.2.2.2.2.2.2.1) (d.2.2.2.2.2.2.2.2.2.2.2.2.2.2.2.2.1) (d.2.2.2.2.2.2.2.2.2.2.2.2.2.2.2.2.2.1) (d.2.2.2.2.2.2.2.2.2.2.2.2.2.2.2.2.2.2) s_x1_rows s_x1_columns s_x1_rivers s_x2_count s_x2_reds s_x3_count s_x3_next s_x3_turn s_x3_quarters s_y4_letterOn s_y5_namesOn s_y6_land s_y7_riverOf s_y8_riverPlace s_y9_direction s_y10_home s_y11_length s_y12_letters s_y13_stops = some (o_x1_rows, o_x1_columns, o_x1_rivers, o_x2_count, o_x2_reds, o_x3_count, o_x3_next, o_x3_turn, o_x3_quarters, o_y4_letterOn, o_y5_namesOn, o_y6_land, o_y7_riverOf, o_y8_riverPlace, o_y9_direction, o_y10_home, o_y11_length, o_y12_letters, o_y13_stops) → P8 = hF (updA as lt.toNatClampNeg f) (updD D lt.toNatClampNeg (o_x1_rows, o_x1_columns, o_x1_rivers, o_x2_count, o_x2_reds, o_x3_count, o_x3_next, o_x3_turn, o_x3_quarters, o_y4_letterOn, o_y5_namesOn, o_y6_land, o_y7_riverOf, o_y8_riverPlace, o_y9_direction, o_y10_home, o_y11_length, o_y12_letters, o_y13_stops)) → k1 ≤ 14 → k2 ≤ 846 → va_P g.1 vwCl ((((a0, .inr (3, [.ref a1, .int lt, .int x0_count])) :: (a1, .inl (g.2.1 2, 8, .inr (.inr (.inr (.inr P8))))) :: shv g ea0 ea1 ea2 ea3 ea4 ea5 ea6 ea7 ea8 ea9 ea10 ea11 ea12 ea13 s_x1_rows s_x1_columns s_x1_rivers s_x2_count s_x2_reds s_x3_count s_x3_next s_x3_turn s_x3_quarters s_y4_letterOn s_y5_namesOn s_y6_land s_y7_riverOf s_y8_riverPlace s_y9_direction s_y10_home s_y11_length s_y12_letters s_y13_stops) ++ wSh g f d) ++ (pre ++ post)) H → va_D A ((((a0, .inr (3, [.ref a1, .int lt, .int x0_count])) :: (a1, .inl (g.2.1 2, 8, .inr (.inr (.inr (.inr P8))))) :: shv g ea0 ea1 ea2 ea3 ea4 ea5 ea6 ea7 ea8 ea9 ea10 ea11 ea12 ea13 s_x1_rows s_x1_columns s_x1_rivers s_x2_count s_x2_reds s_x3_count s_x3_next s_x3_turn s_x3_quarters s_y4_letterOn s_y5_namesOn s_y6_land s_y7_riverOf s_y8_riverPlace s_y9_direction s_y10_home s_y11_length s_y12_letters s_y13_stops) ++ wSh g f d) ++ (pre ++ post)) → va_S A s.heap H locs → lv_has ls 3 [(2, .ref (f 0)), (0, .ref a0), (1, .ref ea0)] → W p l e (RE 3 68 14 846) s m args below meth c H locs k1 k2 Q (F0 m 45 ls []) := by
    intro f d P8 H locs ls k1 k2 hc eP hk1 hk2 hP hD hS hl
    refine lv_aload_n (pc := 45) hexec hb dX3_keep_45 rfl (lv_at hl 0 rfl) ?_
    refine lv_aload_n (pc := 46) hexec hb dX3_keep_46 rfl (lv_at hl 2 rfl) ?_
    refine kVt (pc := 47) (S := ⟨hexec, hb, hml, hown, hts⟩) hP hD hG hA hS [16, 17, 18, 19, 20, 21, 22, 23, 24, 25, 26, 27, 28, 29, 2, 3, 4, 5, 6, 7, 8, 9, 10, 11, 12, 13, 14, 15] [0, 1] [0, 1, 16, 17, 18, 19, 20, 21, 22, 23, 24, 25, 26, 27, 28, 29, 2, 3, 4, 5, 6, 7, 8, 9, 10, 11, 12, 13, 14, 15] (X2 := (((a0, .inr (3, [.ref a1, .int lt, .int x0_count])) :: (a1, .inl (g.2.1 2, 8, .inr (.inr (.inr (.inr P8))))) :: shv g ea0 ea1 ea2 ea3 ea4 ea5 ea6 ea7 ea8 ea9 ea10 ea11 ea12 ea13 s_x1_rows s_x1_columns s_x1_rivers s_x2_count s_x2_reds s_x3_count s_x3_next s_x3_turn s_x3_quarters s_y4_letterOn s_y5_namesOn s_y6_land s_y7_riverOf s_y8_riverPlace s_y9_direction s_y10_home s_y11_length s_y12_letters s_y13_stops) ++ wSh g f (o_x1_rows, o_x1_columns, o_x1_rivers, o_x2_count, o_x2_reds, o_x3_count, o_x3_next, o_x3_turn, o_x3_quarters, o_y4_letterOn, o_y5_namesOn, o_y6_land, o_y7_riverOf, o_y8_riverPlace, o_y9_direction, o_y10_home, o_y11_length, o_y12_letters, o_y13_stops) : va_W)) rfl rfl rfl rfl rfl rfl (by decide) (c_X6_copyFrom l g (f 0) (f 1) (f 2) (f 3) (f 4) (f 5) (f 6) (f 7) (f 8) (f 9) (f 10) (f 11) (f 12) (f 13) ea0 ea1 ea2 ea3 ea4 ea5 ea6 ea7 ea8 ea9 ea10 ea11 ea12 ea13 _ (d.1) (d.2.1) (d.2.2.1) (d.2.2.2.1) (d.2.2.2.2.1) (d.2.2.2.2.2.1) (d.2.2.2.2.2.2.1) (d.2.2.2.2.2.2.2.1) (d.2.2.2.2.2.2.2.2.1) (d.2.2.2.2.2.2.2.2.2.1) (d.2.2.2.2.2.2.2.2.2.2.1) (d.2.2.2.2.2.2.2.2.2.2.2.1) (d.2.2.2.2.2.2.2.2.2.2.2.2.1) (d.2.2.2.2.2.2.2.2.2.2.2.2.2.1) (d.2.2.2.2.2.2.2.2.2.2.2.2.2.2.1) (d.2.2.2.2.2.2.2.2.2.2.2.2.2.2.2.1) (d.2.2.2.2.2.2.2.2.2.2.2.2.2.2.2.2.1) (d.2.2.2.2.2.2.2.2.2.2.2.2.2.2.2.2.2.1) (d.2.2.2.2.2.2.2.2.2.2.2.2.2.2.2.2.2.2) s_x1_rows s_x1_columns s_x1_rivers s_x2_count s_x2_reds s_x3_count s_x3_next s_x3_turn s_x3_quarters s_y4_letterOn s_y5_namesOn s_y6_land s_y7_riverOf s_y8_riverPlace s_y9_direction s_y10_home s_y11_length s_y12_letters s_y13_stops o_x1_rows o_x1_columns o_x1_rivers o_x2_count o_x2_reds o_x3_count o_x3_next o_x3_turn o_x3_quarters o_y4_letterOn o_y5_namesOn o_y6_land o_y7_riverOf o_y8_riverPlace o_y9_direction o_y10_home o_y11_length o_y12_letters o_y13_stops hc) gX3_keep_X6_copyFrom rfl hv_X6_copyFrom ⟨nle rfl, nle rfl⟩ 6 0 rfl rfl rfl (rest := []) rfl rfl hl.1 (nle rfl) dX3_keep_47 ⟨hk1, hk2⟩ (fun H locs hP hD hS => ?_)
    refine lv_aload_n (pc := 50) hexec hb dX3_keep_50 rfl (lv_at hl 1 rfl) ?_
    refine lv_aload_n (pc := 51) hexec hb dX3_keep_51 rfl (lv_at hl 1 rfl) ?_
    refine kg_get (pc := 52) hexec hb (own := RX3) hWX3 hown hG hP 0 rfl rfl 2 (nle rfl) (hts _ (List.mem_cons_of_mem _ (List.mem_append_left _ (List.mem_append_left _ (List.mem_append_left _ (List.mem_append_left _ (List.mem_append_left _ (List.mem_append_left _ (List.mem_of_getElem? (i := 5) rfl))))))))) rfl rfl dX3_keep_52 ?_
    refine lv_iconst (pc := 55) hexec hb dX3_keep_55 ki_1 ?_
    refine lv_iadd (pc := 56) hexec hb dX3_keep_56 ?_
    refine lv_bipush (pc := 57) hexec hb dX3_keep_57 kb_8 ?_
    refine va_mmin (pc := 59) hexec hb (hml.trans hl.1.symm) (own := RX3) hown (hts _ (List.mem_cons_of_mem _ (List.mem_append_left _ (List.mem_append_left _ (List.mem_append_left _ (List.mem_append_left _ (List.mem_append_left _ (List.mem_append_left _ (List.mem_of_getElem? (i := 6) rfl))))))))) (hts _ (List.mem_cons_of_mem _ (List.mem_append_left _ (List.mem_append_left _ (List.mem_append_left _ (List.mem_append_left _ (List.mem_append_left _ (List.mem_append_left _ (List.mem_of_getElem? (i := 7) rfl))))))))) (hts _ (List.mem_cons_of_mem _ (List.mem_append_left _ (List.mem_append_left _ (List.mem_append_left _ (List.mem_append_left _ (List.mem_append_left _ (List.mem_append_left _ (List.mem_of_getElem? (i := 8) rfl))))))))) (hts _ (List.mem_cons_of_mem _ (List.mem_append_left _ (List.mem_append_left _ (List.mem_append_left _ (List.mem_append_left _ (List.mem_append_left _ (List.mem_append_left _ (List.mem_of_getElem? (i := 9) rfl))))))))) (nle rfl) (nle rfl) hk1 hk2 dX3_keep_59 ?_
    refine kn_i ect ?_
    refine kp_put (pc := 62) hexec hb (own := RX3) hWX3 tyX3 tyX3_ok nmX3 hown hG hP hD hS 0 rfl rfl 2 (nle rfl) (hts _ (List.mem_cons_of_mem _ (List.mem_append_left _ (List.mem_append_left _ (List.mem_append_left _ (List.mem_append_left _ (List.mem_append_left _ (List.mem_append_left _ (List.mem_of_getElem? (i := 5) rfl))))))))) rfl rfl rfl rfl (nle rfl) dX3_keep_62 (fun H locs (hP : va_P g.1 vwCl ((((a0, .inr (3, [.ref a1, .int lt, .int ct])) :: (a1, .inl (g.2.1 2, 8, .inr (.inr (.inr (.inr P8))))) :: shv g ea0 ea1 ea2 ea3 ea4 ea5 ea6 ea7 ea8 ea9 ea10 ea11 ea12 ea13 s_x1_rows s_x1_columns s_x1_rivers s_x2_count s_x2_reds s_x3_count s_x3_next s_x3_turn s_x3_quarters s_y4_letterOn s_y5_namesOn s_y6_land s_y7_riverOf s_y8_riverPlace s_y9_direction s_y10_home s_y11_length s_y12_letters s_y13_stops) ++ wSh g f (o_x1_rows, o_x1_columns, o_x1_rivers, o_x2_count, o_x2_reds, o_x3_count, o_x3_next, o_x3_turn, o_x3_quarters, o_y4_letterOn, o_y5_namesOn, o_y6_land, o_y7_riverOf, o_y8_riverPlace, o_y9_direction, o_y10_home, o_y11_length, o_y12_letters, o_y13_stops)) ++ (pre ++ post)) H) (hD : va_D A ((((a0, .inr (3, [.ref a1, .int lt, .int ct])) :: (a1, .inl (g.2.1 2, 8, .inr (.inr (.inr (.inr P8))))) :: shv g ea0 ea1 ea2 ea3 ea4 ea5 ea6 ea7 ea8 ea9 ea10 ea11 ea12 ea13 s_x1_rows s_x1_columns s_x1_rivers s_x2_count s_x2_reds s_x3_count s_x3_next s_x3_turn s_x3_quarters s_y4_letterOn s_y5_namesOn s_y6_land s_y7_riverOf s_y8_riverPlace s_y9_direction s_y10_home s_y11_length s_y12_letters s_y13_stops) ++ wSh g f (o_x1_rows, o_x1_columns, o_x1_rivers, o_x2_count, o_x2_reds, o_x3_count, o_x3_next, o_x3_turn, o_x3_quarters, o_y4_letterOn, o_y5_namesOn, o_y6_land, o_y7_riverOf, o_y8_riverPlace, o_y9_direction, o_y10_home, o_y11_length, o_y12_letters, o_y13_stops)) ++ (pre ++ post))) hS => ?_)
    have hP := perP (pm_in _ _ _ _).symm hP
    have hD := perD (pm_in _ _ _ _).symm hD
    rw [← e2 f (o_x1_rows, o_x1_columns, o_x1_rivers, o_x2_count, o_x2_reds, o_x3_count, o_x3_next, o_x3_turn, o_x3_quarters, o_y4_letterOn, o_y5_namesOn, o_y6_land, o_y7_riverOf, o_y8_riverPlace, o_y9_direction, o_y10_home, o_y11_length, o_y12_letters, o_y13_stops), eP] at hP hD
    exact kE_v hQ ⟨hk1, hk2⟩ hexec hb hr ⟨updA as lt.toNatClampNeg f, rfl⟩ hP hD hS dX3_keep_65 hlocks
  rw [e1] at hP hD
  subst ed
  cases hDl : D lt.toNatClampNeg with
  | some d =>
    rw [hDl] at hP hD hc
    rw [hF_at hDl]
    refine kn_v (y := .ref (as lt.toNatClampNeg 0)) rfl ?_
    refine lv_astore_n (pc := 22) hexec hb dX3_keep_22 rfl hl (nle rfl) rfl (fun ls (hl : lv_has ls 3 [(2, .ref (as lt.toNatClampNeg 0)), (0, .ref a0), (1, .ref ea0)]) => ?_)
    refine lv_aload_n (pc := 23) hexec hb dX3_keep_23 rfl (lv_at hl 0 rfl) ?_
    refine lv_ifnonnull (pc := 24) hexec hb dX3_keep_24 (tgt := 45) rfl ?_
    exact hend (as lt.toNatClampNeg) d (hF as D) _ _ _ 0 0 hc (by rw [updA_self]; exact (hF_same hDl).symm) (nle rfl) (nle rfl) (perP (pm_in _ _ _ _) hP) (perD (pm_in _ _ _ _) hD) hS hl
  | none =>
    rw [hDl] at hP hD hc
    rw [hF_no hDl]
    refine kn_v (y := .null) rfl ?_
    refine lv_astore_nN (pc := 22) hexec hb dX3_keep_22 rfl hl (nle rfl) rfl (fun ls (hl : lv_has ls 3 [(2, .null), (0, .ref a0), (1, .ref ea0)]) => ?_)
    refine lv_aload_nN (pc := 23) hexec hb dX3_keep_23 rfl (lv_at hl 0 rfl) ?_
    refine lv_ifnonnullN (pc := 24) hexec hb dX3_keep_24 ?_
    refine va_new (pc := 27) hexec hb (own := RX3) hts (fun w h => (List.mem_cons_of_mem _ (List.mem_append_left _ (List.mem_append_left _ (List.mem_append_left _ (List.mem_append_right _ h)))))) tyX6 tyX6_ok hown (hts _ (List.mem_cons_of_mem _ (List.mem_append_left _ (List.mem_append_left _ (List.mem_append_left _ (List.mem_append_left _ (List.mem_append_left _ (List.mem_append_left _ (List.mem_of_getElem? (i := 2) rfl))))))))) (hts _ (List.mem_cons_of_mem _ (List.mem_append_left _ (List.mem_append_left _ (List.mem_append_left _ (List.mem_append_left _ (List.mem_append_left _ (List.mem_append_left _ (List.mem_of_getElem? (i := 3) rfl))))))))) (hts _ (List.mem_cons_of_mem _ (List.mem_append_left _ (List.mem_append_left _ (List.mem_append_left _ (List.mem_append_left _ (List.mem_append_left _ (List.mem_append_left _ (List.mem_of_getElem? (i := 4) rfl))))))))) hG.1.1 hP hD hS hA (ci := 6) rfl dfX6 (nle rfl) (nle rfl) dX3_keep_27 (fun q H hP hD hS => ?_)
    have hP : va_P g.1 vwCl ((((a0, .inr (3, [.ref a1, .int lt, .int x0_count])) :: (a1, .inl (g.2.1 2, 8, .inr (.inr (.inr (.inr (hF as D)))))) :: shv g ea0 ea1 ea2 ea3 ea4 ea5 ea6 ea7 ea8 ea9 ea10 ea11 ea12 ea13 s_x1_rows s_x1_columns s_x1_rivers s_x2_count s_x2_reds s_x3_count s_x3_next s_x3_turn s_x3_quarters s_y4_letterOn s_y5_namesOn s_y6_land s_y7_riverOf s_y8_riverPlace s_y9_direction s_y10_home s_y11_length s_y12_letters s_y13_stops) ++ [(q, .inr (6, [.null, .null, .null, .null, .null]))]) ++ (pre ++ post)) H := perP (pm_new _ _ _) hP
    have hD : va_D A ((((a0, .inr (3, [.ref a1, .int lt, .int x0_count])) :: (a1, .inl (g.2.1 2, 8, .inr (.inr (.inr (.inr (hF as D)))))) :: shv g ea0 ea1 ea2 ea3 ea4 ea5 ea6 ea7 ea8 ea9 ea10 ea11 ea12 ea13 s_x1_rows s_x1_columns s_x1_rivers s_x2_count s_x2_reds s_x3_count s_x3_next s_x3_turn s_x3_quarters s_y4_letterOn s_y5_namesOn s_y6_land s_y7_riverOf s_y8_riverPlace s_y9_direction s_y10_home s_y11_length s_y12_letters s_y13_stops) ++ [(q, .inr (6, [.null, .null, .null, .null, .null]))]) ++ (pre ++ post)) := perD (pm_new _ _ _) hD
    refine lv_dup (pc := 30) hexec hb dX3_keep_30 rfl ?_
    refine kIq (pc := 31) (S := ⟨hexec, hb, hml, hown, hts⟩) hP hD hG hA hS [16] [0, 1, 2, 3, 4, 5, 6, 7, 8, 9, 10, 11, 12, 13, 14, 15] rfl rfl rfl (by decide) rfl (c_X6_init l g q _) ggX3_keep_X6_init rfl 56 rfl (hts _ (List.mem_cons_of_mem _ (List.mem_append_left _ (List.mem_append_left _ (List.mem_append_left _ (List.mem_append_left _ (List.mem_append_left _ (List.mem_append_left _ (List.mem_of_getElem? (i := 4) rfl))))))))) (hts _ (List.mem_cons_of_mem _ (List.mem_append_left _ (List.mem_append_left _ (List.mem_append_left _ (List.mem_append_left _ (List.mem_append_left _ (List.mem_append_left _ (List.mem_of_getElem? (i := 10) rfl))))))))) rfl hs_X6_init ⟨nle rfl, nle rfl⟩ (rest := [.ref q]) rfl rfl hl.1 (nle rfl) dX3_keep_31 ⟨nle rfl, nle rfl⟩ (fun w1 H locs hF1 hP hD hS => ?_)
    obtain ⟨z1, z2, z3, z4, z5, z6, z7, z8, z9, z10, z11, z12, z13, rfl⟩ := hF1
    have hP : va_P g.1 vwCl ((((a0, .inr (3, [.ref a1, .int lt, .int x0_count])) :: (a1, .inl (g.2.1 2, 8, .inr (.inr (.inr (.inr (hF as D)))))) :: shv g ea0 ea1 ea2 ea3 ea4 ea5 ea6 ea7 ea8 ea9 ea10 ea11 ea12 ea13 s_x1_rows s_x1_columns s_x1_rivers s_x2_count s_x2_reds s_x3_count s_x3_next s_x3_turn s_x3_quarters s_y4_letterOn s_y5_namesOn s_y6_land s_y7_riverOf s_y8_riverPlace s_y9_direction s_y10_home s_y11_length s_y12_letters s_y13_stops) ++ wSh g (ad14 q z1 z2 z3 z4 z5 z6 z7 z8 z9 z10 z11 z12 z13) shZ) ++ (pre ++ post)) H := hP
    have hD : va_D A ((((a0, .inr (3, [.ref a1, .int lt, .int x0_count])) :: (a1, .inl (g.2.1 2, 8, .inr (.inr (.inr (.inr (hF as D)))))) :: shv g ea0 ea1 ea2 ea3 ea4 ea5 ea6 ea7 ea8 ea9 ea10 ea11 ea12 ea13 s_x1_rows s_x1_columns s_x1_rivers s_x2_count s_x2_reds s_x3_count s_x3_next s_x3_turn s_x3_quarters s_y4_letterOn s_y5_namesOn s_y6_land s_y7_riverOf s_y8_riverPlace s_y9_direction s_y10_home s_y11_length s_y12_letters s_y13_stops) ++ wSh g (ad14 q z1 z2 z3 z4 z5 z6 z7 z8 z9 z10 z11 z12 z13) shZ) ++ (pre ++ post)) := hD
    refine lv_astore_n (pc := 34) hexec hb dX3_keep_34 rfl hl (nle rfl) rfl (fun ls (hl : lv_has ls 3 [(2, .ref q), (0, .ref a0), (1, .ref ea0)]) => ?_)
    refine lv_aload_n (pc := 35) hexec hb dX3_keep_35 rfl (lv_at hl 1 rfl) ?_
    refine kg_get (pc := 36) hexec hb (own := RX3) hWX3 hown hG hP 0 rfl rfl 0 (nle rfl) (hts _ (List.mem_cons_of_mem _ (List.mem_append_left _ (List.mem_append_left _ (List.mem_append_left _ (List.mem_append_left _ (List.mem_append_left _ (List.mem_append_left _ (List.mem_of_getElem? (i := 1) rfl))))))))) rfl rfl dX3_keep_36 ?_
    refine lv_aload_n (pc := 39) hexec hb dX3_keep_39 rfl (lv_at hl 1 rfl) ?_
    refine kg_get (pc := 40) hexec hb (own := RX3) hWX3 hown hG hP 0 rfl rfl 1 (nle rfl) (hts _ (List.mem_cons_of_mem _ (List.mem_append_left _ (List.mem_append_left _ (List.mem_append_left _ (List.mem_append_left _ (List.mem_append_left _ (List.mem_append_left _ (List.mem_of_getElem? (i := 0) rfl))))))))) rfl rfl dX3_keep_40 ?_
    refine lv_aload_n (pc := 43) hexec hb dX3_keep_43 rfl (lv_at hl 0 rfl) ?_
    refine va_astq (pc := 44) hexec hb hG.1.1 hP hD hS 1 2 16 6 rfl rfl rfl rfl hin dX3_keep_44 (fun H locs (hP : va_P g.1 vwCl ((((a0, .inr (3, [.ref a1, .int lt, .int x0_count])) :: (a1, .inl (g.2.1 2, 8, .inr (.inr (.inr (.inr (va_up (hF as D) lt.toNatClampNeg (some q))))))) :: shv g ea0 ea1 ea2 ea3 ea4 ea5 ea6 ea7 ea8 ea9 ea10 ea11 ea12 ea13 s_x1_rows s_x1_columns s_x1_rivers s_x2_count s_x2_reds s_x3_count s_x3_next s_x3_turn s_x3_quarters s_y4_letterOn s_y5_namesOn s_y6_land s_y7_riverOf s_y8_riverPlace s_y9_direction s_y10_home s_y11_length s_y12_letters s_y13_stops) ++ wSh g (ad14 q z1 z2 z3 z4 z5 z6 z7 z8 z9 z10 z11 z12 z13) shZ) ++ (pre ++ post)) H) (hD : va_D A ((((a0, .inr (3, [.ref a1, .int lt, .int x0_count])) :: (a1, .inl (g.2.1 2, 8, .inr (.inr (.inr (.inr (va_up (hF as D) lt.toNatClampNeg (some q))))))) :: shv g ea0 ea1 ea2 ea3 ea4 ea5 ea6 ea7 ea8 ea9 ea10 ea11 ea12 ea13 s_x1_rows s_x1_columns s_x1_rivers s_x2_count s_x2_reds s_x3_count s_x3_next s_x3_turn s_x3_quarters s_y4_letterOn s_y5_namesOn s_y6_land s_y7_riverOf s_y8_riverPlace s_y9_direction s_y10_home s_y11_length s_y12_letters s_y13_stops) ++ wSh g (ad14 q z1 z2 z3 z4 z5 z6 z7 z8 z9 z10 z11 z12 z13) shZ) ++ (pre ++ post))) hS => ?_)
    exact hend (ad14 q z1 z2 z3 z4 z5 z6 z7 z8 z9 z10 z11 z12 z13) shZ (va_up (hF as D) lt.toNatClampNeg (some q)) _ _ _ _ _ hc (hF_up (as := as) (D := D) (i := lt.toNatClampNeg) (a := (ad14 q z1 z2 z3 z4 z5 z6 z7 z8 z9 z10 z11 z12 z13)) (d := (o_x1_rows, o_x1_columns, o_x1_rivers, o_x2_count, o_x2_reds, o_x3_count, o_x3_next, o_x3_turn, o_x3_quarters, o_y4_letterOn, o_y5_namesOn, o_y6_land, o_y7_riverOf, o_y8_riverPlace, o_y9_direction, o_y10_home, o_y11_length, o_y12_letters, o_y13_stops))).symm (nle rfl) (nle rfl) hP hD hS hl
set_option maxRecDepth 20000 in
theorem c_X3_giveBack (l : Launch) (g : GE) (a0 a1 ea0 ea1 ea2 ea3 ea4 ea5 ea6 ea7 ea8 ea9 ea10 ea11 ea12 ea13 : Nat) (sz : Nat) (as : Nat → Nat → Nat) (x0_latest x0_count : Int32) (D : Nat → Option ShT) (s_x1_rows : Int32) (s_x1_columns : Int32) (s_x1_rivers : Int32) (s_x2_count : Int32) (s_x2_reds : Int32) (s_x3_count : Int32) (s_x3_next : Int32) (s_x3_turn : Int32) (s_x3_quarters : Int32) (s_y4_letterOn : Nat → Int32) (s_y5_namesOn : Nat → Int32) (s_y6_land : Nat → Int32) (s_y7_riverOf : Nat → Int32) (s_y8_riverPlace : Nat → Int32) (s_y9_direction : Nat → Int32) (s_y10_home : Nat → Int32) (s_y11_length : Nat → Int32) (s_y12_letters : Nat → Int32) (s_y13_stops : Nat → Int32) (r o_l o_c : Int32) (p_x1_rows : Int32) (p_x1_columns : Int32) (p_x1_rivers : Int32) (p_x2_count : Int32) (p_x2_reds : Int32) (p_x3_count : Int32) (p_x3_next : Int32) (p_x3_turn : Int32) (p_x3_quarters : Int32) (p_y4_letterOn : Nat → Int32) (p_y5_namesOn : Nat → Int32) (p_y6_land : Nat → Int32) (p_y7_riverOf : Nat → Int32) (p_y8_riverPlace : Nat → Int32) (p_y9_direction : Nat → Int32) (p_y10_home : Nat → Int32) (p_y11_length : Nat → Int32) (p_y12_letters : Nat → Int32) (p_y13_stops : Nat → Int32) (hf : f_X3_giveBack x0_latest x0_count D s_x1_rows s_x1_columns s_x1_rivers s_x2_count s_x2_reds s_x3_count s_x3_next s_x3_turn s_x3_quarters s_y4_letterOn s_y5_namesOn s_y6_land s_y7_riverOf s_y8_riverPlace s_y9_direction s_y10_home s_y11_length s_y12_letters s_y13_stops = some (r, o_l, o_c, p_x1_rows, p_x1_columns, p_x1_rivers, p_x2_count, p_x2_reds, p_x3_count, p_x3_next, p_x3_turn, p_x3_quarters, p_y4_letterOn, p_y5_namesOn, p_y6_land, p_y7_riverOf, p_y8_riverPlace, p_y9_direction, p_y10_home, p_y11_length, p_y12_letters, p_y13_stops)) : MI l g yX3_giveBack wsX3_giveBack 3 68 [.ref a0, .ref ea0] (((a0, .inr (3, [.ref a1, .int x0_latest, .int x0_count])) :: (a1, .inl (g.2.1 2, 8, .inr (.inr (.inr (.inr (hF as D)))))) :: shv g ea0 ea1 ea2 ea3 ea4 ea5 ea6 ea7 ea8 ea9 ea10 ea11 ea12 ea13 s_x1_rows s_x1_columns s_x1_rivers s_x2_count s_x2_reds s_x3_count s_x3_next s_x3_turn s_x3_quarters s_y4_letterOn s_y5_namesOn s_y6_land s_y7_riverOf s_y8_riverPlace s_y9_direction s_y10_home s_y11_length s_y12_letters s_y13_stops) ++ hW g as D 8) sz (some (.int r)) (((a0, .inr (3, [.ref a1, .int o_l, .int o_c])) :: (a1, .inl (g.2.1 2, 8, .inr (.inr (.inr (.inr (hF as D)))))) :: shv g ea0 ea1 ea2 ea3 ea4 ea5 ea6 ea7 ea8 ea9 ea10 ea11 ea12 ea13 p_x1_rows p_x1_columns p_x1_rivers p_x2_count p_x2_reds p_x3_count p_x3_next p_x3_turn p_x3_quarters p_y4_letterOn p_y5_namesOn p_y6_land p_y7_riverOf p_y8_riverPlace p_y9_direction p_y10_home p_y11_length p_y12_letters p_y13_stops) ++ hW g as D 8) := by
  refine MI.start (cc := cX3_giveBack) (maxL := 3) (ret := some .boolean) rfl rfl (nle rfl) ?_
  intro p e s m args below meth c A ls Q hQ hexec hb hr hts hown hlocks hml hA hP hD hG hS hl
  unfold f_X3_giveBack at hf
  have hWX3 : ∀ w ∈ wsX30, w.before args s = true := fun w h => hts w (List.mem_cons_of_mem _ (List.mem_append_left _ (List.mem_append_left _ (List.mem_append_left _ (List.mem_append_left _ (List.mem_append_right _ h))))))
  have hWX6 : ∀ w ∈ wsX60, w.before args s = true := fun w h => hts w (List.mem_cons_of_mem _ (List.mem_append_left _ (List.mem_append_left _ (List.mem_append_left _ (List.mem_append_right _ h)))))
  have hWX1 : ∀ w ∈ wsX10, w.before args s = true := fun w h => hts w (List.mem_cons_of_mem _ (List.mem_append_left _ (List.mem_append_left _ (List.mem_append_right _ h))))
  have hWX2 : ∀ w ∈ wsX20, w.before args s = true := fun w h => hts w (List.mem_cons_of_mem _ (List.mem_append_left _ (List.mem_append_right _ h)))
  have hWX4 : ∀ w ∈ wsX40, w.before args s = true := fun w h => hts w (List.mem_cons_of_mem _ (List.mem_append_right _ h))
  obtain ⟨hin, hf⟩ := ar_e hf
  have hi8 : x0_latest.toNatClampNeg < 8 := Nat.not_le.mp fun z => hin (Or.inr z)
  refine lv_aload_n (pc := 0) hexec hb dX3_giveBack_0 rfl (lv_at hl 0 rfl) ?_
  refine kg_get (pc := 1) hexec hb (own := RX3) hWX3 hown hG hP 0 rfl rfl 0 (nle rfl) (hts _ (List.mem_cons_of_mem _ (List.mem_append_left _ (List.mem_append_left _ (List.mem_append_left _ (List.mem_append_left _ (List.mem_append_left _ (List.mem_append_left _ (List.mem_of_getElem? (i := 0) rfl))))))))) rfl rfl dX3_giveBack_1 ?_
  refine lv_aload_n (pc := 4) hexec hb dX3_giveBack_4 rfl (lv_at hl 0 rfl) ?_
  refine kg_get (pc := 5) hexec hb (own := RX3) hWX3 hown hG hP 0 rfl rfl 1 (nle rfl) (hts _ (List.mem_cons_of_mem _ (List.mem_append_left _ (List.mem_append_left _ (List.mem_append_left _ (List.mem_append_left _ (List.mem_append_left _ (List.mem_append_left _ (List.mem_of_getElem? (i := 1) rfl))))))))) rfl rfl dX3_giveBack_5 ?_
  refine va_aldq (pc := 8) hexec hb hG.1.1 hP 1 2 rfl rfl hin dX3_giveBack_8 ?_
  have hno : ∀ (H : Heap) (locs : List Loc) (ls : Array Slot), some (0, x0_latest, x0_count, s_x1_rows, s_x1_columns, s_x1_rivers, s_x2_count, s_x2_reds, s_x3_count, s_x3_next, s_x3_turn, s_x3_quarters, s_y4_letterOn, s_y5_namesOn, s_y6_land, s_y7_riverOf, s_y8_riverPlace, s_y9_direction, s_y10_home, s_y11_length, s_y12_letters, s_y13_stops) = some (r, o_l, o_c, p_x1_rows, p_x1_columns, p_x1_rivers, p_x2_count, p_x2_reds, p_x3_count, p_x3_next, p_x3_turn, p_x3_quarters, p_y4_letterOn, p_y5_namesOn, p_y6_land, p_y7_riverOf, p_y8_riverPlace, p_y9_direction, p_y10_home, p_y11_length, p_y12_letters, p_y13_stops) → va_P g.1 vwCl (((a0, .inr (3, [.ref a1, .int x0_latest, .int x0_count])) :: (a1, .inl (g.2.1 2, 8, .inr (.inr (.inr (.inr (hF as D)))))) :: shv g ea0 ea1 ea2 ea3 ea4 ea5 ea6 ea7 ea8 ea9 ea10 ea11 ea12 ea13 s_x1_rows s_x1_columns s_x1_rivers s_x2_count s_x2_reds s_x3_count s_x3_next s_x3_turn s_x3_quarters s_y4_letterOn s_y5_namesOn s_y6_land s_y7_riverOf s_y8_riverPlace s_y9_direction s_y10_home s_y11_length s_y12_letters s_y13_stops) ++ hW g as D 8) H → va_D A (((a0, .inr (3, [.ref a1, .int x0_latest, .int x0_count])) :: (a1, .inl (g.2.1 2, 8, .inr (.inr (.inr (.inr (hF as D)))))) :: shv g ea0 ea1 ea2 ea3 ea4 ea5 ea6 ea7 ea8 ea9 ea10 ea11 ea12 ea13 s_x1_rows s_x1_columns s_x1_rivers s_x2_count s_x2_reds s_x3_count s_x3_next s_x3_turn s_x3_quarters s_y4_letterOn s_y5_namesOn s_y6_land s_y7_riverOf s_y8_riverPlace s_y9_direction s_y10_home s_y11_length s_y12_letters s_y13_stops) ++ hW g as D 8) → va_S A s.heap H locs → W p l e (RM 3 68) s m args below meth c H locs 0 0 Q (F0 m 21 ls []) := by
    intro H locs ls hf hP hD hS
    simp only [Option.some.injEq, Prod.mk.injEq] at hf; obtain ⟨rfl, rfl, rfl, rfl, rfl, rfl, rfl, rfl, rfl, rfl, rfl, rfl, rfl, rfl, rfl, rfl, rfl, rfl, rfl, rfl, rfl, rfl⟩ := hf
    refine lv_iconst (pc := 21) hexec hb dX3_giveBack_21 ki_0 ?_
    exact ke_z hQ hexec hb hr (.inl rfl) hP hD hS dX3_giveBack_22 hlocks
  cases hDl : D x0_latest.toNatClampNeg with
  | none =>
    rw [hF_no hDl]
    rw [hDl] at hf
    refine kn_v (y := .null) rfl ?_
    refine lv_astore_nN (pc := 9) hexec hb dX3_giveBack_9 rfl hl (nle rfl) rfl (fun ls (hl : lv_has ls 3 [(2, .null), (0, .ref a0), (1, .ref ea0)]) => ?_)
    refine lv_aload_n (pc := 10) hexec hb dX3_giveBack_10 rfl (lv_at hl 1 rfl) ?_
    refine kg_get (pc := 11) hexec hb (own := RX3) hWX3 hown hG hP 0 rfl rfl 2 (nle rfl) (hts _ (List.mem_cons_of_mem _ (List.mem_append_left _ (List.mem_append_left _ (List.mem_append_left _ (List.mem_append_left _ (List.mem_append_left _ (List.mem_append_left _ (List.mem_of_getElem? (i := 2) rfl))))))))) rfl rfl dX3_giveBack_11 ?_
    refine kb_eq (pc := 14) hexec hb dX3_giveBack_14 (tgt := 21) rfl hf (fun hc hf => ?_) (fun hc hf => ?_)
    · exact hno _ _ _ hf hP hD hS
    · refine lv_aload_nN (pc := 17) hexec hb dX3_giveBack_17 rfl (lv_at hl 0 rfl) ?_
      refine lv_ifnonnullN (pc := 18) hexec hb dX3_giveBack_18 ?_
      exact hno _ _ _ hf hP hD hS
  | some d =>
    rw [hF_at hDl]
    rw [hDl] at hf
    refine kn_v (y := .ref (as x0_latest.toNatClampNeg 0)) rfl ?_
    refine lv_astore_n (pc := 9) hexec hb dX3_giveBack_9 rfl hl (nle rfl) rfl (fun ls (hl : lv_has ls 3 [(2, .ref (as x0_latest.toNatClampNeg 0)), (0, .ref a0), (1, .ref ea0)]) => ?_)
    refine lv_aload_n (pc := 10) hexec hb dX3_giveBack_10 rfl (lv_at hl 1 rfl) ?_
    refine kg_get (pc := 11) hexec hb (own := RX3) hWX3 hown hG hP 0 rfl rfl 2 (nle rfl) (hts _ (List.mem_cons_of_mem _ (List.mem_append_left _ (List.mem_append_left _ (List.mem_append_left _ (List.mem_append_left _ (List.mem_append_left _ (List.mem_append_left _ (List.mem_of_getElem? (i := 2) rfl))))))))) rfl rfl dX3_giveBack_11 ?_
    refine kb_eq (pc := 14) hexec hb dX3_giveBack_14 (tgt := 21) rfl hf (fun hc hf => ?_) (fun hc hf => ?_)
    · exact hno _ _ _ hf hP hD hS
    · refine lv_aload_n (pc := 17) hexec hb dX3_giveBack_17 rfl (lv_at hl 0 rfl) ?_
      refine lv_ifnonnull (pc := 18) hexec hb dX3_giveBack_18 (tgt := 23) rfl ?_
      obtain ⟨o_x1_rows, o_x1_columns, o_x1_rivers, o_x2_count, o_x2_reds, o_x3_count, o_x3_next, o_x3_turn, o_x3_quarters, o_y4_letterOn, o_y5_namesOn, o_y6_land, o_y7_riverOf, o_y8_riverPlace, o_y9_direction, o_y10_home, o_y11_length, o_y12_letters, o_y13_stops, hcc, hf⟩ := bd19_e hf
      obtain ⟨lt, elt, hf⟩ := bv_e hf
      obtain ⟨ct, ect, hf⟩ := bv_e hf
      simp only [Option.some.injEq, Prod.mk.injEq] at hf
      obtain ⟨rfl, rfl, rfl, rfl, rfl, rfl, rfl, rfl, rfl, rfl, rfl, rfl, rfl, rfl, rfl, rfl, rfl, rfl, rfl, rfl, rfl, rfl⟩ := hf
      obtain ⟨pre, post, e1, e2⟩ := hW_at (g := g) (as := as) (D := D) 8 hi8
      rw [e1, hDl] at hP hD
      rw [e1, hDl] at hQ
      have hP := perP (pm_in _ _ _ _) hP
      have hD := perD (pm_in _ _ _ _) hD
      refine lv_aload_n (pc := 23) hexec hb dX3_giveBack_23 rfl (lv_at hl 2 rfl) ?_
      refine lv_aload_n (pc := 24) hexec hb dX3_giveBack_24 rfl (lv_at hl 0 rfl) ?_
      refine kVt (pc := 25) (S := ⟨hexec, hb, hml, hown, hts⟩) hP hD hG hA hS [2, 3, 4, 5, 6, 7, 8, 9, 10, 11, 12, 13, 14, 15, 16, 17, 18, 19, 20, 21, 22, 23, 24, 25, 26, 27, 28, 29] [0, 1] [0, 1, 2, 3, 4, 5, 6, 7, 8, 9, 10, 11, 12, 13, 14, 15, 16, 17, 18, 19, 20, 21, 22, 23, 24, 25, 26, 27, 28, 29] (X2 := (((a0, .inr (3, [.ref a1, .int x0_latest, .int x0_count])) :: (a1, .inl (g.2.1 2, 8, .inr (.inr (.inr (.inr (hF as D)))))) :: shv g ea0 ea1 ea2 ea3 ea4 ea5 ea6 ea7 ea8 ea9 ea10 ea11 ea12 ea13 o_x1_rows o_x1_columns o_x1_rivers o_x2_count o_x2_reds o_x3_count o_x3_next o_x3_turn o_x3_quarters o_y4_letterOn o_y5_namesOn o_y6_land o_y7_riverOf o_y8_riverPlace o_y9_direction o_y10_home o_y11_length o_y12_letters o_y13_stops) ++ wSh g (as x0_latest.toNatClampNeg) d : va_W)) rfl rfl rfl rfl rfl rfl (by decide) (c_X6_copyFrom l g ea0 ea1 ea2 ea3 ea4 ea5 ea6 ea7 ea8 ea9 ea10 ea11 ea12 ea13 (as x0_latest.toNatClampNeg 0) (as x0_latest.toNatClampNeg 1) (as x0_latest.toNatClampNeg 2) (as x0_latest.toNatClampNeg 3) (as x0_latest.toNatClampNeg 4) (as x0_latest.toNatClampNeg 5) (as x0_latest.toNatClampNeg 6) (as x0_latest.toNatClampNeg 7) (as x0_latest.toNatClampNeg 8) (as x0_latest.toNatClampNeg 9) (as x0_latest.toNatClampNeg 10) (as x0_latest.toNatClampNeg 11) (as x0_latest.toNatClampNeg 12) (as x0_latest.toNatClampNeg 13) _ s_x1_rows s_x1_columns s_x1_rivers s_x2_count s_x2_reds s_x3_count s_x3_next s_x3_turn s_x3_quarters s_y4_letterOn s_y5_namesOn s_y6_land s_y7_riverOf s_y8_riverPlace s_y9_direction s_y10_home s_y11_length s_y12_letters s_y13_stops (d.1) (d.2.1) (d.2.2.1) (d.2.2.2.1) (d.2.2.2.2.1) (d.2.2.2.2.2.1) (d.2.2.2.2.2.2.1) (d.2.2.2.2.2.2.2.1) (d.2.2.2.2.2.2.2.2.1) (d.2.2.2.2.2.2.2.2.2.1) (d.2.2.2.2.2.2.2.2.2.2.1) (d.2.2.2.2.2.2.2.2.2.2.2.1) (d.2.2.2.2.2.2.2.2.2.2.2.2.1) (d.2.2.2.2.2.2.2.2.2.2.2.2.2.1) (d.2.2.2.2.2.2.2.2.2.2.2.2.2.2.1) (d.2.2.2.2.2.2.2.2.2.2.2.2.2.2.2.1) (d.2.2.2.2.2.2.2.2.2.2.2.2.2.2.2.2.1) (d.2.2.2.2.2.2.2.2.2.2.2.2.2.2.2.2.2.1) (d.2.2.2.2.2.2.2.2.2.2.2.2.2.2.2.2.2.2) o_x1_rows o_x1_columns o_x1_rivers o_x2_count o_x2_reds o_x3_count o_x3_next o_x3_turn o_x3_quarters o_y4_letterOn o_y5_namesOn o_y6_land o_y7_riverOf o_y8_riverPlace o_y9_direction o_y10_home o_y11_length o_y12_letters o_y13_stops hcc) gX3_giveBack_X6_copyFrom rfl hv_X6_copyFrom ⟨nle rfl, nle rfl⟩ 6 0 rfl rfl rfl (rest := []) rfl rfl hl.1 (nle rfl) dX3_giveBack_25 ⟨nle rfl, nle rfl⟩ (fun H locs hP hD hS => ?_)
      refine lv_aload_n (pc := 28) hexec hb dX3_giveBack_28 rfl (lv_at hl 1 rfl) ?_
      refine lv_aload_n (pc := 29) hexec hb dX3_giveBack_29 rfl (lv_at hl 1 rfl) ?_
      refine kg_get (pc := 30) hexec hb (own := RX3) hWX3 hown hG hP 0 rfl rfl 1 (nle rfl) (hts _ (List.mem_cons_of_mem _ (List.mem_append_left _ (List.mem_append_left _ (List.mem_append_left _ (List.mem_append_left _ (List.mem_append_left _ (List.mem_append_left _ (List.mem_of_getElem? (i := 1) rfl))))))))) rfl rfl dX3_giveBack_30 ?_
      refine lv_bipush (pc := 33) hexec hb dX3_giveBack_33 kb_8 ?_
      refine lv_iadd (pc := 35) hexec hb dX3_giveBack_35 ?_
      refine lv_iconst (pc := 36) hexec hb dX3_giveBack_36 ki_1 ?_
      refine lv_isub (pc := 37) hexec hb dX3_giveBack_37 ?_
      refine lv_bipush (pc := 38) hexec hb dX3_giveBack_38 kb_8 ?_
      refine lv_irem (pc := 40) hexec hb dX3_giveBack_40 (by decide) ?_
      refine kn_i elt ?_
      refine kp_put (pc := 41) hexec hb (own := RX3) hWX3 tyX3 tyX3_ok nmX3 hown hG hP hD hS 0 rfl rfl 1 (nle rfl) (hts _ (List.mem_cons_of_mem _ (List.mem_append_left _ (List.mem_append_left _ (List.mem_append_left _ (List.mem_append_left _ (List.mem_append_left _ (List.mem_append_left _ (List.mem_of_getElem? (i := 1) rfl))))))))) rfl rfl rfl rfl (nle rfl) dX3_giveBack_41 (fun H locs (hP : va_P g.1 vwCl ((((a0, .inr (3, [.ref a1, .int lt, .int x0_count])) :: (a1, .inl (g.2.1 2, 8, .inr (.inr (.inr (.inr (hF as D)))))) :: shv g ea0 ea1 ea2 ea3 ea4 ea5 ea6 ea7 ea8 ea9 ea10 ea11 ea12 ea13 o_x1_rows o_x1_columns o_x1_rivers o_x2_count o_x2_reds o_x3_count o_x3_next o_x3_turn o_x3_quarters o_y4_letterOn o_y5_namesOn o_y6_land o_y7_riverOf o_y8_riverPlace o_y9_direction o_y10_home o_y11_length o_y12_letters o_y13_stops) ++ wSh g (as x0_latest.toNatClampNeg) d) ++ (pre ++ post)) H) (hD : va_D A ((((a0, .inr (3, [.ref a1, .int lt, .int x0_count])) :: (a1, .inl (g.2.1 2, 8, .inr (.inr (.inr (.inr (hF as D)))))) :: shv g ea0 ea1 ea2 ea3 ea4 ea5 ea6 ea7 ea8 ea9 ea10 ea11 ea12 ea13 o_x1_rows o_x1_columns o_x1_rivers o_x2_count o_x2_reds o_x3_count o_x3_next o_x3_turn o_x3_quarters o_y4_letterOn o_y5_namesOn o_y6_land o_y7_riverOf o_y8_riverPlace o_y9_direction o_y10_home o_y11_length o_y12_letters o_y13_stops) ++ wSh g (as x0_latest.toNatClampNeg) d) ++ (pre ++ post))) hS => ?_)
      refine lv_aload_n (pc := 44) hexec hb dX3_giveBack_44 rfl (lv_at hl 1 rfl) ?_
      refine lv_dup (pc := 45) hexec hb dX3_giveBack_45 rfl ?_
      refine kg_get (pc := 46) hexec hb (own := RX3) hWX3 hown hG hP 0 rfl rfl 2 (nle rfl) (hts _ (List.mem_cons_of_mem _ (List.mem_append_left _ (List.mem_append_left _ (List.mem_append_left _ (List.mem_append_left _ (List.mem_append_left _ (List.mem_append_left _ (List.mem_of_getElem? (i := 2) rfl))))))))) rfl rfl dX3_giveBack_46 ?_
      refine lv_iconst (pc := 49) hexec hb dX3_giveBack_49 ki_1 ?_
      refine lv_isub (pc := 50) hexec hb dX3_giveBack_50 ?_
      refine kn_i ect ?_
      refine kp_put (pc := 51) hexec hb (own := RX3) hWX3 tyX3 tyX3_ok nmX3 hown hG hP hD hS 0 rfl rfl 2 (nle rfl) (hts _ (List.mem_cons_of_mem _ (List.mem_append_left _ (List.mem_append_left _ (List.mem_append_left _ (List.mem_append_left _ (List.mem_append_left _ (List.mem_append_left _ (List.mem_of_getElem? (i := 2) rfl))))))))) rfl rfl rfl rfl (nle rfl) dX3_giveBack_51 (fun H locs (hP : va_P g.1 vwCl ((((a0, .inr (3, [.ref a1, .int lt, .int ct])) :: (a1, .inl (g.2.1 2, 8, .inr (.inr (.inr (.inr (hF as D)))))) :: shv g ea0 ea1 ea2 ea3 ea4 ea5 ea6 ea7 ea8 ea9 ea10 ea11 ea12 ea13 o_x1_rows o_x1_columns o_x1_rivers o_x2_count o_x2_reds o_x3_count o_x3_next o_x3_turn o_x3_quarters o_y4_letterOn o_y5_namesOn o_y6_land o_y7_riverOf o_y8_riverPlace o_y9_direction o_y10_home o_y11_length o_y12_letters o_y13_stops) ++ wSh g (as x0_latest.toNatClampNeg) d) ++ (pre ++ post)) H) (hD : va_D A ((((a0, .inr (3, [.ref a1, .int lt, .int ct])) :: (a1, .inl (g.2.1 2, 8, .inr (.inr (.inr (.inr (hF as D)))))) :: shv g ea0 ea1 ea2 ea3 ea4 ea5 ea6 ea7 ea8 ea9 ea10 ea11 ea12 ea13 o_x1_rows o_x1_columns o_x1_rivers o_x2_count o_x2_reds o_x3_count o_x3_next o_x3_turn o_x3_quarters o_y4_letterOn o_y5_namesOn o_y6_land o_y7_riverOf o_y8_riverPlace o_y9_direction o_y10_home o_y11_length o_y12_letters o_y13_stops) ++ wSh g (as x0_latest.toNatClampNeg) d) ++ (pre ++ post))) hS => ?_)
      refine lv_iconst (pc := 54) hexec hb dX3_giveBack_54 ki_1 ?_
      exact ke_z hQ hexec hb hr (.inr rfl) (perP (pm_in _ _ _ _).symm hP) (perD (pm_in _ _ _ _).symm hD) hS dX3_giveBack_55 hlocks
