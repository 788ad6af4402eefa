def fl9 : Cond → List Cond → List Cond
  | .and a b, acc => fl9 a (fl9 b acc)
  | c, acc => c :: acc
theorem fl9_ok {args : Array Value} {s : State} (T : Cond) : ∀ acc : List Cond, T.before args s = true → (∀ c ∈ acc, c.before args s = true) → ∀ c ∈ fl9 T acc, c.before args s = true := by
  induction T with
  | and a b iha ihb =>
    intro acc h hk c hc
    rw [Cond.before_and, Bool.and_eq_true] at h
    exact iha _ h.1 (ihb _ h.2 hk) c hc
  | _ =>
    intro acc h hk c hc
    simp only [fl9, List.mem_cons] at hc
    rcases hc with hc | hc
    · rw [hc]; exact h
    · exact hk c hc
def sb9 : List Cond → List Cond → Bool
  | [], [] => true
  | _ :: _, [] => false
  | [], _ :: _ => true
  | a :: as, x :: xs => if a = x then sb9 as xs else sb9 (a :: as) xs
theorem sb9_ok : ∀ (Y X : List Cond), sb9 X Y = true → ∀ c ∈ X, c ∈ Y := by
  intro Y
  induction Y with
  | nil =>
    intro X h c hc
    cases X with
    | nil => exact hc
    | cons a as => exact absurd h (by simp [sb9])
  | cons x xs ih =>
    intro X h c hc
    cases X with
    | nil => cases hc
    | cons a as =>
      by_cases e : a = x
      · rw [sb9, if_pos e] at h
        rcases List.mem_cons.mp hc with h1 | h2
        · rw [h1, e]; exact List.mem_cons_self
        · exact List.mem_cons_of_mem _ (ih as h c h2)
      · rw [sb9, if_neg e] at h
        exact List.mem_cons_of_mem _ (ih _ h c hc)
def kwN (i : Nat) : Nat := [158, 168, 170, 172, 174, 176, 178, 215, 248, 250, 252, 254].getD i 0
def kwM (i : Nat) : Nat := [273, 292, 297, 302, 307, 312, 317, 325, 333, 335, 337, 339].getD i 0
def kwE (i : Nat) : Nat := [156, 354, 186, 356, 206, 358, 360, 362, 324, 339, 364].getD i 0
def kwT (i : Nat) : Term := .string "PortolanChart$Reader" (kwN i)
def kwU (i : Nat) : Term := .string "PortolanChartModel" (kwM i)
def kwF (t : Term) : Term := .field t "java/lang/String" "value" "[B"
def nwS (i : Nat) : List Cond := Cond.exactly (kwT i) "java/lang/String" :: Cond.eq (.field (kwT i) "java/lang/String" "coder" "B") (.int 0) :: Cond.arrayOf (kwF (kwT i)) .byte :: Cond.eq (.length (kwF (kwT i))) (.int (Int32.ofNat (kwLen.getD i 0))) :: (List.range (kwLen.getD i 0)).map (fun j => Cond.eq (.elem (kwF (kwT i)) (.int (Int32.ofNat j))) (.int ((kwByt.getD i []).getD j 0)))
def nwI (t : Term) (f : Nat → Int32) : List Cond := Cond.arrayOf t .int :: Cond.eq (.length t) (.int (Int32.ofNat 4)) :: (List.range 4).map (fun j => Cond.eq (.elem t (.int (Int32.ofNat j))) (.int (f j)))
def tRS : Term := .static "PortolanChart" "ROW_STEP" "[I"
def tCS : Term := .static "PortolanChart" "COLUMN_STEP" "[I"
def nwA : List Cond := [Cond.eq (.static "java/lang/String" "COMPACT_STRINGS" "Z") (.int 1), Cond.isRef (.static "jdk/internal/util/Preconditions" "SIOOBE_FORMATTER" "Ljava/util/function/BiFunction;")]
def nwB : List Cond := [Cond.isRef (.static "java/lang/Throwable" "UNASSIGNED_STACK" "[Ljava/lang/StackTraceElement;"), Cond.isRef (.static "java/lang/Throwable" "SUPPRESSED_SENTINEL" "Ljava/util/List;"), Cond.not (.castable "java/lang/IndexOutOfBoundsException" "java/lang/IllegalArgumentException"), Cond.not (.castable "java/lang/IllegalArgumentException" "java/lang/IndexOutOfBoundsException")]
def nwM (k : Nat) : Cond := Cond.exactly (.string "PortolanChart" (kwE k)) "java/lang/String"
def nwQ (i : Nat) : Cond := Cond.eq (kwT i) (kwU i)
def nwL : List Cond := nwA ++ (nwI tRS rsI ++ (nwI tCS csI ++ (nwB ++ ((List.range 12).flatMap nwS ++ ((List.range 11).map nwM ++ [0, 1, 2, 7, 3, 4, 8, 9, 10, 11, 5, 6].map nwQ)))))
theorem nw_sub : sb9 nwL (fl9 narrow_1 []) = true := by decide +kernel
theorem nw_ok {args : Array Value} {s : State} (h : (Jvm.Cond.and given_1 narrow_1).before args s = true) : ∀ c ∈ nwL, c.before args s = true := by
  rw [Cond.before_and, Bool.and_eq_true] at h
  exact fun c hc => fl9_ok narrow_1 [] h.2 (fun _ h => by cases h) c (sb9_ok _ _ nw_sub c hc)
theorem kw_tab : ∀ i, i < 12 → ∀ j, j < 12 → i = j ∨ kwLen.getD i 0 ≠ kwLen.getD j 0 ∨ ((List.range (kwLen.getD i 0)).any fun p => decide ((kwByt.getD i []).getD p 0 ≠ (kwByt.getD j []).getD p 0)) = true := by decide +kernel
theorem kw_l31 : ∀ i, i < 12 → kwLen.getD i 0 < 2 ^ 31 := by decide +kernel
theorem vO_eq {o n d : String} {v v' : Value} {t : Nat} {A : Nat → Prop} {U : State} {H : Heap} (h : va_OF o n d v t A U H) (h' : va_OF o n d v' t A U H) : v = v' := by
  obtain ⟨cf, k, i, f, cell, h1, h2, h3, h4, h5, h6⟩ := h
  obtain ⟨cf', k', i', f', cell', g1, g2, g3, g4, g5, g6⟩ := h'
  cases h1.symm.trans g1
  cases h3.symm.trans g3
  exact Option.some.inj (h5.symm.trans g5)
theorem vT_eq {ty : FieldType} {t N M : Nat} {f f' : Nat → Value} {A : Nat → Prop} {U : State} {H : Heap} (h : va_T ty t N f A U H) (h' : va_T ty t M f' A U H) : Int32.ofNat N = Int32.ofNat M ∧ ∀ j, j < N → j < M → f j = f' j := by
  obtain ⟨cell, h1, h2, h3, h4, h5, h6, h7⟩ := h
  obtain ⟨cell', g1, g2, g3, g4, g5, g6, g7⟩ := h'
  cases h1.symm.trans g1
  exact ⟨h5.symm.trans g5, fun j hj hk => Option.some.inj ((h6 j hj).symm.trans (g6 j hk))⟩
theorem i31_inj {n m : Nat} (hn : n < 2 ^ 31) (hm : m < 2 ^ 31) (h : Int32.ofNat n = Int32.ofNat m) : n = m := by
  have e := congrArg Int32.toInt h
  rw [Int32.toInt_ofNat_of_lt hn, Int32.toInt_ofNat_of_lt hm] at e
  exact Int.ofNat.inj e
theorem kw_str {args : Array Value} {s : State} {A : Nat → Prop} (hN : ∀ c ∈ nwL, c.before args s = true) (hA : ∀ a : Nat, a < s.heap.size → ¬ A a) : ∃ aK aV : Nat → Nat, vk_S 12 kwLen kwByt aK aV A s s.heap ∧ ∀ i : Nat, i < 12 → (kwT i).eval args s none [] s = some (.ref (aK i)) := by
  have hS : ∀ i, i < 12 → ∀ c ∈ nwS i, c.before args s = true := fun i hi c hc => hN c (List.mem_append_right _ (List.mem_append_right _ (List.mem_append_right _ (List.mem_append_right _ (List.mem_append_left _ (List.mem_flatMap.mpr ⟨i, List.mem_range.mpr hi, hc⟩))))))
  have h0 : ∀ i : Nat, ∃ q : Nat × Nat, i < 12 → (kwT i).eval args s none [] s = some (.ref q.1) ∧ va_O "java/lang/String" q.1 A s s.heap ∧ va_OF "java/lang/String" "coder" "B" (.int 0) q.1 A s s.heap ∧ va_OF "java/lang/String" "value" "[B" (.ref q.2) q.1 A s s.heap ∧ va_T .byte q.2 (kwLen.getD i 0) (fun j => .int ((kwByt.getD i []).getD j 0)) A s s.heap := by
    intro i
    by_cases hi : i < 12
    · obtain ⟨a, c, cA, kA, q1, q2, q3, q4, q5, q6, -⟩ := Cond.exactly_spec (args := args) (first := s) (o := none) (s := s) (idx := []) (t := kwT i) (cls := "java/lang/String") (hS i hi _ List.mem_cons_self)
      have r1 := va_eqt (hS i hi _ (List.mem_cons_of_mem _ List.mem_cons_self))
      have r2 := hS i hi _ (List.mem_cons_of_mem _ (List.mem_cons_of_mem _ List.mem_cons_self))
      have r3 := va_eqt (hS i hi _ (List.mem_cons_of_mem _ (List.mem_cons_of_mem _ (List.mem_cons_of_mem _ List.mem_cons_self))))
      obtain ⟨t, ht, hT⟩ := va_Tof (tm := kwF (kwT i)) (f := fun j => .int ((kwByt.getD i []).getD j 0)) (A := A) (kw_l31 i hi) r2 r3 (fun j hj => va_eqt (hS i hi _ (List.mem_cons_of_mem _ (List.mem_cons_of_mem _ (List.mem_cons_of_mem _ (List.mem_cons_of_mem _ (List.mem_map.mpr ⟨j, List.mem_range.mpr hj, rfl⟩))))))) hA
      exact ⟨(a, t), fun _ => ⟨q1, ⟨cA, q3, q5, by rw [q6]; exact q2, hA a (Array.getElem?_eq_some_iff.mp q3).1⟩, vk_OFof q1 r1 hA, vk_OFof q1 ht hA, hT⟩⟩
    · exact ⟨(0, 0), fun h => absurd h hi⟩
  obtain ⟨ad, had⟩ := Classical.axiomOfChoice h0
  refine ⟨fun i => (ad i).1, fun i => (ad i).2, ⟨fun i hi => (had i hi).2, fun i j hi hj e => ?_⟩, fun i hi => (had i hi).1⟩
  have e1 : (ad i).1 = (ad j).1 := e
  obtain ⟨-, -, -, hv1, ht1⟩ := had i hi
  obtain ⟨-, -, -, hv2, ht2⟩ := had j hj
  rw [← e1] at hv2
  have e2 : (ad i).2 = (ad j).2 := Value.ref.inj (vO_eq hv1 hv2)
  rw [← e2] at ht2
  obtain ⟨z1, z2⟩ := vT_eq ht1 ht2
  have z3 : kwLen.getD i 0 = kwLen.getD j 0 := i31_inj (kw_l31 i hi) (kw_l31 j hj) z1
  rcases kw_tab i hi j hj with h | h | h
  · exact h
  · exact absurd z3 h
  · obtain ⟨p, hp, hq⟩ := List.any_eq_true.mp h
    have hp1 := List.mem_range.mp hp
    exact absurd (Value.int.inj (z2 p hp1 (by omega))) (of_decide_eq_true hq)
theorem nw_arr {args : Array Value} {s : State} {A : Nat → Prop} {t : Term} {f : Nat → Int32} (hI : ∀ c ∈ nwI t f, c.before args s = true) (hA : ∀ a : Nat, a < s.heap.size → ¬ A a) : ∃ r : Nat, t.eval args s none [] s = some (.ref r) ∧ va_T .int r 4 (fun k => .int (f k)) A s s.heap :=
  va_Tof (tm := t) (f := fun k => .int (f k)) (A := A) (by decide) (hI _ List.mem_cons_self) (va_eqt (hI _ (List.mem_cons_of_mem _ List.mem_cons_self))) (fun j hj => va_eqt (hI _ (List.mem_cons_of_mem _ (List.mem_cons_of_mem _ (List.mem_map.mpr ⟨j, List.mem_range.mpr hj, rfl⟩))))) hA
theorem vkS_congr {N : Nat} {len : List Nat} {byt : List (List Int32)} {a v a' v' : Nat → Nat} {A : Nat → Prop} {U : State} {H : Heap} (h : vk_S N len byt a v A U H) (ha : ∀ i, i < N → a' i = a i) (hv : ∀ i, i < N → v' i = v i) : vk_S N len byt a' v' A U H :=
  ⟨fun i hi => by rw [ha i hi, hv i hi]; exact h.1 i hi, fun i j hi hj e => h.2 i j hi hj (by rw [← ha i hi, ← ha j hj]; exact e)⟩
theorem gk_cls {ws : List Cond} {s : State} {args : Array Value} {C : String} {T : u_T} {N n : Nat} (hts : ∀ w ∈ ws, w.before args s = true) (hin : ∀ w ∈ u_ws C T N, w ∈ ws) (hi : (Cond.instantiable C n).before args s = true) : ∃ d : ClassId × (Nat → Nat), u_Kn s C T N d.1 d.2 := by
  obtain ⟨c, i, h⟩ := u_known hts hin hi
  exact ⟨(c, i), h⟩
theorem gg_cls {s : State} {args : Array Value} (hts : ∀ w ∈ lw_tbl, w.before args s = true) : ∃ D : va_G, ∀ (c : Nat) (q : vw_C), vwCl[c]? = some q → u_Kn s q.1 q.2.1 q.2.2 (D.1 c) (D.2 c) := by
  have h1 : ∀ q ∈ vwCl, ∃ d : ClassId × (Nat → Nat), u_Kn s q.1 q.2.1 q.2.2 d.1 d.2 := List.forall_mem_cons.mpr ⟨gk_cls hts inX0 (hts _ (wt_1 (List.mem_of_getElem? (i := 199) rfl))), List.forall_mem_cons.mpr ⟨gk_cls hts inX1 (hts _ (wt_1 (List.mem_of_getElem? (i := 37) rfl))), List.forall_mem_cons.mpr ⟨gk_cls hts inX2 (hts _ (wt_1 (List.mem_of_getElem? (i := 70) rfl))), List.forall_mem_cons.mpr ⟨gk_cls hts inX3 (hts _ (wt_1 (List.mem_of_getElem? (i := 157) rfl))), List.forall_mem_cons.mpr ⟨gk_cls hts inX4 (hts _ (wt_1 (List.mem_of_getElem? (i := 103) rfl))), List.forall_mem_cons.mpr ⟨gk_cls hts inX5 (hts _ (wt_1 (List.mem_of_getElem? (i := 238) rfl))), List.forall_mem_cons.mpr ⟨gk_cls hts inX6 (hts _ (wt_1 (List.mem_of_getElem? (i := 31) rfl))), List.forall_mem_cons.mpr ⟨gk_cls hts inX7 (hts _ (wt_1 (List.mem_of_getElem? (i := 176) rfl))), List.forall_mem_cons.mpr ⟨gk_cls hts inX8 (hts _ (wt_1 (List.mem_of_getElem? (i := 23) rfl))), List.forall_mem_cons.mpr ⟨gk_cls hts inX9 (hts _ (wt_6 (List.mem_of_getElem? (i := 77) rfl))), List.forall_mem_nil _⟩⟩⟩⟩⟩⟩⟩⟩⟩⟩
  have h2 : ∀ c : Nat, ∃ d : ClassId × (Nat → Nat), ∀ q : vw_C, vwCl[c]? = some q → u_Kn s q.1 q.2.1 q.2.2 d.1 d.2 := by
    intro c
    cases h : vwCl[c]? with
    | none => exact ⟨(0, fun _ => 0), fun q hq => by cases hq⟩
    | some q =>
      obtain ⟨d, hd⟩ := h1 q (List.mem_of_getElem? h)
      exact ⟨d, fun q' e => by cases e; exact hd⟩
  obtain ⟨f, hf⟩ := Classical.axiomOfChoice h2
  exact ⟨(fun c => (f c).1, fun c => (f c).2), fun c q h => hf c q h⟩
theorem gk_int {args : Array Value} {s : State} (h : (Cond.arrayClass .int).before args s = true) : ∃ cA : ClassId, ArrOfT s cA .int ∧ va_RA s cA .int := by
  obtain ⟨c, k, comp, h1, h2, h3⟩ := Cond.arrayClass_spec h
  exact ⟨c, fun n z => ⟨(fun k h => by cases h), k, h2, comp, h3⟩, h1⟩
theorem gk_bool {args : Array Value} {s : State} (h : (Cond.arrayClass .boolean).before args s = true) : ∃ cA : ClassId, ArrOfT s cA .boolean ∧ va_RA s cA .boolean := by
  obtain ⟨c, k, comp, h1, h2, h3⟩ := Cond.arrayClass_spec h
  exact ⟨c, fun n z => ⟨(fun k h => by cases h), k, h2, comp, h3⟩, h1⟩
theorem gk_long {args : Array Value} {s : State} (h : (Cond.arrayClass .long).before args s = true) : ∃ cA : ClassId, ArrOfT s cA .long ∧ va_RA s cA .long := by
  obtain ⟨c, k, comp, h1, h2, h3⟩ := Cond.arrayClass_spec h
  exact ⟨c, fun n z => ⟨(fun k h => by cases h), k, h2, comp, h3⟩, h1⟩
theorem gk_obj {args : Array Value} {s : State} {C : String} (h : (Cond.arrayOver (.object C)).before args s = true) : ∃ cA : ClassId, ArrOfT s cA (.object C) ∧ va_RA s cA (.object C) := by
  obtain ⟨comp, c, k, h1, h2, h3, h4, h5⟩ := Cond.arrayOver_spec h
  exact ⟨c, fun n z => ⟨(fun k h => by cases h), k, h3, comp, h4⟩, k, comp, h3, h4, h1, h5⟩
def gnF (r c : Nat) (aK aM aV : Nat → Nat) : Nat → Nat := fun n => if n = 0 then r else if n = 1 then c else if n < 60 then (if n < 22 then aK (n - 10) else aM (n - 22)) else aV (n - 60)
theorem gnF_0 {r c : Nat} {aK aM aV : Nat → Nat} : gnF r c aK aM aV 0 = r := if_pos rfl
theorem gnF_1 {r c : Nat} {aK aM aV : Nat → Nat} : gnF r c aK aM aV 1 = c := by
  unfold gnF
  rw [if_neg (by decide), if_pos rfl]
theorem gnF_K {r c : Nat} {aK aM aV : Nat → Nat} {i : Nat} (h : i < 12) : gnF r c aK aM aV (10 + i) = aK i := by
  unfold gnF
  rw [if_neg (by omega), if_neg (by omega), if_pos (by omega), if_pos (by omega), Nat.add_sub_cancel_left]
theorem gnF_M {r c : Nat} {aK aM aV : Nat → Nat} {i : Nat} (h : i < 11) : gnF r c aK aM aV (10 + (12 + i)) = aM i := by
  have e : 10 + (12 + i) - 22 = i := by omega
  unfold gnF
  rw [if_neg (by omega), if_neg (by omega), if_pos (by omega), if_neg (by omega), e]
theorem gnF_V {r c : Nat} {aK aM aV : Nat → Nat} {i : Nat} : gnF r c aK aM aV (60 + i) = aV i := by
  unfold gnF
  rw [if_neg (by omega), if_neg (by omega), if_neg (by omega), Nat.add_sub_cancel_left]
theorem nest_in : ∀ w ∈ nestW, w ∈ lw_tbl := List.forall_mem_cons.mpr ⟨(wt_1 (List.mem_of_getElem? (i := 43) rfl)), List.forall_mem_cons.mpr ⟨(wt_1 (List.mem_of_getElem? (i := 44) rfl)), List.forall_mem_cons.mpr ⟨(wt_1 (List.mem_of_getElem? (i := 46) rfl)), List.forall_mem_cons.mpr ⟨(wt_1 (List.mem_of_getElem? (i := 47) rfl)), List.forall_mem_cons.mpr ⟨(wt_1 (List.mem_of_getElem? (i := 49) rfl)), List.forall_mem_cons.mpr ⟨(wt_1 (List.mem_of_getElem? (i := 50) rfl)), List.forall_mem_cons.mpr ⟨(wt_1 (List.mem_of_getElem? (i := 76) rfl)), List.forall_mem_cons.mpr ⟨(wt_1 (List.mem_of_getElem? (i := 77) rfl)), List.forall_mem_cons.mpr ⟨(wt_1 (List.mem_of_getElem? (i := 78) rfl)), List.forall_mem_cons.mpr ⟨(wt_1 (List.mem_of_getElem? (i := 79) rfl)), List.forall_mem_cons.mpr ⟨(wt_1 (List.mem_of_getElem? (i := 81) rfl)), List.forall_mem_cons.mpr ⟨(wt_1 (List.mem_of_getElem? (i := 82) rfl)), List.forall_mem_cons.mpr ⟨(wt_1 (List.mem_of_getElem? (i := 83) rfl)), List.forall_mem_cons.mpr ⟨(wt_1 (List.mem_of_getElem? (i := 86) rfl)), List.forall_mem_cons.mpr ⟨(wt_1 (List.mem_of_getElem? (i := 109) rfl)), List.forall_mem_cons.mpr ⟨(wt_1 (List.mem_of_getElem? (i := 111) rfl)), List.forall_mem_cons.mpr ⟨(wt_1 (List.mem_of_getElem? (i := 113) rfl)), List.forall_mem_cons.mpr ⟨(wt_1 (List.mem_of_getElem? (i := 114) rfl)), List.forall_mem_cons.mpr ⟨(wt_1 (List.mem_of_getElem? (i := 115) rfl)), List.forall_mem_cons.mpr ⟨(wt_1 (List.mem_of_getElem? (i := 117) rfl)), List.forall_mem_cons.mpr ⟨(wt_1 (List.mem_of_getElem? (i := 131) rfl)), List.forall_mem_cons.mpr ⟨(wt_1 (List.mem_of_getElem? (i := 132) rfl)), List.forall_mem_cons.mpr ⟨(wt_1 (List.mem_of_getElem? (i := 133) rfl)), List.forall_mem_cons.mpr ⟨(wt_1 (List.mem_of_getElem? (i := 134) rfl)), List.forall_mem_cons.mpr ⟨(wt_1 (List.mem_of_getElem? (i := 136) rfl)), List.forall_mem_cons.mpr ⟨(wt_1 (List.mem_of_getElem? (i := 137) rfl)), List.forall_mem_cons.mpr ⟨(wt_1 (List.mem_of_getElem? (i := 138) rfl)), List.forall_mem_cons.mpr ⟨(wt_1 (List.mem_of_getElem? (i := 140) rfl)), List.forall_mem_cons.mpr ⟨(wt_1 (List.mem_of_getElem? (i := 141) rfl)), List.forall_mem_cons.mpr ⟨(wt_1 (List.mem_of_getElem? (i := 142) rfl)), List.forall_mem_cons.mpr ⟨(wt_1 (List.mem_of_getElem? (i := 167) rfl)), List.forall_mem_cons.mpr ⟨(wt_1 (List.mem_of_getElem? (i := 184) rfl)), List.forall_mem_cons.mpr ⟨(wt_1 (List.mem_of_getElem? (i := 185) rfl)), List.forall_mem_cons.mpr ⟨(wt_1 (List.mem_of_getElem? (i := 187) rfl)), List.forall_mem_cons.mpr ⟨(wt_1 (List.mem_of_getElem? (i := 188) rfl)), List.forall_mem_cons.mpr ⟨(wt_1 (List.mem_of_getElem? (i := 207) rfl)), List.forall_mem_cons.mpr ⟨(wt_1 (List.mem_of_getElem? (i := 209) rfl)), List.forall_mem_cons.mpr ⟨(wt_2 (List.mem_of_getElem? (i := 8) rfl)), List.forall_mem_cons.mpr ⟨(wt_2 (List.mem_of_getElem? (i := 12) rfl)), List.forall_mem_cons.mpr ⟨(wt_2 (List.mem_of_getElem? (i := 21) rfl)), List.forall_mem_cons.mpr ⟨(wt_2 (List.mem_of_getElem? (i := 23) rfl)), List.forall_mem_cons.mpr ⟨(wt_2 (List.mem_of_getElem? (i := 25) rfl)), List.forall_mem_cons.mpr ⟨(wt_3 (List.mem_of_getElem? (i := 47) rfl)), List.forall_mem_cons.mpr ⟨(wt_3 (List.mem_of_getElem? (i := 49) rfl)), List.forall_mem_cons.mpr ⟨(wt_1 (List.mem_of_getElem? (i := 32) rfl)), List.forall_mem_cons.mpr ⟨(wt_1 (List.mem_of_getElem? (i := 38) rfl)), List.forall_mem_cons.mpr ⟨(wt_1 (List.mem_of_getElem? (i := 71) rfl)), List.forall_mem_cons.mpr ⟨(wt_1 (List.mem_of_getElem? (i := 104) rfl)), List.forall_mem_cons.mpr ⟨(wt_1 (List.mem_of_getElem? (i := 158) rfl)), List.forall_mem_cons.mpr ⟨(wt_1 (List.mem_of_getElem? (i := 177) rfl)), List.forall_mem_cons.mpr ⟨(wt_1 (List.mem_of_getElem? (i := 200) rfl)), List.forall_mem_cons.mpr ⟨(wt_1 (List.mem_of_getElem? (i := 239) rfl)), List.forall_mem_cons.mpr ⟨(wt_2 (List.mem_of_getElem? (i := 4) rfl)), List.forall_mem_cons.mpr ⟨(wt_2 (List.mem_of_getElem? (i := 6) rfl)), List.forall_mem_cons.mpr ⟨(wt_4 (List.mem_of_getElem? (i := 18) rfl)), List.forall_mem_cons.mpr ⟨(wt_4 (List.mem_of_getElem? (i := 21) rfl)), List.forall_mem_cons.mpr ⟨(wt_4 (List.mem_of_getElem? (i := 111) rfl)), List.forall_mem_nil _⟩⟩⟩⟩⟩⟩⟩⟩⟩⟩⟩⟩⟩⟩⟩⟩⟩⟩⟩⟩⟩⟩⟩⟩⟩⟩⟩⟩⟩⟩⟩⟩⟩⟩⟩⟩⟩⟩⟩⟩⟩⟩⟩⟩⟩⟩⟩⟩⟩⟩⟩⟩⟩⟩⟩⟩⟩
theorem exW_in : ∀ w ∈ exW, w ∈ lw_tbl := by decide +kernel
theorem gg_str {g : GE} {s : State} {args : Array Value} (hts : ∀ w ∈ lw_tbl, w.before args s = true) (hK : ∀ i : Nat, i < 12 → (kwT i).eval args s none [] s = some (.ref (adK g i))) (hM : ∀ i : Nat, i < 11 → (Term.string "PortolanChart" (kwE i)).eval args s none [] s = some (.ref (adK g (12 + i)))) (hQ : ∀ i : Nat, i < 12 → (Cond.eq (kwT i) (kwU i)).before args s = true) : ∀ q ∈ strW, vk_R q.1 q.2.1 q.2.2.1 (adK g q.2.2.2) s :=
  List.forall_mem_cons.mpr ⟨vk_R.of (hts _ (wt_2 (List.mem_of_getElem? (i := 145) rfl))) (hK 0 (by decide)), List.forall_mem_cons.mpr ⟨vk_R.of (hts _ (wt_2 (List.mem_of_getElem? (i := 217) rfl))) (hK 1 (by decide)), List.forall_mem_cons.mpr ⟨vk_R.of (hts _ (wt_2 (List.mem_of_getElem? (i := 218) rfl))) (hK 2 (by decide)), List.forall_mem_cons.mpr ⟨vk_R.of (hts _ (wt_2 (List.mem_of_getElem? (i := 219) rfl))) (hK 3 (by decide)), List.forall_mem_cons.mpr ⟨vk_R.of (hts _ (wt_2 (List.mem_of_getElem? (i := 220) rfl))) (hK 4 (by decide)), List.forall_mem_cons.mpr ⟨vk_R.of (hts _ (wt_2 (List.mem_of_getElem? (i := 221) rfl))) (hK 5 (by decide)), List.forall_mem_cons.mpr ⟨vk_R.of (hts _ (wt_2 (List.mem_of_getElem? (i := 222) rfl))) (hK 6 (by decide)), List.forall_mem_cons.mpr ⟨vk_R.of (hts _ (wt_3 (List.mem_of_getElem? (i := 61) rfl))) (hK 7 (by decide)), List.forall_mem_cons.mpr ⟨vk_R.of (hts _ (wt_3 (List.mem_of_getElem? (i := 145) rfl))) (hK 8 (by decide)), List.forall_mem_cons.mpr ⟨vk_R.of (hts _ (wt_3 (List.mem_of_getElem? (i := 146) rfl))) (hK 9 (by decide)), List.forall_mem_cons.mpr ⟨vk_R.of (hts _ (wt_3 (List.mem_of_getElem? (i := 147) rfl))) (hK 10 (by decide)), List.forall_mem_cons.mpr ⟨vk_R.of (hts _ (wt_3 (List.mem_of_getElem? (i := 148) rfl))) (hK 11 (by decide)), List.forall_mem_cons.mpr ⟨vk_R.of (hts _ (wt_4 (List.mem_of_getElem? (i := 210) rfl))) (hM 0 (by decide)), List.forall_mem_cons.mpr ⟨vk_R.of (hts _ (wt_5 (List.mem_of_getElem? (i := 17) rfl))) (hM 1 (by decide)), List.forall_mem_cons.mpr ⟨vk_R.of (hts _ (wt_5 (List.mem_of_getElem? (i := 39) rfl))) (hM 2 (by decide)), List.forall_mem_cons.mpr ⟨vk_R.of (hts _ (wt_5 (List.mem_of_getElem? (i := 51) rfl))) (hM 3 (by decide)), List.forall_mem_cons.mpr ⟨vk_R.of (hts _ (wt_5 (List.mem_of_getElem? (i := 62) rfl))) (hM 4 (by decide)), List.forall_mem_cons.mpr ⟨vk_R.of (hts _ (wt_5 (List.mem_of_getElem? (i := 82) rfl))) (hM 5 (by decide)), List.forall_mem_cons.mpr ⟨vk_R.of (hts _ (wt_5 (List.mem_of_getElem? (i := 97) rfl))) (hM 6 (by decide)), List.forall_mem_cons.mpr ⟨vk_R.of (hts _ (wt_5 (List.mem_of_getElem? (i := 131) rfl))) (hM 7 (by decide)), List.forall_mem_cons.mpr ⟨vk_R.of (hts _ (wt_6 (List.mem_of_getElem? (i := 34) rfl))) (hM 8 (by decide)), List.forall_mem_cons.mpr ⟨vk_R.of (hts _ (wt_6 (List.mem_of_getElem? (i := 53) rfl))) (hM 9 (by decide)), List.forall_mem_cons.mpr ⟨vk_R.of (hts _ (wt_6 (List.mem_of_getElem? (i := 68) rfl))) (hM 10 (by decide)), List.forall_mem_cons.mpr ⟨vk_R.of (hts _ (wt_6 (List.mem_of_getElem? (i := 224) rfl))) (va_eqR (hQ 0 (by decide)) (hK 0 (by decide))), List.forall_mem_cons.mpr ⟨vk_R.of (hts _ (wt_7 (List.mem_of_getElem? (i := 14) rfl))) (va_eqR (hQ 1 (by decide)) (hK 1 (by decide))), List.forall_mem_cons.mpr ⟨vk_R.of (hts _ (wt_7 (List.mem_of_getElem? (i := 19) rfl))) (va_eqR (hQ 2 (by decide)) (hK 2 (by decide))), List.forall_mem_cons.mpr ⟨vk_R.of (hts _ (wt_7 (List.mem_of_getElem? (i := 76) rfl))) (va_eqR (hQ 7 (by decide)) (hK 7 (by decide))), List.forall_mem_cons.mpr ⟨vk_R.of (hts _ (wt_7 (List.mem_of_getElem? (i := 81) rfl))) (va_eqR (hQ 3 (by decide)) (hK 3 (by decide))), List.forall_mem_cons.mpr ⟨vk_R.of (hts _ (wt_7 (List.mem_of_getElem? (i := 129) rfl))) (va_eqR (hQ 4 (by decide)) (hK 4 (by decide))), List.forall_mem_cons.mpr ⟨vk_R.of (hts _ (wt_7 (List.mem_of_getElem? (i := 138) rfl))) (va_eqR (hQ 8 (by decide)) (hK 8 (by decide))), List.forall_mem_cons.mpr ⟨vk_R.of (hts _ (wt_7 (List.mem_of_getElem? (i := 139) rfl))) (va_eqR (hQ 9 (by decide)) (hK 9 (by decide))), List.forall_mem_cons.mpr ⟨vk_R.of (hts _ (wt_7 (List.mem_of_getElem? (i := 140) rfl))) (va_eqR (hQ 10 (by decide)) (hK 10 (by decide))), List.forall_mem_cons.mpr ⟨vk_R.of (hts _ (wt_7 (List.mem_of_getElem? (i := 141) rfl))) (va_eqR (hQ 11 (by decide)) (hK 11 (by decide))), List.forall_mem_cons.mpr ⟨vk_R.of (hts _ (wt_7 (List.mem_of_getElem? (i := 158) rfl))) (va_eqR (hQ 5 (by decide)) (hK 5 (by decide))), List.forall_mem_cons.mpr ⟨vk_R.of (hts _ (wt_7 (List.mem_of_getElem? (i := 163) rfl))) (va_eqR (hQ 6 (by decide)) (hK 6 (by decide))), List.forall_mem_nil _⟩⟩⟩⟩⟩⟩⟩⟩⟩⟩⟩⟩⟩⟩⟩⟩⟩⟩⟩⟩⟩⟩⟩⟩⟩⟩⟩⟩⟩⟩⟩⟩⟩⟩⟩
theorem gg_start {s : State} {args : Array Value} (hts : ∀ w ∈ lw_tbl, w.before args s = true) (hgv : (Jvm.Cond.and given_1 narrow_1).before args s = true) : ∃ g : GE, GG g (fun q => s.heap.size ≤ q) s s.heap := by
  have hN := nw_ok hgv
  have hA : ∀ a : Nat, a < s.heap.size → ¬ (fun q => s.heap.size ≤ q) a := fun a h => Nat.not_le.mpr h
  obtain ⟨D, hD⟩ := gg_cls hts
  obtain ⟨c0, k0⟩ := gk_int (hts _ (wt_1 (List.mem_of_getElem? (i := 68) rfl)))
  obtain ⟨c1, k1⟩ := gk_bool (hts _ (wt_1 (List.mem_of_getElem? (i := 67) rfl)))
  obtain ⟨c2, k2⟩ := gk_obj (hts _ (wt_1 (List.mem_of_getElem? (i := 163) rfl)))
  obtain ⟨c3, k3⟩ := gk_long (hts _ (wt_9 (List.mem_of_getElem? (i := 11) rfl)))
  obtain ⟨aK, aV, hS, hK⟩ := kw_str (A := fun q => s.heap.size ≤ q) hN hA
  have hm : ∀ i : Nat, ∃ a : Nat, i < 11 → (Term.string "PortolanChart" (kwE i)).eval args s none [] s = some (.ref a) := by
    intro i
    by_cases hi : i < 11
    · obtain ⟨a, c, cA, kA, q1, q2, q3, q4, q5, q6, -⟩ := Cond.exactly_spec (args := args) (first := s) (o := none) (s := s) (idx := []) (t := Term.string "PortolanChart" (kwE i)) (cls := "java/lang/String") (hN _ (List.mem_append_right _ (List.mem_append_right _ (List.mem_append_right _ (List.mem_append_right _ (List.mem_append_right _ (List.mem_append_left _ (List.mem_map.mpr ⟨i, List.mem_range.mpr hi, rfl⟩))))))))
      exact ⟨a, fun _ => q1⟩
    · exact ⟨0, fun h => absurd h hi⟩
  obtain ⟨aM, hM⟩ := Classical.axiomOfChoice hm
  obtain ⟨r, hr, hR⟩ := nw_arr (A := fun q => s.heap.size ≤ q) (fun c hc => hN c (List.mem_append_right _ (List.mem_append_left _ hc))) hA
  obtain ⟨cc, hcc, hC⟩ := nw_arr (A := fun q => s.heap.size ≤ q) (fun c hc => hN c (List.mem_append_right _ (List.mem_append_right _ (List.mem_append_left _ hc)))) hA
  have hB : ∀ c ∈ nwB, c.before args s = true := fun c hc => hN c (List.mem_append_right _ (List.mem_append_right _ (List.mem_append_right _ (List.mem_append_left _ hc))))
  have hA0 : ∀ c ∈ nwA, c.before args s = true := fun c hc => hN c (List.mem_append_left _ hc)
  have hQ : ∀ i : Nat, i < 12 → (Cond.eq (kwT i) (kwU i)).before args s = true := fun i hi => hN _ (List.mem_append_right _ (List.mem_append_right _ (List.mem_append_right _ (List.mem_append_right _ (List.mem_append_right _ (List.mem_append_right _ (List.mem_map.mpr ⟨i, (by revert i; decide), rfl⟩)))))))
  refine ⟨(D, fun k => match k with | 0 => c0 | 1 => c1 | 2 => c2 | _ => c3, gnF r cc aK aM aV), ⟨⟨hD, ?_⟩, ?_, ?_, ?_, ?_, ?_, ?_⟩, ?_⟩
  · intro k q hk
    match k, hk with
    | 0, hk => cases hk; exact k0
    | 1, hk => cases hk; exact k1
    | 2, hk => cases hk; exact k2
    | 3, hk => cases hk; exact k3
    | _ + 4, hk => cases hk
  · exact fun w hw => va_Nw.of (nestW_tab w hw) (hts w (nest_in w hw))
  · exact gg_str hts (fun i hi => (hK i hi).trans (congrArg (fun a : Nat => some (Value.ref a)) (gnF_K hi).symm)) (fun i hi => (hM i hi).trans (congrArg (fun a : Nat => some (Value.ref a)) (gnF_M hi).symm)) hQ
  · exact fun w hw => va_Nw.of (exW_tab w hw) (hts w (exW_in w hw))
  · exact va_Nc.of (hB _ (List.mem_of_getElem? (i := 3) rfl))
  · exact va_Nc.of (hB _ (List.mem_of_getElem? (i := 2) rfl))
  · exact va_AO.of (hts _ (wt_1 (List.mem_of_getElem? (i := 163) rfl)))
  · have e0 : gnF r cc aK aM aV 0 = r := gnF_0
    have e1 : gnF r cc aK aM aV 1 = cc := gnF_1
    refine ⟨⟨?_, ?_⟩, ⟨?_, ?_⟩, ?_, ?_, ?_, ?_, ?_⟩
    · show va_Z "PortolanChart" "ROW_STEP" "[I" (.ref (gnF r cc aK aM aV 0)) _ _ _
      rw [e0]
      exact va_Zof (hts _ (wt_3 (List.mem_of_getElem? (i := 48) rfl))) (hts _ (wt_1 (List.mem_of_getElem? (i := 1) rfl))) hr hA
    · show va_T .int (gnF r cc aK aM aV 0) 4 fRS _ _ _
      rw [e0]
      exact hR
    · show va_Z "PortolanChart" "COLUMN_STEP" "[I" (.ref (gnF r cc aK aM aV 1)) _ _ _
      rw [e1]
      exact va_Zof (hts _ (wt_3 (List.mem_of_getElem? (i := 50) rfl))) (hts _ (wt_1 (List.mem_of_getElem? (i := 1) rfl))) hcc hA
    · show va_T .int (gnF r cc aK aM aV 1) 4 fCS _ _ _
      rw [e1]
      exact hC
    · exact va_Zof (hts _ (wt_2 (List.mem_of_getElem? (i := 159) rfl))) (hts _ (wt_1 (List.mem_of_getElem? (i := 11) rfl))) (va_eqt (hA0 _ (List.mem_of_getElem? (i := 0) rfl))) hA
    · exact vkS_congr hS (fun i hi => gnF_K hi) (fun i _ => gnF_V)
    · exact va_Zqof (hts _ (wt_2 (List.mem_of_getElem? (i := 175) rfl))) (hts _ (wt_1 (List.mem_of_getElem? (i := 13) rfl))) (hA0 _ (List.mem_of_getElem? (i := 1) rfl)) hA
    · exact vx_Zqof (hts _ (wt_4 (List.mem_of_getElem? (i := 197) rfl))) (hts _ (wt_1 (List.mem_of_getElem? (i := 17) rfl))) (hB _ (List.mem_of_getElem? (i := 0) rfl)) hA
    · exact vx_Zqof (hts _ (wt_4 (List.mem_of_getElem? (i := 199) rfl))) (hts _ (wt_1 (List.mem_of_getElem? (i := 17) rfl))) (hB _ (List.mem_of_getElem? (i := 1) rfl)) hA
