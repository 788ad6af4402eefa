section CALLSL
variable {p : Program} {l : Launch} {e : Env} {R : Room} {s : State} {m : MethodId} {args : Array Value} {below : List Frame} {meth : Method} {c : Code} {H : Heap} {locs : List Loc} {cells slots : Nat} {Q : State → Prop} {pc : Nat} {ls : Array Slot} {rest st0 : List Value} {A0 A1 : Nat → Prop} {H0 : Heap} {a : Array Value} {free : Addr → Prop} {mc ms : Nat} {g : GE}
variable {y : MethodName} {bytes cc : ByteArray} {maxL nL n index fr lo : Nat} {ret : Option FieldType} {ws : List Cond} {Ts : List Cond} {own C host : String} {b : Addr} {As : List Value} {v : Option Value} {w0 wc wr w1 : va_W} {ws' : List Cond}
variable {Y Z X X2 p1 p2 cx cx2 : va_W} {isC isR isB : List Nat} {F : va_W → Prop} {hh : List (Nat × Nat × Nat × Nat)}
theorem me_of_mh {v : Option Value} {w0 w1 : va_W} {sz : Nat} {av : List Value} (h : MH l g y ws fr lo av w0 sz v w1) : ME l g y ws fr lo 1 6 av w0 sz v (fun w => w = w1) := by
  intro p e h1 h2 h3 s m args below h4 h5 h6 h7
  obtain ⟨n, oc, a1, a2, a3, ⟨b1, b2, b3⟩, a4⟩ := h p e h1 h2 h3 s m args below h4 h5 h6 h7
  exact ⟨n, oc, a1, a2, a3, ⟨b1, ⟨w1, rfl, b2⟩, b3⟩, a4⟩
theorem backD {A : Nat → Prop} {Y Z : va_W} (h : va_D A (Y ++ Z)) : va_D A Z := by
  have h1 := perD (List.perm_append_comm) h
  exact foreD h1
theorem backP {D : va_G} {cl : List vw_C} {Y Z : va_W} {H : Heap} (h : va_P D cl (Y ++ Z) H) : va_P D cl Z H := memP h (fun q hq => List.mem_append_right _ hq)
theorem fr_free (hD : va_D A0 (Y ++ Z)) (hS : va_S A0 H0 H locs) (hA : ∀ q, H0.size ≤ q → A0 q) : ∀ q, va_A Z H.size q → A0 q := va_freeP (cx := []) hD hS hA [] rfl
theorem map_self (l : va_W) : (List.range l.length).map (fun i => l[i]?) = l.map some := by
  apply List.ext_getElem?
  intro k
  rw [List.getElem?_map, List.getElem?_map]
  by_cases h : k < l.length
  · rw [List.getElem?_range h, List.getElem?_eq_getElem h]; simp [h]
  · rw [List.getElem?_eq_none (by rw [List.length_range]; omega), List.getElem?_eq_none (by omega)]; rfl
theorem nd_of {l : List Nat} (h : l.Nodup) : va_nd l = true := by
  induction l with
  | nil => rfl
  | cons a t ih =>
    rw [List.nodup_cons] at h
    show (decide (a ∉ t) && va_nd t) = true
    rw [ih h.2, decide_eq_true h.1]; rfl
theorem fr_rule {v : Option Value} {mc ms : Nat} (hP : va_P g.1 vwCl (Y ++ Z) H) (hD : va_D A0 (Y ++ Z)) (hA : ∀ q, H0.size ≤ q → A0 q) (hS : va_S A0 H0 H locs)
    (hr : va_Run p l e R s m args below meth c H locs cells slots mc ms (F0 m pc ls st0) rest (QE g v F (va_A Z H.size) a) (va_A Z H.size))
    (kk : ∀ (w1 : va_W) (H1 : Heap) (locs1 : List Loc), F w1 → va_P g.1 vwCl (Y ++ w1) H1 → va_D A0 (Y ++ w1) → va_S A0 H0 H1 locs1 → W p l e R s m args below meth c H1 locs1 (cells + mc) (slots + ms) Q (F0 m (pc + 3) ls (v.toList ++ rest))) : W p l e R s m args below meth c H locs cells slots Q (F0 m pc ls st0) := by
  have hF := fr_free hD hS hA
  intro T hT Y'
  obtain ⟨v', st₀, t, T', L, h0, X', hL, e1, e2, ⟨hv, ⟨w1, hf, hP1, hD1⟩, hz, hk⟩, st⟩ := hr T hT Y'
  cases hv
  rw [h0] at hz hk
  rw [← e1] at hP1 hz hk
  have hP1' : va_P g.1 vwCl (w1 ++ []) T'.heap := by rw [List.append_nil]; exact hP1
  have hD1' : va_D (va_A ([] ++ Z) H.size) (w1 ++ []) := by rw [List.append_nil]; exact hD1
  obtain ⟨hP2, hD2⟩ := va_joinP (cx := []) (wr := Y) hP hD [] (List.range Y.length) rfl (map_self Y) (nd_of List.nodup_range) (fun _ _ h => nomatch h) hk hF hP1' hD1'
  rw [List.append_nil] at hP2 hD2
  obtain ⟨t2, a1, b1⟩ := kk w1 T'.heap (locs ++ L) hf hP2 hD2
    ⟨Nat.le_trans hS.1 hz, fun q h1 h2 => by rw [hk q (Nat.lt_of_lt_of_le h1 hS.1) (fun z => h2 (hF q z))]; exact hS.2.1 q h1 h2, fun q hq => by
      rcases List.mem_append.mp hq with h | h
      · exact hS.2.2 q h
      · exact hF _ (hL q h)⟩ T' rfl X'
  exact ⟨t2, st t2 a1, b1⟩
theorem kSL (S : CallFix p m c cc nL s args Ts own) (hP : va_P g.1 vwCl (Y ++ Z) H) (hD : va_D A0 (Y ++ Z)) (hG : GG g A0 s s.heap) (hA : ∀ q, s.heap.size ≤ q → A0 q) (hS : va_S A0 s.heap H locs)
    (hM : ME l g y ws fr lo mc ms As Z H.size v F) (hT : GoodIn Ts (va_wsS own index y ws)) (hw : ws = Cond.codeWith y bytes maxL ret hh :: ws')
    (hd : y.cls ≠ "java/lang/invoke/MethodHandle" ∧ y.cls ≠ "java/lang/invoke/VarHandle" ∧ (parseMethodDescriptor y.desc).map (fun d => d.parameters.length) = some n) (hRm : fr + 1 ≤ R.frames ∧ 8 + (maxL + 11) + lo ≤ R.locals)
    (hst : st0 = As.reverse ++ rest) (hn : As.length = n) (hsize : ls.size = nL) (hW : (rest.map fun v => v.category).sum ≤ 8) (hdg : decode cc pc = .ok (.invokestatic index, 3)) (hf : cells + mc ≤ R.cells ∧ slots + ms ≤ R.slots)
    (kk : ∀ (w1 : va_W) (H1 : Heap) (locs1 : List Loc), F w1 → va_P g.1 vwCl (Y ++ w1) H1 → va_D A0 (Y ++ w1) → va_S A0 s.heap H1 locs1 → W p l e R s m args below meth c H1 locs1 (cells + mc) (slots + ms) Q (F0 m (pc + 3) ls (v.toList ++ rest))) : W p l e R s m args below meth c H locs cells slots Q (F0 m pc ls st0) :=
  fr_rule hP hD hA hS (vx_runSW (As := As) (rest := rest) S hM (vx_cwSW n S.2.2.2.2 hT hw rfl rfl hd hRm) ⟨PC.blind, fun U hU hW => PC.of (backP hP) (backD hD) hG hS (fr_free hD hS hA) hU hW⟩ rfl hn hsize hst (lv_room hW) hdg hf) kk
theorem kVL (S : CallFix p m c cc nL s args Ts own) (hP : va_P g.1 vwCl (Y ++ Z) H) (hD : va_D A0 (Y ++ Z)) (hG : GG g A0 s s.heap) (hA : ∀ q, s.heap.size ≤ q → A0 q) (hS : va_S A0 s.heap H locs)
    (hM : ME l g y ws fr lo mc ms (.ref b :: As) Z H.size v F) (hT : GoodIn Ts (wsV own index C y ws)) (hw : ws = Cond.code y bytes maxL ret :: ws')
    (hd : y.cls = C ∧ y.cls ≠ "java/lang/invoke/MethodHandle" ∧ y.cls ≠ "java/lang/invoke/VarHandle" ∧ (parseMethodDescriptor y.desc).map (fun d => d.parameters.length) = some n) (hRm : fr + 1 ≤ R.frames ∧ 8 + (maxL + 11) + lo ≤ R.locals)
    (ci q0 : Nat) {q : vw_C} {fs : List Value} (hci : vwCl[ci]? = some q) (hqC : q.1 = C) (he : Z[q0]? = some (b, .inr (ci, fs)))
    (hst : st0 = As.reverse ++ .ref b :: rest) (hn : As.length = n) (hsize : ls.size = nL) (hW : (rest.map fun v => v.category).sum ≤ 8) (hdg : decode cc pc = .ok (.invokevirtual index, 3)) (hf : cells + mc ≤ R.cells ∧ slots + ms ≤ R.slots)
    (kk : ∀ (w1 : va_W) (H1 : Heap) (locs1 : List Loc), F w1 → va_P g.1 vwCl (Y ++ w1) H1 → va_D A0 (Y ++ w1) → va_S A0 s.heap H1 locs1 → W p l e R s m args below meth c H1 locs1 (cells + mc) (slots + ms) Q (F0 m (pc + 3) ls (v.toList ++ rest))) : W p l e R s m args below meth c H locs cells slots Q (F0 m pc ls st0) := by
  have hr := va_recv hG.1.1 (backP hP) hci he
  rw [hqC] at hr
  exact fr_rule hP hD hA hS (va_runV (As := As) (rest := rest) S hM (cwV n S.2.2.2.2 hT hw rfl rfl hd hRm) ⟨PC.blind, hr, fun U hU hW => PC.of (backP hP) (backD hD) hG hS (fr_free hD hS hA) hU hW⟩ rfl hn hsize hst (lv_room hW) hdg hf) kk
theorem sp_in1 {α : Type} (r c a b : List α) : ((r ++ c) ++ (a ++ b)).Perm ((r ++ b) ++ (c ++ a)) := by
  have h1 : ((r ++ c) ++ (a ++ b)) = r ++ ((c ++ a) ++ b) := by simp only [List.append_assoc]
  have h2 : ((r ++ b) ++ (c ++ a)) = r ++ (b ++ (c ++ a)) := by simp only [List.append_assoc]
  rw [h1, h2]
  exact List.Perm.append_left r List.perm_append_comm
theorem sp_in2 {α : Type} (r c a b : List α) : ((r ++ c) ++ (a ++ b)).Perm ((r ++ a) ++ (c ++ b)) := by
  have h1 : ((r ++ c) ++ (a ++ b)) = r ++ (c ++ (a ++ b)) := by simp only [List.append_assoc]
  have h2 : ((r ++ a) ++ (c ++ b)) = r ++ (a ++ (c ++ b)) := by simp only [List.append_assoc]
  rw [h1, h2]
  refine List.Perm.append_left r ?_
  rw [← List.append_assoc, ← List.append_assoc]
  exact List.perm_append_comm.append_right b
theorem sp_in0 {α : Type} (r c a b : List α) : ((r ++ c) ++ (a ++ b)).Perm ((r ++ (a ++ b)) ++ c) := by
  rw [List.append_assoc, List.append_assoc]
  exact List.Perm.append_left r List.perm_append_comm
end CALLSL
section LROWS
variable {p : Program} {l : Launch} {e : Env} {R : Room} {s : State} {m : MethodId} {args : Array Value} {below : List Frame} {meth : Method} {c : Code} {H : Heap} {locs : List Loc} {cells slots : Nat} {Q : State → Prop} {pc : Nat} {ls : Array Slot} {rest : List Value} {A : Nat → Prop} {H0 : Heap} {g : GE} {cc : ByteArray} {ws w1 : va_W} {a : Nat} {α : Type} {rr : α}
theorem k_scr (hexec : p.tables.exec = Jvm.exec) (hb : c.code = cc) {b L : Nat} {xs : Nat → Int32} (hX : va_X b L xs s s.heap) (hbl : b < s.heap.size) (hbA : ¬ A b) (hS : va_S A s.heap H locs) {i : Int32} {K : Option α} (hf : ar i L K = some rr) (hdg : decode cc pc = .ok (.iaload, 1))
    (kk : K = some rr → W p l e R s m args below meth c H locs cells slots Q (F0 m (pc + 1) ls (.int (xs i.toNatClampNeg) :: rest))) : W p l e R s m args below meth c H locs cells slots Q (F0 m pc ls (.int i :: .ref b :: rest)) :=
  va_sld hexec hb hX hbl hbA hS (ar_e hf).1 hdg (kk (ar_e hf).2)
end LROWS
section CALLSM
variable {p : Program} {l : Launch} {e : Env} {R : Room} {s : State} {m : MethodId} {args : Array Value} {below : List Frame} {meth : Method} {c : Code} {H : Heap} {locs : List Loc} {cells slots : Nat} {Q : State → Prop} {pc : Nat} {ls : Array Slot} {rest st0 : List Value} {A0 A1 : Nat → Prop} {H0 : Heap} {a : Array Value} {free : Addr → Prop} {mc ms : Nat} {g : GE}
variable {y : MethodName} {bytes cc : ByteArray} {maxL nL n index fr lo : Nat} {ret : Option FieldType} {ws : List Cond} {Ts : List Cond} {own C host : String} {b : Addr} {As : List Value} {v : Option Value} {w0 wc wr w1 : va_W} {ws' : List Cond}
variable {Y Z X X2 p1 p2 cx cx2 pl : va_W} {isC isR isB : List Nat} {F : va_W → Prop} {hh : List (Nat × Nat × Nat × Nat)}
theorem kSLt (S : CallFix p m c cc nL s args Ts own) (hP : va_P g.1 vwCl (X ++ pl) H) (hD : va_D A0 (X ++ pl)) (hG : GG g A0 s s.heap) (hA : ∀ q, s.heap.size ≤ q → A0 q) (hS : va_S A0 s.heap H locs) (isC isR : List Nat) (hC : isC.map (fun i => X[i]?) = cx.map some) (hR : isR.map (fun i => X[i]?) = (isR.filterMap (fun i => X[i]?)).map some) (hnd : va_nd (isR ++ isC) = true) (hM : ME l g y ws fr lo mc ms As cx H.size v F) (hT : GoodIn Ts (va_wsS own index y ws)) (hw : ws = Cond.codeWith y bytes maxL ret hh :: ws') (hd : y.cls ≠ "java/lang/invoke/MethodHandle" ∧ y.cls ≠ "java/lang/invoke/VarHandle" ∧ (parseMethodDescriptor y.desc).map (fun d => d.parameters.length) = some n) (hRm : fr + 1 ≤ R.frames ∧ 8 + (maxL + 11) + lo ≤ R.locals) (hst : st0 = As.reverse ++ rest) (hn : As.length = n) (hsize : ls.size = nL) (hW : (rest.map fun v => v.category).sum ≤ 8) (hdg : decode cc pc = .ok (.invokestatic index, 3)) (hf : cells + mc ≤ R.cells ∧ slots + ms ≤ R.slots)
    (kk : ∀ (w1 : va_W) (H1 : Heap) (locs1 : List Loc), F w1 → va_P g.1 vwCl ((isR.filterMap (fun i => X[i]?) ++ pl) ++ w1) H1 → va_D A0 ((isR.filterMap (fun i => X[i]?) ++ pl) ++ w1) → va_S A0 s.heap H1 locs1 → W p l e R s m args below meth c H1 locs1 (cells + mc) (slots + ms) Q (F0 m (pc + 3) ls (v.toList ++ rest))) : W p l e R s m args below meth c H locs cells slots Q (F0 m pc ls st0) := by
  have hP0 := pickT hP (isR ++ isC) (X := isR.filterMap (fun i => X[i]?) ++ cx) (by rw [List.map_append, List.map_append, hC, hR])
  have hD0 := pickTD hD (isR ++ isC) (X := isR.filterMap (fun i => X[i]?) ++ cx) hnd (by rw [List.map_append, List.map_append, hC, hR])
  have e : ((isR.filterMap (fun i => X[i]?) ++ cx) ++ pl).Perm ((isR.filterMap (fun i => X[i]?) ++ pl) ++ cx) := pm_new _ _ _ |>.symm.symm
  exact kSL S (perP e hP0) (perD e hD0) hG hA hS hM hT hw hd hRm hst hn hsize hW hdg hf kk
theorem kVLt (S : CallFix p m c cc nL s args Ts own) (hP : va_P g.1 vwCl (X ++ pl) H) (hD : va_D A0 (X ++ pl)) (hG : GG g A0 s s.heap) (hA : ∀ q, s.heap.size ≤ q → A0 q) (hS : va_S A0 s.heap H locs) (isC isR : List Nat) (hC : isC.map (fun i => X[i]?) = cx.map some) (hR : isR.map (fun i => X[i]?) = (isR.filterMap (fun i => X[i]?)).map some) (hnd : va_nd (isR ++ isC) = true) (hM : ME l g y ws fr lo mc ms (.ref b :: As) cx H.size v F) (hT : GoodIn Ts (wsV own index C y ws)) (hw : ws = Cond.code y bytes maxL ret :: ws') (hd : y.cls = C ∧ y.cls ≠ "java/lang/invoke/MethodHandle" ∧ y.cls ≠ "java/lang/invoke/VarHandle" ∧ (parseMethodDescriptor y.desc).map (fun d => d.parameters.length) = some n) (hRm : fr + 1 ≤ R.frames ∧ 8 + (maxL + 11) + lo ≤ R.locals) (ci q0 : Nat) {q : vw_C} {fs : List Value} (hci : vwCl[ci]? = some q) (hqC : q.1 = C) (he : cx[q0]? = some (b, .inr (ci, fs))) (hst : st0 = As.reverse ++ .ref b :: rest) (hn : As.length = n) (hsize : ls.size = nL) (hW : (rest.map fun v => v.category).sum ≤ 8) (hdg : decode cc pc = .ok (.invokevirtual index, 3)) (hf : cells + mc ≤ R.cells ∧ slots + ms ≤ R.slots)
    (kk : ∀ (w1 : va_W) (H1 : Heap) (locs1 : List Loc), F w1 → va_P g.1 vwCl ((isR.filterMap (fun i => X[i]?) ++ pl) ++ w1) H1 → va_D A0 ((isR.filterMap (fun i => X[i]?) ++ pl) ++ w1) → va_S A0 s.heap H1 locs1 → W p l e R s m args below meth c H1 locs1 (cells + mc) (slots + ms) Q (F0 m (pc + 3) ls (v.toList ++ rest))) : W p l e R s m args below meth c H locs cells slots Q (F0 m pc ls st0) := by
  have hP0 := pickT hP (isR ++ isC) (X := isR.filterMap (fun i => X[i]?) ++ cx) (by rw [List.map_append, List.map_append, hC, hR])
  have hD0 := pickTD hD (isR ++ isC) (X := isR.filterMap (fun i => X[i]?) ++ cx) hnd (by rw [List.map_append, List.map_append, hC, hR])
  have e : ((isR.filterMap (fun i => X[i]?) ++ cx) ++ pl).Perm ((isR.filterMap (fun i => X[i]?) ++ pl) ++ cx) := pm_new _ _ _ |>.symm.symm
  exact kVL S (perP e hP0) (perD e hD0) hG hA hS hM hT hw hd hRm ci q0 hci hqC he hst hn hsize hW hdg hf kk
theorem kSLT (S : CallFix p m c cc nL s args Ts own) (hP : va_P g.1 vwCl (X ++ (p1 ++ pl)) H) (hD : va_D A0 (X ++ (p1 ++ pl))) (hG : GG g A0 s s.heap) (hA : ∀ q, s.heap.size ≤ q → A0 q) (hS : va_S A0 s.heap H locs) (isC isR : List Nat) (hC : isC.map (fun i => X[i]?) = cx.map some) (hR : isR.map (fun i => X[i]?) = (isR.filterMap (fun i => X[i]?)).map some) (hnd : va_nd (isR ++ isC) = true) (hM : ME l g y ws fr lo mc ms As (cx ++ p1) H.size v F) (hT : GoodIn Ts (va_wsS own index y ws)) (hw : ws = Cond.codeWith y bytes maxL ret hh :: ws') (hd : y.cls ≠ "java/lang/invoke/MethodHandle" ∧ y.cls ≠ "java/lang/invoke/VarHandle" ∧ (parseMethodDescriptor y.desc).map (fun d => d.parameters.length) = some n) (hRm : fr + 1 ≤ R.frames ∧ 8 + (maxL + 11) + lo ≤ R.locals) (hst : st0 = As.reverse ++ rest) (hn : As.length = n) (hsize : ls.size = nL) (hW : (rest.map fun v => v.category).sum ≤ 8) (hdg : decode cc pc = .ok (.invokestatic index, 3)) (hf : cells + mc ≤ R.cells ∧ slots + ms ≤ R.slots)
    (kk : ∀ (w1 : va_W) (H1 : Heap) (locs1 : List Loc), F w1 → va_P g.1 vwCl ((isR.filterMap (fun i => X[i]?) ++ pl) ++ w1) H1 → va_D A0 ((isR.filterMap (fun i => X[i]?) ++ pl) ++ w1) → va_S A0 s.heap H1 locs1 → W p l e R s m args below meth c H1 locs1 (cells + mc) (slots + ms) Q (F0 m (pc + 3) ls (v.toList ++ rest))) : W p l e R s m args below meth c H locs cells slots Q (F0 m pc ls st0) := by
  have hP0 := pickT hP (isR ++ isC) (X := isR.filterMap (fun i => X[i]?) ++ cx) (by rw [List.map_append, List.map_append, hC, hR])
  have hD0 := pickTD hD (isR ++ isC) (X := isR.filterMap (fun i => X[i]?) ++ cx) hnd (by rw [List.map_append, List.map_append, hC, hR])
  have e : ((isR.filterMap (fun i => X[i]?) ++ cx) ++ (p1 ++ pl)).Perm ((isR.filterMap (fun i => X[i]?) ++ pl) ++ (cx ++ p1)) := sp_in1 _ _ _ _
  exact kSL S (perP e hP0) (perD e hD0) hG hA hS hM hT hw hd hRm hst hn hsize hW hdg hf kk
theorem kVLT (S : CallFix p m c cc nL s args Ts own) (hP : va_P g.1 vwCl (X ++ (p1 ++ pl)) H) (hD : va_D A0 (X ++ (p1 ++ pl))) (hG : GG g A0 s s.heap) (hA : ∀ q, s.heap.size ≤ q → A0 q) (hS : va_S A0 s.heap H locs) (isC isR : List Nat) (hC : isC.map (fun i => X[i]?) = cx.map some) (hR : isR.map (fun i => X[i]?) = (isR.filterMap (fun i => X[i]?)).map some) (hnd : va_nd (isR ++ isC) = true) (hM : ME l g y ws fr lo mc ms (.ref b :: As) (cx ++ p1) H.size v F) (hT : GoodIn Ts (wsV own index C y ws)) (hw : ws = Cond.code y bytes maxL ret :: ws') (hd : y.cls = C ∧ y.cls ≠ "java/lang/invoke/MethodHandle" ∧ y.cls ≠ "java/lang/invoke/VarHandle" ∧ (parseMethodDescriptor y.desc).map (fun d => d.parameters.length) = some n) (hRm : fr + 1 ≤ R.frames ∧ 8 + (maxL + 11) + lo ≤ R.locals) (ci q0 : Nat) {q : vw_C} {fs : List Value} (hci : vwCl[ci]? = some q) (hqC : q.1 = C) (he : cx[q0]? = some (b, .inr (ci, fs))) (hst : st0 = As.reverse ++ .ref b :: rest) (hn : As.length = n) (hsize : ls.size = nL) (hW : (rest.map fun v => v.category).sum ≤ 8) (hdg : decode cc pc = .ok (.invokevirtual index, 3)) (hf : cells + mc ≤ R.cells ∧ slots + ms ≤ R.slots)
    (kk : ∀ (w1 : va_W) (H1 : Heap) (locs1 : List Loc), F w1 → va_P g.1 vwCl ((isR.filterMap (fun i => X[i]?) ++ pl) ++ w1) H1 → va_D A0 ((isR.filterMap (fun i => X[i]?) ++ pl) ++ w1) → va_S A0 s.heap H1 locs1 → W p l e R s m args below meth c H1 locs1 (cells + mc) (slots + ms) Q (F0 m (pc + 3) ls (v.toList ++ rest))) : W p l e R s m args below meth c H locs cells slots Q (F0 m pc ls st0) := by
  have hP0 := pickT hP (isR ++ isC) (X := isR.filterMap (fun i => X[i]?) ++ cx) (by rw [List.map_append, List.map_append, hC, hR])
  have hD0 := pickTD hD (isR ++ isC) (X := isR.filterMap (fun i => X[i]?) ++ cx) hnd (by rw [List.map_append, List.map_append, hC, hR])
  have e : ((isR.filterMap (fun i => X[i]?) ++ cx) ++ (p1 ++ pl)).Perm ((isR.filterMap (fun i => X[i]?) ++ pl) ++ (cx ++ p1)) := sp_in1 _ _ _ _
  exact kVL S (perP e hP0) (perD e hD0) hG hA hS hM hT hw hd hRm ci q0 hci hqC (by rw [List.getElem?_append_left (List.getElem?_eq_some_iff.mp he).1]; exact he) hst hn hsize hW hdg hf kk
theorem lbk {D : va_G} {cl : List vw_C} {r cx1 : va_W} {H : Heap} (h : va_P D cl ((r ++ pl) ++ cx1) H) (is : List Nat) (hs : is.map (fun i => (r ++ cx1)[i]?) = X.map some) : va_P D cl (X ++ pl) H := pickT (perP (pm_new _ _ _) h) is hs
theorem lbkD {A : Nat → Prop} {r cx1 : va_W} (h : va_D A ((r ++ pl) ++ cx1)) (is : List Nat) (hs : is.map (fun i => (r ++ cx1)[i]?) = X.map some) (hn : va_nd is = true) : va_D A (X ++ pl) := pickTD (perD (pm_new _ _ _) h) is hn hs
theorem lbkT {D : va_G} {cl : List vw_C} {r cx1 q1 : va_W} {H : Heap} (h : va_P D cl ((r ++ pl) ++ (cx1 ++ q1)) H) (is : List Nat) (hs : is.map (fun i => (r ++ cx1)[i]?) = X.map some) : va_P D cl (X ++ (q1 ++ pl)) H := pickT (perP (sp_in1 _ _ _ _).symm h) is hs
theorem lbkTD {A : Nat → Prop} {r cx1 q1 : va_W} (h : va_D A ((r ++ pl) ++ (cx1 ++ q1))) (is : List Nat) (hs : is.map (fun i => (r ++ cx1)[i]?) = X.map some) (hn : va_nd is = true) : va_D A (X ++ (q1 ++ pl)) := pickTD (perD (sp_in1 _ _ _ _).symm h) is hn hs
end CALLSM
