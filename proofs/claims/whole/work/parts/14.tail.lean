def QE (g : GE) (v : Option Value) (F : va_W → Prop) (A : Nat → Prop) : Array Value → State → Outcome → State → Prop := fun _ st oc t => oc = .returned v ∧ (∃ w1, F w1 ∧ va_P g.1 vwCl w1 t.heap ∧ va_D A w1) ∧ va_F A st t
abbrev RE (fr lo mc ms : Nat) : Room := { frames := fr, cells := mc, slots := ms, locals := lo }
def ME (l : Launch) (g : GE) (y : MethodName) (ws : List Cond) (fr lo mc ms : Nat) (av : List Value) (w0 : va_W) (sz : Nat) (v : Option Value) (F : va_W → Prop) : Prop := Met l y ws (RE fr lo mc ms) (PC g av w0 sz) (QE g v F (va_A w0 sz)) mc ms (va_A w0 sz)
theorem ME.start {l : Launch} {g : GE} {y : MethodName} {ws ws' : List Cond} {fr lo mc ms : Nat} {av : List Value} {w0 : va_W} {sz : Nat} {v : Option Value} {F : va_W → Prop} {cc : ByteArray} {maxL : Nat} {ret : Option FieldType} (hy : plainName y.cls = true) (hw : ws = Cond.code y cc maxL ret :: ws') (hlen : (lg_sl av).length ≤ maxL)
    (body : ∀ (p : Program) (e : Env) (s : State) (m : MethodId) (args : Array Value) (below : List Frame) (meth : Method) (c : Code) (A : Nat → Prop) (ls : Array Slot) (Q : State → Prop),
      Q = MQ below (QE g v F A) args s mc ms A → p.tables.exec = Jvm.exec → c.code = cc → meth.sig.returnType = ret → (∀ w ∈ ws, w.before args s = true) → s.vm.findClass y.cls = some m.cls → meth.locks = false → c.maxLocals = maxL → meth.name = y.name → (∀ q, s.heap.size ≤ q → A q) → va_P g.1 vwCl w0 s.heap → va_D A w0 → GG g A s s.heap → va_S A s.heap s.heap [] → lv_has ls maxL (lv_args 0 av) → W p l e (RE fr lo mc ms) s m args below meth c s.heap [] 0 0 Q (F0 m 0 ls [])) : ME l g y ws fr lo mc ms av w0 sz v F := by
  unfold ME
  refine Met.ofW (cc := cc) (maxL := maxL) (ret := ret) hy hw ?_
  intro p e s m args below meth c s₁ B hml hv
  obtain ⟨rfl, hsz, hP, hD0, hG⟩ := hv
  subst hsz
  have hts := atoms_spec (ws := ws) B.pre
  have hl := lv_entry av (n := maxL) hlen
  rw [lg_entry_eq]
  exact body p e s m _ below meth c (va_A w0 s.heap.size) _ _ rfl B.exec B.bytes B.returns hts (findClass_of_methodNamed B.named) B.notSynchronized hml (name_of_methodNamed B.named B.method).1 (fun q h => Or.inr h) hP hD0.self hG va_S.rf hl
theorem pickT {D : va_G} {cl : List vw_C} {Y X pl : va_W} {H : Heap} (h : va_P D cl (Y ++ pl) H) (is : List Nat) (hs : is.map (fun i => Y[i]?) = X.map some) : va_P D cl (X ++ pl) H := by
  have h1 : va_P D cl Y H := fun k q hq => h k q (by rw [List.getElem?_append_left (List.getElem?_eq_some_iff.mp hq).1]; exact hq)
  have h2 := pickm h1 is hs
  intro k q hq
  by_cases hk : k < X.length
  · rw [List.getElem?_append_left hk] at hq
    exact h2 k q hq
  · rw [List.getElem?_append_right (Nat.le_of_not_lt hk)] at hq
    exact h (Y.length + (k - X.length)) q (by rw [List.getElem?_append_right (Nat.le_add_right _ _), Nat.add_sub_cancel_left]; exact hq)
theorem pickTD {A : Nat → Prop} {Y X pl : va_W} (h : va_D A (Y ++ pl)) (is : List Nat) (hn : va_nd is = true) (hs : is.map (fun i => Y[i]?) = X.map some) : va_D A (X ++ pl) := by
  have inY : ∀ (k : Nat) (q : Nat × va_E), X[k]? = some q → ∃ i, is[k]? = some i ∧ Y[i]? = some q := by
    intro k q hq
    have h1 : (is.map (fun i => Y[i]?))[k]? = some (some q) := by rw [hs, List.getElem?_map, hq]; rfl
    rw [List.getElem?_map] at h1
    cases hi : is[k]? with
    | none => rw [hi] at h1; cases h1
    | some i => rw [hi] at h1; exact ⟨i, rfl, Option.some.inj h1⟩
  have lt : ∀ (i : Nat) (q : Nat × va_E), Y[i]? = some q → i < Y.length := fun i q hq => (List.getElem?_eq_some_iff.mp hq).1
  have L : ∀ (i : Nat) (q : Nat × va_E), Y[i]? = some q → (Y ++ pl)[i]? = some q := fun i q hq => by rw [List.getElem?_append_left (lt i q hq)]; exact hq
  have Rr : ∀ (j : Nat) (q : Nat × va_E), pl[j]? = some q → (Y ++ pl)[Y.length + j]? = some q := fun j q hq => by rw [List.getElem?_append_right (Nat.le_add_right _ _), Nat.add_sub_cancel_left]; exact hq
  have sp : ∀ (k : Nat) (q : Nat × va_E), (X ++ pl)[k]? = some q → (k < X.length ∧ X[k]? = some q) ∨ (X.length ≤ k ∧ pl[k - X.length]? = some q) := by
    intro k q hq
    by_cases hk : k < X.length
    · rw [List.getElem?_append_left hk] at hq; exact .inl ⟨hk, hq⟩
    · rw [List.getElem?_append_right (Nat.le_of_not_lt hk)] at hq; exact .inr ⟨Nat.le_of_not_lt hk, hq⟩
  constructor
  · intro i j p q hp hq e
    rcases sp i p hp with ⟨hi, hp⟩ | ⟨hi, hp⟩ <;> rcases sp j q hq with ⟨hj, hq⟩ | ⟨hj, hq⟩
    · obtain ⟨i', hi1, hi2⟩ := inY i p hp
      obtain ⟨j', hj1, hj2⟩ := inY j q hq
      have := h.1 i' j' p q (L _ _ hi2) (L _ _ hj2) e
      subst this
      exact va_nd_inj is hn i j i' hi1 hj1
    · obtain ⟨i', hi1, hi2⟩ := inY i p hp
      have := h.1 i' (Y.length + (j - X.length)) p q (L _ _ hi2) (Rr _ _ hq) e
      have := lt i' p hi2
      omega
    · obtain ⟨j', hj1, hj2⟩ := inY j q hq
      have := h.1 (Y.length + (i - X.length)) j' p q (Rr _ _ hp) (L _ _ hj2) e
      have := lt j' q hj2
      omega
    · have := h.1 (Y.length + (i - X.length)) (Y.length + (j - X.length)) p q (Rr _ _ hp) (Rr _ _ hq) e
      omega
  · intro k q hq
    rcases sp k q hq with ⟨-, hq⟩ | ⟨-, hq⟩
    · obtain ⟨i', -, hi2⟩ := inY k q hq
      exact h.2 i' q (L _ _ hi2)
    · exact h.2 _ q (Rr _ _ hq)
theorem memP {D : va_G} {cl : List vw_C} {ws ws' : va_W} {H : Heap} (h : va_P D cl ws H) (hm : ∀ q ∈ ws', q ∈ ws) : va_P D cl ws' H := by
  intro k q hq
  obtain ⟨i, hi⟩ := List.mem_iff_getElem?.mp (hm q (List.mem_of_getElem? hq))
  exact h i q hi
theorem nodD {A : Nat → Prop} {ws : va_W} : va_D A ws ↔ (ws.map (fun q => q.1)).Nodup ∧ ∀ q ∈ ws, A q.1 := by
  constructor
  · intro h
    refine ⟨?_, fun q hq => ?_⟩
    · rw [List.nodup_iff_pairwise_ne, List.pairwise_iff_getElem]
      intro i j hi hj hij e
      rw [List.length_map] at hi hj
      rw [List.getElem_map, List.getElem_map] at e
      have := h.1 i j _ _ (List.getElem?_eq_getElem hi) (List.getElem?_eq_getElem hj) e
      omega
    · obtain ⟨i, hi⟩ := List.mem_iff_getElem?.mp hq
      exact h.2 i q hi
  · intro ⟨h1, h2⟩
    refine ⟨fun i j p q hp hq e => ?_, fun k q hq => h2 q (List.mem_of_getElem? hq)⟩
    rw [List.nodup_iff_pairwise_ne, List.pairwise_iff_getElem] at h1
    obtain ⟨hi, ep⟩ := List.getElem?_eq_some_iff.mp hp
    obtain ⟨hj, eq⟩ := List.getElem?_eq_some_iff.mp hq
    have e2 : (ws.map (fun q => q.1))[i]'(by rw [List.length_map]; exact hi) = (ws.map (fun q => q.1))[j]'(by rw [List.length_map]; exact hj) := by rw [List.getElem_map, List.getElem_map, ep, eq]; exact e
    rcases Nat.lt_trichotomy i j with z | z | z
    · exact absurd e2 (h1 i j _ _ z)
    · exact z
    · exact absurd e2.symm (h1 j i _ _ z)
theorem perD {A : Nat → Prop} {ws ws' : va_W} (hp : ws.Perm ws') (h : va_D A ws) : va_D A ws' := by
  rw [nodD] at h ⊢
  exact ⟨(hp.map _).nodup_iff.mp h.1, fun q hq => h.2 q (hp.mem_iff.mpr hq)⟩
theorem perP {D : va_G} {cl : List vw_C} {ws ws' : va_W} {H : Heap} (hp : ws.Perm ws') (h : va_P D cl ws H) : va_P D cl ws' H := memP h (fun q hq => hp.mem_iff.mpr hq)
theorem pm_in {α : Type} (X a S b : List α) : (X ++ (a ++ (S ++ b))).Perm ((X ++ S) ++ (a ++ b)) := by
  rw [List.append_assoc]
  exact List.Perm.append_left X (by rw [← List.append_assoc, ← List.append_assoc]; exact (List.perm_append_comm).append_right b)
section CALLST
variable {p : Program} {l : Launch} {e : Env} {R : Room} {s : State} {m : MethodId} {args : Array Value} {below : List Frame} {meth : Method} {c : Code} {H : Heap} {locs : List Loc} {cells slots : Nat} {Q : State → Prop} {pc : Nat} {ls : Array Slot} {rest st0 : List Value} {A0 A1 : Nat → Prop} {H0 : Heap} {a : Array Value} {free : Addr → Prop} {mc ms : Nat} {g : GE}
variable {y : MethodName} {bytes cc : ByteArray} {maxL nL n index fr lo : Nat} {ret : Option FieldType} {ws : List Cond} {Ts : List Cond} {own C host : String} {b : Addr} {As : List Value} {v : Option Value} {w0 wc wr w1 : va_W} {ws' : List Cond}
variable {w2 : va_W} {isC isR isB : List Nat} {X cx X2 pl : va_W} {F : va_W → Prop}
theorem kE_i {x : Int32} (hQ : Q = MQ below (QE g (some (.int x)) F A0) args s mc ms A0) (hc : cells ≤ mc ∧ slots ≤ ms) (hexec : p.tables.exec = Jvm.exec) (hb : c.code = cc) (hr : meth.sig.returnType = some .int) (hF : F w1) (hP : va_P g.1 vwCl w1 H) (hD : va_D A0 w1) (hS : va_S A0 s.heap H locs) (hdg : decode cc pc = .ok (.ireturn, 1)) (hlocks : meth.locks = false) : W p l e R s m args below meth c H locs cells slots Q (F0 m pc ls [.int x]) := by
  subst hQ
  exact W.widen hc.1 hc.2 (W.iret hexec hb hr (fun t ht _ => ⟨rfl, ⟨w1, hF, by rw [ht]; exact hP, hD⟩, hS.F ht⟩) hS.2.2 hdg hlocks)
theorem kE_z {x : Int32} (hQ : Q = MQ below (QE g (some (.int x)) F A0) args s mc ms A0) (hc : cells ≤ mc ∧ slots ≤ ms) (hexec : p.tables.exec = Jvm.exec) (hb : c.code = cc) (hr : meth.sig.returnType = some .boolean) (hx : x = 0 ∨ x = 1) (hF : F w1) (hP : va_P g.1 vwCl w1 H) (hD : va_D A0 w1) (hS : va_S A0 s.heap H locs) (hdg : decode cc pc = .ok (.ireturn, 1)) (hlocks : meth.locks = false) : W p l e R s m args below meth c H locs cells slots Q (F0 m pc ls [.int x]) := by
  subst hQ
  exact W.widen hc.1 hc.2 (W.zret hexec hb hr (by rcases hx with rfl | rfl <;> rfl) (fun t ht _ => ⟨rfl, ⟨w1, hF, by rw [ht]; exact hP, hD⟩, hS.F ht⟩) hS.2.2 hdg hlocks)
theorem kE_v (hQ : Q = MQ below (QE g none F A0) args s mc ms A0) (hc : cells ≤ mc ∧ slots ≤ ms) (hexec : p.tables.exec = Jvm.exec) (hb : c.code = cc) (hr : meth.sig.returnType = none) (hF : F w1) (hP : va_P g.1 vwCl w1 H) (hD : va_D A0 w1) (hS : va_S A0 s.heap H locs) (hdg : decode cc pc = .ok (.return_, 1)) (hlocks : meth.locks = false) : W p l e R s m args below meth c H locs cells slots Q (F0 m pc ls []) := by
  subst hQ
  exact W.widen hc.1 hc.2 (W.vret hexec hb hr (fun t ht _ => ⟨rfl, ⟨w1, hF, by rw [ht]; exact hP, hD⟩, hS.F ht⟩) hS.2.2 hdg hlocks)
theorem kt_after {v : Option Value} (hP : va_P g.1 vwCl (X ++ pl) H) (hD : va_D A0 (X ++ pl)) (hA : ∀ q, H0.size ≤ q → A0 q) (hS : va_S A0 H0 H locs) (isC isR isB : List Nat) (hC : isC.map (fun i => X[i]?) = cx.map some) (hR : isR.map (fun i => X[i]?) = (isR.filterMap (fun i => X[i]?)).map some) (hB : isB.map (fun i => (isR.filterMap (fun i => X[i]?) ++ w1)[i]?) = X2.map some) (hn : va_nd isR = true) (hnB : va_nd isB = true) (hdis : ∀ i ∈ isR, i ∉ isC) (hF : ∀ q, va_A cx H.size q → A0 q)
    (hr : va_Run p l e R s m args below meth c H locs cells slots 0 0 (F0 m pc ls st0) rest (QR g v w1 (va_A cx H.size) a) (va_A cx H.size))
    (kk : ∀ (H1 : Heap) (locs1 : List Loc), va_P g.1 vwCl (X2 ++ pl) H1 → va_D A0 (X2 ++ pl) → va_S A0 H0 H1 locs1 → W p l e R s m args below meth c H1 locs1 cells slots Q (F0 m (pc + 3) ls (v.toList ++ rest))) : W p l e R s m args below meth c H locs cells slots Q (F0 m pc ls st0) := by
  refine k_run hr hS hF hF (fun H1 locs1 hP1 hD1 _ hk hS1 => ?_)
  obtain ⟨hP2, hD2⟩ := va_joinQ hP hD isC isR hC hR hn hdis hk hF hP1 hD1
  exact kk H1 locs1 (pickT hP2 isB hB) (pickTD hD2 isB hnB hB) hS1
theorem fr_of {X cx pl : va_W} (hD : va_D A0 (X ++ pl)) (hS : va_S A0 H0 H locs) (hA : ∀ q, H0.size ≤ q → A0 q) (isC : List Nat) (hC : isC.map (fun i => X[i]?) = cx.map some) : ∀ q, va_A cx H.size q → A0 q := by
  intro q h
  refine va_freeP hD hS hA isC hC q ?_
  rcases h with ⟨k, e, h⟩ | h
  · exact Or.inl ⟨k, e, by rw [List.getElem?_append_left (List.getElem?_eq_some_iff.mp h).1]; exact h⟩
  · exact Or.inr h
theorem foreP {D : va_G} {cl : List vw_C} {X pl : va_W} {H : Heap} (h : va_P D cl (X ++ pl) H) : va_P D cl X H := fun k q hq => h k q (by rw [List.getElem?_append_left (List.getElem?_eq_some_iff.mp hq).1]; exact hq)
theorem foreD {A : Nat → Prop} {X pl : va_W} (h : va_D A (X ++ pl)) : va_D A X :=
  ⟨fun i j p q hp hq e => h.1 i j p q (by rw [List.getElem?_append_left (List.getElem?_eq_some_iff.mp hp).1]; exact hp) (by rw [List.getElem?_append_left (List.getElem?_eq_some_iff.mp hq).1]; exact hq) e, fun k q hq => h.2 k q (by rw [List.getElem?_append_left (List.getElem?_eq_some_iff.mp hq).1]; exact hq)⟩
theorem kVt (S : CallFix p m c cc nL s args Ts own) (hP : va_P g.1 vwCl (X ++ pl) H) (hD : va_D A0 (X ++ pl)) (hG : GG g A0 s s.heap) (hA : ∀ q, s.heap.size ≤ q → A0 q) (hS : va_S A0 s.heap H locs) (isC isR isB : List Nat) (hC : isC.map (fun i => X[i]?) = cx.map some) (hR : isR.map (fun i => X[i]?) = (isR.filterMap (fun i => X[i]?)).map some) (hB : isB.map (fun i => (isR.filterMap (fun i => X[i]?) ++ w1)[i]?) = X2.map some) (hnC : va_nd isC = true) (hnR : va_nd isR = true) (hnB : va_nd isB = true) (hdis : ∀ i ∈ isR, i ∉ isC)
    (hM : MI l g y ws fr lo (.ref b :: As) cx H.size v w1) (hT : GoodIn Ts (wsV own index C y ws)) (hw : ws = Cond.code y bytes maxL ret :: ws')
    (hd : y.cls = C ∧ y.cls ≠ "java/lang/invoke/MethodHandle" ∧ y.cls ≠ "java/lang/invoke/VarHandle" ∧ (parseMethodDescriptor y.desc).map (fun d => d.parameters.length) = some n) (hRm : fr + 1 ≤ R.frames ∧ 8 + (maxL + 11) + lo ≤ R.locals)
    (ci q0 : Nat) {q : vw_C} {fs : List Value} (hci : vwCl[ci]? = some q) (hqC : q.1 = C) (he : cx[q0]? = some (b, .inr (ci, fs)))
    (hst : st0 = As.reverse ++ .ref b :: rest) (hn : As.length = n) (hsize : ls.size = nL) (hW : (rest.map fun v => v.category).sum ≤ 8) (hdg : decode cc pc = .ok (.invokevirtual index, 3)) (hf : cells ≤ R.cells ∧ slots ≤ R.slots)
    (kk : ∀ (H1 : Heap) (locs1 : List Loc), va_P g.1 vwCl (X2 ++ pl) H1 → va_D A0 (X2 ++ pl) → va_S A0 s.heap H1 locs1 → W p l e R s m args below meth c H1 locs1 cells slots Q (F0 m (pc + 3) ls (v.toList ++ rest))) : W p l e R s m args below meth c H locs cells slots Q (F0 m pc ls st0) := by
  have hF := fr_of hD hS hA isC hC
  have hPc : va_P g.1 vwCl cx H := pickm (foreP hP) isC hC
  have hDc : va_D A0 cx := (foreD hD).sub isC hnC hC
  refine kt_after hP hD hA hS isC isR isB hC hR hB hnR hnB hdis hF (va_runV (As := As) (rest := rest) S hM (cwV n S.2.2.2.2 hT hw rfl rfl hd hRm) ⟨PC.blind, ?_, fun U hU hW => PC.of hPc hDc hG hS hF hU hW⟩ rfl hn hsize hst (lv_room hW) hdg hf) kk
  have hr := va_recv hG.1.1 hPc hci he
  rw [hqC] at hr
  exact hr
theorem kSt (S : CallFix p m c cc nL s args Ts own) (hP : va_P g.1 vwCl (X ++ pl) H) (hD : va_D A0 (X ++ pl)) (hG : GG g A0 s s.heap) (hA : ∀ q, s.heap.size ≤ q → A0 q) (hS : va_S A0 s.heap H locs) (isC isR isB : List Nat) (hC : isC.map (fun i => X[i]?) = cx.map some) (hR : isR.map (fun i => X[i]?) = (isR.filterMap (fun i => X[i]?)).map some) (hB : isB.map (fun i => (isR.filterMap (fun i => X[i]?) ++ w1)[i]?) = X2.map some) (hnC : va_nd isC = true) (hnR : va_nd isR = true) (hnB : va_nd isB = true) (hdis : ∀ i ∈ isR, i ∉ isC)
    (hM : MI l g y ws fr lo As cx H.size v w1) (hT : GoodIn Ts (va_wsS own index y ws)) (hw : ws = Cond.code y bytes maxL ret :: ws')
    (hd : y.cls ≠ "java/lang/invoke/MethodHandle" ∧ y.cls ≠ "java/lang/invoke/VarHandle" ∧ (parseMethodDescriptor y.desc).map (fun d => d.parameters.length) = some n) (hRm : fr + 1 ≤ R.frames ∧ 8 + (maxL + 11) + lo ≤ R.locals)
    (hst : st0 = As.reverse ++ rest) (hn : As.length = n) (hsize : ls.size = nL) (hW : (rest.map fun v => v.category).sum ≤ 8) (hdg : decode cc pc = .ok (.invokestatic index, 3)) (hf : cells ≤ R.cells ∧ slots ≤ R.slots)
    (kk : ∀ (H1 : Heap) (locs1 : List Loc), va_P g.1 vwCl (X2 ++ pl) H1 → va_D A0 (X2 ++ pl) → va_S A0 s.heap H1 locs1 → W p l e R s m args below meth c H1 locs1 cells slots Q (F0 m (pc + 3) ls (v.toList ++ rest))) : W p l e R s m args below meth c H locs cells slots Q (F0 m pc ls st0) := by
  have hF := fr_of hD hS hA isC hC
  have hPc : va_P g.1 vwCl cx H := pickm (foreP hP) isC hC
  have hDc : va_D A0 cx := (foreD hD).sub isC hnC hC
  exact kt_after hP hD hA hS isC isR isB hC hR hB hnR hnB hdis hF (va_runS (As := As) (rest := rest) S hM (va_cwS n S.2.2.2.2 hT hw rfl rfl hd hRm) ⟨PC.blind, fun U hU hW => PC.of hPc hDc hG hS hF hU hW⟩ rfl hn hsize hst (lv_room hW) hdg hf) kk
theorem kSNt (S : CallFix p m c cc nL s args Ts own) (hP : va_P g.1 vwCl (X ++ pl) H) (hD : va_D A0 (X ++ pl)) (hG : GG g A0 s s.heap) (hA : ∀ q, s.heap.size ≤ q → A0 q) (hS : va_S A0 s.heap H locs) (isC isR isB : List Nat) (hC : isC.map (fun i => X[i]?) = cx.map some) (hR : isR.map (fun i => X[i]?) = (isR.filterMap (fun i => X[i]?)).map some) (hB : isB.map (fun i => (isR.filterMap (fun i => X[i]?) ++ w1)[i]?) = X2.map some) (hnC : va_nd isC = true) (hnR : va_nd isR = true) (hnB : va_nd isB = true) (hdis : ∀ i ∈ isR, i ∉ isC)
    (hM : MI l g y ws fr lo As cx H.size v w1) (hT : GoodIn Ts ws) (hw : ws = Cond.code y bytes maxL ret :: ws') (iw : Nat) (hnw : nestW[iw]? = some (Cond.methodLinkNest own index y host)) (hini : (Cond.initialized y.cls).before args s = true) (hstt : (Cond.static y).before args s = true)
    (hd : y.cls ≠ "java/lang/invoke/MethodHandle" ∧ y.cls ≠ "java/lang/invoke/VarHandle" ∧ (parseMethodDescriptor y.desc).map (fun d => d.parameters.length) = some n) (hRm : fr + 1 ≤ R.frames ∧ 8 + (maxL + 11) + lo ≤ R.locals)
    (hst : st0 = As.reverse ++ rest) (hn : As.length = n) (hsize : ls.size = nL) (hW : (rest.map fun v => v.category).sum ≤ 8) (hdg : decode cc pc = .ok (.invokestatic index, 3)) (hf : cells ≤ R.cells ∧ slots ≤ R.slots)
    (kk : ∀ (H1 : Heap) (locs1 : List Loc), va_P g.1 vwCl (X2 ++ pl) H1 → va_D A0 (X2 ++ pl) → va_S A0 s.heap H1 locs1 → W p l e R s m args below meth c H1 locs1 cells slots Q (F0 m (pc + 3) ls (v.toList ++ rest))) : W p l e R s m args below meth c H locs cells slots Q (F0 m pc ls st0) := by
  have hF := fr_of hD hS hA isC hC
  have hPc : va_P g.1 vwCl cx H := pickm (foreP hP) isC hC
  have hDc : va_D A0 cx := (foreD hD).sub isC hnC hC
  exact kt_after hP hD hA hS isC isR isB hC hR hB hnR hnB hdis hF (va_runSN (As := As) (rest := rest) S hM ⟨va_cnB n S.2.2.2.2 hT hw rfl rfl (hG.1.2.1 _ (List.mem_of_getElem? hnw)) hini hd hRm, hstt, trivial⟩ ⟨PC.blind, fun U hU hW => PC.of hPc hDc hG hS hF hU hW⟩ rfl hn hsize hst (lv_room hW) hdg hf) kk
theorem kE_after {v : Option Value} {mc ms : Nat} (hP : va_P g.1 vwCl (X ++ pl) H) (hD : va_D A0 (X ++ pl)) (hA : ∀ q, H0.size ≤ q → A0 q) (hS : va_S A0 H0 H locs) (isC isR : List Nat) (hC : isC.map (fun i => X[i]?) = cx.map some) (hR : isR.map (fun i => X[i]?) = (isR.filterMap (fun i => X[i]?)).map some) (hn : va_nd isR = true) (hdis : ∀ i ∈ isR, i ∉ isC)
    (hr : va_Run p l e R s m args below meth c H locs cells slots mc ms (F0 m pc ls st0) rest (QE g v F (va_A (cx ++ pl) H.size) a) (va_A (cx ++ pl) H.size))
    (kk : ∀ (w1 : va_W) (H1 : Heap) (locs1 : List Loc), F w1 → va_P g.1 vwCl (isR.filterMap (fun i => X[i]?) ++ w1) H1 → va_D A0 (isR.filterMap (fun i => X[i]?) ++ w1) → va_S A0 H0 H1 locs1 → W p l e R s m args below meth c H1 locs1 (cells + mc) (slots + ms) Q (F0 m (pc + 3) ls (v.toList ++ rest))) : W p l e R s m args below meth c H locs cells slots Q (F0 m pc ls st0) := by
  have hF := va_freeP hD hS hA isC hC
  intro T hT Y
  obtain ⟨v', st₀, t, T', L, h0, X', hL, e1, e2, ⟨hv, ⟨w1, hf, hP1, hD1⟩, hz, hk⟩, st⟩ := hr T hT Y
  cases hv
  rw [h0] at hz hk
  rw [← e1] at hP1 hz hk
  have hP1' : va_P g.1 vwCl (w1 ++ []) T'.heap := by rw [List.append_nil]; exact hP1
  have hD1' : va_D (va_A (cx ++ pl) H.size) (w1 ++ []) := by rw [List.append_nil]; exact hD1
  obtain ⟨hP2, hD2⟩ := va_joinP hP hD isC isR hC hR hn hdis hk hF hP1' hD1'
  rw [List.append_nil] at hP2 hD2
  obtain ⟨t2, a1, b1⟩ := kk w1 T'.heap (locs ++ L) hf hP2 hD2
    ⟨Nat.le_trans hS.1 hz, fun q h1 h2 => by rw [hk q (Nat.lt_of_lt_of_le h1 hS.1) (fun z => h2 (hF q z))]; exact hS.2.1 q h1 h2, fun q hq => by
      rcases List.mem_append.mp hq with h | h
      · exact hS.2.2 q h
      · exact hF _ (hL q h)⟩ T' rfl X'
  exact ⟨t2, st t2 a1, b1⟩
theorem kVe (S : CallFix p m c cc nL s args Ts own) (hP : va_P g.1 vwCl (X ++ pl) H) (hD : va_D A0 (X ++ pl)) (hG : GG g A0 s s.heap) (hA : ∀ q, s.heap.size ≤ q → A0 q) (hS : va_S A0 s.heap H locs) (isC isR : List Nat) (hC : isC.map (fun i => X[i]?) = cx.map some) (hR : isR.map (fun i => X[i]?) = (isR.filterMap (fun i => X[i]?)).map some) (hnR : va_nd isR = true) (hdis : ∀ i ∈ isR, i ∉ isC) (hnC : va_nd isC = true)
    (hM : ME l g y ws fr lo mc ms (.ref b :: As) (cx ++ pl) H.size v F) (hT : GoodIn Ts (wsV own index C y ws)) (hw : ws = Cond.code y bytes maxL ret :: ws')
    (hd : y.cls = C ∧ y.cls ≠ "java/lang/invoke/MethodHandle" ∧ y.cls ≠ "java/lang/invoke/VarHandle" ∧ (parseMethodDescriptor y.desc).map (fun d => d.parameters.length) = some n) (hRm : fr + 1 ≤ R.frames ∧ 8 + (maxL + 11) + lo ≤ R.locals)
    (ci q0 : Nat) {q : vw_C} {fs : List Value} (hci : vwCl[ci]? = some q) (hqC : q.1 = C) (he : cx[q0]? = some (b, .inr (ci, fs)))
    (hst : st0 = As.reverse ++ .ref b :: rest) (hn : As.length = n) (hsize : ls.size = nL) (hW : (rest.map fun v => v.category).sum ≤ 8) (hdg : decode cc pc = .ok (.invokevirtual index, 3)) (hf : cells + mc ≤ R.cells ∧ slots + ms ≤ R.slots)
    (kk : ∀ (w1 : va_W) (H1 : Heap) (locs1 : List Loc), F w1 → va_P g.1 vwCl (isR.filterMap (fun i => X[i]?) ++ w1) H1 → va_D A0 (isR.filterMap (fun i => X[i]?) ++ w1) → va_S A0 s.heap H1 locs1 → W p l e R s m args below meth c H1 locs1 (cells + mc) (slots + ms) Q (F0 m (pc + 3) ls (v.toList ++ rest))) : W p l e R s m args below meth c H locs cells slots Q (F0 m pc ls st0) := by
  have hF := va_freeP hD hS hA isC hC
  have hPc : va_P g.1 vwCl (cx ++ pl) H := pickT hP isC hC
  have hDc : va_D A0 (cx ++ pl) := pickTD hD isC hnC hC
  refine kE_after hP hD hA hS isC isR hC hR hnR hdis (va_runV (As := As) (rest := rest) S hM (cwV n S.2.2.2.2 hT hw rfl rfl hd hRm) ⟨PC.blind, ?_, fun U hU hW => PC.of hPc hDc hG hS hF hU hW⟩ rfl hn hsize hst (lv_room hW) hdg hf) kk
  have hr := va_recv hG.1.1 (foreP hPc) hci he
  rw [hqC] at hr
  exact hr
theorem kQ_after {v : Option Value} {mc ms : Nat} (hP : va_P g.1 vwCl (X ++ pl) H) (hD : va_D A0 (X ++ pl)) (hA : ∀ q, H0.size ≤ q → A0 q) (hS : va_S A0 H0 H locs) (isC isR : List Nat) (hC : isC.map (fun i => X[i]?) = cx.map some) (hR : isR.map (fun i => X[i]?) = (isR.filterMap (fun i => X[i]?)).map some) (hn : va_nd isR = true) (hdis : ∀ i ∈ isR, i ∉ isC)
    (hr : va_Run p l e R s m args below meth c H locs cells slots mc ms (F0 m pc ls st0) rest (QE g v F (va_A cx H.size) a) (va_A cx H.size))
    (kk : ∀ (w1 : va_W) (H1 : Heap) (locs1 : List Loc), F w1 → va_P g.1 vwCl ((isR.filterMap (fun i => X[i]?) ++ w1) ++ pl) H1 → va_D A0 ((isR.filterMap (fun i => X[i]?) ++ w1) ++ pl) → va_S A0 H0 H1 locs1 → W p l e R s m args below meth c H1 locs1 (cells + mc) (slots + ms) Q (F0 m (pc + 3) ls (v.toList ++ rest))) : W p l e R s m args below meth c H locs cells slots Q (F0 m pc ls st0) := by
  have hF := fr_of hD hS hA isC hC
  intro T hT Y
  obtain ⟨v', st₀, t, T', L, h0, X', hL, e1, e2, ⟨hv, ⟨w1, hf, hP1, hD1⟩, hz, hk⟩, st⟩ := hr T hT Y
  cases hv
  rw [h0] at hz hk
  rw [← e1] at hP1 hz hk
  obtain ⟨hP2, hD2⟩ := va_joinQ hP hD isC isR hC hR hn hdis hk hF hP1 hD1
  obtain ⟨t2, a1, b1⟩ := kk w1 T'.heap (locs ++ L) hf hP2 hD2
    ⟨Nat.le_trans hS.1 hz, fun q h1 h2 => by rw [hk q (Nat.lt_of_lt_of_le h1 hS.1) (fun z => h2 (hF q z))]; exact hS.2.1 q h1 h2, fun q hq => by
      rcases List.mem_append.mp hq with h | h
      · exact hS.2.2 q h
      · exact hF _ (hL q h)⟩ T' rfl X'
  exact ⟨t2, st t2 a1, b1⟩
theorem kIq (S : CallFix p m c cc nL s args Ts own) (hP : va_P g.1 vwCl (X ++ pl) H) (hD : va_D A0 (X ++ pl)) (hG : GG g A0 s s.heap) (hA : ∀ q, s.heap.size ≤ q → A0 q) (hS : va_S A0 s.heap H locs) (isC isR : List Nat) (hC : isC.map (fun i => X[i]?) = cx.map some) (hR : isR.map (fun i => X[i]?) = (isR.filterMap (fun i => X[i]?)).map some) (hnR : va_nd isR = true) (hdis : ∀ i ∈ isR, i ∉ isC) (hnC : va_nd isC = true)
    (hM : ME l g y ws fr lo mc ms (.ref b :: As) cx H.size none F) (hT : GoodIn Ts ws) (hw : ws = Cond.code y bytes maxL none :: ws') (iw : Nat) (hnw : nestW[iw]? = some (Cond.methodLinkNest own index y host)) (hini : (Cond.initialized y.cls).before args s = true) (hinst : (Cond.instanceMethod y).before args s = true) (hy : y.name = "<init>")
    (hd : y.cls ≠ "java/lang/invoke/MethodHandle" ∧ y.cls ≠ "java/lang/invoke/VarHandle" ∧ (parseMethodDescriptor y.desc).map (fun d => d.parameters.length) = some n) (hRm : fr + 1 ≤ R.frames ∧ 8 + (maxL + 11) + lo ≤ R.locals)
    (hst : st0 = As.reverse ++ .ref b :: rest) (hn : As.length = n) (hsize : ls.size = nL) (hW : (rest.map fun v => v.category).sum ≤ 8) (hdg : decode cc pc = .ok (.invokespecial index, 3)) (hf : cells + mc ≤ R.cells ∧ slots + ms ≤ R.slots)
    (kk : ∀ (w1 : va_W) (H1 : Heap) (locs1 : List Loc), F w1 → va_P g.1 vwCl ((isR.filterMap (fun i => X[i]?) ++ w1) ++ pl) H1 → va_D A0 ((isR.filterMap (fun i => X[i]?) ++ w1) ++ pl) → va_S A0 s.heap H1 locs1 → W p l e R s m args below meth c H1 locs1 (cells + mc) (slots + ms) Q (F0 m (pc + 3) ls rest)) : W p l e R s m args below meth c H locs cells slots Q (F0 m pc ls st0) := by
  have hF := fr_of hD hS hA isC hC
  have hPc : va_P g.1 vwCl cx H := pickm (foreP hP) isC hC
  have hDc : va_D A0 cx := (foreD hD).sub isC hnC hC
  exact kQ_after hP hD hA hS isC isR hC hR hnR hdis (va_runIN (As := As) (rest := rest) S hM ⟨va_cnB n S.2.2.2.2 hT hw rfl rfl (hG.1.2.1 _ (List.mem_of_getElem? hnw)) hini hd hRm, hy, hinst⟩ ⟨PC.blind, fun U hU hW => PC.of hPc hDc hG hS hF hU hW⟩ rfl hn hsize hst (lv_room hW) hdg hf) kk
theorem me_of_mi {v : Option Value} {w0 w1 : va_W} {sz : Nat} {av : List Value} (h : MI l g y ws fr lo av w0 sz v w1) : ME l g y ws fr lo 0 0 av w0 sz v (fun w => w = w1) := by
  intro p e h1 h2 h3 s m args below h4 h5 h6 h7
  obtain ⟨n, oc, a1, a2, a3, ⟨b1, b2, b3⟩, a4⟩ := h p e h1 h2 h3 s m args below h4 h5 h6 h7
  exact ⟨n, oc, a1, a2, a3, ⟨b1, ⟨w1, rfl, b2⟩, b3⟩, a4⟩
theorem pickA {D : va_G} {cl : List vw_C} {r Y X pl : va_W} {H : Heap} (h : va_P D cl (r ++ (Y ++ pl)) H) (is : List Nat) (hs : is.map (fun i => (r ++ Y)[i]?) = X.map some) : va_P D cl (X ++ pl) H := pickT (by rw [List.append_assoc]; exact h) is hs
theorem pickAD {A : Nat → Prop} {r Y X pl : va_W} (h : va_D A (r ++ (Y ++ pl))) (is : List Nat) (hs : is.map (fun i => (r ++ Y)[i]?) = X.map some) (hn : va_nd is = true) : va_D A (X ++ pl) := pickTD (by rw [List.append_assoc]; exact h) is hn hs
theorem kIe (S : CallFix p m c cc nL s args Ts own) (hP : va_P g.1 vwCl X H) (hD : va_D A0 X) (hG : GG g A0 s s.heap) (hA : ∀ q, s.heap.size ≤ q → A0 q) (hS : va_S A0 s.heap H locs) (isC isR : List Nat) (hC : isC.map (fun i => X[i]?) = cx.map some) (hR : isR.map (fun i => X[i]?) = (isR.filterMap (fun i => X[i]?)).map some) (hnR : va_nd isR = true) (hdis : ∀ i ∈ isR, i ∉ isC) (hnC : va_nd isC = true)
    (hM : ME l g y ws fr lo mc ms (.ref b :: As) cx H.size none F) (hT : GoodIn Ts ws) (hw : ws = Cond.code y bytes maxL none :: ws') (iw : Nat) (hnw : nestW[iw]? = some (Cond.methodLinkNest own index y host)) (hini : (Cond.initialized y.cls).before args s = true) (hinst : (Cond.instanceMethod y).before args s = true) (hy : y.name = "<init>")
    (hd : y.cls ≠ "java/lang/invoke/MethodHandle" ∧ y.cls ≠ "java/lang/invoke/VarHandle" ∧ (parseMethodDescriptor y.desc).map (fun d => d.parameters.length) = some n) (hRm : fr + 1 ≤ R.frames ∧ 8 + (maxL + 11) + lo ≤ R.locals)
    (hst : st0 = As.reverse ++ .ref b :: rest) (hn : As.length = n) (hsize : ls.size = nL) (hW : (rest.map fun v => v.category).sum ≤ 8) (hdg : decode cc pc = .ok (.invokespecial index, 3)) (hf : cells + mc ≤ R.cells ∧ slots + ms ≤ R.slots)
    (kk : ∀ (w1 : va_W) (H1 : Heap) (locs1 : List Loc), F w1 → va_P g.1 vwCl (isR.filterMap (fun i => X[i]?) ++ w1) H1 → va_D A0 (isR.filterMap (fun i => X[i]?) ++ w1) → va_S A0 s.heap H1 locs1 → W p l e R s m args below meth c H1 locs1 (cells + mc) (slots + ms) Q (F0 m (pc + 3) ls rest)) : W p l e R s m args below meth c H locs cells slots Q (F0 m pc ls st0) := by
  have hP' : va_P g.1 vwCl (X ++ []) H := by rw [List.append_nil]; exact hP
  have hD' : va_D A0 (X ++ []) := by rw [List.append_nil]; exact hD
  have hF := va_freeP hD' hS hA isC hC
  have hPc : va_P g.1 vwCl cx H := pickm hP isC hC
  have hDc : va_D A0 cx := hD.sub isC hnC hC
  have hM' : ME l g y ws fr lo mc ms (.ref b :: As) (cx ++ []) H.size none F := by rw [List.append_nil]; exact hM
  exact kE_after hP' hD' hA hS isC isR hC hR hnR hdis (va_runIN (As := As) (rest := rest) S hM' ⟨va_cnB n S.2.2.2.2 hT hw rfl rfl (hG.1.2.1 _ (List.mem_of_getElem? hnw)) hini hd hRm, hy, hinst⟩ ⟨PC.blind, fun U hU hW => PC.of (by rw [List.append_nil]; exact hPc) (by rw [List.append_nil]; exact hDc) hG hS hF hU hW⟩ rfl hn hsize hst (lv_room hW) hdg hf) kk
theorem kIp (S : CallFix p m c cc nL s args Ts own) (hP : va_P g.1 vwCl X H) (hD : va_D A0 X) (hG : GG g A0 s s.heap) (hA : ∀ q, s.heap.size ≤ q → A0 q) (hS : va_S A0 s.heap H locs) (isC isR : List Nat) (hC : isC.map (fun i => X[i]?) = cx.map some) (hR : isR.map (fun i => X[i]?) = (isR.filterMap (fun i => X[i]?)).map some) (hnR : va_nd isR = true) (hdis : ∀ i ∈ isR, i ∉ isC) (hnC : va_nd isC = true)
    (hM : ME l g y ws fr lo mc ms (.ref b :: As) cx H.size none F) (hT : GoodIn Ts ws) (hw : ws = Cond.code y bytes maxL none :: ws') (hl : (Cond.methodLink own index y).before args s = true) (hini : (Cond.initialized y.cls).before args s = true) (hinst : (Cond.instanceMethod y).before args s = true) (hy : y.name = "<init>")
    (hd : y.cls ≠ "java/lang/invoke/MethodHandle" ∧ y.cls ≠ "java/lang/invoke/VarHandle" ∧ (parseMethodDescriptor y.desc).map (fun d => d.parameters.length) = some n) (hRm : fr + 1 ≤ R.frames ∧ 8 + (maxL + 11) + lo ≤ R.locals)
    (hst : st0 = As.reverse ++ .ref b :: rest) (hn : As.length = n) (hsize : ls.size = nL) (hW : (rest.map fun v => v.category).sum ≤ 8) (hdg : decode cc pc = .ok (.invokespecial index, 3)) (hf : cells + mc ≤ R.cells ∧ slots + ms ≤ R.slots)
    (kk : ∀ (w1 : va_W) (H1 : Heap) (locs1 : List Loc), F w1 → va_P g.1 vwCl (isR.filterMap (fun i => X[i]?) ++ w1) H1 → va_D A0 (isR.filterMap (fun i => X[i]?) ++ w1) → va_S A0 s.heap H1 locs1 → W p l e R s m args below meth c H1 locs1 (cells + mc) (slots + ms) Q (F0 m (pc + 3) ls rest)) : W p l e R s m args below meth c H locs cells slots Q (F0 m pc ls st0) := by
  have hP' : va_P g.1 vwCl (X ++ []) H := by rw [List.append_nil]; exact hP
  have hD' : va_D A0 (X ++ []) := by rw [List.append_nil]; exact hD
  have hF := va_freeP hD' hS hA isC hC
  have hPc : va_P g.1 vwCl cx H := pickm hP isC hC
  have hDc : va_D A0 cx := hD.sub isC hnC hC
  have hM' : ME l g y ws fr lo mc ms (.ref b :: As) (cx ++ []) H.size none F := by rw [List.append_nil]; exact hM
  exact kE_after hP' hD' hA hS isC isR hC hR hnR hdis (va_runI (As := As) (rest := rest) S hM' ⟨callB_of n S.2.2.2.2 hT hw rfl rfl hini hl hd hRm, hy, hinst⟩ ⟨PC.blind, fun U hU hW => PC.of (by rw [List.append_nil]; exact hPc) (by rw [List.append_nil]; exact hDc) hG hS hF hU hW⟩ rfl hn hsize hst (lv_room hW) hdg hf) kk
end CALLST
section NEWS
variable {p : Program} {l : Launch} {e : Env} {R : Room} {s : State} {m : MethodId} {args : Array Value} {below : List Frame} {meth : Method} {c : Code} {H : Heap} {locs : List Loc} {cells slots : Nat} {Q : State → Prop} {pc : Nat} {ls : Array Slot} {rest : List Value} {A : Nat → Prop} {g : GE} {cc : ByteArray} {ws : va_W}
theorem tc_i {x : Option ClassId} {a b : ClassId} (h1 : x = some a) (h2 : x = some b) : a = b := Option.some.inj (h1.symm.trans h2)
theorem tcl {s : State} (hG : GG g A s s.heap) {tys : List (ClassId × FieldType)} {cA : ClassId} {ty : FieldType} (hK : va_K g.1 vwCl (tysG g ++ [(cA, ty)]) s) : va_RA s cA ty := (hK.2 4 (cA, ty) rfl).2
theorem kn_newI (hexec : p.tables.exec = Jvm.exec) (hb : c.code = cc) (harr : (Cond.arrayClass .int).before args s = true) (hG : GG g A s s.heap) (hP : va_P g.1 vwCl ws H) (hD : va_D A ws) (hS : va_S A s.heap H locs) (hA : ∀ q, s.heap.size ≤ q → A q) {n : Int32} {N' : Nat} (hn : ¬ n < 0) (hN : n.toNatClampNeg = N') (hbytes : N' * 4 ≤ 536870912) (hcells : cells + 1 ≤ R.cells) (hslots : slots + N' ≤ R.slots) (hdg : decode cc pc = .ok (.newarray .int, 2))
    (kk : ∀ (q : Nat) (H1 : Heap), va_P g.1 vwCl (ws ++ [(q, .inl (g.2.1 0, N', .inl (fun _ => 0)))]) H1 → va_D A (ws ++ [(q, .inl (g.2.1 0, N', .inl (fun _ => 0)))]) → va_S A s.heap H1 locs → W p l e R s m args below meth c H1 locs (cells + 1) (slots + N') Q (F0 m (pc + 2) ls (.ref q :: rest))) : W p l e R s m args below meth c H locs cells slots Q (F0 m pc ls (.int n :: rest)) := by
  refine va_newa (atype := .int) hexec hb harr (ty := .int) rfl hG.1.1 hP hD hS hA (a0 := (N', .inl (fun _ => 0))) (fun _ => rfl) hn hN hbytes hcells hslots hdg (fun q cA H1 hK1 h1 h2 h3 => ?_)
  have e1 : s.vm.findClass "[I" = some cA := va_nm_int (tcl (tys := []) hG hK1)
  have e2 : s.vm.findClass "[I" = some (g.2.1 0) := va_nm_int ((hG.1.1.2 0 (g.2.1 0, .int) rfl).2)
  have e3 := tc_i e1 e2
  subst e3
  exact kk q H1 h1 h2 h3
theorem kn_newZ (hexec : p.tables.exec = Jvm.exec) (hb : c.code = cc) (harr : (Cond.arrayClass .boolean).before args s = true) (hG : GG g A s s.heap) (hP : va_P g.1 vwCl ws H) (hD : va_D A ws) (hS : va_S A s.heap H locs) (hA : ∀ q, s.heap.size ≤ q → A q) {n : Int32} {N' : Nat} (hn : ¬ n < 0) (hN : n.toNatClampNeg = N') (hbytes : N' * 1 ≤ 536870912) (hcells : cells + 1 ≤ R.cells) (hslots : slots + N' ≤ R.slots) (hdg : decode cc pc = .ok (.newarray .boolean, 2))
    (kk : ∀ (q : Nat) (H1 : Heap), va_P g.1 vwCl (ws ++ [(q, .inl (g.2.1 1, N', .inl (fun _ => 0)))]) H1 → va_D A (ws ++ [(q, .inl (g.2.1 1, N', .inl (fun _ => 0)))]) → va_S A s.heap H1 locs → W p l e R s m args below meth c H1 locs (cells + 1) (slots + N') Q (F0 m (pc + 2) ls (.ref q :: rest))) : W p l e R s m args below meth c H locs cells slots Q (F0 m pc ls (.int n :: rest)) := by
  refine va_newa (atype := .boolean) hexec hb harr (ty := .boolean) rfl hG.1.1 hP hD hS hA (a0 := (N', .inl (fun _ => 0))) (fun _ => rfl) hn hN hbytes hcells hslots hdg (fun q cA H1 hK1 h1 h2 h3 => ?_)
  have e1 : s.vm.findClass "[Z" = some cA := va_nm_boolean (tcl (tys := []) hG hK1)
  have e2 : s.vm.findClass "[Z" = some (g.2.1 1) := va_nm_boolean ((hG.1.1.2 1 (g.2.1 1, .boolean) rfl).2)
  have e3 := tc_i e1 e2
  subst e3
  exact kk q H1 h1 h2 h3
theorem kn_newJ (hexec : p.tables.exec = Jvm.exec) (hb : c.code = cc) (harr : (Cond.arrayClass .long).before args s = true) (hG : GG g A s s.heap) (hP : va_P g.1 vwCl ws H) (hD : va_D A ws) (hS : va_S A s.heap H locs) (hA : ∀ q, s.heap.size ≤ q → A q) {n : Int32} {N' : Nat} (hn : ¬ n < 0) (hN : n.toNatClampNeg = N') (hbytes : N' * 8 ≤ 536870912) (hcells : cells + 1 ≤ R.cells) (hslots : slots + N' ≤ R.slots) (hdg : decode cc pc = .ok (.newarray .long, 2))
    (kk : ∀ (q : Nat) (H1 : Heap), va_P g.1 vwCl (ws ++ [(q, .inl (g.2.1 3, N', .inr (.inl (fun _ => 0))))]) H1 → va_D A (ws ++ [(q, .inl (g.2.1 3, N', .inr (.inl (fun _ => 0))))]) → va_S A s.heap H1 locs → W p l e R s m args below meth c H1 locs (cells + 1) (slots + N') Q (F0 m (pc + 2) ls (.ref q :: rest))) : W p l e R s m args below meth c H locs cells slots Q (F0 m pc ls (.int n :: rest)) := by
  refine va_newa (atype := .long) hexec hb harr (ty := .long) rfl hG.1.1 hP hD hS hA (a0 := (N', .inr (.inl (fun _ => 0)))) (fun _ => rfl) hn hN hbytes hcells hslots hdg (fun q cA H1 hK1 h1 h2 h3 => ?_)
  have e1 : s.vm.findClass "[J" = some cA := va_nm_long (tcl (tys := []) hG hK1)
  have e2 : s.vm.findClass "[J" = some (g.2.1 3) := va_nm_long ((hG.1.1.2 3 (g.2.1 3, .long) rfl).2)
  have e3 := tc_i e1 e2
  subst e3
  exact kk q H1 h1 h2 h3
theorem kn_newS (hexec : p.tables.exec = Jvm.exec) (hb : c.code = cc) {own : String} {index : Nat} (hown : s.vm.findClass own = some m.cls) (hcl : (Cond.classLink own index "PortolanChart$Sheet").before args s = true) (hao : va_AO "PortolanChart$Sheet" s) (hG : GG g A s s.heap) (hP : va_P g.1 vwCl ws H) (hD : va_D A ws) (hS : va_S A s.heap H locs) (hA : ∀ q, s.heap.size ≤ q → A q) {n : Int32} {N' : Nat} (hn : ¬ n < 0) (hN : n.toNatClampNeg = N') (hbytes : N' * 4 ≤ 536870912) (hcells : cells + 1 ≤ R.cells) (hslots : slots + N' ≤ R.slots) (hdg : decode cc pc = .ok (.anewarray index, 3))
    (kk : ∀ (q : Nat) (H1 : Heap), va_P g.1 vwCl (ws ++ [(q, .inl (g.2.1 2, N', .inr (.inr (.inr (.inr (fun _ => none))))))]) H1 → va_D A (ws ++ [(q, .inl (g.2.1 2, N', .inr (.inr (.inr (.inr (fun _ => none))))))]) → va_S A s.heap H1 locs → W p l e R s m args below meth c H1 locs (cells + 1) (slots + N') Q (F0 m (pc + 3) ls (.ref q :: rest))) : W p l e R s m args below meth c H locs cells slots Q (F0 m pc ls (.int n :: rest)) := by
  refine va_newq hexec hb hown hcl hao hG.1.1 hP hD hS hA hn hN hbytes hcells hslots hdg (fun q cA H1 hK1 h1 h2 h3 => ?_)
  have e1 : s.vm.findClass "[LPortolanChart$Sheet;" = some cA := va_nmO (tcl (tys := []) hG hK1) rfl
  have e2 : s.vm.findClass "[LPortolanChart$Sheet;" = some (g.2.1 2) := va_nmO ((hG.1.1.2 2 (g.2.1 2, .object "PortolanChart$Sheet") rfl).2) rfl
  have e3 := tc_i e1 e2
  subst e3
  exact kk q H1 h1 h2 h3
end NEWS
