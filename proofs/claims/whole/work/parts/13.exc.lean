def XQ (g : GE) (w0 : va_W) (A : Nat → Prop) (cls : String) : String → State → State → Prop := fun E st t => E = cls ∧ (va_P g.1 vwCl w0 t.heap ∧ va_D A w0) ∧ va_F A st t
def QN : Array Value → State → Outcome → State → Prop := fun _ _ _ _ => False
def MX (l : Launch) (g : GE) (y : MethodName) (ws : List Cond) (fr lo : Nat) (av : List Value) (w0 : va_W) (sz : Nat) (cls : String) : Prop := vx_Met l y ws { frames := fr, cells := 1, slots := 6, locals := lo } (PC g av w0 sz) QN (XQ g w0 (va_A w0 sz) cls) 1 6 (va_A w0 sz)
abbrev RXh (fr lo : Nat) : Room := { frames := fr, cells := 1, slots := 6, locals := lo }
theorem MX.start {l : Launch} {g : GE} {y : MethodName} {ws ws' : List Cond} {fr lo : Nat} {av : List Value} {w0 : va_W} {sz : Nat} {cls : String} {cc : ByteArray} {maxL : Nat} {ret : Option FieldType} (hy : plainName y.cls = true) (hw : ws = Cond.code y cc maxL ret :: ws') (hlen : (lg_sl av).length ≤ maxL)
    (body : ∀ (p : Program) (e : Env) (s : State) (m : MethodId) (args : Array Value) (below : List Frame) (meth : Method) (c : Code) (A : Nat → Prop) (ls : Array Slot) (Q : State → Prop),
      Q = vx_MQ below QN (XQ g w0 A cls) args s 1 6 A → p.tables.exec = Jvm.exec → c.code = cc → meth.sig.returnType = ret → (∀ w ∈ ws, w.before args s = true) → s.vm.findClass y.cls = some m.cls → meth.locks = false → c.maxLocals = maxL → (∀ x ∈ c.exceptionTable.toList, False) → (∀ q, s.heap.size ≤ q → A q) → va_P g.1 vwCl w0 s.heap → va_D A w0 → GG g A s s.heap → va_S A s.heap s.heap [] → lv_has ls maxL (lv_args 0 av) → W p l e (RXh fr lo) s m args below meth c s.heap [] 0 0 Q (F0 m 0 ls [])) : MX l g y ws fr lo av w0 sz cls := by
  unfold MX
  refine vx_ofW (cc := cc) (maxL := maxL) (ret := ret) hy hw ?_
  intro p e s m args below meth c s₁ B hml hex hv
  obtain ⟨rfl, hsz, hP, hD0, hG⟩ := hv
  subst hsz
  have hts := atoms_spec (ws := ws) B.pre
  have hl := lv_entry av (n := maxL) hlen
  rw [lg_entry_eq]
  exact body p e s m _ below meth c (va_A w0 s.heap.size) _ _ rfl B.exec B.bytes B.returns hts (findClass_of_methodNamed B.named) B.notSynchronized hml hex (fun q h => Or.inr h) hP hD0.self hG va_S.rf hl
def MH (l : Launch) (g : GE) (y : MethodName) (ws : List Cond) (fr lo : Nat) (av : List Value) (w0 : va_W) (sz : Nat) (v : Option Value) (w1 : va_W) : Prop := Met l y ws { frames := fr, cells := 1, slots := 6, locals := lo } (PC g av w0 sz) (QR g v w1 (va_A w0 sz)) 1 6 (va_A w0 sz)
theorem met_of_vx {l : Launch} {y : MethodName} {ws : List Cond} {rm : Room} {Pc : Array Value → State → Prop} {Qc : Array Value → State → Outcome → State → Prop} {mc ms : Nat} {free : Addr → Prop} (h : vx_Met l y ws rm Pc Qc (fun _ _ _ => False) mc ms free) : Met l y ws rm Pc Qc mc ms free := by
  intro p e h1 h2 h3 s m args below h4 h5 h6 h7
  obtain ⟨n, oc, a1, a2, a3, a4⟩ := h p e h1 h2 h3 s m args below h4 h5 h6 h7
  refine ⟨n, oc, a1, a2, a3, ?_⟩
  rcases a4 with a4 | ⟨q, -, E, ce, L, hx, -⟩
  · exact a4
  · exact hx.elim
theorem MH.start {l : Launch} {g : GE} {y : MethodName} {ws ws' : List Cond} {fr lo : Nat} {av : List Value} {w0 : va_W} {sz : Nat} {v : Option Value} {w1 : va_W} {cc : ByteArray} {maxL : Nat} {ret : Option FieldType} {hh : List (Nat × Nat × Nat × Nat)} (hy : plainName y.cls = true) (hw : ws = Cond.codeWith y cc maxL ret hh :: ws') (hlen : (lg_sl av).length ≤ maxL)
    (body : ∀ (p : Program) (e : Env) (s : State) (m : MethodId) (args : Array Value) (below : List Frame) (meth : Method) (c : Code) (A : Nat → Prop) (ls : Array Slot) (Q : State → Prop),
      Q = vx_MQ below (QR g v w1 A) (fun _ _ _ => False) args s 1 6 A → p.tables.exec = Jvm.exec → c.code = cc → meth.sig.returnType = ret → (∀ w ∈ ws, w.before args s = true) → s.vm.findClass y.cls = some m.cls → meth.locks = false → c.maxLocals = maxL → c.exceptionTable.toList = tableOf hh → (∀ q, s.heap.size ≤ q → A q) → va_P g.1 vwCl w0 s.heap → va_D A w0 → GG g A s s.heap → va_S A s.heap s.heap [] → lv_has ls maxL (lv_args 0 av) → W p l e (RXh fr lo) s m args below meth c s.heap [] 0 0 Q (F0 m 0 ls [])) : MH l g y ws fr lo av w0 sz v w1 := by
  unfold MH
  refine met_of_vx (vx_ofWH (cc := cc) (maxL := maxL) (ret := ret) (hh := hh) hy hw ?_)
  intro p e s m args below meth c s₁ B hml hv
  obtain ⟨rfl, hsz, hP, hD0, hG⟩ := hv
  subst hsz
  have hts := atoms_spec (ws := ws) B.pre
  have hl := lv_entry av (n := maxL) hlen
  have hex := vx_table (x := y) B (hts _ (by rw [hw]; exact List.mem_cons_self))
  rw [lg_entry_eq]
  exact body p e s m _ below meth c (va_A w0 s.heap.size) _ _ rfl B.exec B.bytes B.returns hts (findClass_of_methodNamed B.named) B.notSynchronized hml hex (fun q h => Or.inr h) hP hD0.self hG va_S.rf hl
theorem tx_e {o k : Option String} {r : String} (h : tx o k = some r) : o = some r ∨ (o = none ∧ k = some r) := by
  cases o with
  | none => exact .inr ⟨rfl, h⟩
  | some c => exact .inl h
section CALLSX
variable {p : Program} {l : Launch} {e : Env} {R : Room} {s : State} {m : MethodId} {args : Array Value} {below : List Frame} {meth : Method} {c : Code} {H : Heap} {locs : List Loc} {cells slots : Nat} {Q : State → Prop} {pc : Nat} {ls : Array Slot} {rest st0 : List Value} {A0 A1 : Nat → Prop} {H0 : Heap} {a : Array Value} {free : Addr → Prop} {mc ms : Nat} {g : GE}
variable {y : MethodName} {bytes cc : ByteArray} {maxL nL n index fr lo : Nat} {ret : Option FieldType} {ws : List Cond} {Ts : List Cond} {own C host : String} {b : Addr} {As : List Value} {v : Option Value} {w0 wc wr w1 : va_W} {ws' : List Cond}
variable {w2 : va_W} {isC isR isB : List Nat} {cls : String}
theorem kx_throw {text : String} {ik is ic : Nat} (hQ : Q = vx_MQ below QN (XQ g w0 A0 cls) args s 1 6 A0) (hexec : p.tables.exec = Jvm.exec) (hb : c.code = cc) (hlt : l.stackTraces = false) (hown : s.vm.findClass own = some m.cls) (hfit : Bundle.fit cls = true) (hnames : ∀ n ∈ exNs, Bundle.fit n = true)
    (hk : (Cond.classLink own ik cls).before args s = true) (hini : (Cond.initialized cls).before args s = true) (hG : GG g A0 s s.heap) (iw k : Nat) (hw : strW[iw]? = some (own, is, text, k)) (hat1 : ∀ w ∈ (vx_atS own ic cls exNs).filter goodWord, w.before args s = true) (hat2 : ∀ w ∈ (vx_atS own ic cls exNs).filter (fun w => !goodWord w), w ∈ exW)
    (hgood : ∀ w ∈ Cond.classLink own ik cls :: Cond.initialized cls :: vx_atS own ic cls exNs, vx_ot w = true) (hP : va_P g.1 vwCl w0 H) (hD : va_D A0 w0) (hS : va_S A0 s.heap H locs) (hsize : ls.size = c.maxLocals) (hex : ∀ x ∈ c.exceptionTable.toList, False)
    (d0 : decode cc pc = .ok (.new ik, 3)) (d3 : decode cc (pc + 3) = .ok (.dup, 1)) (d4 : decode cc (pc + 4) = .ok (.ldc is, 2)) (d6 : decode cc (pc + 6) = .ok (.invokespecial ic, 3)) (d9 : decode cc (pc + 9) = .ok (.athrow, 1)) (hR : 6 ≤ R.frames ∧ 100 ≤ R.locals ∧ 1 ≤ R.cells ∧ 6 ≤ R.slots) (hrest : rest = []) (hlocks : meth.locks = false) : W p l e R s m args below meth c H locs 0 0 Q (F0 m pc ls rest) := by
  subst hQ
  subst hrest
  have hh := hG.1.2.2.1 _ (List.mem_of_getElem? hw)
  refine vx_throwS (names := exNs) (sa := adK g k) hexec hb hlt hown hfit hnames hk hini hh (vx_hat hat1 hat2 (fun w h => va_Nw.use (exW_tab w h) (hG.1.2.2.2.1 w h))) hgood hG.2.2.2.2.2.2.1 hG.2.2.2.2.2.2.2 hS hsize d0 d3 d4 d6 d9 (fun x hx => (hex x hx).elim) (by show 2 + 3 < R.frames; omega) (by show 0 + (13 * (2 + 1) + 43) ≤ R.locals; omega) (by omega) (by omega) hlocks ?_ hS.2.2 (by omega) (by omega)
  intro t _ hz hk2
  refine ⟨rfl, ⟨hP.kept (fun k q h => hk2 _ (vx_lt hP h)), hD⟩, Nat.le_trans hS.1 hz, fun q h1 h2 => by rw [hk2 q (Nat.lt_of_lt_of_le h1 hS.1)]; exact hS.2.1 q h1 h2⟩
theorem kx_throww {text : String} {ik is ic : Nat} (hQ : Q = vx_MQ below QN (XQ g w0 A0 cls) args s 1 6 A0) (hexec : p.tables.exec = Jvm.exec) (hb : c.code = cc) (hlt : l.stackTraces = false) (hown : s.vm.findClass own = some m.cls) (hfit : Bundle.fit cls = true) (hnames : ∀ n ∈ exNs, Bundle.fit n = true)
    (hk : (Cond.classLink own ik cls).before args s = true) (hini : (Cond.initialized cls).before args s = true) (hG : GG g A0 s s.heap) (iw k : Nat) (hw : strW[iw]? = some (own, is, text, k)) (hat1 : ∀ w ∈ (vx_atS own ic cls exNs).filter goodWord, w.before args s = true) (hat2 : ∀ w ∈ (vx_atS own ic cls exNs).filter (fun w => !goodWord w), w ∈ exW)
    (hgood : ∀ w ∈ Cond.classLink own ik cls :: Cond.initialized cls :: vx_atS own ic cls exNs, vx_ot w = true) (hP : va_P g.1 vwCl w0 H) (hD : va_D A0 w0) (hS : va_S A0 s.heap H locs) (hsize : ls.size = c.maxLocals) (hex : ∀ x ∈ c.exceptionTable.toList, False)
    (d0 : decode cc pc = .ok (.new ik, 3)) (d3 : decode cc (pc + 3) = .ok (.dup, 1)) (d4 : decode cc (pc + 4) = .ok (.ldc_w is, 3)) (d6 : decode cc (pc + 7) = .ok (.invokespecial ic, 3)) (d9 : decode cc (pc + 10) = .ok (.athrow, 1)) (hR : 6 ≤ R.frames ∧ 100 ≤ R.locals ∧ 1 ≤ R.cells ∧ 6 ≤ R.slots) (hrest : rest = []) (hlocks : meth.locks = false) : W p l e R s m args below meth c H locs 0 0 Q (F0 m pc ls rest) := by
  subst hQ
  subst hrest
  have hh := hG.1.2.2.1 _ (List.mem_of_getElem? hw)
  refine vx_throwSW (names := exNs) (sa := adK g k) hexec hb hlt hown hfit hnames hk hini hh (vx_hat hat1 hat2 (fun w h => va_Nw.use (exW_tab w h) (hG.1.2.2.2.1 w h))) hgood hG.2.2.2.2.2.2.1 hG.2.2.2.2.2.2.2 hS hsize d0 d3 d4 d6 d9 (fun x hx => (hex x hx).elim) (by show 2 + 3 < R.frames; omega) (by show 0 + (13 * (2 + 1) + 43) ≤ R.locals; omega) (by omega) (by omega) hlocks ?_ hS.2.2 (by omega) (by omega)
  intro t _ hz hk2
  refine ⟨rfl, ⟨hP.kept (fun k q h => hk2 _ (vx_lt hP h)), hD⟩, Nat.le_trans hS.1 hz, fun q h1 h2 => by rw [hk2 q (Nat.lt_of_lt_of_le h1 hS.1)]; exact hS.2.1 q h1 h2⟩
theorem kx_after (hP : va_P g.1 vwCl w0 H) (hD : va_D A0 w0) (hA : ∀ q, H0.size ≤ q → A0 q) (hS : va_S A0 H0 H locs) (isC isR isB : List Nat) (hC : isC.map (fun i => w0[i]?) = wc.map some) (hR : isR.map (fun i => w0[i]?) = (isR.filterMap (fun i => w0[i]?)).map some) (hB : isB.map (fun i => (isR.filterMap (fun i => w0[i]?) ++ wc)[i]?) = w0.map some) (hn : va_nd isR = true) (hnB : va_nd isB = true) (hdis : ∀ i ∈ isR, i ∉ isC)
    (hr : vx_Run p l e R s m args below meth c H locs cells slots 1 6 (F0 m pc ls st0) rest (QN a) (XQ g wc (va_A wc H.size) cls) (va_A wc H.size))
    (kk : ∀ (H1 : Heap) (locs1 : List Loc) (q : Addr) (ce : Cell), va_P g.1 vwCl w0 H1 → va_D A0 w0 → va_S A0 H0 H1 locs1 → H1[q]? = some ce → ce.vm = .none → s.vm.findClass cls = some ce.cls → vx_W p l e R s m args below meth c H1 locs1 (cells + 1) (slots + 6) Q (F0 m pc ls rest) q) : W p l e R s m args below meth c H locs cells slots Q (F0 m pc ls st0) := by
  have hF := va_free hD hS hA isC hC
  intro T hT X
  rcases hr T hT X with ⟨v, st₀, t, T', L, h0, X', hL, e1, e2, hf, st⟩ | ⟨q, st₀, t, T', L, E, ce, h0, X', hL, e1, e2, ⟨rfl, ⟨hP1, hD1⟩, hFF⟩, hce, hcv, hcl, st⟩
  · exact hf.elim
  · obtain ⟨k1, k2, k3⟩ := vx_keep h0 e1 hS (fun q _ h => hF q h) hF hL hFF
    rw [← e1] at hP1 hce
    obtain ⟨hP2, hD2⟩ := va_join hP hD isC isR hC hR hn hdis k2 hF hP1 hD1
    obtain ⟨t2, a1, b1⟩ := kk T'.heap (locs ++ L) q ce (pickm hP2 isB hB) hD k3 hce hcv hcl T' rfl X'
    exact ⟨t2, st.trans a1, b1⟩
theorem kVx (S : CallFix p m c cc nL s args Ts own) (hP : va_P g.1 vwCl w0 H) (hD : va_D A0 w0) (hG : GG g A0 s s.heap) (hA : ∀ q, s.heap.size ≤ q → A0 q) (hS : va_S A0 s.heap H locs) (isC isR isB : List Nat) (hC : isC.map (fun i => w0[i]?) = wc.map some) (hR : isR.map (fun i => w0[i]?) = (isR.filterMap (fun i => w0[i]?)).map some) (hB : isB.map (fun i => (isR.filterMap (fun i => w0[i]?) ++ wc)[i]?) = w0.map some) (hnC : va_nd isC = true) (hnR : va_nd isR = true) (hnB : va_nd isB = true) (hdis : ∀ i ∈ isR, i ∉ isC)
    (hM : MX l g y ws fr lo (.ref b :: As) wc H.size cls) (hT : GoodIn Ts (wsV own index C y ws)) (hw : ws = Cond.code y bytes maxL ret :: ws')
    (hd : y.cls = C ∧ y.cls ≠ "java/lang/invoke/MethodHandle" ∧ y.cls ≠ "java/lang/invoke/VarHandle" ∧ (parseMethodDescriptor y.desc).map (fun d => d.parameters.length) = some n) (hRm : fr + 1 ≤ R.frames ∧ 8 + (maxL + 11) + lo ≤ R.locals)
    (ci q0 : Nat) {q : vw_C} {fs : List Value} (hci : vwCl[ci]? = some q) (hqC : q.1 = C) (he : wc[q0]? = some (b, .inr (ci, fs)))
    (hst : st0 = As.reverse ++ .ref b :: rest) (hn : As.length = n) (hsize : ls.size = nL) (hW : (rest.map fun v => v.category).sum ≤ 8) (hdg : decode cc pc = .ok (.invokevirtual index, 3)) (hf : 1 ≤ R.cells ∧ 6 ≤ R.slots)
    (kk : ∀ (H1 : Heap) (locs1 : List Loc) (q : Addr) (ce : Cell), va_P g.1 vwCl w0 H1 → va_D A0 w0 → va_S A0 s.heap H1 locs1 → H1[q]? = some ce → ce.vm = .none → s.vm.findClass cls = some ce.cls → vx_W p l e R s m args below meth c H1 locs1 1 6 Q (F0 m pc ls rest) q) : W p l e R s m args below meth c H locs 0 0 Q (F0 m pc ls st0) := by
  have hF := va_free hD hS hA isC hC
  have hPc : va_P g.1 vwCl wc H := pickm hP isC hC
  have hDc : va_D A0 wc := hD.sub isC hnC hC
  refine kx_after hP hD hA hS isC isR isB hC hR hB hnR hnB hdis (vx_runV (As := As) (rest := rest) S hM (cwV n S.2.2.2.2 hT hw rfl rfl hd hRm) ⟨PC.blind, ?_, fun U hU hW => PC.of hPc hDc hG hS hF hU hW⟩ rfl hn hsize hst (lv_room hW) hdg (by simpa using hf)) kk
  have hr := va_recv hG.1.1 hPc hci he
  rw [hqC] at hr
  exact hr
theorem kSx (S : CallFix p m c cc nL s args Ts own) (hP : va_P g.1 vwCl w0 H) (hD : va_D A0 w0) (hG : GG g A0 s s.heap) (hA : ∀ q, s.heap.size ≤ q → A0 q) (hS : va_S A0 s.heap H locs) (isC isR isB : List Nat) (hC : isC.map (fun i => w0[i]?) = wc.map some) (hR : isR.map (fun i => w0[i]?) = (isR.filterMap (fun i => w0[i]?)).map some) (hB : isB.map (fun i => (isR.filterMap (fun i => w0[i]?) ++ wc)[i]?) = w0.map some) (hnC : va_nd isC = true) (hnR : va_nd isR = true) (hnB : va_nd isB = true) (hdis : ∀ i ∈ isR, i ∉ isC)
    (hM : MX l g y ws fr lo As wc H.size cls) (hT : GoodIn Ts (va_wsS own index y ws)) (hw : ws = Cond.code y bytes maxL ret :: ws')
    (hd : y.cls ≠ "java/lang/invoke/MethodHandle" ∧ y.cls ≠ "java/lang/invoke/VarHandle" ∧ (parseMethodDescriptor y.desc).map (fun d => d.parameters.length) = some n) (hRm : fr + 1 ≤ R.frames ∧ 8 + (maxL + 11) + lo ≤ R.locals)
    (hst : st0 = As.reverse ++ rest) (hn : As.length = n) (hsize : ls.size = nL) (hW : (rest.map fun v => v.category).sum ≤ 8) (hdg : decode cc pc = .ok (.invokestatic index, 3)) (hf : 1 ≤ R.cells ∧ 6 ≤ R.slots)
    (kk : ∀ (H1 : Heap) (locs1 : List Loc) (q : Addr) (ce : Cell), va_P g.1 vwCl w0 H1 → va_D A0 w0 → va_S A0 s.heap H1 locs1 → H1[q]? = some ce → ce.vm = .none → s.vm.findClass cls = some ce.cls → vx_W p l e R s m args below meth c H1 locs1 1 6 Q (F0 m pc ls rest) q) : W p l e R s m args below meth c H locs 0 0 Q (F0 m pc ls st0) := by
  have hF := va_free hD hS hA isC hC
  have hPc : va_P g.1 vwCl wc H := pickm hP isC hC
  have hDc : va_D A0 wc := hD.sub isC hnC hC
  exact kx_after hP hD hA hS isC isR isB hC hR hB hnR hnB hdis (vx_runS (As := As) (rest := rest) S hM (va_cwS n S.2.2.2.2 hT hw rfl rfl hd hRm) ⟨PC.blind, fun U hU hW => PC.of hPc hDc hG hS hF hU hW⟩ rfl hn hsize hst (lv_room hW) hdg (by simpa using hf)) kk
theorem kx_out {q : Addr} {ce : Cell} (hQ : Q = vx_MQ below QN (XQ g w0 A0 cls) args s 1 6 A0) (hex : ∀ x ∈ c.exceptionTable.toList, False) (hlocks : meth.locks = false) (hP : va_P g.1 vwCl w0 H) (hD : va_D A0 w0) (hS : va_S A0 s.heap H locs) (hce : H[q]? = some ce) (hcv : ce.vm = .none) (hcl : s.vm.findClass cls = some ce.cls) : vx_W p l e R s m args below meth c H locs 1 6 Q (F0 m pc ls rest) q := by
  subst hQ
  exact vx_out (fun x hx => (hex x hx).elim) hlocks hce hcv hcl (fun t ht _ => ⟨rfl, ⟨by rw [ht]; exact hP, hD⟩, hS.F ht⟩) hS.2.2 (Nat.le_refl _) (Nat.le_refl _)
theorem kh_i {x : Int32} (hQ : Q = vx_MQ below (QR g (some (.int x)) w1 A0) (fun _ _ _ => False) args s 1 6 A0) (hc : cells ≤ 1 ∧ slots ≤ 6) (hexec : p.tables.exec = Jvm.exec) (hb : c.code = cc) (hr : meth.sig.returnType = some .int) (hP : va_P g.1 vwCl w1 H) (hD : va_D A0 w1) (hS : va_S A0 s.heap H locs) (hdg : decode cc pc = .ok (.ireturn, 1)) (hlocks : meth.locks = false) : W p l e R s m args below meth c H locs cells slots Q (F0 m pc ls [.int x]) := by
  subst hQ
  refine W.widen hc.1 hc.2 (vx_ret ?_)
  exact W.iret hexec hb hr (fun t ht _ => ⟨rfl, ⟨by rw [ht]; exact hP, hD⟩, hS.F ht⟩) hS.2.2 hdg hlocks
end CALLSX
