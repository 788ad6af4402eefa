/-! The frame that all contracts stand in: what is given of the tables and the statics, a world of cells, a call. -/
abbrev GE : Type := va_G × (Nat → ClassId) × (Nat → Nat)
def tysG (g : GE) : List (ClassId × FieldType) := [(g.2.1 0, .int), (g.2.1 1, .boolean), (g.2.1 2, .object "PortolanChart$Sheet"), (g.2.1 3, .long)]
def nestW : List Cond := [.fieldLinkNest "PortolanChart" 110 "PortolanChart$Ground" "rows" "I" "PortolanChart", .fieldLinkNest "PortolanChart$Reader" 144 "PortolanChart$Ground" "rows" "I" "PortolanChart", .fieldLinkNest "PortolanChart" 115 "PortolanChart$Ground" "columns" "I" "PortolanChart", .fieldLinkNest "PortolanChart$Reader" 152 "PortolanChart$Ground" "columns" "I" "PortolanChart", .fieldLinkNest "PortolanChart" 122 "PortolanChart$Ground" "rivers" "I" "PortolanChart", .fieldLinkNest "PortolanChart$Reader" 180 "PortolanChart$Ground" "rivers" "I" "PortolanChart", .fieldLinkNest "PortolanChart" 101 "PortolanChart$Harbours" "count" "I" "PortolanChart", .fieldLinkNest "PortolanChart$Arranger" 68 "PortolanChart$Harbours" "count" "I" "PortolanChart", .fieldLinkNest "PortolanChart$Sheet" 112 "PortolanChart$Harbours" "count" "I" "PortolanChart", .fieldLinkNest "PortolanChart$Reader" 129 "PortolanChart$Harbours" "count" "I" "PortolanChart", .fieldLinkNest "PortolanChart" 134 "PortolanChart$Harbours" "reds" "I" "PortolanChart", .fieldLinkNest "PortolanChart$Sheet" 92 "PortolanChart$Harbours" "reds" "I" "PortolanChart", .fieldLinkNest "PortolanChart$Reader" 221 "PortolanChart$Harbours" "reds" "I" "PortolanChart", .fieldLinkNest "PortolanChart$Sheet" 115 "PortolanChart$Harbours" "direction" "[I" "PortolanChart", .fieldLinkNest "PortolanChart" 141 "PortolanChart$Journey" "count" "I" "PortolanChart", .fieldLinkNest "PortolanChart" 147 "PortolanChart$Journey" "next" "I" "PortolanChart", .fieldLinkNest "PortolanChart" 144 "PortolanChart$Journey" "turn" "I" "PortolanChart", .fieldLinkNest "PortolanChart$Arranger" 112 "PortolanChart$Journey" "turn" "I" "PortolanChart", .fieldLinkNest "PortolanChart$Reader" 274 "PortolanChart$Journey" "turn" "I" "PortolanChart", .fieldLinkNest "PortolanChart" 150 "PortolanChart$Journey" "quarters" "I" "PortolanChart", .fieldLinkNest "PortolanChart$Streams" 21 "PortolanChart$Sheet" "ground" "LPortolanChart$Ground;" "PortolanChart", .fieldLinkNest "PortolanChart" 106 "PortolanChart$Sheet" "ground" "LPortolanChart$Ground;" "PortolanChart", .fieldLinkNest "PortolanChart$Arranger" 88 "PortolanChart$Sheet" "ground" "LPortolanChart$Ground;" "PortolanChart", .fieldLinkNest "PortolanChart$Reader" 140 "PortolanChart$Sheet" "ground" "LPortolanChart$Ground;" "PortolanChart", .fieldLinkNest "PortolanChart" 97 "PortolanChart$Sheet" "harbours" "LPortolanChart$Harbours;" "PortolanChart", .fieldLinkNest "PortolanChart$Arranger" 62 "PortolanChart$Sheet" "harbours" "LPortolanChart$Harbours;" "PortolanChart", .fieldLinkNest "PortolanChart$Reader" 125 "PortolanChart$Sheet" "harbours" "LPortolanChart$Harbours;" "PortolanChart", .fieldLinkNest "PortolanChart" 137 "PortolanChart$Sheet" "journey" "LPortolanChart$Journey;" "PortolanChart", .fieldLinkNest "PortolanChart$Arranger" 108 "PortolanChart$Sheet" "journey" "LPortolanChart$Journey;" "PortolanChart", .fieldLinkNest "PortolanChart$Reader" 265 "PortolanChart$Sheet" "journey" "LPortolanChart$Journey;" "PortolanChart", .fieldLinkNest "PortolanChart" 153 "PortolanChart$History" "count" "I" "PortolanChart", .fieldLinkNest "PortolanChart$Reader" 240 "PortolanChart$Streams" "way" "[I" "PortolanChart", .fieldLinkNest "PortolanChart" 298 "PortolanChart$Streams" "way" "[I" "PortolanChart", .fieldLinkNest "PortolanChart$Reader" 243 "PortolanChart$Streams" "length" "I" "PortolanChart", .fieldLinkNest "PortolanChart" 301 "PortolanChart$Streams" "length" "I" "PortolanChart", .fieldLinkNest "PortolanChart" 259 "PortolanChart$Arranger" "bestCount" "I" "PortolanChart", .fieldLinkNest "PortolanChart" 256 "PortolanChart$Arranger" "bestTurning" "I" "PortolanChart", .fieldLinkNest "PortolanChart" 87 "PortolanChart$Reader" "draft" "LPortolanChart$Sheet;" "PortolanChart", .fieldLinkNest "PortolanChart" 64 "PortolanChart$Reader" "length" "I" "PortolanChart", .fieldLinkNest "PortolanChart" 81 "PortolanChart$Reader" "statement" "I" "PortolanChart", .fieldLinkNest "PortolanChart" 75 "PortolanChart$Reader" "error" "I" "PortolanChart", .fieldLinkNest "PortolanChart" 84 "PortolanChart$Reader" "errorAt" "I" "PortolanChart", .fieldLinkNest "PortolanChart$Ground" 32 "PortolanChart" "ROW_STEP" "[I" "PortolanChart", .fieldLinkNest "PortolanChart$Ground" 35 "PortolanChart" "COLUMN_STEP" "[I" "PortolanChart", .methodLinkNest "PortolanChart" 9 ⟨"PortolanChart$Sheet", "<init>", "()V"⟩ "PortolanChart", .methodLinkNest "PortolanChart$Sheet" 11 ⟨"PortolanChart$Ground", "<init>", "()V"⟩ "PortolanChart", .methodLinkNest "PortolanChart$Sheet" 20 ⟨"PortolanChart$Harbours", "<init>", "()V"⟩ "PortolanChart", .methodLinkNest "PortolanChart$Sheet" 27 ⟨"PortolanChart$Journey", "<init>", "()V"⟩ "PortolanChart", .methodLinkNest "PortolanChart" 18 ⟨"PortolanChart$History", "<init>", "()V"⟩ "PortolanChart", .methodLinkNest "PortolanChart" 25 ⟨"PortolanChart$Streams", "<init>", "()V"⟩ "PortolanChart", .methodLinkNest "PortolanChart" 32 ⟨"PortolanChart$Arranger", "<init>", "()V"⟩ "PortolanChart", .methodLinkNest "PortolanChart" 39 ⟨"PortolanChart$Reader", "<init>", "()V"⟩ "PortolanChart", .methodLinkNest "PortolanChart$Reader" 11 ⟨"PortolanChart$Sheet", "<init>", "()V"⟩ "PortolanChart", .methodLinkNest "PortolanChart$Reader" 20 ⟨"PortolanChart$Streams", "<init>", "()V"⟩ "PortolanChart", .methodLinkNest "PortolanChart$Journey" 36 ⟨"PortolanChart", "uprightTurn", "(I)I"⟩ "PortolanChart", .methodLinkNest "PortolanChart$Journey" 32 ⟨"PortolanChart", "quartersBetween", "(II)I"⟩ "PortolanChart", .methodLinkNest "PortolanChart$History" 21 ⟨"PortolanChart$Sheet", "<init>", "()V"⟩ "PortolanChart"]
def strW : List (String × Nat × String × Nat) := [("PortolanChart$Reader", 158, "chart", 0), ("PortolanChart$Reader", 168, "land", 1), ("PortolanChart$Reader", 170, "harbour", 2), ("PortolanChart$Reader", 172, "river", 3), ("PortolanChart$Reader", 174, "place", 4), ("PortolanChart$Reader", 176, "voyage", 5), ("PortolanChart$Reader", 178, "turn", 6), ("PortolanChart$Reader", 215, "red", 7), ("PortolanChart$Reader", 248, "up", 8), ("PortolanChart$Reader", 250, "right", 9), ("PortolanChart$Reader", 252, "down", 10), ("PortolanChart$Reader", 254, "left", 11), ("PortolanChart", 156, "no such number", 12), ("PortolanChart", 354, "no such cell", 13), ("PortolanChart", 186, "no such number of a cell", 14), ("PortolanChart", 356, "no such harbour", 15), ("PortolanChart", 206, "no such number of a harbour", 16), ("PortolanChart", 358, "no such river", 17), ("PortolanChart", 360, "no such direction", 18), ("PortolanChart", 362, "no such turn", 19), ("PortolanChart", 324, "no such place in the voyage", 20), ("PortolanChart", 339, "no such row", 21), ("PortolanChart", 364, "no such slot", 22), ("PortolanChartModel", 273, "chart", 0), ("PortolanChartModel", 292, "land", 1), ("PortolanChartModel", 297, "harbour", 2), ("PortolanChartModel", 325, "red", 7), ("PortolanChartModel", 302, "river", 3), ("PortolanChartModel", 307, "place", 4), ("PortolanChartModel", 333, "up", 8), ("PortolanChartModel", 335, "right", 9), ("PortolanChartModel", 337, "down", 10), ("PortolanChartModel", 339, "left", 11), ("PortolanChartModel", 312, "voyage", 5), ("PortolanChartModel", 317, "turn", 6)]
def rsI : Nat → Int32 := fun k => match k with | 0 => -1 | 1 => 0 | 2 => 1 | _ => 0
def csI : Nat → Int32 := fun k => match k with | 0 => 0 | 1 => 1 | 2 => 0 | _ => -1
def fRS : Nat → Value := fun k => .int (rsI k)
def fCS : Nat → Value := fun k => .int (csI k)
def kwLen : List Nat := [5, 4, 7, 5, 5, 6, 4, 3, 2, 5, 4, 4]
def kwByt : List (List Int32) := [[99, 104, 97, 114, 116], [108, 97, 110, 100], [104, 97, 114, 98, 111, 117, 114], [114, 105, 118, 101, 114], [112, 108, 97, 99, 101], [118, 111, 121, 97, 103, 101], [116, 117, 114, 110], [114, 101, 100], [117, 112], [114, 105, 103, 104, 116], [100, 111, 119, 110], [108, 101, 102, 116]]
def adK (g : GE) (i : Nat) : Nat := g.2.2 (10 + i)
def adV (g : GE) (i : Nat) : Nat := g.2.2 (60 + i)
/-- what is given of the heap but the world's own cells -/
def GH (g : GE) (A : Nat → Prop) (U : State) (H : Heap) : Prop := (va_Z "PortolanChart" "ROW_STEP" "[I" (.ref (g.2.2 0)) A U H ∧ va_T .int (g.2.2 0) 4 fRS A U H) ∧ (va_Z "PortolanChart" "COLUMN_STEP" "[I" (.ref (g.2.2 1)) A U H ∧ va_T .int (g.2.2 1) 4 fCS A U H) ∧ va_Z "java/lang/String" "COMPACT_STRINGS" "Z" (.int 1) A U H ∧ vk_S 12 kwLen kwByt (adK g) (adV g) A U H ∧ va_Z "jdk/internal/util/Preconditions" "SIOOBE_FORMATTER" "Ljava/util/function/BiFunction;" (.ref (g.2.2 2)) A U H ∧ vx_Zq Bundle.tN "UNASSIGNED_STACK" Bundle.steD A U H ∧ vx_Zq Bundle.tN "SUPPRESSED_SENTINEL" Bundle.listD A U H
/-- what is given of the tables -/
def GT (g : GE) (U : State) : Prop := va_K g.1 vwCl (tysG g) U ∧ (∀ w ∈ nestW, va_Nw w U) ∧ ∀ q ∈ strW, vk_R q.1 q.2.1 q.2.2.1 (adK g q.2.2.2) U
def GG (g : GE) (A : Nat → Prop) (U : State) (H : Heap) : Prop := GT g U ∧ GH g A U H
theorem nestW_tab : ∀ w ∈ nestW, w.onTables = true := by decide +kernel
theorem GT.same {g : GE} {u U : State} (hv : u.vm = U.vm) (h : GT g u) : GT g U := ⟨va_K.moved (by rw [hv]; exact Vm.Alike.refl _) h.1, fun w hw => va_Nw.same (nestW_tab w hw) hv (h.2.1 w hw), fun q hq => vk_R.same hv.symm (h.2.2 q hq)⟩
def nestOk : Cond → Bool
  | .fieldLinkNest .. => true
  | .methodLinkNest .. => true
  | _ => false
theorem nestW_ok : ∀ w ∈ nestW, nestOk w = true := by decide +kernel
theorem nest_warm {w : Cond} (hw : nestOk w = true) {s U : State} (hW : s.WarmedH U.vm) (h : va_Nw w s) : va_Nw w U := by
  cases w with
  | fieldLinkNest a i b n d hh => exact va_Nw.warmF hW h
  | methodLinkNest a i x hh => exact va_Nw.warmM hW h
  | _ => cases hw
theorem GT.warm {g : GE} {s U : State} (hW : s.WarmedH U.vm) (h : GT g s) : GT g U := ⟨va_K.moved hW.alike h.1, fun w hw => nest_warm (nestW_ok w hw) hW (h.2.1 w hw), fun q hq => vk_R.warm hW (h.2.2 q hq)⟩
theorem GH.moved {g : GE} {A : Nat → Prop} {u U : State} {H : Heap} (hvm : u.vm.Alike U.vm) (h : GH g A u H) : GH g A U H := ⟨⟨va_Z.moved hvm h.1.1, va_T.moved hvm h.1.2⟩, ⟨va_Z.moved hvm h.2.1.1, va_T.moved hvm h.2.1.2⟩, va_Z.moved hvm h.2.2.1, vk_S.moved hvm h.2.2.2.1, va_Z.moved hvm h.2.2.2.2.1, vx_Zq.moved hvm h.2.2.2.2.2.1, vx_Zq.moved hvm h.2.2.2.2.2.2⟩
theorem GH.kept {g : GE} {A : Nat → Prop} {U : State} {H H1 : Heap} (h : GH g A U H) (hq : ∀ a : Nat, a < H.size → ¬ A a → H1[a]? = H[a]?) : GH g A U H1 := ⟨⟨h.1.1.kept hq, h.1.2.kept hq⟩, ⟨h.2.1.1.kept hq, h.2.1.2.kept hq⟩, h.2.2.1.kept hq, h.2.2.2.1.kept hq, h.2.2.2.2.1.kept hq, h.2.2.2.2.2.1.kept hq, h.2.2.2.2.2.2.kept hq⟩
theorem GH.narrow {g : GE} {A B : Nat → Prop} {U : State} {H : Heap} (h : GH g A U H) (hAB : ∀ q, B q → A q) : GH g B U H := ⟨⟨h.1.1.narrow hAB, h.1.2.narrow hAB⟩, ⟨h.2.1.1.narrow hAB, h.2.1.2.narrow hAB⟩, h.2.2.1.narrow hAB, h.2.2.2.1.narrow hAB, h.2.2.2.2.1.narrow hAB, h.2.2.2.2.2.1.narrow hAB, h.2.2.2.2.2.2.narrow hAB⟩
/-- a start: the arguments, the heap's size, a world, what is given -/
def PC (g : GE) (av : List Value) (ws : va_W) (sz : Nat) : Array Value → State → Prop := va_Pc av (fun U => U.heap.size = sz ∧ va_P g.1 vwCl ws U.heap ∧ va_D (fun _ => True) ws ∧ GG g (va_A ws sz) U U.heap)
/-- an end: what is returned, the world then -/
def QR (g : GE) (v : Option Value) (w1 : va_W) (A : Nat → Prop) : Array Value → State → Outcome → State → Prop := fun _ st oc t => oc = .returned v ∧ (va_P g.1 vwCl w1 t.heap ∧ va_D A w1) ∧ va_F A st t
theorem pickm {D : va_G} {cl : List vw_C} {ws ws' : va_W} {H : Heap} (h : va_P D cl ws H) (is : List Nat) (hs : is.map (fun i => ws[i]?) = ws'.map some) : va_P D cl ws' H := by
  intro k q hq
  have h1 : (is.map (fun i => ws[i]?))[k]? = some (some q) := by rw [hs, List.getElem?_map, hq]; rfl
  rw [List.getElem?_map] at h1
  cases hi : is[k]? with
  | none => rw [hi] at h1; cases h1
  | some i => rw [hi] at h1; exact h i q (Option.some.inj h1)
theorem PC.blind {g : GE} {av : List Value} {ws : va_W} {sz : Nat} : FrameBlind (PC g av ws sz) := by
  intro a U gg mk h
  obtain ⟨h0, h1, h2, h3, h4, h5⟩ := h
  exact ⟨h0, h1, h2, h3, h4.same (u := U) (U := U.calling gg mk a) rfl, h5.moved (u := U) (U := U.calling gg mk a) (Vm.Alike.refl U.vm)⟩
theorem PC.of {g : GE} {av : List Value} {A : Nat → Prop} {wc : va_W} {s U : State} {H : Heap} {locs : List Loc} (hP : va_P g.1 vwCl wc H) (hD : va_D A wc) (hG : GG g A s s.heap) (hS : va_S A s.heap H locs) (hF : ∀ q, va_A wc H.size q → A q) (hU : U.heap = H) (hW : s.WarmedH U.vm) : PC g av wc H.size av.toArray U := by
  refine ⟨rfl, by rw [hU], by rw [hU]; exact hP, hD.weaken (fun _ _ _ _ => trivial), hG.1.warm hW, ?_⟩
  rw [hU]
  exact ((hG.2.kept hS.2.1).narrow hF).moved hW.alike
/-- the contract: from arguments and a world w0 it returns v, and the world is w1 -/
def MI (l : Launch) (g : GE) (y : MethodName) (ws : List Cond) (fr lo : Nat) (av : List Value) (w0 : va_W) (sz : Nat) (v : Option Value) (w1 : va_W) : Prop := Met l y ws { frames := fr, cells := 0, slots := 0, locals := lo } (PC g av w0 sz) (QR g v w1 (va_A w0 sz)) 0 0 (va_A w0 sz)
section CALLS
variable {p : Program} {l : Launch} {e : Env} {R : Room} {s : State} {m : MethodId} {args : Array Value} {below : List Frame} {meth : Method} {c : Code} {H : Heap} {locs : List Loc} {cells slots : Nat} {Q : State → Prop} {pc : Nat} {ls : Array Slot} {rest st0 : List Value} {A0 A1 : Nat → Prop} {H0 : Heap} {a : Array Value} {free : Addr → Prop} {mc ms : Nat} {g : GE}
theorem k_run {v : Option Value} {w1 : va_W} (hr : va_Run p l e R s m args below meth c H locs cells slots mc ms (F0 m pc ls st0) rest (QR g v w1 A1 a) free) (hS : va_S A0 H0 H locs) (hA : ∀ q, A1 q → A0 q) (hf : ∀ q, free q → A0 q)
    (kk : ∀ (H1 : Heap) (locs1 : List Loc), va_P g.1 vwCl w1 H1 → va_D A1 w1 → H.size ≤ H1.size → (∀ q : Nat, q < H.size → ¬ A1 q → H1[q]? = H[q]?) → va_S A0 H0 H1 locs1 → W p l e R s m args below meth c H1 locs1 (cells + mc) (slots + ms) Q (F0 m (pc + 3) ls (v.toList ++ rest))) : W p l e R s m args below meth c H locs cells slots Q (F0 m pc ls st0) := by
  intro T hT X
  obtain ⟨v', st₀, t, T', L, h0, X', hL, e1, e2, ⟨hv, ⟨hP1, hD1⟩, hz, hk⟩, st⟩ := hr T hT X
  cases hv
  rw [h0] at hz hk
  obtain ⟨t2, a1, b1⟩ := kk T'.heap (locs ++ L) (by rw [e1]; exact hP1) hD1 (by rw [e1]; exact hz) (fun q h1 h2 => by rw [e1]; exact hk q h1 h2)
    ⟨Nat.le_trans hS.1 (by rw [e1]; exact hz), fun q h1 h2 => by rw [e1, hk q (Nat.lt_of_lt_of_le h1 hS.1) (fun z => h2 (hA q z))]; exact hS.2.1 q h1 h2, fun q hq => by
      rcases List.mem_append.mp hq with h | h
      · exact hS.2.2 q h
      · exact hf _ (hL q h)⟩ T' rfl X'
  exact ⟨t2, st t2 a1, b1⟩
/-- behind a call: the other cells, and the callee's world -/
theorem k_after {v : Option Value} {w0 wc wr w1 : va_W} (hP : va_P g.1 vwCl w0 H) (hD : va_D A0 w0) (hA : ∀ q, H0.size ≤ q → A0 q) (hS : va_S A0 H0 H locs) (isC isR : List Nat) (hC : isC.map (fun i => w0[i]?) = wc.map some) (hR : isR.map (fun i => w0[i]?) = wr.map some) (hn : va_nd isR = true) (hdis : ∀ i ∈ isR, i ∉ isC)
    (hr : va_Run p l e R s m args below meth c H locs cells slots 0 0 (F0 m pc ls st0) rest (QR g v w1 (va_A wc H.size) a) (va_A wc H.size))
    (kk : ∀ (H1 : Heap) (locs1 : List Loc), va_P g.1 vwCl (wr ++ w1) H1 → va_D A0 (wr ++ w1) → va_S A0 H0 H1 locs1 → W p l e R s m args below meth c H1 locs1 cells slots Q (F0 m (pc + 3) ls (v.toList ++ rest))) : W p l e R s m args below meth c H locs cells slots Q (F0 m pc ls st0) := by
  have hF := va_free hD hS hA isC hC
  refine k_run hr hS hF hF (fun H1 locs1 hP1 hD1 _ hk hS1 => ?_)
  obtain ⟨hP2, hD2⟩ := va_join hP hD isC isR hC hR hn hdis hk hF hP1 hD1
  exact kk H1 locs1 hP2 hD2 hS1
variable {y : MethodName} {bytes cc : ByteArray} {maxL nL n index fr lo : Nat} {ret : Option FieldType} {ws : List Cond} {Ts : List Cond} {own C host : String} {b : Addr} {As : List Value} {v : Option Value} {w0 wc wr w1 : va_W} {ws' : List Cond}
/-- a virtual call -/
theorem kV (S : CallFix p m c cc nL s args Ts own) (hP : va_P g.1 vwCl w0 H) (hD : va_D A0 w0) (hG : GG g A0 s s.heap) (hA : ∀ q, s.heap.size ≤ q → A0 q) (hS : va_S A0 s.heap H locs) (isC isR : List Nat) (hC : isC.map (fun i => w0[i]?) = wc.map some) (hR : isR.map (fun i => w0[i]?) = wr.map some) (hnC : va_nd isC = true) (hnR : va_nd isR = true) (hdis : ∀ i ∈ isR, i ∉ isC)
    (hM : MI l g y ws fr lo (.ref b :: As) wc H.size v w1) (hT : GoodIn Ts (wsV own index C y ws)) (hw : ws = Cond.code y bytes maxL ret :: ws')
    (hd : y.cls = C ∧ y.cls ≠ "java/lang/invoke/MethodHandle" ∧ y.cls ≠ "java/lang/invoke/VarHandle" ∧ (parseMethodDescriptor y.desc).map (fun d => d.parameters.length) = some n) (hRm : fr + 1 ≤ R.frames ∧ 8 + (maxL + 11) + lo ≤ R.locals)
    (ci q0 : Nat) {q : vw_C} {fs : List Value} (hci : vwCl[ci]? = some q) (hqC : q.1 = C) (he : wc[q0]? = some (b, .inr (ci, fs)))
    (hst : st0 = As.reverse ++ .ref b :: rest) (hn : As.length = n) (hsize : ls.size = nL) (hW : (rest.map fun v => v.category).sum ≤ 8) (hdg : decode cc pc = .ok (.invokevirtual index, 3)) (hf : cells ≤ R.cells ∧ slots ≤ R.slots)
    (kk : ∀ (H1 : Heap) (locs1 : List Loc), va_P g.1 vwCl (wr ++ w1) H1 → va_D A0 (wr ++ w1) → va_S A0 s.heap H1 locs1 → W p l e R s m args below meth c H1 locs1 cells slots Q (F0 m (pc + 3) ls (v.toList ++ rest))) : W p l e R s m args below meth c H locs cells slots Q (F0 m pc ls st0) := by
  have hF := va_free hD hS hA isC hC
  have hPc : va_P g.1 vwCl wc H := pickm hP isC hC
  have hDc : va_D A0 wc := hD.sub isC hnC hC
  refine k_after hP hD hA hS isC isR hC hR hnR hdis (va_runV (As := As) (rest := rest) S hM (cwV n S.2.2.2.2 hT hw rfl rfl hd hRm) ⟨PC.blind, ?_, fun U hU hW => PC.of hPc hDc hG hS hF hU hW⟩ rfl hn hsize hst (lv_room hW) hdg hf) kk
  have hr := va_recv hG.1.1 hPc hci he
  rw [hqC] at hr
  exact hr
/-- a static call, of the own class or another's -/
theorem kS (S : CallFix p m c cc nL s args Ts own) (hP : va_P g.1 vwCl w0 H) (hD : va_D A0 w0) (hG : GG g A0 s s.heap) (hA : ∀ q, s.heap.size ≤ q → A0 q) (hS : va_S A0 s.heap H locs) (isC isR : List Nat) (hC : isC.map (fun i => w0[i]?) = wc.map some) (hR : isR.map (fun i => w0[i]?) = wr.map some) (hnC : va_nd isC = true) (hnR : va_nd isR = true) (hdis : ∀ i ∈ isR, i ∉ isC)
    (hM : MI l g y ws fr lo As wc H.size v w1) (hT : GoodIn Ts (va_wsS own index y ws)) (hw : ws = Cond.code y bytes maxL ret :: ws')
    (hd : y.cls ≠ "java/lang/invoke/MethodHandle" ∧ y.cls ≠ "java/lang/invoke/VarHandle" ∧ (parseMethodDescriptor y.desc).map (fun d => d.parameters.length) = some n) (hRm : fr + 1 ≤ R.frames ∧ 8 + (maxL + 11) + lo ≤ R.locals)
    (hst : st0 = As.reverse ++ rest) (hn : As.length = n) (hsize : ls.size = nL) (hW : (rest.map fun v => v.category).sum ≤ 8) (hdg : decode cc pc = .ok (.invokestatic index, 3)) (hf : cells ≤ R.cells ∧ slots ≤ R.slots)
    (kk : ∀ (H1 : Heap) (locs1 : List Loc), va_P g.1 vwCl (wr ++ w1) H1 → va_D A0 (wr ++ w1) → va_S A0 s.heap H1 locs1 → W p l e R s m args below meth c H1 locs1 cells slots Q (F0 m (pc + 3) ls (v.toList ++ rest))) : W p l e R s m args below meth c H locs cells slots Q (F0 m pc ls st0) := by
  have hF := va_free hD hS hA isC hC
  have hPc : va_P g.1 vwCl wc H := pickm hP isC hC
  have hDc : va_D A0 wc := hD.sub isC hnC hC
  exact k_after hP hD hA hS isC isR hC hR hnR hdis (va_runS (As := As) (rest := rest) S hM (va_cwS n S.2.2.2.2 hT hw rfl rfl hd hRm) ⟨PC.blind, fun U hU hW => PC.of hPc hDc hG hS hF hU hW⟩ rfl hn hsize hst (lv_room hW) hdg hf) kk
/-- a static call of a nest mate's private method -/
theorem kSN (S : CallFix p m c cc nL s args Ts own) (hP : va_P g.1 vwCl w0 H) (hD : va_D A0 w0) (hG : GG g A0 s s.heap) (hA : ∀ q, s.heap.size ≤ q → A0 q) (hS : va_S A0 s.heap H locs) (isC isR : List Nat) (hC : isC.map (fun i => w0[i]?) = wc.map some) (hR : isR.map (fun i => w0[i]?) = wr.map some) (hnC : va_nd isC = true) (hnR : va_nd isR = true) (hdis : ∀ i ∈ isR, i ∉ isC)
    (hM : MI l g y ws fr lo As wc H.size v w1) (hT : GoodIn Ts ws) (hw : ws = Cond.code y bytes maxL ret :: ws') (hl : va_Nw (.methodLinkNest own index y host) s) (hini : (Cond.initialized y.cls).before args s = true) (hstt : (Cond.static y).before args s = true)
    (hd : y.cls ≠ "java/lang/invoke/MethodHandle" ∧ y.cls ≠ "java/lang/invoke/VarHandle" ∧ (parseMethodDescriptor y.desc).map (fun d => d.parameters.length) = some n) (hRm : fr + 1 ≤ R.frames ∧ 8 + (maxL + 11) + lo ≤ R.locals)
    (hst : st0 = As.reverse ++ rest) (hn : As.length = n) (hsize : ls.size = nL) (hW : (rest.map fun v => v.category).sum ≤ 8) (hdg : decode cc pc = .ok (.invokestatic index, 3)) (hf : cells ≤ R.cells ∧ slots ≤ R.slots)
    (kk : ∀ (H1 : Heap) (locs1 : List Loc), va_P g.1 vwCl (wr ++ w1) H1 → va_D A0 (wr ++ w1) → va_S A0 s.heap H1 locs1 → W p l e R s m args below meth c H1 locs1 cells slots Q (F0 m (pc + 3) ls (v.toList ++ rest))) : W p l e R s m args below meth c H locs cells slots Q (F0 m pc ls st0) := by
  have hF := va_free hD hS hA isC hC
  have hPc : va_P g.1 vwCl wc H := pickm hP isC hC
  have hDc : va_D A0 wc := hD.sub isC hnC hC
  exact k_after hP hD hA hS isC isR hC hR hnR hdis (va_runSN (As := As) (rest := rest) S hM ⟨va_cnB n S.2.2.2.2 hT hw rfl rfl hl hini hd hRm, hstt, trivial⟩ ⟨PC.blind, fun U hU hW => PC.of hPc hDc hG hS hF hU hW⟩ rfl hn hsize hst (lv_room hW) hdg hf) kk
/-- the ends -/
theorem k_endi {cc : ByteArray} {x : Int32} (hexec : p.tables.exec = Jvm.exec) (hb : c.code = cc) (hr : meth.sig.returnType = some .int) (hP : va_P g.1 vwCl w1 H) (hD : va_D A0 w1) (hS : va_S A0 s.heap H locs) (hdg : decode cc pc = .ok (.ireturn, 1)) (hlocks : meth.locks = false) : W p l e R s m args below meth c H locs cells slots (MQ below (QR g (some (.int x)) w1 A0) args s cells slots A0) (F0 m pc ls [.int x]) :=
  W.iret hexec hb hr (fun t ht _ => ⟨rfl, ⟨by rw [ht]; exact hP, hD⟩, hS.F ht⟩) hS.2.2 hdg hlocks
theorem k_endz {cc : ByteArray} {x : Int32} (hexec : p.tables.exec = Jvm.exec) (hb : c.code = cc) (hr : meth.sig.returnType = some .boolean) (hx : x = 0 ∨ x = 1) (hP : va_P g.1 vwCl w1 H) (hD : va_D A0 w1) (hS : va_S A0 s.heap H locs) (hdg : decode cc pc = .ok (.ireturn, 1)) (hlocks : meth.locks = false) : W p l e R s m args below meth c H locs cells slots (MQ below (QR g (some (.int x)) w1 A0) args s cells slots A0) (F0 m pc ls [.int x]) :=
  W.zret hexec hb hr (by rcases hx with rfl | rfl <;> rfl) (fun t ht _ => ⟨rfl, ⟨by rw [ht]; exact hP, hD⟩, hS.F ht⟩) hS.2.2 hdg hlocks
theorem k_endv {cc : ByteArray} (hexec : p.tables.exec = Jvm.exec) (hb : c.code = cc) (hr : meth.sig.returnType = none) (hP : va_P g.1 vwCl w1 H) (hD : va_D A0 w1) (hS : va_S A0 s.heap H locs) (hdg : decode cc pc = .ok (.return_, 1)) (hlocks : meth.locks = false) : W p l e R s m args below meth c H locs cells slots (MQ below (QR g none w1 A0) args s cells slots A0) (F0 m pc ls []) :=
  W.vret hexec hb hr (fun t ht _ => ⟨rfl, ⟨by rw [ht]; exact hP, hD⟩, hS.F ht⟩) hS.2.2 hdg hlocks
end CALLS

/-! ===== the pure side: programs that may get stuck ===== -/
def bv {α β : Type} (a : α) (k : α → β) : β := k a
def ar {α : Type} (i : Int32) (n : Nat) (k : Option α) : Option α := if i < 0 ∨ n ≤ i.toNatClampNeg then none else k
def dv {α : Type} (y : Int32) (k : Option α) : Option α := if y = 0 then none else k
def zb {α : Type} (x : Int32) (k : Option α) : Option α := if x = 0 ∨ x = 1 then k else none
def bd {α β : Type} (o : Option α) (k : α → Option β) : Option β := match o with | none => none | some a => k a
theorem bv_e {α β : Type} {a : α} {k : α → Option β} {r : Option β} (h : bv a k = r) : ∃ x, x = a ∧ k x = r := ⟨a, rfl, h⟩
theorem ar_e {α : Type} {i : Int32} {n : Nat} {k : Option α} {r : α} (h : ar i n k = some r) : vp_in i n ∧ k = some r := by
  unfold ar at h
  split at h
  · cases h
  · exact ⟨by assumption, h⟩
theorem dv_e {α : Type} {y : Int32} {k : Option α} {r : α} (h : dv y k = some r) : ¬ y = 0 ∧ k = some r := by
  unfold dv at h
  split at h
  · cases h
  · exact ⟨by assumption, h⟩
theorem zb_e {α : Type} {y : Int32} {k : Option α} {r : α} (h : zb y k = some r) : (y = 0 ∨ y = 1) ∧ k = some r := by
  unfold zb at h
  split at h
  · exact ⟨by assumption, h⟩
  · cases h
theorem if_t {α : Type} {c : Prop} [Decidable c] {a b : Option α} {r : Option α} (h : c) (e : (if c then a else b) = r) : a = r := by rw [if_pos h] at e; exact e
theorem if_f {α : Type} {c : Prop} [Decidable c] {a b : Option α} {r : Option α} (h : ¬ c) (e : (if c then a else b) = r) : b = r := by rw [if_neg h] at e; exact e
def mr {α σ : Type} (o : Option α) : Option (σ ⊕ α) := match o with | none => none | some a => some (.inr a)
theorem mr_e {α σ : Type} {o : Option α} {q : σ ⊕ α} (h : mr o = some q) : ∃ a, q = .inr a ∧ o = some a := by
  cases o with
  | none => cases h
  | some a => exact ⟨a, (Option.some.inj h).symm, rfl⟩
theorem so_e {α : Type} {a b : α} (h : some a = some b) : b = a := (Option.some.inj h).symm

def bd1 {α0 β : Type} (o : Option (α0)) (k : α0 → Option β) : Option β := match o with | none => none | some a0 => k a0
theorem bd1_e {α0 β : Type} {o : Option (α0)} {k : α0 → Option β} {r : β} (h : bd1 o k = some r) : ∃ a0, o = some a0 ∧ k a0 = some r := by
  cases o with
  | none => cases h
  | some x => exact ⟨x, rfl, h⟩
def bd2 {α0 α1 β : Type} (o : Option (α0 × α1)) (k : α0 → α1 → Option β) : Option β := match o with | none => none | some (a0, a1) => k a0 a1
theorem bd2_e {α0 α1 β : Type} {o : Option (α0 × α1)} {k : α0 → α1 → Option β} {r : β} (h : bd2 o k = some r) : ∃ a0 a1, o = some (a0, a1) ∧ k a0 a1 = some r := by
  cases o with
  | none => cases h
  | some x => obtain ⟨a0, a1⟩ := x; exact ⟨a0, a1, rfl, h⟩
def bd3 {α0 α1 α2 β : Type} (o : Option (α0 × α1 × α2)) (k : α0 → α1 → α2 → Option β) : Option β := match o with | none => none | some (a0, a1, a2) => k a0 a1 a2
theorem bd3_e {α0 α1 α2 β : Type} {o : Option (α0 × α1 × α2)} {k : α0 → α1 → α2 → Option β} {r : β} (h : bd3 o k = some r) : ∃ a0 a1 a2, o = some (a0, a1, a2) ∧ k a0 a1 a2 = some r := by
  cases o with
  | none => cases h
  | some x => obtain ⟨a0, a1, a2⟩ := x; exact ⟨a0, a1, a2, rfl, h⟩
def bd4 {α0 α1 α2 α3 β : Type} (o : Option (α0 × α1 × α2 × α3)) (k : α0 → α1 → α2 → α3 → Option β) : Option β := match o with | none => none | some (a0, a1, a2, a3) => k a0 a1 a2 a3
theorem bd4_e {α0 α1 α2 α3 β : Type} {o : Option (α0 × α1 × α2 × α3)} {k : α0 → α1 → α2 → α3 → Option β} {r : β} (h : bd4 o k = some r) : ∃ a0 a1 a2 a3, o = some (a0, a1, a2, a3) ∧ k a0 a1 a2 a3 = some r := by
  cases o with
  | none => cases h
  | some x => obtain ⟨a0, a1, a2, a3⟩ := x; exact ⟨a0, a1, a2, a3, rfl, h⟩
def bd5 {α0 α1 α2 α3 α4 β : Type} (o : Option (α0 × α1 × α2 × α3 × α4)) (k : α0 → α1 → α2 → α3 → α4 → Option β) : Option β := match o with | none => none | some (a0, a1, a2, a3, a4) => k a0 a1 a2 a3 a4
theorem bd5_e {α0 α1 α2 α3 α4 β : Type} {o : Option (α0 × α1 × α2 × α3 × α4)} {k : α0 → α1 → α2 → α3 → α4 → Option β} {r : β} (h : bd5 o k = some r) : ∃ a0 a1 a2 a3 a4, o = some (a0, a1, a2, a3, a4) ∧ k a0 a1 a2 a3 a4 = some r := by
  cases o with
  | none => cases h
  | some x => obtain ⟨a0, a1, a2, a3, a4⟩ := x; exact ⟨a0, a1, a2, a3, a4, rfl, h⟩
def bd6 {α0 α1 α2 α3 α4 α5 β : Type} (o : Option (α0 × α1 × α2 × α3 × α4 × α5)) (k : α0 → α1 → α2 → α3 → α4 → α5 → Option β) : Option β := match o with | none => none | some (a0, a1, a2, a3, a4, a5) => k a0 a1 a2 a3 a4 a5
theorem bd6_e {α0 α1 α2 α3 α4 α5 β : Type} {o : Option (α0 × α1 × α2 × α3 × α4 × α5)} {k : α0 → α1 → α2 → α3 → α4 → α5 → Option β} {r : β} (h : bd6 o k = some r) : ∃ a0 a1 a2 a3 a4 a5, o = some (a0, a1, a2, a3, a4, a5) ∧ k a0 a1 a2 a3 a4 a5 = some r := by
  cases o with
  | none => cases h
  | some x => obtain ⟨a0, a1, a2, a3, a4, a5⟩ := x; exact ⟨a0, a1, a2, a3, a4, a5, rfl, h⟩
def bd7 {α0 α1 α2 α3 α4 α5 α6 β : Type} (o : Option (α0 × α1 × α2 × α3 × α4 × α5 × α6)) (k : α0 → α1 → α2 → α3 → α4 → α5 → α6 → Option β) : Option β := match o with | none => none | some (a0, a1, a2, a3, a4, a5, a6) => k a0 a1 a2 a3 a4 a5 a6
theorem bd7_e {α0 α1 α2 α3 α4 α5 α6 β : Type} {o : Option (α0 × α1 × α2 × α3 × α4 × α5 × α6)} {k : α0 → α1 → α2 → α3 → α4 → α5 → α6 → Option β} {r : β} (h : bd7 o k = some r) : ∃ a0 a1 a2 a3 a4 a5 a6, o = some (a0, a1, a2, a3, a4, a5, a6) ∧ k a0 a1 a2 a3 a4 a5 a6 = some r := by
  cases o with
  | none => cases h
  | some x => obtain ⟨a0, a1, a2, a3, a4, a5, a6⟩ := x; exact ⟨a0, a1, a2, a3, a4, a5, a6, rfl, h⟩
def bd8 {α0 α1 α2 α3 α4 α5 α6 α7 β : Type} (o : Option (α0 × α1 × α2 × α3 × α4 × α5 × α6 × α7)) (k : α0 → α1 → α2 → α3 → α4 → α5 → α6 → α7 → Option β) : Option β := match o with | none => none | some (a0, a1, a2, a3, a4, a5, a6, a7) => k a0 a1 a2 a3 a4 a5 a6 a7
theorem bd8_e {α0 α1 α2 α3 α4 α5 α6 α7 β : Type} {o : Option (α0 × α1 × α2 × α3 × α4 × α5 × α6 × α7)} {k : α0 → α1 → α2 → α3 → α4 → α5 → α6 → α7 → Option β} {r : β} (h : bd8 o k = some r) : ∃ a0 a1 a2 a3 a4 a5 a6 a7, o = some (a0, a1, a2, a3, a4, a5, a6, a7) ∧ k a0 a1 a2 a3 a4 a5 a6 a7 = some r := by
  cases o with
  | none => cases h
  | some x => obtain ⟨a0, a1, a2, a3, a4, a5, a6, a7⟩ := x; exact ⟨a0, a1, a2, a3, a4, a5, a6, a7, rfl, h⟩
def bd9 {α0 α1 α2 α3 α4 α5 α6 α7 α8 β : Type} (o : Option (α0 × α1 × α2 × α3 × α4 × α5 × α6 × α7 × α8)) (k : α0 → α1 → α2 → α3 → α4 → α5 → α6 → α7 → α8 → Option β) : Option β := match o with | none => none | some (a0, a1, a2, a3, a4, a5, a6, a7, a8) => k a0 a1 a2 a3 a4 a5 a6 a7 a8
theorem bd9_e {α0 α1 α2 α3 α4 α5 α6 α7 α8 β : Type} {o : Option (α0 × α1 × α2 × α3 × α4 × α5 × α6 × α7 × α8)} {k : α0 → α1 → α2 → α3 → α4 → α5 → α6 → α7 → α8 → Option β} {r : β} (h : bd9 o k = some r) : ∃ a0 a1 a2 a3 a4 a5 a6 a7 a8, o = some (a0, a1, a2, a3, a4, a5, a6, a7, a8) ∧ k a0 a1 a2 a3 a4 a5 a6 a7 a8 = some r := by
  cases o with
  | none => cases h
  | some x => obtain ⟨a0, a1, a2, a3, a4, a5, a6, a7, a8⟩ := x; exact ⟨a0, a1, a2, a3, a4, a5, a6, a7, a8, rfl, h⟩
def bd10 {α0 α1 α2 α3 α4 α5 α6 α7 α8 α9 β : Type} (o : Option (α0 × α1 × α2 × α3 × α4 × α5 × α6 × α7 × α8 × α9)) (k : α0 → α1 → α2 → α3 → α4 → α5 → α6 → α7 → α8 → α9 → Option β) : Option β := match o with | none => none | some (a0, a1, a2, a3, a4, a5, a6, a7, a8, a9) => k a0 a1 a2 a3 a4 a5 a6 a7 a8 a9
theorem bd10_e {α0 α1 α2 α3 α4 α5 α6 α7 α8 α9 β : Type} {o : Option (α0 × α1 × α2 × α3 × α4 × α5 × α6 × α7 × α8 × α9)} {k : α0 → α1 → α2 → α3 → α4 → α5 → α6 → α7 → α8 → α9 → Option β} {r : β} (h : bd10 o k = some r) : ∃ a0 a1 a2 a3 a4 a5 a6 a7 a8 a9, o = some (a0, a1, a2, a3, a4, a5, a6, a7, a8, a9) ∧ k a0 a1 a2 a3 a4 a5 a6 a7 a8 a9 = some r := by
  cases o with
  | none => cases h
  | some x => obtain ⟨a0, a1, a2, a3, a4, a5, a6, a7, a8, a9⟩ := x; exact ⟨a0, a1, a2, a3, a4, a5, a6, a7, a8, a9, rfl, h⟩
def bd11 {α0 α1 α2 α3 α4 α5 α6 α7 α8 α9 α10 β : Type} (o : Option (α0 × α1 × α2 × α3 × α4 × α5 × α6 × α7 × α8 × α9 × α10)) (k : α0 → α1 → α2 → α3 → α4 → α5 → α6 → α7 → α8 → α9 → α10 → Option β) : Option β := match o with | none => none | some (a0, a1, a2, a3, a4, a5, a6, a7, a8, a9, a10) => k a0 a1 a2 a3 a4 a5 a6 a7 a8 a9 a10
theorem bd11_e {α0 α1 α2 α3 α4 α5 α6 α7 α8 α9 α10 β : Type} {o : Option (α0 × α1 × α2 × α3 × α4 × α5 × α6 × α7 × α8 × α9 × α10)} {k : α0 → α1 → α2 → α3 → α4 → α5 → α6 → α7 → α8 → α9 → α10 → Option β} {r : β} (h : bd11 o k = some r) : ∃ a0 a1 a2 a3 a4 a5 a6 a7 a8 a9 a10, o = some (a0, a1, a2, a3, a4, a5, a6, a7, a8, a9, a10) ∧ k a0 a1 a2 a3 a4 a5 a6 a7 a8 a9 a10 = some r := by
  cases o with
  | none => cases h
  | some x => obtain ⟨a0, a1, a2, a3, a4, a5, a6, a7, a8, a9, a10⟩ := x; exact ⟨a0, a1, a2, a3, a4, a5, a6, a7, a8, a9, a10, rfl, h⟩
def bd12 {α0 α1 α2 α3 α4 α5 α6 α7 α8 α9 α10 α11 β : Type} (o : Option (α0 × α1 × α2 × α3 × α4 × α5 × α6 × α7 × α8 × α9 × α10 × α11)) (k : α0 → α1 → α2 → α3 → α4 → α5 → α6 → α7 → α8 → α9 → α10 → α11 → Option β) : Option β := match o with | none => none | some (a0, a1, a2, a3, a4, a5, a6, a7, a8, a9, a10, a11) => k a0 a1 a2 a3 a4 a5 a6 a7 a8 a9 a10 a11
theorem bd12_e {α0 α1 α2 α3 α4 α5 α6 α7 α8 α9 α10 α11 β : Type} {o : Option (α0 × α1 × α2 × α3 × α4 × α5 × α6 × α7 × α8 × α9 × α10 × α11)} {k : α0 → α1 → α2 → α3 → α4 → α5 → α6 → α7 → α8 → α9 → α10 → α11 → Option β} {r : β} (h : bd12 o k = some r) : ∃ a0 a1 a2 a3 a4 a5 a6 a7 a8 a9 a10 a11, o = some (a0, a1, a2, a3, a4, a5, a6, a7, a8, a9, a10, a11) ∧ k a0 a1 a2 a3 a4 a5 a6 a7 a8 a9 a10 a11 = some r := by
  cases o with
  | none => cases h
  | some x => obtain ⟨a0, a1, a2, a3, a4, a5, a6, a7, a8, a9, a10, a11⟩ := x; exact ⟨a0, a1, a2, a3, a4, a5, a6, a7, a8, a9, a10, a11, rfl, h⟩
/-- a loop over 1 values: once round gives the next values (inl) or the end (inr) -/
def it1 {α0 ρ : Type} (f : α0 → Option ((α0) ⊕ ρ)) : Nat → α0 → Option ρ
  | 0, _ => none
  | n + 1, a0 => match f a0 with
    | none => none
    | some (.inl b0) => it1 f n b0
    | some (.inr r) => some r
theorem it1_mono {α0 ρ : Type} {f : α0 → Option ((α0) ⊕ ρ)} : ∀ (n k : Nat) (a0 : α0) (r : ρ), it1 f n a0 = some r → it1 f (n + k) a0 = some r := by
  intro n
  induction n with
  | zero => intro k a0 r h; cases h
  | succ n ih =>
    intro k a0 r h
    rw [Nat.succ_add]
    unfold it1 at h ⊢
    split at h
    · cases h
    · rename_i e; first | exact ih _ _ _ h | (rw [e]; exact ih _ _ _ h)
    · rename_i e; first | exact h | (rw [e]; exact h)
noncomputable def lq1 {α0 ρ : Type} (f : α0 → Option ((α0) ⊕ ρ)) (a0 : α0) : Option ρ := @dite (Option ρ) (∃ r n, it1 f n a0 = some r) (Classical.propDecidable _) (fun h => some h.choose) (fun _ => none)
theorem lq1_e {α0 ρ : Type} {f : α0 → Option ((α0) ⊕ ρ)} {a0 : α0} {r : ρ} (h : lq1 f a0 = some r) : ∃ n, it1 f n a0 = some r := by
  unfold lq1 at h
  by_cases q : ∃ r n, it1 f n a0 = some r
  · rw [dif_pos q] at h
    obtain ⟨n, hn⟩ := q.choose_spec
    rw [Option.some.inj h] at hn
    exact ⟨n, hn⟩
  · rw [dif_neg q] at h
    cases h
theorem lq1_i {α0 ρ : Type} {f : α0 → Option ((α0) ⊕ ρ)} {a0 : α0} {r : ρ} {n : Nat} (h : it1 f n a0 = some r) : lq1 f a0 = some r := by
  have q : ∃ r n, it1 f n a0 = some r := ⟨r, n, h⟩
  unfold lq1
  rw [dif_pos q]
  obtain ⟨n2, h2⟩ := q.choose_spec
  have e1 := it1_mono n n2 a0 r h
  have e2 := it1_mono n2 n a0 _ h2
  rw [Nat.add_comm] at e2
  rw [e1] at e2
  exact e2.symm
theorem it1_0 {α0 ρ : Type} {f : α0 → Option ((α0) ⊕ ρ)} {a0 : α0} {r : ρ} {P : Prop} (h : it1 f 0 a0 = some r) : P := by cases h
def itk1 {α0 ρ : Type} (f : α0 → Option ((α0) ⊕ ρ)) (n : Nat) (q : (α0) ⊕ ρ) (r : ρ) : Prop := match q with
  | .inl b0 => it1 f n b0 = some r
  | .inr x => x = r
theorem it1_e {α0 ρ : Type} {f : α0 → Option ((α0) ⊕ ρ)} {n : Nat} {a0 : α0} {r : ρ} (h : it1 f (n + 1) a0 = some r) : ∃ q, f a0 = some q ∧ itk1 f n q r := by
  unfold it1 at h
  split at h
  · cases h
  · rename_i e; exact ⟨_, e, h⟩
  · rename_i e; exact ⟨_, e, Option.some.inj h⟩
/-- a loop over 2 values: once round gives the next values (inl) or the end (inr) -/
def it2 {α0 α1 ρ : Type} (f : α0 → α1 → Option ((α0 × α1) ⊕ ρ)) : Nat → α0 → α1 → Option ρ
  | 0, _, _ => none
  | n + 1, a0, a1 => match f a0 a1 with
    | none => none
    | some (.inl (b0, b1)) => it2 f n b0 b1
    | some (.inr r) => some r
theorem it2_mono {α0 α1 ρ : Type} {f : α0 → α1 → Option ((α0 × α1) ⊕ ρ)} : ∀ (n k : Nat) (a0 : α0) (a1 : α1) (r : ρ), it2 f n a0 a1 = some r → it2 f (n + k) a0 a1 = some r := by
  intro n
  induction n with
  | zero => intro k a0 a1 r h; cases h
  | succ n ih =>
    intro k a0 a1 r h
    rw [Nat.succ_add]
    unfold it2 at h ⊢
    split at h
    · cases h
    · rename_i e; first | exact ih _ _ _ _ h | (rw [e]; exact ih _ _ _ _ h)
    · rename_i e; first | exact h | (rw [e]; exact h)
noncomputable def lq2 {α0 α1 ρ : Type} (f : α0 → α1 → Option ((α0 × α1) ⊕ ρ)) (a0 : α0) (a1 : α1) : Option ρ := @dite (Option ρ) (∃ r n, it2 f n a0 a1 = some r) (Classical.propDecidable _) (fun h => some h.choose) (fun _ => none)
theorem lq2_e {α0 α1 ρ : Type} {f : α0 → α1 → Option ((α0 × α1) ⊕ ρ)} {a0 : α0} {a1 : α1} {r : ρ} (h : lq2 f a0 a1 = some r) : ∃ n, it2 f n a0 a1 = some r := by
  unfold lq2 at h
  by_cases q : ∃ r n, it2 f n a0 a1 = some r
  · rw [dif_pos q] at h
    obtain ⟨n, hn⟩ := q.choose_spec
    rw [Option.some.inj h] at hn
    exact ⟨n, hn⟩
  · rw [dif_neg q] at h
    cases h
theorem lq2_i {α0 α1 ρ : Type} {f : α0 → α1 → Option ((α0 × α1) ⊕ ρ)} {a0 : α0} {a1 : α1} {r : ρ} {n : Nat} (h : it2 f n a0 a1 = some r) : lq2 f a0 a1 = some r := by
  have q : ∃ r n, it2 f n a0 a1 = some r := ⟨r, n, h⟩
  unfold lq2
  rw [dif_pos q]
  obtain ⟨n2, h2⟩ := q.choose_spec
  have e1 := it2_mono n n2 a0 a1 r h
  have e2 := it2_mono n2 n a0 a1 _ h2
  rw [Nat.add_comm] at e2
  rw [e1] at e2
  exact e2.symm
theorem it2_0 {α0 α1 ρ : Type} {f : α0 → α1 → Option ((α0 × α1) ⊕ ρ)} {a0 : α0} {a1 : α1} {r : ρ} {P : Prop} (h : it2 f 0 a0 a1 = some r) : P := by cases h
def itk2 {α0 α1 ρ : Type} (f : α0 → α1 → Option ((α0 × α1) ⊕ ρ)) (n : Nat) (q : (α0 × α1) ⊕ ρ) (r : ρ) : Prop := match q with
  | .inl (b0, b1) => it2 f n b0 b1 = some r
  | .inr x => x = r
theorem it2_e {α0 α1 ρ : Type} {f : α0 → α1 → Option ((α0 × α1) ⊕ ρ)} {n : Nat} {a0 : α0} {a1 : α1} {r : ρ} (h : it2 f (n + 1) a0 a1 = some r) : ∃ q, f a0 a1 = some q ∧ itk2 f n q r := by
  unfold it2 at h
  split at h
  · cases h
  · rename_i e; exact ⟨_, e, h⟩
  · rename_i e; exact ⟨_, e, Option.some.inj h⟩
/-- a loop over 3 values: once round gives the next values (inl) or the end (inr) -/
def it3 {α0 α1 α2 ρ : Type} (f : α0 → α1 → α2 → Option ((α0 × α1 × α2) ⊕ ρ)) : Nat → α0 → α1 → α2 → Option ρ
  | 0, _, _, _ => none
  | n + 1, a0, a1, a2 => match f a0 a1 a2 with
    | none => none
    | some (.inl (b0, b1, b2)) => it3 f n b0 b1 b2
    | some (.inr r) => some r
theorem it3_mono {α0 α1 α2 ρ : Type} {f : α0 → α1 → α2 → Option ((α0 × α1 × α2) ⊕ ρ)} : ∀ (n k : Nat) (a0 : α0) (a1 : α1) (a2 : α2) (r : ρ), it3 f n a0 a1 a2 = some r → it3 f (n + k) a0 a1 a2 = some r := by
  intro n
  induction n with
  | zero => intro k a0 a1 a2 r h; cases h
  | succ n ih =>
    intro k a0 a1 a2 r h
    rw [Nat.succ_add]
    unfold it3 at h ⊢
    split at h
    · cases h
    · rename_i e; first | exact ih _ _ _ _ _ h | (rw [e]; exact ih _ _ _ _ _ h)
    · rename_i e; first | exact h | (rw [e]; exact h)
noncomputable def lq3 {α0 α1 α2 ρ : Type} (f : α0 → α1 → α2 → Option ((α0 × α1 × α2) ⊕ ρ)) (a0 : α0) (a1 : α1) (a2 : α2) : Option ρ := @dite (Option ρ) (∃ r n, it3 f n a0 a1 a2 = some r) (Classical.propDecidable _) (fun h => some h.choose) (fun _ => none)
theorem lq3_e {α0 α1 α2 ρ : Type} {f : α0 → α1 → α2 → Option ((α0 × α1 × α2) ⊕ ρ)} {a0 : α0} {a1 : α1} {a2 : α2} {r : ρ} (h : lq3 f a0 a1 a2 = some r) : ∃ n, it3 f n a0 a1 a2 = some r := by
  unfold lq3 at h
  by_cases q : ∃ r n, it3 f n a0 a1 a2 = some r
  · rw [dif_pos q] at h
    obtain ⟨n, hn⟩ := q.choose_spec
    rw [Option.some.inj h] at hn
    exact ⟨n, hn⟩
  · rw [dif_neg q] at h
    cases h
theorem lq3_i {α0 α1 α2 ρ : Type} {f : α0 → α1 → α2 → Option ((α0 × α1 × α2) ⊕ ρ)} {a0 : α0} {a1 : α1} {a2 : α2} {r : ρ} {n : Nat} (h : it3 f n a0 a1 a2 = some r) : lq3 f a0 a1 a2 = some r := by
  have q : ∃ r n, it3 f n a0 a1 a2 = some r := ⟨r, n, h⟩
  unfold lq3
  rw [dif_pos q]
  obtain ⟨n2, h2⟩ := q.choose_spec
  have e1 := it3_mono n n2 a0 a1 a2 r h
  have e2 := it3_mono n2 n a0 a1 a2 _ h2
  rw [Nat.add_comm] at e2
  rw [e1] at e2
  exact e2.symm
theorem it3_0 {α0 α1 α2 ρ : Type} {f : α0 → α1 → α2 → Option ((α0 × α1 × α2) ⊕ ρ)} {a0 : α0} {a1 : α1} {a2 : α2} {r : ρ} {P : Prop} (h : it3 f 0 a0 a1 a2 = some r) : P := by cases h
def itk3 {α0 α1 α2 ρ : Type} (f : α0 → α1 → α2 → Option ((α0 × α1 × α2) ⊕ ρ)) (n : Nat) (q : (α0 × α1 × α2) ⊕ ρ) (r : ρ) : Prop := match q with
  | .inl (b0, b1, b2) => it3 f n b0 b1 b2 = some r
  | .inr x => x = r
theorem it3_e {α0 α1 α2 ρ : Type} {f : α0 → α1 → α2 → Option ((α0 × α1 × α2) ⊕ ρ)} {n : Nat} {a0 : α0} {a1 : α1} {a2 : α2} {r : ρ} (h : it3 f (n + 1) a0 a1 a2 = some r) : ∃ q, f a0 a1 a2 = some q ∧ itk3 f n q r := by
  unfold it3 at h
  split at h
  · cases h
  · rename_i e; exact ⟨_, e, h⟩
  · rename_i e; exact ⟨_, e, Option.some.inj h⟩
/-- a loop over 4 values: once round gives the next values (inl) or the end (inr) -/
def it4 {α0 α1 α2 α3 ρ : Type} (f : α0 → α1 → α2 → α3 → Option ((α0 × α1 × α2 × α3) ⊕ ρ)) : Nat → α0 → α1 → α2 → α3 → Option ρ
  | 0, _, _, _, _ => none
  | n + 1, a0, a1, a2, a3 => match f a0 a1 a2 a3 with
    | none => none
    | some (.inl (b0, b1, b2, b3)) => it4 f n b0 b1 b2 b3
    | some (.inr r) => some r
theorem it4_mono {α0 α1 α2 α3 ρ : Type} {f : α0 → α1 → α2 → α3 → Option ((α0 × α1 × α2 × α3) ⊕ ρ)} : ∀ (n k : Nat) (a0 : α0) (a1 : α1) (a2 : α2) (a3 : α3) (r : ρ), it4 f n a0 a1 a2 a3 = some r → it4 f (n + k) a0 a1 a2 a3 = some r := by
  intro n
  induction n with
  | zero => intro k a0 a1 a2 a3 r h; cases h
  | succ n ih =>
    intro k a0 a1 a2 a3 r h
    rw [Nat.succ_add]
    unfold it4 at h ⊢
    split at h
    · cases h
    · rename_i e; first | exact ih _ _ _ _ _ _ h | (rw [e]; exact ih _ _ _ _ _ _ h)
    · rename_i e; first | exact h | (rw [e]; exact h)
noncomputable def lq4 {α0 α1 α2 α3 ρ : Type} (f : α0 → α1 → α2 → α3 → Option ((α0 × α1 × α2 × α3) ⊕ ρ)) (a0 : α0) (a1 : α1) (a2 : α2) (a3 : α3) : Option ρ := @dite (Option ρ) (∃ r n, it4 f n a0 a1 a2 a3 = some r) (Classical.propDecidable _) (fun h => some h.choose) (fun _ => none)
theorem lq4_e {α0 α1 α2 α3 ρ : Type} {f : α0 → α1 → α2 → α3 → Option ((α0 × α1 × α2 × α3) ⊕ ρ)} {a0 : α0} {a1 : α1} {a2 : α2} {a3 : α3} {r : ρ} (h : lq4 f a0 a1 a2 a3 = some r) : ∃ n, it4 f n a0 a1 a2 a3 = some r := by
  unfold lq4 at h
  by_cases q : ∃ r n, it4 f n a0 a1 a2 a3 = some r
  · rw [dif_pos q] at h
    obtain ⟨n, hn⟩ := q.choose_spec
    rw [Option.some.inj h] at hn
    exact ⟨n, hn⟩
  · rw [dif_neg q] at h
    cases h
theorem lq4_i {α0 α1 α2 α3 ρ : Type} {f : α0 → α1 → α2 → α3 → Option ((α0 × α1 × α2 × α3) ⊕ ρ)} {a0 : α0} {a1 : α1} {a2 : α2} {a3 : α3} {r : ρ} {n : Nat} (h : it4 f n a0 a1 a2 a3 = some r) : lq4 f a0 a1 a2 a3 = some r := by
  have q : ∃ r n, it4 f n a0 a1 a2 a3 = some r := ⟨r, n, h⟩
  unfold lq4
  rw [dif_pos q]
  obtain ⟨n2, h2⟩ := q.choose_spec
  have e1 := it4_mono n n2 a0 a1 a2 a3 r h
  have e2 := it4_mono n2 n a0 a1 a2 a3 _ h2
  rw [Nat.add_comm] at e2
  rw [e1] at e2
  exact e2.symm
theorem it4_0 {α0 α1 α2 α3 ρ : Type} {f : α0 → α1 → α2 → α3 → Option ((α0 × α1 × α2 × α3) ⊕ ρ)} {a0 : α0} {a1 : α1} {a2 : α2} {a3 : α3} {r : ρ} {P : Prop} (h : it4 f 0 a0 a1 a2 a3 = some r) : P := by cases h
def itk4 {α0 α1 α2 α3 ρ : Type} (f : α0 → α1 → α2 → α3 → Option ((α0 × α1 × α2 × α3) ⊕ ρ)) (n : Nat) (q : (α0 × α1 × α2 × α3) ⊕ ρ) (r : ρ) : Prop := match q with
  | .inl (b0, b1, b2, b3) => it4 f n b0 b1 b2 b3 = some r
  | .inr x => x = r
theorem it4_e {α0 α1 α2 α3 ρ : Type} {f : α0 → α1 → α2 → α3 → Option ((α0 × α1 × α2 × α3) ⊕ ρ)} {n : Nat} {a0 : α0} {a1 : α1} {a2 : α2} {a3 : α3} {r : ρ} (h : it4 f (n + 1) a0 a1 a2 a3 = some r) : ∃ q, f a0 a1 a2 a3 = some q ∧ itk4 f n q r := by
  unfold it4 at h
  split at h
  · cases h
  · rename_i e; exact ⟨_, e, h⟩
  · rename_i e; exact ⟨_, e, Option.some.inj h⟩
/-- a loop over 5 values: once round gives the next values (inl) or the end (inr) -/
def it5 {α0 α1 α2 α3 α4 ρ : Type} (f : α0 → α1 → α2 → α3 → α4 → Option ((α0 × α1 × α2 × α3 × α4) ⊕ ρ)) : Nat → α0 → α1 → α2 → α3 → α4 → Option ρ
  | 0, _, _, _, _, _ => none
  | n + 1, a0, a1, a2, a3, a4 => match f a0 a1 a2 a3 a4 with
    | none => none
    | some (.inl (b0, b1, b2, b3, b4)) => it5 f n b0 b1 b2 b3 b4
    | some (.inr r) => some r
theorem it5_mono {α0 α1 α2 α3 α4 ρ : Type} {f : α0 → α1 → α2 → α3 → α4 → Option ((α0 × α1 × α2 × α3 × α4) ⊕ ρ)} : ∀ (n k : Nat) (a0 : α0) (a1 : α1) (a2 : α2) (a3 : α3) (a4 : α4) (r : ρ), it5 f n a0 a1 a2 a3 a4 = some r → it5 f (n + k) a0 a1 a2 a3 a4 = some r := by
  intro n
  induction n with
  | zero => intro k a0 a1 a2 a3 a4 r h; cases h
  | succ n ih =>
    intro k a0 a1 a2 a3 a4 r h
    rw [Nat.succ_add]
    unfold it5 at h ⊢
    split at h
    · cases h
    · rename_i e; first | exact ih _ _ _ _ _ _ _ h | (rw [e]; exact ih _ _ _ _ _ _ _ h)
    · rename_i e; first | exact h | (rw [e]; exact h)
noncomputable def lq5 {α0 α1 α2 α3 α4 ρ : Type} (f : α0 → α1 → α2 → α3 → α4 → Option ((α0 × α1 × α2 × α3 × α4) ⊕ ρ)) (a0 : α0) (a1 : α1) (a2 : α2) (a3 : α3) (a4 : α4) : Option ρ := @dite (Option ρ) (∃ r n, it5 f n a0 a1 a2 a3 a4 = some r) (Classical.propDecidable _) (fun h => some h.choose) (fun _ => none)
theorem lq5_e {α0 α1 α2 α3 α4 ρ : Type} {f : α0 → α1 → α2 → α3 → α4 → Option ((α0 × α1 × α2 × α3 × α4) ⊕ ρ)} {a0 : α0} {a1 : α1} {a2 : α2} {a3 : α3} {a4 : α4} {r : ρ} (h : lq5 f a0 a1 a2 a3 a4 = some r) : ∃ n, it5 f n a0 a1 a2 a3 a4 = some r := by
  unfold lq5 at h
  by_cases q : ∃ r n, it5 f n a0 a1 a2 a3 a4 = some r
  · rw [dif_pos q] at h
    obtain ⟨n, hn⟩ := q.choose_spec
    rw [Option.some.inj h] at hn
    exact ⟨n, hn⟩
  · rw [dif_neg q] at h
    cases h
theorem lq5_i {α0 α1 α2 α3 α4 ρ : Type} {f : α0 → α1 → α2 → α3 → α4 → Option ((α0 × α1 × α2 × α3 × α4) ⊕ ρ)} {a0 : α0} {a1 : α1} {a2 : α2} {a3 : α3} {a4 : α4} {r : ρ} {n : Nat} (h : it5 f n a0 a1 a2 a3 a4 = some r) : lq5 f a0 a1 a2 a3 a4 = some r := by
  have q : ∃ r n, it5 f n a0 a1 a2 a3 a4 = some r := ⟨r, n, h⟩
  unfold lq5
  rw [dif_pos q]
  obtain ⟨n2, h2⟩ := q.choose_spec
  have e1 := it5_mono n n2 a0 a1 a2 a3 a4 r h
  have e2 := it5_mono n2 n a0 a1 a2 a3 a4 _ h2
  rw [Nat.add_comm] at e2
  rw [e1] at e2
  exact e2.symm
theorem it5_0 {α0 α1 α2 α3 α4 ρ : Type} {f : α0 → α1 → α2 → α3 → α4 → Option ((α0 × α1 × α2 × α3 × α4) ⊕ ρ)} {a0 : α0} {a1 : α1} {a2 : α2} {a3 : α3} {a4 : α4} {r : ρ} {P : Prop} (h : it5 f 0 a0 a1 a2 a3 a4 = some r) : P := by cases h
def itk5 {α0 α1 α2 α3 α4 ρ : Type} (f : α0 → α1 → α2 → α3 → α4 → Option ((α0 × α1 × α2 × α3 × α4) ⊕ ρ)) (n : Nat) (q : (α0 × α1 × α2 × α3 × α4) ⊕ ρ) (r : ρ) : Prop := match q with
  | .inl (b0, b1, b2, b3, b4) => it5 f n b0 b1 b2 b3 b4 = some r
  | .inr x => x = r
theorem it5_e {α0 α1 α2 α3 α4 ρ : Type} {f : α0 → α1 → α2 → α3 → α4 → Option ((α0 × α1 × α2 × α3 × α4) ⊕ ρ)} {n : Nat} {a0 : α0} {a1 : α1} {a2 : α2} {a3 : α3} {a4 : α4} {r : ρ} (h : it5 f (n + 1) a0 a1 a2 a3 a4 = some r) : ∃ q, f a0 a1 a2 a3 a4 = some q ∧ itk5 f n q r := by
  unfold it5 at h
  split at h
  · cases h
  · rename_i e; exact ⟨_, e, h⟩
  · rename_i e; exact ⟨_, e, Option.some.inj h⟩
/-- a loop over 6 values: once round gives the next values (inl) or the end (inr) -/
def it6 {α0 α1 α2 α3 α4 α5 ρ : Type} (f : α0 → α1 → α2 → α3 → α4 → α5 → Option ((α0 × α1 × α2 × α3 × α4 × α5) ⊕ ρ)) : Nat → α0 → α1 → α2 → α3 → α4 → α5 → Option ρ
  | 0, _, _, _, _, _, _ => none
  | n + 1, a0, a1, a2, a3, a4, a5 => match f a0 a1 a2 a3 a4 a5 with
    | none => none
    | some (.inl (b0, b1, b2, b3, b4, b5)) => it6 f n b0 b1 b2 b3 b4 b5
    | some (.inr r) => some r
theorem it6_mono {α0 α1 α2 α3 α4 α5 ρ : Type} {f : α0 → α1 → α2 → α3 → α4 → α5 → Option ((α0 × α1 × α2 × α3 × α4 × α5) ⊕ ρ)} : ∀ (n k : Nat) (a0 : α0) (a1 : α1) (a2 : α2) (a3 : α3) (a4 : α4) (a5 : α5) (r : ρ), it6 f n a0 a1 a2 a3 a4 a5 = some r → it6 f (n + k) a0 a1 a2 a3 a4 a5 = some r := by
  intro n
  induction n with
  | zero => intro k a0 a1 a2 a3 a4 a5 r h; cases h
  | succ n ih =>
    intro k a0 a1 a2 a3 a4 a5 r h
    rw [Nat.succ_add]
    unfold it6 at h ⊢
    split at h
    · cases h
    · rename_i e; first | exact ih _ _ _ _ _ _ _ _ h | (rw [e]; exact ih _ _ _ _ _ _ _ _ h)
    · rename_i e; first | exact h | (rw [e]; exact h)
noncomputable def lq6 {α0 α1 α2 α3 α4 α5 ρ : Type} (f : α0 → α1 → α2 → α3 → α4 → α5 → Option ((α0 × α1 × α2 × α3 × α4 × α5) ⊕ ρ)) (a0 : α0) (a1 : α1) (a2 : α2) (a3 : α3) (a4 : α4) (a5 : α5) : Option ρ := @dite (Option ρ) (∃ r n, it6 f n a0 a1 a2 a3 a4 a5 = some r) (Classical.propDecidable _) (fun h => some h.choose) (fun _ => none)
theorem lq6_e {α0 α1 α2 α3 α4 α5 ρ : Type} {f : α0 → α1 → α2 → α3 → α4 → α5 → Option ((α0 × α1 × α2 × α3 × α4 × α5) ⊕ ρ)} {a0 : α0} {a1 : α1} {a2 : α2} {a3 : α3} {a4 : α4} {a5 : α5} {r : ρ} (h : lq6 f a0 a1 a2 a3 a4 a5 = some r) : ∃ n, it6 f n a0 a1 a2 a3 a4 a5 = some r := by
  unfold lq6 at h
  by_cases q : ∃ r n, it6 f n a0 a1 a2 a3 a4 a5 = some r
  · rw [dif_pos q] at h
    obtain ⟨n, hn⟩ := q.choose_spec
    rw [Option.some.inj h] at hn
    exact ⟨n, hn⟩
  · rw [dif_neg q] at h
    cases h
theorem lq6_i {α0 α1 α2 α3 α4 α5 ρ : Type} {f : α0 → α1 → α2 → α3 → α4 → α5 → Option ((α0 × α1 × α2 × α3 × α4 × α5) ⊕ ρ)} {a0 : α0} {a1 : α1} {a2 : α2} {a3 : α3} {a4 : α4} {a5 : α5} {r : ρ} {n : Nat} (h : it6 f n a0 a1 a2 a3 a4 a5 = some r) : lq6 f a0 a1 a2 a3 a4 a5 = some r := by
  have q : ∃ r n, it6 f n a0 a1 a2 a3 a4 a5 = some r := ⟨r, n, h⟩
  unfold lq6
  rw [dif_pos q]
  obtain ⟨n2, h2⟩ := q.choose_spec
  have e1 := it6_mono n n2 a0 a1 a2 a3 a4 a5 r h
  have e2 := it6_mono n2 n a0 a1 a2 a3 a4 a5 _ h2
  rw [Nat.add_comm] at e2
  rw [e1] at e2
  exact e2.symm
theorem it6_0 {α0 α1 α2 α3 α4 α5 ρ : Type} {f : α0 → α1 → α2 → α3 → α4 → α5 → Option ((α0 × α1 × α2 × α3 × α4 × α5) ⊕ ρ)} {a0 : α0} {a1 : α1} {a2 : α2} {a3 : α3} {a4 : α4} {a5 : α5} {r : ρ} {P : Prop} (h : it6 f 0 a0 a1 a2 a3 a4 a5 = some r) : P := by cases h
def itk6 {α0 α1 α2 α3 α4 α5 ρ : Type} (f : α0 → α1 → α2 → α3 → α4 → α5 → Option ((α0 × α1 × α2 × α3 × α4 × α5) ⊕ ρ)) (n : Nat) (q : (α0 × α1 × α2 × α3 × α4 × α5) ⊕ ρ) (r : ρ) : Prop := match q with
  | .inl (b0, b1, b2, b3, b4, b5) => it6 f n b0 b1 b2 b3 b4 b5 = some r
  | .inr x => x = r
theorem it6_e {α0 α1 α2 α3 α4 α5 ρ : Type} {f : α0 → α1 → α2 → α3 → α4 → α5 → Option ((α0 × α1 × α2 × α3 × α4 × α5) ⊕ ρ)} {n : Nat} {a0 : α0} {a1 : α1} {a2 : α2} {a3 : α3} {a4 : α4} {a5 : α5} {r : ρ} (h : it6 f (n + 1) a0 a1 a2 a3 a4 a5 = some r) : ∃ q, f a0 a1 a2 a3 a4 a5 = some q ∧ itk6 f n q r := by
  unfold it6 at h
  split at h
  · cases h
  · rename_i e; exact ⟨_, e, h⟩
  · rename_i e; exact ⟨_, e, Option.some.inj h⟩
/-- a loop over 7 values: once round gives the next values (inl) or the end (inr) -/
def it7 {α0 α1 α2 α3 α4 α5 α6 ρ : Type} (f : α0 → α1 → α2 → α3 → α4 → α5 → α6 → Option ((α0 × α1 × α2 × α3 × α4 × α5 × α6) ⊕ ρ)) : Nat → α0 → α1 → α2 → α3 → α4 → α5 → α6 → Option ρ
  | 0, _, _, _, _, _, _, _ => none
  | n + 1, a0, a1, a2, a3, a4, a5, a6 => match f a0 a1 a2 a3 a4 a5 a6 with
    | none => none
    | some (.inl (b0, b1, b2, b3, b4, b5, b6)) => it7 f n b0 b1 b2 b3 b4 b5 b6
    | some (.inr r) => some r
theorem it7_mono {α0 α1 α2 α3 α4 α5 α6 ρ : Type} {f : α0 → α1 → α2 → α3 → α4 → α5 → α6 → Option ((α0 × α1 × α2 × α3 × α4 × α5 × α6) ⊕ ρ)} : ∀ (n k : Nat) (a0 : α0) (a1 : α1) (a2 : α2) (a3 : α3) (a4 : α4) (a5 : α5) (a6 : α6) (r : ρ), it7 f n a0 a1 a2 a3 a4 a5 a6 = some r → it7 f (n + k) a0 a1 a2 a3 a4 a5 a6 = some r := by
  intro n
  induction n with
  | zero => intro k a0 a1 a2 a3 a4 a5 a6 r h; cases h
  | succ n ih =>
    intro k a0 a1 a2 a3 a4 a5 a6 r h
    rw [Nat.succ_add]
    unfold it7 at h ⊢
    split at h
    · cases h
    · rename_i e; first | exact ih _ _ _ _ _ _ _ _ _ h | (rw [e]; exact ih _ _ _ _ _ _ _ _ _ h)
    · rename_i e; first | exact h | (rw [e]; exact h)
noncomputable def lq7 {α0 α1 α2 α3 α4 α5 α6 ρ : Type} (f : α0 → α1 → α2 → α3 → α4 → α5 → α6 → Option ((α0 × α1 × α2 × α3 × α4 × α5 × α6) ⊕ ρ)) (a0 : α0) (a1 : α1) (a2 : α2) (a3 : α3) (a4 : α4) (a5 : α5) (a6 : α6) : Option ρ := @dite (Option ρ) (∃ r n, it7 f n a0 a1 a2 a3 a4 a5 a6 = some r) (Classical.propDecidable _) (fun h => some h.choose) (fun _ => none)
theorem lq7_e {α0 α1 α2 α3 α4 α5 α6 ρ : Type} {f : α0 → α1 → α2 → α3 → α4 → α5 → α6 → Option ((α0 × α1 × α2 × α3 × α4 × α5 × α6) ⊕ ρ)} {a0 : α0} {a1 : α1} {a2 : α2} {a3 : α3} {a4 : α4} {a5 : α5} {a6 : α6} {r : ρ} (h : lq7 f a0 a1 a2 a3 a4 a5 a6 = some r) : ∃ n, it7 f n a0 a1 a2 a3 a4 a5 a6 = some r := by
  unfold lq7 at h
  by_cases q : ∃ r n, it7 f n a0 a1 a2 a3 a4 a5 a6 = some r
  · rw [dif_pos q] at h
    obtain ⟨n, hn⟩ := q.choose_spec
    rw [Option.some.inj h] at hn
    exact ⟨n, hn⟩
  · rw [dif_neg q] at h
    cases h
theorem lq7_i {α0 α1 α2 α3 α4 α5 α6 ρ : Type} {f : α0 → α1 → α2 → α3 → α4 → α5 → α6 → Option ((α0 × α1 × α2 × α3 × α4 × α5 × α6) ⊕ ρ)} {a0 : α0} {a1 : α1} {a2 : α2} {a3 : α3} {a4 : α4} {a5 : α5} {a6 : α6} {r : ρ} {n : Nat} (h : it7 f n a0 a1 a2 a3 a4 a5 a6 = some r) : lq7 f a0 a1 a2 a3 a4 a5 a6 = some r := by
  have q : ∃ r n, it7 f n a0 a1 a2 a3 a4 a5 a6 = some r := ⟨r, n, h⟩
  unfold lq7
  rw [dif_pos q]
  obtain ⟨n2, h2⟩ := q.choose_spec
  have e1 := it7_mono n n2 a0 a1 a2 a3 a4 a5 a6 r h
  have e2 := it7_mono n2 n a0 a1 a2 a3 a4 a5 a6 _ h2
  rw [Nat.add_comm] at e2
  rw [e1] at e2
  exact e2.symm
theorem it7_0 {α0 α1 α2 α3 α4 α5 α6 ρ : Type} {f : α0 → α1 → α2 → α3 → α4 → α5 → α6 → Option ((α0 × α1 × α2 × α3 × α4 × α5 × α6) ⊕ ρ)} {a0 : α0} {a1 : α1} {a2 : α2} {a3 : α3} {a4 : α4} {a5 : α5} {a6 : α6} {r : ρ} {P : Prop} (h : it7 f 0 a0 a1 a2 a3 a4 a5 a6 = some r) : P := by cases h
def itk7 {α0 α1 α2 α3 α4 α5 α6 ρ : Type} (f : α0 → α1 → α2 → α3 → α4 → α5 → α6 → Option ((α0 × α1 × α2 × α3 × α4 × α5 × α6) ⊕ ρ)) (n : Nat) (q : (α0 × α1 × α2 × α3 × α4 × α5 × α6) ⊕ ρ) (r : ρ) : Prop := match q with
  | .inl (b0, b1, b2, b3, b4, b5, b6) => it7 f n b0 b1 b2 b3 b4 b5 b6 = some r
  | .inr x => x = r
theorem it7_e {α0 α1 α2 α3 α4 α5 α6 ρ : Type} {f : α0 → α1 → α2 → α3 → α4 → α5 → α6 → Option ((α0 × α1 × α2 × α3 × α4 × α5 × α6) ⊕ ρ)} {n : Nat} {a0 : α0} {a1 : α1} {a2 : α2} {a3 : α3} {a4 : α4} {a5 : α5} {a6 : α6} {r : ρ} (h : it7 f (n + 1) a0 a1 a2 a3 a4 a5 a6 = some r) : ∃ q, f a0 a1 a2 a3 a4 a5 a6 = some q ∧ itk7 f n q r := by
  unfold it7 at h
  split at h
  · cases h
  · rename_i e; exact ⟨_, e, h⟩
  · rename_i e; exact ⟨_, e, Option.some.inj h⟩
/-- a loop over 8 values: once round gives the next values (inl) or the end (inr) -/
def it8 {α0 α1 α2 α3 α4 α5 α6 α7 ρ : Type} (f : α0 → α1 → α2 → α3 → α4 → α5 → α6 → α7 → Option ((α0 × α1 × α2 × α3 × α4 × α5 × α6 × α7) ⊕ ρ)) : Nat → α0 → α1 → α2 → α3 → α4 → α5 → α6 → α7 → Option ρ
  | 0, _, _, _, _, _, _, _, _ => none
  | n + 1, a0, a1, a2, a3, a4, a5, a6, a7 => match f a0 a1 a2 a3 a4 a5 a6 a7 with
    | none => none
    | some (.inl (b0, b1, b2, b3, b4, b5, b6, b7)) => it8 f n b0 b1 b2 b3 b4 b5 b6 b7
    | some (.inr r) => some r
theorem it8_mono {α0 α1 α2 α3 α4 α5 α6 α7 ρ : Type} {f : α0 → α1 → α2 → α3 → α4 → α5 → α6 → α7 → Option ((α0 × α1 × α2 × α3 × α4 × α5 × α6 × α7) ⊕ ρ)} : ∀ (n k : Nat) (a0 : α0) (a1 : α1) (a2 : α2) (a3 : α3) (a4 : α4) (a5 : α5) (a6 : α6) (a7 : α7) (r : ρ), it8 f n a0 a1 a2 a3 a4 a5 a6 a7 = some r → it8 f (n + k) a0 a1 a2 a3 a4 a5 a6 a7 = some r := by
  intro n
  induction n with
  | zero => intro k a0 a1 a2 a3 a4 a5 a6 a7 r h; cases h
  | succ n ih =>
    intro k a0 a1 a2 a3 a4 a5 a6 a7 r h
    rw [Nat.succ_add]
    unfold it8 at h ⊢
    split at h
    · cases h
    · rename_i e; first | exact ih _ _ _ _ _ _ _ _ _ _ h | (rw [e]; exact ih _ _ _ _ _ _ _ _ _ _ h)
    · rename_i e; first | exact h | (rw [e]; exact h)
noncomputable def lq8 {α0 α1 α2 α3 α4 α5 α6 α7 ρ : Type} (f : α0 → α1 → α2 → α3 → α4 → α5 → α6 → α7 → Option ((α0 × α1 × α2 × α3 × α4 × α5 × α6 × α7) ⊕ ρ)) (a0 : α0) (a1 : α1) (a2 : α2) (a3 : α3) (a4 : α4) (a5 : α5) (a6 : α6) (a7 : α7) : Option ρ := @dite (Option ρ) (∃ r n, it8 f n a0 a1 a2 a3 a4 a5 a6 a7 = some r) (Classical.propDecidable _) (fun h => some h.choose) (fun _ => none)
theorem lq8_e {α0 α1 α2 α3 α4 α5 α6 α7 ρ : Type} {f : α0 → α1 → α2 → α3 → α4 → α5 → α6 → α7 → Option ((α0 × α1 × α2 × α3 × α4 × α5 × α6 × α7) ⊕ ρ)} {a0 : α0} {a1 : α1} {a2 : α2} {a3 : α3} {a4 : α4} {a5 : α5} {a6 : α6} {a7 : α7} {r : ρ} (h : lq8 f a0 a1 a2 a3 a4 a5 a6 a7 = some r) : ∃ n, it8 f n a0 a1 a2 a3 a4 a5 a6 a7 = some r := by
  unfold lq8 at h
  by_cases q : ∃ r n, it8 f n a0 a1 a2 a3 a4 a5 a6 a7 = some r
  · rw [dif_pos q] at h
    obtain ⟨n, hn⟩ := q.choose_spec
    rw [Option.some.inj h] at hn
    exact ⟨n, hn⟩
  · rw [dif_neg q] at h
    cases h
theorem lq8_i {α0 α1 α2 α3 α4 α5 α6 α7 ρ : Type} {f : α0 → α1 → α2 → α3 → α4 → α5 → α6 → α7 → Option ((α0 × α1 × α2 × α3 × α4 × α5 × α6 × α7) ⊕ ρ)} {a0 : α0} {a1 : α1} {a2 : α2} {a3 : α3} {a4 : α4} {a5 : α5} {a6 : α6} {a7 : α7} {r : ρ} {n : Nat} (h : it8 f n a0 a1 a2 a3 a4 a5 a6 a7 = some r) : lq8 f a0 a1 a2 a3 a4 a5 a6 a7 = some r := by
  have q : ∃ r n, it8 f n a0 a1 a2 a3 a4 a5 a6 a7 = some r := ⟨r, n, h⟩
  unfold lq8
  rw [dif_pos q]
  obtain ⟨n2, h2⟩ := q.choose_spec
  have e1 := it8_mono n n2 a0 a1 a2 a3 a4 a5 a6 a7 r h
  have e2 := it8_mono n2 n a0 a1 a2 a3 a4 a5 a6 a7 _ h2
  rw [Nat.add_comm] at e2
  rw [e1] at e2
  exact e2.symm
theorem it8_0 {α0 α1 α2 α3 α4 α5 α6 α7 ρ : Type} {f : α0 → α1 → α2 → α3 → α4 → α5 → α6 → α7 → Option ((α0 × α1 × α2 × α3 × α4 × α5 × α6 × α7) ⊕ ρ)} {a0 : α0} {a1 : α1} {a2 : α2} {a3 : α3} {a4 : α4} {a5 : α5} {a6 : α6} {a7 : α7} {r : ρ} {P : Prop} (h : it8 f 0 a0 a1 a2 a3 a4 a5 a6 a7 = some r) : P := by cases h
def itk8 {α0 α1 α2 α3 α4 α5 α6 α7 ρ : Type} (f : α0 → α1 → α2 → α3 → α4 → α5 → α6 → α7 → Option ((α0 × α1 × α2 × α3 × α4 × α5 × α6 × α7) ⊕ ρ)) (n : Nat) (q : (α0 × α1 × α2 × α3 × α4 × α5 × α6 × α7) ⊕ ρ) (r : ρ) : Prop := match q with
  | .inl (b0, b1, b2, b3, b4, b5, b6, b7) => it8 f n b0 b1 b2 b3 b4 b5 b6 b7 = some r
  | .inr x => x = r
theorem it8_e {α0 α1 α2 α3 α4 α5 α6 α7 ρ : Type} {f : α0 → α1 → α2 → α3 → α4 → α5 → α6 → α7 → Option ((α0 × α1 × α2 × α3 × α4 × α5 × α6 × α7) ⊕ ρ)} {n : Nat} {a0 : α0} {a1 : α1} {a2 : α2} {a3 : α3} {a4 : α4} {a5 : α5} {a6 : α6} {a7 : α7} {r : ρ} (h : it8 f (n + 1) a0 a1 a2 a3 a4 a5 a6 a7 = some r) : ∃ q, f a0 a1 a2 a3 a4 a5 a6 a7 = some q ∧ itk8 f n q r := by
  unfold it8 at h
  split at h
  · cases h
  · rename_i e; exact ⟨_, e, h⟩
  · rename_i e; exact ⟨_, e, Option.some.inj h⟩
/-- a loop over 9 values: once round gives the next values (inl) or the end (inr) -/
def it9 {α0 α1 α2 α3 α4 α5 α6 α7 α8 ρ : Type} (f : α0 → α1 → α2 → α3 → α4 → α5 → α6 → α7 → α8 → Option ((α0 × α1 × α2 × α3 × α4 × α5 × α6 × α7 × α8) ⊕ ρ)) : Nat → α0 → α1 → α2 → α3 → α4 → α5 → α6 → α7 → α8 → Option ρ
  | 0, _, _, _, _, _, _, _, _, _ => none
  | n + 1, a0, a1, a2, a3, a4, a5, a6, a7, a8 => match f a0 a1 a2 a3 a4 a5 a6 a7 a8 with
    | none => none
    | some (.inl (b0, b1, b2, b3, b4, b5, b6, b7, b8)) => it9 f n b0 b1 b2 b3 b4 b5 b6 b7 b8
    | some (.inr r) => some r
theorem it9_mono {α0 α1 α2 α3 α4 α5 α6 α7 α8 ρ : Type} {f : α0 → α1 → α2 → α3 → α4 → α5 → α6 → α7 → α8 → Option ((α0 × α1 × α2 × α3 × α4 × α5 × α6 × α7 × α8) ⊕ ρ)} : ∀ (n k : Nat) (a0 : α0) (a1 : α1) (a2 : α2) (a3 : α3) (a4 : α4) (a5 : α5) (a6 : α6) (a7 : α7) (a8 : α8) (r : ρ), it9 f n a0 a1 a2 a3 a4 a5 a6 a7 a8 = some r → it9 f (n + k) a0 a1 a2 a3 a4 a5 a6 a7 a8 = some r := by
  intro n
  induction n with
  | zero => intro k a0 a1 a2 a3 a4 a5 a6 a7 a8 r h; cases h
  | succ n ih =>
    intro k a0 a1 a2 a3 a4 a5 a6 a7 a8 r h
    rw [Nat.succ_add]
    unfold it9 at h ⊢
    split at h
    · cases h
    · rename_i e; first | exact ih _ _ _ _ _ _ _ _ _ _ _ h | (rw [e]; exact ih _ _ _ _ _ _ _ _ _ _ _ h)
    · rename_i e; first | exact h | (rw [e]; exact h)
noncomputable def lq9 {α0 α1 α2 α3 α4 α5 α6 α7 α8 ρ : Type} (f : α0 → α1 → α2 → α3 → α4 → α5 → α6 → α7 → α8 → Option ((α0 × α1 × α2 × α3 × α4 × α5 × α6 × α7 × α8) ⊕ ρ)) (a0 : α0) (a1 : α1) (a2 : α2) (a3 : α3) (a4 : α4) (a5 : α5) (a6 : α6) (a7 : α7) (a8 : α8) : Option ρ := @dite (Option ρ) (∃ r n, it9 f n a0 a1 a2 a3 a4 a5 a6 a7 a8 = some r) (Classical.propDecidable _) (fun h => some h.choose) (fun _ => none)
theorem lq9_e {α0 α1 α2 α3 α4 α5 α6 α7 α8 ρ : Type} {f : α0 → α1 → α2 → α3 → α4 → α5 → α6 → α7 → α8 → Option ((α0 × α1 × α2 × α3 × α4 × α5 × α6 × α7 × α8) ⊕ ρ)} {a0 : α0} {a1 : α1} {a2 : α2} {a3 : α3} {a4 : α4} {a5 : α5} {a6 : α6} {a7 : α7} {a8 : α8} {r : ρ} (h : lq9 f a0 a1 a2 a3 a4 a5 a6 a7 a8 = some r) : ∃ n, it9 f n a0 a1 a2 a3 a4 a5 a6 a7 a8 = some r := by
  unfold lq9 at h
  by_cases q : ∃ r n, it9 f n a0 a1 a2 a3 a4 a5 a6 a7 a8 = some r
  · rw [dif_pos q] at h
    obtain ⟨n, hn⟩ := q.choose_spec
    rw [Option.some.inj h] at hn
    exact ⟨n, hn⟩
  · rw [dif_neg q] at h
    cases h
theorem lq9_i {α0 α1 α2 α3 α4 α5 α6 α7 α8 ρ : Type} {f : α0 → α1 → α2 → α3 → α4 → α5 → α6 → α7 → α8 → Option ((α0 × α1 × α2 × α3 × α4 × α5 × α6 × α7 × α8) ⊕ ρ)} {a0 : α0} {a1 : α1} {a2 : α2} {a3 : α3} {a4 : α4} {a5 : α5} {a6 : α6} {a7 : α7} {a8 : α8} {r : ρ} {n : Nat} (h : it9 f n a0 a1 a2 a3 a4 a5 a6 a7 a8 = some r) : lq9 f a0 a1 a2 a3 a4 a5 a6 a7 a8 = some r := by
  have q : ∃ r n, it9 f n a0 a1 a2 a3 a4 a5 a6 a7 a8 = some r := ⟨r, n, h⟩
  unfold lq9
  rw [dif_pos q]
  obtain ⟨n2, h2⟩ := q.choose_spec
  have e1 := it9_mono n n2 a0 a1 a2 a3 a4 a5 a6 a7 a8 r h
  have e2 := it9_mono n2 n a0 a1 a2 a3 a4 a5 a6 a7 a8 _ h2
  rw [Nat.add_comm] at e2
  rw [e1] at e2
  exact e2.symm
theorem it9_0 {α0 α1 α2 α3 α4 α5 α6 α7 α8 ρ : Type} {f : α0 → α1 → α2 → α3 → α4 → α5 → α6 → α7 → α8 → Option ((α0 × α1 × α2 × α3 × α4 × α5 × α6 × α7 × α8) ⊕ ρ)} {a0 : α0} {a1 : α1} {a2 : α2} {a3 : α3} {a4 : α4} {a5 : α5} {a6 : α6} {a7 : α7} {a8 : α8} {r : ρ} {P : Prop} (h : it9 f 0 a0 a1 a2 a3 a4 a5 a6 a7 a8 = some r) : P := by cases h
def itk9 {α0 α1 α2 α3 α4 α5 α6 α7 α8 ρ : Type} (f : α0 → α1 → α2 → α3 → α4 → α5 → α6 → α7 → α8 → Option ((α0 × α1 × α2 × α3 × α4 × α5 × α6 × α7 × α8) ⊕ ρ)) (n : Nat) (q : (α0 × α1 × α2 × α3 × α4 × α5 × α6 × α7 × α8) ⊕ ρ) (r : ρ) : Prop := match q with
  | .inl (b0, b1, b2, b3, b4, b5, b6, b7, b8) => it9 f n b0 b1 b2 b3 b4 b5 b6 b7 b8 = some r
  | .inr x => x = r
theorem it9_e {α0 α1 α2 α3 α4 α5 α6 α7 α8 ρ : Type} {f : α0 → α1 → α2 → α3 → α4 → α5 → α6 → α7 → α8 → Option ((α0 × α1 × α2 × α3 × α4 × α5 × α6 × α7 × α8) ⊕ ρ)} {n : Nat} {a0 : α0} {a1 : α1} {a2 : α2} {a3 : α3} {a4 : α4} {a5 : α5} {a6 : α6} {a7 : α7} {a8 : α8} {r : ρ} (h : it9 f (n + 1) a0 a1 a2 a3 a4 a5 a6 a7 a8 = some r) : ∃ q, f a0 a1 a2 a3 a4 a5 a6 a7 a8 = some q ∧ itk9 f n q r := by
  unfold it9 at h
  split at h
  · cases h
  · rename_i e; exact ⟨_, e, h⟩
  · rename_i e; exact ⟨_, e, Option.some.inj h⟩
/-- a loop over 10 values: once round gives the next values (inl) or the end (inr) -/
def it10 {α0 α1 α2 α3 α4 α5 α6 α7 α8 α9 ρ : Type} (f : α0 → α1 → α2 → α3 → α4 → α5 → α6 → α7 → α8 → α9 → Option ((α0 × α1 × α2 × α3 × α4 × α5 × α6 × α7 × α8 × α9) ⊕ ρ)) : Nat → α0 → α1 → α2 → α3 → α4 → α5 → α6 → α7 → α8 → α9 → Option ρ
  | 0, _, _, _, _, _, _, _, _, _, _ => none
  | n + 1, a0, a1, a2, a3, a4, a5, a6, a7, a8, a9 => match f a0 a1 a2 a3 a4 a5 a6 a7 a8 a9 with
    | none => none
    | some (.inl (b0, b1, b2, b3, b4, b5, b6, b7, b8, b9)) => it10 f n b0 b1 b2 b3 b4 b5 b6 b7 b8 b9
    | some (.inr r) => some r
theorem it10_mono {α0 α1 α2 α3 α4 α5 α6 α7 α8 α9 ρ : Type} {f : α0 → α1 → α2 → α3 → α4 → α5 → α6 → α7 → α8 → α9 → Option ((α0 × α1 × α2 × α3 × α4 × α5 × α6 × α7 × α8 × α9) ⊕ ρ)} : ∀ (n k : Nat) (a0 : α0) (a1 : α1) (a2 : α2) (a3 : α3) (a4 : α4) (a5 : α5) (a6 : α6) (a7 : α7) (a8 : α8) (a9 : α9) (r : ρ), it10 f n a0 a1 a2 a3 a4 a5 a6 a7 a8 a9 = some r → it10 f (n + k) a0 a1 a2 a3 a4 a5 a6 a7 a8 a9 = some r := by
  intro n
  induction n with
  | zero => intro k a0 a1 a2 a3 a4 a5 a6 a7 a8 a9 r h; cases h
  | succ n ih =>
    intro k a0 a1 a2 a3 a4 a5 a6 a7 a8 a9 r h
    rw [Nat.succ_add]
    unfold it10 at h ⊢
    split at h
    · cases h
    · rename_i e; first | exact ih _ _ _ _ _ _ _ _ _ _ _ _ h | (rw [e]; exact ih _ _ _ _ _ _ _ _ _ _ _ _ h)
    · rename_i e; first | exact h | (rw [e]; exact h)
noncomputable def lq10 {α0 α1 α2 α3 α4 α5 α6 α7 α8 α9 ρ : Type} (f : α0 → α1 → α2 → α3 → α4 → α5 → α6 → α7 → α8 → α9 → Option ((α0 × α1 × α2 × α3 × α4 × α5 × α6 × α7 × α8 × α9) ⊕ ρ)) (a0 : α0) (a1 : α1) (a2 : α2) (a3 : α3) (a4 : α4) (a5 : α5) (a6 : α6) (a7 : α7) (a8 : α8) (a9 : α9) : Option ρ := @dite (Option ρ) (∃ r n, it10 f n a0 a1 a2 a3 a4 a5 a6 a7 a8 a9 = some r) (Classical.propDecidable _) (fun h => some h.choose) (fun _ => none)
theorem lq10_e {α0 α1 α2 α3 α4 α5 α6 α7 α8 α9 ρ : Type} {f : α0 → α1 → α2 → α3 → α4 → α5 → α6 → α7 → α8 → α9 → Option ((α0 × α1 × α2 × α3 × α4 × α5 × α6 × α7 × α8 × α9) ⊕ ρ)} {a0 : α0} {a1 : α1} {a2 : α2} {a3 : α3} {a4 : α4} {a5 : α5} {a6 : α6} {a7 : α7} {a8 : α8} {a9 : α9} {r : ρ} (h : lq10 f a0 a1 a2 a3 a4 a5 a6 a7 a8 a9 = some r) : ∃ n, it10 f n a0 a1 a2 a3 a4 a5 a6 a7 a8 a9 = some r := by
  unfold lq10 at h
  by_cases q : ∃ r n, it10 f n a0 a1 a2 a3 a4 a5 a6 a7 a8 a9 = some r
  · rw [dif_pos q] at h
    obtain ⟨n, hn⟩ := q.choose_spec
    rw [Option.some.inj h] at hn
    exact ⟨n, hn⟩
  · rw [dif_neg q] at h
    cases h
theorem lq10_i {α0 α1 α2 α3 α4 α5 α6 α7 α8 α9 ρ : Type} {f : α0 → α1 → α2 → α3 → α4 → α5 → α6 → α7 → α8 → α9 → Option ((α0 × α1 × α2 × α3 × α4 × α5 × α6 × α7 × α8 × α9) ⊕ ρ)} {a0 : α0} {a1 : α1} {a2 : α2} {a3 : α3} {a4 : α4} {a5 : α5} {a6 : α6} {a7 : α7} {a8 : α8} {a9 : α9} {r : ρ} {n : Nat} (h : it10 f n a0 a1 a2 a3 a4 a5 a6 a7 a8 a9 = some r) : lq10 f a0 a1 a2 a3 a4 a5 a6 a7 a8 a9 = some r := by
  have q : ∃ r n, it10 f n a0 a1 a2 a3 a4 a5 a6 a7 a8 a9 = some r := ⟨r, n, h⟩
  unfold lq10
  rw [dif_pos q]
  obtain ⟨n2, h2⟩ := q.choose_spec
  have e1 := it10_mono n n2 a0 a1 a2 a3 a4 a5 a6 a7 a8 a9 r h
  have e2 := it10_mono n2 n a0 a1 a2 a3 a4 a5 a6 a7 a8 a9 _ h2
  rw [Nat.add_comm] at e2
  rw [e1] at e2
  exact e2.symm
theorem it10_0 {α0 α1 α2 α3 α4 α5 α6 α7 α8 α9 ρ : Type} {f : α0 → α1 → α2 → α3 → α4 → α5 → α6 → α7 → α8 → α9 → Option ((α0 × α1 × α2 × α3 × α4 × α5 × α6 × α7 × α8 × α9) ⊕ ρ)} {a0 : α0} {a1 : α1} {a2 : α2} {a3 : α3} {a4 : α4} {a5 : α5} {a6 : α6} {a7 : α7} {a8 : α8} {a9 : α9} {r : ρ} {P : Prop} (h : it10 f 0 a0 a1 a2 a3 a4 a5 a6 a7 a8 a9 = some r) : P := by cases h
def itk10 {α0 α1 α2 α3 α4 α5 α6 α7 α8 α9 ρ : Type} (f : α0 → α1 → α2 → α3 → α4 → α5 → α6 → α7 → α8 → α9 → Option ((α0 × α1 × α2 × α3 × α4 × α5 × α6 × α7 × α8 × α9) ⊕ ρ)) (n : Nat) (q : (α0 × α1 × α2 × α3 × α4 × α5 × α6 × α7 × α8 × α9) ⊕ ρ) (r : ρ) : Prop := match q with
  | .inl (b0, b1, b2, b3, b4, b5, b6, b7, b8, b9) => it10 f n b0 b1 b2 b3 b4 b5 b6 b7 b8 b9 = some r
  | .inr x => x = r
theorem it10_e {α0 α1 α2 α3 α4 α5 α6 α7 α8 α9 ρ : Type} {f : α0 → α1 → α2 → α3 → α4 → α5 → α6 → α7 → α8 → α9 → Option ((α0 × α1 × α2 × α3 × α4 × α5 × α6 × α7 × α8 × α9) ⊕ ρ)} {n : Nat} {a0 : α0} {a1 : α1} {a2 : α2} {a3 : α3} {a4 : α4} {a5 : α5} {a6 : α6} {a7 : α7} {a8 : α8} {a9 : α9} {r : ρ} (h : it10 f (n + 1) a0 a1 a2 a3 a4 a5 a6 a7 a8 a9 = some r) : ∃ q, f a0 a1 a2 a3 a4 a5 a6 a7 a8 a9 = some q ∧ itk10 f n q r := by
  unfold it10 at h
  split at h
  · cases h
  · rename_i e; exact ⟨_, e, h⟩
  · rename_i e; exact ⟨_, e, Option.some.inj h⟩
/-- a loop over 11 values: once round gives the next values (inl) or the end (inr) -/
def it11 {α0 α1 α2 α3 α4 α5 α6 α7 α8 α9 α10 ρ : Type} (f : α0 → α1 → α2 → α3 → α4 → α5 → α6 → α7 → α8 → α9 → α10 → Option ((α0 × α1 × α2 × α3 × α4 × α5 × α6 × α7 × α8 × α9 × α10) ⊕ ρ)) : Nat → α0 → α1 → α2 → α3 → α4 → α5 → α6 → α7 → α8 → α9 → α10 → Option ρ
  | 0, _, _, _, _, _, _, _, _, _, _, _ => none
  | n + 1, a0, a1, a2, a3, a4, a5, a6, a7, a8, a9, a10 => match f a0 a1 a2 a3 a4 a5 a6 a7 a8 a9 a10 with
    | none => none
    | some (.inl (b0, b1, b2, b3, b4, b5, b6, b7, b8, b9, b10)) => it11 f n b0 b1 b2 b3 b4 b5 b6 b7 b8 b9 b10
    | some (.inr r) => some r
theorem it11_mono {α0 α1 α2 α3 α4 α5 α6 α7 α8 α9 α10 ρ : Type} {f : α0 → α1 → α2 → α3 → α4 → α5 → α6 → α7 → α8 → α9 → α10 → Option ((α0 × α1 × α2 × α3 × α4 × α5 × α6 × α7 × α8 × α9 × α10) ⊕ ρ)} : ∀ (n k : Nat) (a0 : α0) (a1 : α1) (a2 : α2) (a3 : α3) (a4 : α4) (a5 : α5) (a6 : α6) (a7 : α7) (a8 : α8) (a9 : α9) (a10 : α10) (r : ρ), it11 f n a0 a1 a2 a3 a4 a5 a6 a7 a8 a9 a10 = some r → it11 f (n + k) a0 a1 a2 a3 a4 a5 a6 a7 a8 a9 a10 = some r := by
  intro n
  induction n with
  | zero => intro k a0 a1 a2 a3 a4 a5 a6 a7 a8 a9 a10 r h; cases h
  | succ n ih =>
    intro k a0 a1 a2 a3 a4 a5 a6 a7 a8 a9 a10 r h
    rw [Nat.succ_add]
    unfold it11 at h ⊢
    split at h
    · cases h
    · rename_i e; first | exact ih _ _ _ _ _ _ _ _ _ _ _ _ _ h | (rw [e]; exact ih _ _ _ _ _ _ _ _ _ _ _ _ _ h)
    · rename_i e; first | exact h | (rw [e]; exact h)
noncomputable def lq11 {α0 α1 α2 α3 α4 α5 α6 α7 α8 α9 α10 ρ : Type} (f : α0 → α1 → α2 → α3 → α4 → α5 → α6 → α7 → α8 → α9 → α10 → Option ((α0 × α1 × α2 × α3 × α4 × α5 × α6 × α7 × α8 × α9 × α10) ⊕ ρ)) (a0 : α0) (a1 : α1) (a2 : α2) (a3 : α3) (a4 : α4) (a5 : α5) (a6 : α6) (a7 : α7) (a8 : α8) (a9 : α9) (a10 : α10) : Option ρ := @dite (Option ρ) (∃ r n, it11 f n a0 a1 a2 a3 a4 a5 a6 a7 a8 a9 a10 = some r) (Classical.propDecidable _) (fun h => some h.choose) (fun _ => none)
theorem lq11_e {α0 α1 α2 α3 α4 α5 α6 α7 α8 α9 α10 ρ : Type} {f : α0 → α1 → α2 → α3 → α4 → α5 → α6 → α7 → α8 → α9 → α10 → Option ((α0 × α1 × α2 × α3 × α4 × α5 × α6 × α7 × α8 × α9 × α10) ⊕ ρ)} {a0 : α0} {a1 : α1} {a2 : α2} {a3 : α3} {a4 : α4} {a5 : α5} {a6 : α6} {a7 : α7} {a8 : α8} {a9 : α9} {a10 : α10} {r : ρ} (h : lq11 f a0 a1 a2 a3 a4 a5 a6 a7 a8 a9 a10 = some r) : ∃ n, it11 f n a0 a1 a2 a3 a4 a5 a6 a7 a8 a9 a10 = some r := by
  unfold lq11 at h
  by_cases q : ∃ r n, it11 f n a0 a1 a2 a3 a4 a5 a6 a7 a8 a9 a10 = some r
  · rw [dif_pos q] at h
    obtain ⟨n, hn⟩ := q.choose_spec
    rw [Option.some.inj h] at hn
    exact ⟨n, hn⟩
  · rw [dif_neg q] at h
    cases h
theorem lq11_i {α0 α1 α2 α3 α4 α5 α6 α7 α8 α9 α10 ρ : Type} {f : α0 → α1 → α2 → α3 → α4 → α5 → α6 → α7 → α8 → α9 → α10 → Option ((α0 × α1 × α2 × α3 × α4 × α5 × α6 × α7 × α8 × α9 × α10) ⊕ ρ)} {a0 : α0} {a1 : α1} {a2 : α2} {a3 : α3} {a4 : α4} {a5 : α5} {a6 : α6} {a7 : α7} {a8 : α8} {a9 : α9} {a10 : α10} {r : ρ} {n : Nat} (h : it11 f n a0 a1 a2 a3 a4 a5 a6 a7 a8 a9 a10 = some r) : lq11 f a0 a1 a2 a3 a4 a5 a6 a7 a8 a9 a10 = some r := by
  have q : ∃ r n, it11 f n a0 a1 a2 a3 a4 a5 a6 a7 a8 a9 a10 = some r := ⟨r, n, h⟩
  unfold lq11
  rw [dif_pos q]
  obtain ⟨n2, h2⟩ := q.choose_spec
  have e1 := it11_mono n n2 a0 a1 a2 a3 a4 a5 a6 a7 a8 a9 a10 r h
  have e2 := it11_mono n2 n a0 a1 a2 a3 a4 a5 a6 a7 a8 a9 a10 _ h2
  rw [Nat.add_comm] at e2
  rw [e1] at e2
  exact e2.symm
theorem it11_0 {α0 α1 α2 α3 α4 α5 α6 α7 α8 α9 α10 ρ : Type} {f : α0 → α1 → α2 → α3 → α4 → α5 → α6 → α7 → α8 → α9 → α10 → Option ((α0 × α1 × α2 × α3 × α4 × α5 × α6 × α7 × α8 × α9 × α10) ⊕ ρ)} {a0 : α0} {a1 : α1} {a2 : α2} {a3 : α3} {a4 : α4} {a5 : α5} {a6 : α6} {a7 : α7} {a8 : α8} {a9 : α9} {a10 : α10} {r : ρ} {P : Prop} (h : it11 f 0 a0 a1 a2 a3 a4 a5 a6 a7 a8 a9 a10 = some r) : P := by cases h
def itk11 {α0 α1 α2 α3 α4 α5 α6 α7 α8 α9 α10 ρ : Type} (f : α0 → α1 → α2 → α3 → α4 → α5 → α6 → α7 → α8 → α9 → α10 → Option ((α0 × α1 × α2 × α3 × α4 × α5 × α6 × α7 × α8 × α9 × α10) ⊕ ρ)) (n : Nat) (q : (α0 × α1 × α2 × α3 × α4 × α5 × α6 × α7 × α8 × α9 × α10) ⊕ ρ) (r : ρ) : Prop := match q with
  | .inl (b0, b1, b2, b3, b4, b5, b6, b7, b8, b9, b10) => it11 f n b0 b1 b2 b3 b4 b5 b6 b7 b8 b9 b10 = some r
  | .inr x => x = r
theorem it11_e {α0 α1 α2 α3 α4 α5 α6 α7 α8 α9 α10 ρ : Type} {f : α0 → α1 → α2 → α3 → α4 → α5 → α6 → α7 → α8 → α9 → α10 → Option ((α0 × α1 × α2 × α3 × α4 × α5 × α6 × α7 × α8 × α9 × α10) ⊕ ρ)} {n : Nat} {a0 : α0} {a1 : α1} {a2 : α2} {a3 : α3} {a4 : α4} {a5 : α5} {a6 : α6} {a7 : α7} {a8 : α8} {a9 : α9} {a10 : α10} {r : ρ} (h : it11 f (n + 1) a0 a1 a2 a3 a4 a5 a6 a7 a8 a9 a10 = some r) : ∃ q, f a0 a1 a2 a3 a4 a5 a6 a7 a8 a9 a10 = some q ∧ itk11 f n q r := by
  unfold it11 at h
  split at h
  · cases h
  · rename_i e; exact ⟨_, e, h⟩
  · rename_i e; exact ⟨_, e, Option.some.inj h⟩
/-- a loop over 12 values: once round gives the next values (inl) or the end (inr) -/
def it12 {α0 α1 α2 α3 α4 α5 α6 α7 α8 α9 α10 α11 ρ : Type} (f : α0 → α1 → α2 → α3 → α4 → α5 → α6 → α7 → α8 → α9 → α10 → α11 → Option ((α0 × α1 × α2 × α3 × α4 × α5 × α6 × α7 × α8 × α9 × α10 × α11) ⊕ ρ)) : Nat → α0 → α1 → α2 → α3 → α4 → α5 → α6 → α7 → α8 → α9 → α10 → α11 → Option ρ
  | 0, _, _, _, _, _, _, _, _, _, _, _, _ => none
  | n + 1, a0, a1, a2, a3, a4, a5, a6, a7, a8, a9, a10, a11 => match f a0 a1 a2 a3 a4 a5 a6 a7 a8 a9 a10 a11 with
    | none => none
    | some (.inl (b0, b1, b2, b3, b4, b5, b6, b7, b8, b9, b10, b11)) => it12 f n b0 b1 b2 b3 b4 b5 b6 b7 b8 b9 b10 b11
    | some (.inr r) => some r
theorem it12_mono {α0 α1 α2 α3 α4 α5 α6 α7 α8 α9 α10 α11 ρ : Type} {f : α0 → α1 → α2 → α3 → α4 → α5 → α6 → α7 → α8 → α9 → α10 → α11 → Option ((α0 × α1 × α2 × α3 × α4 × α5 × α6 × α7 × α8 × α9 × α10 × α11) ⊕ ρ)} : ∀ (n k : Nat) (a0 : α0) (a1 : α1) (a2 : α2) (a3 : α3) (a4 : α4) (a5 : α5) (a6 : α6) (a7 : α7) (a8 : α8) (a9 : α9) (a10 : α10) (a11 : α11) (r : ρ), it12 f n a0 a1 a2 a3 a4 a5 a6 a7 a8 a9 a10 a11 = some r → it12 f (n + k) a0 a1 a2 a3 a4 a5 a6 a7 a8 a9 a10 a11 = some r := by
  intro n
  induction n with
  | zero => intro k a0 a1 a2 a3 a4 a5 a6 a7 a8 a9 a10 a11 r h; cases h
  | succ n ih =>
    intro k a0 a1 a2 a3 a4 a5 a6 a7 a8 a9 a10 a11 r h
    rw [Nat.succ_add]
    unfold it12 at h ⊢
    split at h
    · cases h
    · rename_i e; first | exact ih _ _ _ _ _ _ _ _ _ _ _ _ _ _ h | (rw [e]; exact ih _ _ _ _ _ _ _ _ _ _ _ _ _ _ h)
    · rename_i e; first | exact h | (rw [e]; exact h)
noncomputable def lq12 {α0 α1 α2 α3 α4 α5 α6 α7 α8 α9 α10 α11 ρ : Type} (f : α0 → α1 → α2 → α3 → α4 → α5 → α6 → α7 → α8 → α9 → α10 → α11 → Option ((α0 × α1 × α2 × α3 × α4 × α5 × α6 × α7 × α8 × α9 × α10 × α11) ⊕ ρ)) (a0 : α0) (a1 : α1) (a2 : α2) (a3 : α3) (a4 : α4) (a5 : α5) (a6 : α6) (a7 : α7) (a8 : α8) (a9 : α9) (a10 : α10) (a11 : α11) : Option ρ := @dite (Option ρ) (∃ r n, it12 f n a0 a1 a2 a3 a4 a5 a6 a7 a8 a9 a10 a11 = some r) (Classical.propDecidable _) (fun h => some h.choose) (fun _ => none)
theorem lq12_e {α0 α1 α2 α3 α4 α5 α6 α7 α8 α9 α10 α11 ρ : Type} {f : α0 → α1 → α2 → α3 → α4 → α5 → α6 → α7 → α8 → α9 → α10 → α11 → Option ((α0 × α1 × α2 × α3 × α4 × α5 × α6 × α7 × α8 × α9 × α10 × α11) ⊕ ρ)} {a0 : α0} {a1 : α1} {a2 : α2} {a3 : α3} {a4 : α4} {a5 : α5} {a6 : α6} {a7 : α7} {a8 : α8} {a9 : α9} {a10 : α10} {a11 : α11} {r : ρ} (h : lq12 f a0 a1 a2 a3 a4 a5 a6 a7 a8 a9 a10 a11 = some r) : ∃ n, it12 f n a0 a1 a2 a3 a4 a5 a6 a7 a8 a9 a10 a11 = some r := by
  unfold lq12 at h
  by_cases q : ∃ r n, it12 f n a0 a1 a2 a3 a4 a5 a6 a7 a8 a9 a10 a11 = some r
  · rw [dif_pos q] at h
    obtain ⟨n, hn⟩ := q.choose_spec
    rw [Option.some.inj h] at hn
    exact ⟨n, hn⟩
  · rw [dif_neg q] at h
    cases h
theorem lq12_i {α0 α1 α2 α3 α4 α5 α6 α7 α8 α9 α10 α11 ρ : Type} {f : α0 → α1 → α2 → α3 → α4 → α5 → α6 → α7 → α8 → α9 → α10 → α11 → Option ((α0 × α1 × α2 × α3 × α4 × α5 × α6 × α7 × α8 × α9 × α10 × α11) ⊕ ρ)} {a0 : α0} {a1 : α1} {a2 : α2} {a3 : α3} {a4 : α4} {a5 : α5} {a6 : α6} {a7 : α7} {a8 : α8} {a9 : α9} {a10 : α10} {a11 : α11} {r : ρ} {n : Nat} (h : it12 f n a0 a1 a2 a3 a4 a5 a6 a7 a8 a9 a10 a11 = some r) : lq12 f a0 a1 a2 a3 a4 a5 a6 a7 a8 a9 a10 a11 = some r := by
  have q : ∃ r n, it12 f n a0 a1 a2 a3 a4 a5 a6 a7 a8 a9 a10 a11 = some r := ⟨r, n, h⟩
  unfold lq12
  rw [dif_pos q]
  obtain ⟨n2, h2⟩ := q.choose_spec
  have e1 := it12_mono n n2 a0 a1 a2 a3 a4 a5 a6 a7 a8 a9 a10 a11 r h
  have e2 := it12_mono n2 n a0 a1 a2 a3 a4 a5 a6 a7 a8 a9 a10 a11 _ h2
  rw [Nat.add_comm] at e2
  rw [e1] at e2
  exact e2.symm
theorem it12_0 {α0 α1 α2 α3 α4 α5 α6 α7 α8 α9 α10 α11 ρ : Type} {f : α0 → α1 → α2 → α3 → α4 → α5 → α6 → α7 → α8 → α9 → α10 → α11 → Option ((α0 × α1 × α2 × α3 × α4 × α5 × α6 × α7 × α8 × α9 × α10 × α11) ⊕ ρ)} {a0 : α0} {a1 : α1} {a2 : α2} {a3 : α3} {a4 : α4} {a5 : α5} {a6 : α6} {a7 : α7} {a8 : α8} {a9 : α9} {a10 : α10} {a11 : α11} {r : ρ} {P : Prop} (h : it12 f 0 a0 a1 a2 a3 a4 a5 a6 a7 a8 a9 a10 a11 = some r) : P := by cases h
def itk12 {α0 α1 α2 α3 α4 α5 α6 α7 α8 α9 α10 α11 ρ : Type} (f : α0 → α1 → α2 → α3 → α4 → α5 → α6 → α7 → α8 → α9 → α10 → α11 → Option ((α0 × α1 × α2 × α3 × α4 × α5 × α6 × α7 × α8 × α9 × α10 × α11) ⊕ ρ)) (n : Nat) (q : (α0 × α1 × α2 × α3 × α4 × α5 × α6 × α7 × α8 × α9 × α10 × α11) ⊕ ρ) (r : ρ) : Prop := match q with
  | .inl (b0, b1, b2, b3, b4, b5, b6, b7, b8, b9, b10, b11) => it12 f n b0 b1 b2 b3 b4 b5 b6 b7 b8 b9 b10 b11 = some r
  | .inr x => x = r
theorem it12_e {α0 α1 α2 α3 α4 α5 α6 α7 α8 α9 α10 α11 ρ : Type} {f : α0 → α1 → α2 → α3 → α4 → α5 → α6 → α7 → α8 → α9 → α10 → α11 → Option ((α0 × α1 × α2 × α3 × α4 × α5 × α6 × α7 × α8 × α9 × α10 × α11) ⊕ ρ)} {n : Nat} {a0 : α0} {a1 : α1} {a2 : α2} {a3 : α3} {a4 : α4} {a5 : α5} {a6 : α6} {a7 : α7} {a8 : α8} {a9 : α9} {a10 : α10} {a11 : α11} {r : ρ} (h : it12 f (n + 1) a0 a1 a2 a3 a4 a5 a6 a7 a8 a9 a10 a11 = some r) : ∃ q, f a0 a1 a2 a3 a4 a5 a6 a7 a8 a9 a10 a11 = some q ∧ itk12 f n q r := by
  unfold it12 at h
  split at h
  · cases h
  · rename_i e; exact ⟨_, e, h⟩
  · rename_i e; exact ⟨_, e, Option.some.inj h⟩
/-- a loop over 13 values: once round gives the next values (inl) or the end (inr) -/
def it13 {α0 α1 α2 α3 α4 α5 α6 α7 α8 α9 α10 α11 α12 ρ : Type} (f : α0 → α1 → α2 → α3 → α4 → α5 → α6 → α7 → α8 → α9 → α10 → α11 → α12 → Option ((α0 × α1 × α2 × α3 × α4 × α5 × α6 × α7 × α8 × α9 × α10 × α11 × α12) ⊕ ρ)) : Nat → α0 → α1 → α2 → α3 → α4 → α5 → α6 → α7 → α8 → α9 → α10 → α11 → α12 → Option ρ
  | 0, _, _, _, _, _, _, _, _, _, _, _, _, _ => none
  | n + 1, a0, a1, a2, a3, a4, a5, a6, a7, a8, a9, a10, a11, a12 => match f a0 a1 a2 a3 a4 a5 a6 a7 a8 a9 a10 a11 a12 with
    | none => none
    | some (.inl (b0, b1, b2, b3, b4, b5, b6, b7, b8, b9, b10, b11, b12)) => it13 f n b0 b1 b2 b3 b4 b5 b6 b7 b8 b9 b10 b11 b12
    | some (.inr r) => some r
theorem it13_mono {α0 α1 α2 α3 α4 α5 α6 α7 α8 α9 α10 α11 α12 ρ : Type} {f : α0 → α1 → α2 → α3 → α4 → α5 → α6 → α7 → α8 → α9 → α10 → α11 → α12 → Option ((α0 × α1 × α2 × α3 × α4 × α5 × α6 × α7 × α8 × α9 × α10 × α11 × α12) ⊕ ρ)} : ∀ (n k : Nat) (a0 : α0) (a1 : α1) (a2 : α2) (a3 : α3) (a4 : α4) (a5 : α5) (a6 : α6) (a7 : α7) (a8 : α8) (a9 : α9) (a10 : α10) (a11 : α11) (a12 : α12) (r : ρ), it13 f n a0 a1 a2 a3 a4 a5 a6 a7 a8 a9 a10 a11 a12 = some r → it13 f (n + k) a0 a1 a2 a3 a4 a5 a6 a7 a8 a9 a10 a11 a12 = some r := by
  intro n
  induction n with
  | zero => intro k a0 a1 a2 a3 a4 a5 a6 a7 a8 a9 a10 a11 a12 r h; cases h
  | succ n ih =>
    intro k a0 a1 a2 a3 a4 a5 a6 a7 a8 a9 a10 a11 a12 r h
    rw [Nat.succ_add]
    unfold it13 at h ⊢
    split at h
    · cases h
    · rename_i e; first | exact ih _ _ _ _ _ _ _ _ _ _ _ _ _ _ _ h | (rw [e]; exact ih _ _ _ _ _ _ _ _ _ _ _ _ _ _ _ h)
    · rename_i e; first | exact h | (rw [e]; exact h)
noncomputable def lq13 {α0 α1 α2 α3 α4 α5 α6 α7 α8 α9 α10 α11 α12 ρ : Type} (f : α0 → α1 → α2 → α3 → α4 → α5 → α6 → α7 → α8 → α9 → α10 → α11 → α12 → Option ((α0 × α1 × α2 × α3 × α4 × α5 × α6 × α7 × α8 × α9 × α10 × α11 × α12) ⊕ ρ)) (a0 : α0) (a1 : α1) (a2 : α2) (a3 : α3) (a4 : α4) (a5 : α5) (a6 : α6) (a7 : α7) (a8 : α8) (a9 : α9) (a10 : α10) (a11 : α11) (a12 : α12) : Option ρ := @dite (Option ρ) (∃ r n, it13 f n a0 a1 a2 a3 a4 a5 a6 a7 a8 a9 a10 a11 a12 = some r) (Classical.propDecidable _) (fun h => some h.choose) (fun _ => none)
theorem lq13_e {α0 α1 α2 α3 α4 α5 α6 α7 α8 α9 α10 α11 α12 ρ : Type} {f : α0 → α1 → α2 → α3 → α4 → α5 → α6 → α7 → α8 → α9 → α10 → α11 → α12 → Option ((α0 × α1 × α2 × α3 × α4 × α5 × α6 × α7 × α8 × α9 × α10 × α11 × α12) ⊕ ρ)} {a0 : α0} {a1 : α1} {a2 : α2} {a3 : α3} {a4 : α4} {a5 : α5} {a6 : α6} {a7 : α7} {a8 : α8} {a9 : α9} {a10 : α10} {a11 : α11} {a12 : α12} {r : ρ} (h : lq13 f a0 a1 a2 a3 a4 a5 a6 a7 a8 a9 a10 a11 a12 = some r) : ∃ n, it13 f n a0 a1 a2 a3 a4 a5 a6 a7 a8 a9 a10 a11 a12 = some r := by
  unfold lq13 at h
  by_cases q : ∃ r n, it13 f n a0 a1 a2 a3 a4 a5 a6 a7 a8 a9 a10 a11 a12 = some r
  · rw [dif_pos q] at h
    obtain ⟨n, hn⟩ := q.choose_spec
    rw [Option.some.inj h] at hn
    exact ⟨n, hn⟩
  · rw [dif_neg q] at h
    cases h
theorem lq13_i {α0 α1 α2 α3 α4 α5 α6 α7 α8 α9 α10 α11 α12 ρ : Type} {f : α0 → α1 → α2 → α3 → α4 → α5 → α6 → α7 → α8 → α9 → α10 → α11 → α12 → Option ((α0 × α1 × α2 × α3 × α4 × α5 × α6 × α7 × α8 × α9 × α10 × α11 × α12) ⊕ ρ)} {a0 : α0} {a1 : α1} {a2 : α2} {a3 : α3} {a4 : α4} {a5 : α5} {a6 : α6} {a7 : α7} {a8 : α8} {a9 : α9} {a10 : α10} {a11 : α11} {a12 : α12} {r : ρ} {n : Nat} (h : it13 f n a0 a1 a2 a3 a4 a5 a6 a7 a8 a9 a10 a11 a12 = some r) : lq13 f a0 a1 a2 a3 a4 a5 a6 a7 a8 a9 a10 a11 a12 = some r := by
  have q : ∃ r n, it13 f n a0 a1 a2 a3 a4 a5 a6 a7 a8 a9 a10 a11 a12 = some r := ⟨r, n, h⟩
  unfold lq13
  rw [dif_pos q]
  obtain ⟨n2, h2⟩ := q.choose_spec
  have e1 := it13_mono n n2 a0 a1 a2 a3 a4 a5 a6 a7 a8 a9 a10 a11 a12 r h
  have e2 := it13_mono n2 n a0 a1 a2 a3 a4 a5 a6 a7 a8 a9 a10 a11 a12 _ h2
  rw [Nat.add_comm] at e2
  rw [e1] at e2
  exact e2.symm
theorem it13_0 {α0 α1 α2 α3 α4 α5 α6 α7 α8 α9 α10 α11 α12 ρ : Type} {f : α0 → α1 → α2 → α3 → α4 → α5 → α6 → α7 → α8 → α9 → α10 → α11 → α12 → Option ((α0 × α1 × α2 × α3 × α4 × α5 × α6 × α7 × α8 × α9 × α10 × α11 × α12) ⊕ ρ)} {a0 : α0} {a1 : α1} {a2 : α2} {a3 : α3} {a4 : α4} {a5 : α5} {a6 : α6} {a7 : α7} {a8 : α8} {a9 : α9} {a10 : α10} {a11 : α11} {a12 : α12} {r : ρ} {P : Prop} (h : it13 f 0 a0 a1 a2 a3 a4 a5 a6 a7 a8 a9 a10 a11 a12 = some r) : P := by cases h
def itk13 {α0 α1 α2 α3 α4 α5 α6 α7 α8 α9 α10 α11 α12 ρ : Type} (f : α0 → α1 → α2 → α3 → α4 → α5 → α6 → α7 → α8 → α9 → α10 → α11 → α12 → Option ((α0 × α1 × α2 × α3 × α4 × α5 × α6 × α7 × α8 × α9 × α10 × α11 × α12) ⊕ ρ)) (n : Nat) (q : (α0 × α1 × α2 × α3 × α4 × α5 × α6 × α7 × α8 × α9 × α10 × α11 × α12) ⊕ ρ) (r : ρ) : Prop := match q with
  | .inl (b0, b1, b2, b3, b4, b5, b6, b7, b8, b9, b10, b11, b12) => it13 f n b0 b1 b2 b3 b4 b5 b6 b7 b8 b9 b10 b11 b12 = some r
  | .inr x => x = r
theorem it13_e {α0 α1 α2 α3 α4 α5 α6 α7 α8 α9 α10 α11 α12 ρ : Type} {f : α0 → α1 → α2 → α3 → α4 → α5 → α6 → α7 → α8 → α9 → α10 → α11 → α12 → Option ((α0 × α1 × α2 × α3 × α4 × α5 × α6 × α7 × α8 × α9 × α10 × α11 × α12) ⊕ ρ)} {n : Nat} {a0 : α0} {a1 : α1} {a2 : α2} {a3 : α3} {a4 : α4} {a5 : α5} {a6 : α6} {a7 : α7} {a8 : α8} {a9 : α9} {a10 : α10} {a11 : α11} {a12 : α12} {r : ρ} (h : it13 f (n + 1) a0 a1 a2 a3 a4 a5 a6 a7 a8 a9 a10 a11 a12 = some r) : ∃ q, f a0 a1 a2 a3 a4 a5 a6 a7 a8 a9 a10 a11 a12 = some q ∧ itk13 f n q r := by
  unfold it13 at h
  split at h
  · cases h
  · rename_i e; exact ⟨_, e, h⟩
  · rename_i e; exact ⟨_, e, Option.some.inj h⟩
/-- a loop over 14 values: once round gives the next values (inl) or the end (inr) -/
def it14 {α0 α1 α2 α3 α4 α5 α6 α7 α8 α9 α10 α11 α12 α13 ρ : Type} (f : α0 → α1 → α2 → α3 → α4 → α5 → α6 → α7 → α8 → α9 → α10 → α11 → α12 → α13 → Option ((α0 × α1 × α2 × α3 × α4 × α5 × α6 × α7 × α8 × α9 × α10 × α11 × α12 × α13) ⊕ ρ)) : Nat → α0 → α1 → α2 → α3 → α4 → α5 → α6 → α7 → α8 → α9 → α10 → α11 → α12 → α13 → Option ρ
  | 0, _, _, _, _, _, _, _, _, _, _, _, _, _, _ => none
  | n + 1, a0, a1, a2, a3, a4, a5, a6, a7, a8, a9, a10, a11, a12, a13 => match f a0 a1 a2 a3 a4 a5 a6 a7 a8 a9 a10 a11 a12 a13 with
    | none => none
    | some (.inl (b0, b1, b2, b3, b4, b5, b6, b7, b8, b9, b10, b11, b12, b13)) => it14 f n b0 b1 b2 b3 b4 b5 b6 b7 b8 b9 b10 b11 b12 b13
    | some (.inr r) => some r
theorem it14_mono {α0 α1 α2 α3 α4 α5 α6 α7 α8 α9 α10 α11 α12 α13 ρ : Type} {f : α0 → α1 → α2 → α3 → α4 → α5 → α6 → α7 → α8 → α9 → α10 → α11 → α12 → α13 → Option ((α0 × α1 × α2 × α3 × α4 × α5 × α6 × α7 × α8 × α9 × α10 × α11 × α12 × α13) ⊕ ρ)} : ∀ (n k : Nat) (a0 : α0) (a1 : α1) (a2 : α2) (a3 : α3) (a4 : α4) (a5 : α5) (a6 : α6) (a7 : α7) (a8 : α8) (a9 : α9) (a10 : α10) (a11 : α11) (a12 : α12) (a13 : α13) (r : ρ), it14 f n a0 a1 a2 a3 a4 a5 a6 a7 a8 a9 a10 a11 a12 a13 = some r → it14 f (n + k) a0 a1 a2 a3 a4 a5 a6 a7 a8 a9 a10 a11 a12 a13 = some r := by
  intro n
  induction n with
  | zero => intro k a0 a1 a2 a3 a4 a5 a6 a7 a8 a9 a10 a11 a12 a13 r h; cases h
  | succ n ih =>
    intro k a0 a1 a2 a3 a4 a5 a6 a7 a8 a9 a10 a11 a12 a13 r h
    rw [Nat.succ_add]
    unfold it14 at h ⊢
    split at h
    · cases h
    · rename_i e; first | exact ih _ _ _ _ _ _ _ _ _ _ _ _ _ _ _ _ h | (rw [e]; exact ih _ _ _ _ _ _ _ _ _ _ _ _ _ _ _ _ h)
    · rename_i e; first | exact h | (rw [e]; exact h)
noncomputable def lq14 {α0 α1 α2 α3 α4 α5 α6 α7 α8 α9 α10 α11 α12 α13 ρ : Type} (f : α0 → α1 → α2 → α3 → α4 → α5 → α6 → α7 → α8 → α9 → α10 → α11 → α12 → α13 → Option ((α0 × α1 × α2 × α3 × α4 × α5 × α6 × α7 × α8 × α9 × α10 × α11 × α12 × α13) ⊕ ρ)) (a0 : α0) (a1 : α1) (a2 : α2) (a3 : α3) (a4 : α4) (a5 : α5) (a6 : α6) (a7 : α7) (a8 : α8) (a9 : α9) (a10 : α10) (a11 : α11) (a12 : α12) (a13 : α13) : Option ρ := @dite (Option ρ) (∃ r n, it14 f n a0 a1 a2 a3 a4 a5 a6 a7 a8 a9 a10 a11 a12 a13 = some r) (Classical.propDecidable _) (fun h => some h.choose) (fun _ => none)
theorem lq14_e {α0 α1 α2 α3 α4 α5 α6 α7 α8 α9 α10 α11 α12 α13 ρ : Type} {f : α0 → α1 → α2 → α3 → α4 → α5 → α6 → α7 → α8 → α9 → α10 → α11 → α12 → α13 → Option ((α0 × α1 × α2 × α3 × α4 × α5 × α6 × α7 × α8 × α9 × α10 × α11 × α12 × α13) ⊕ ρ)} {a0 : α0} {a1 : α1} {a2 : α2} {a3 : α3} {a4 : α4} {a5 : α5} {a6 : α6} {a7 : α7} {a8 : α8} {a9 : α9} {a10 : α10} {a11 : α11} {a12 : α12} {a13 : α13} {r : ρ} (h : lq14 f a0 a1 a2 a3 a4 a5 a6 a7 a8 a9 a10 a11 a12 a13 = some r) : ∃ n, it14 f n a0 a1 a2 a3 a4 a5 a6 a7 a8 a9 a10 a11 a12 a13 = some r := by
  unfold lq14 at h
  by_cases q : ∃ r n, it14 f n a0 a1 a2 a3 a4 a5 a6 a7 a8 a9 a10 a11 a12 a13 = some r
  · rw [dif_pos q] at h
    obtain ⟨n, hn⟩ := q.choose_spec
    rw [Option.some.inj h] at hn
    exact ⟨n, hn⟩
  · rw [dif_neg q] at h
    cases h
theorem lq14_i {α0 α1 α2 α3 α4 α5 α6 α7 α8 α9 α10 α11 α12 α13 ρ : Type} {f : α0 → α1 → α2 → α3 → α4 → α5 → α6 → α7 → α8 → α9 → α10 → α11 → α12 → α13 → Option ((α0 × α1 × α2 × α3 × α4 × α5 × α6 × α7 × α8 × α9 × α10 × α11 × α12 × α13) ⊕ ρ)} {a0 : α0} {a1 : α1} {a2 : α2} {a3 : α3} {a4 : α4} {a5 : α5} {a6 : α6} {a7 : α7} {a8 : α8} {a9 : α9} {a10 : α10} {a11 : α11} {a12 : α12} {a13 : α13} {r : ρ} {n : Nat} (h : it14 f n a0 a1 a2 a3 a4 a5 a6 a7 a8 a9 a10 a11 a12 a13 = some r) : lq14 f a0 a1 a2 a3 a4 a5 a6 a7 a8 a9 a10 a11 a12 a13 = some r := by
  have q : ∃ r n, it14 f n a0 a1 a2 a3 a4 a5 a6 a7 a8 a9 a10 a11 a12 a13 = some r := ⟨r, n, h⟩
  unfold lq14
  rw [dif_pos q]
  obtain ⟨n2, h2⟩ := q.choose_spec
  have e1 := it14_mono n n2 a0 a1 a2 a3 a4 a5 a6 a7 a8 a9 a10 a11 a12 a13 r h
  have e2 := it14_mono n2 n a0 a1 a2 a3 a4 a5 a6 a7 a8 a9 a10 a11 a12 a13 _ h2
  rw [Nat.add_comm] at e2
  rw [e1] at e2
  exact e2.symm
theorem it14_0 {α0 α1 α2 α3 α4 α5 α6 α7 α8 α9 α10 α11 α12 α13 ρ : Type} {f : α0 → α1 → α2 → α3 → α4 → α5 → α6 → α7 → α8 → α9 → α10 → α11 → α12 → α13 → Option ((α0 × α1 × α2 × α3 × α4 × α5 × α6 × α7 × α8 × α9 × α10 × α11 × α12 × α13) ⊕ ρ)} {a0 : α0} {a1 : α1} {a2 : α2} {a3 : α3} {a4 : α4} {a5 : α5} {a6 : α6} {a7 : α7} {a8 : α8} {a9 : α9} {a10 : α10} {a11 : α11} {a12 : α12} {a13 : α13} {r : ρ} {P : Prop} (h : it14 f 0 a0 a1 a2 a3 a4 a5 a6 a7 a8 a9 a10 a11 a12 a13 = some r) : P := by cases h
def itk14 {α0 α1 α2 α3 α4 α5 α6 α7 α8 α9 α10 α11 α12 α13 ρ : Type} (f : α0 → α1 → α2 → α3 → α4 → α5 → α6 → α7 → α8 → α9 → α10 → α11 → α12 → α13 → Option ((α0 × α1 × α2 × α3 × α4 × α5 × α6 × α7 × α8 × α9 × α10 × α11 × α12 × α13) ⊕ ρ)) (n : Nat) (q : (α0 × α1 × α2 × α3 × α4 × α5 × α6 × α7 × α8 × α9 × α10 × α11 × α12 × α13) ⊕ ρ) (r : ρ) : Prop := match q with
  | .inl (b0, b1, b2, b3, b4, b5, b6, b7, b8, b9, b10, b11, b12, b13) => it14 f n b0 b1 b2 b3 b4 b5 b6 b7 b8 b9 b10 b11 b12 b13 = some r
  | .inr x => x = r
theorem it14_e {α0 α1 α2 α3 α4 α5 α6 α7 α8 α9 α10 α11 α12 α13 ρ : Type} {f : α0 → α1 → α2 → α3 → α4 → α5 → α6 → α7 → α8 → α9 → α10 → α11 → α12 → α13 → Option ((α0 × α1 × α2 × α3 × α4 × α5 × α6 × α7 × α8 × α9 × α10 × α11 × α12 × α13) ⊕ ρ)} {n : Nat} {a0 : α0} {a1 : α1} {a2 : α2} {a3 : α3} {a4 : α4} {a5 : α5} {a6 : α6} {a7 : α7} {a8 : α8} {a9 : α9} {a10 : α10} {a11 : α11} {a12 : α12} {a13 : α13} {r : ρ} (h : it14 f (n + 1) a0 a1 a2 a3 a4 a5 a6 a7 a8 a9 a10 a11 a12 a13 = some r) : ∃ q, f a0 a1 a2 a3 a4 a5 a6 a7 a8 a9 a10 a11 a12 a13 = some q ∧ itk14 f n q r := by
  unfold it14 at h
  split at h
  · cases h
  · rename_i e; exact ⟨_, e, h⟩
  · rename_i e; exact ⟨_, e, Option.some.inj h⟩
