abbrev w_X3_forget (g : GE) (a0 : Nat) (u0_0 u0_1 : Value) (x0_count : Int32) : va_W := [(a0, .inr (3, [u0_0, u0_1, .int x0_count]))]
set_option maxRecDepth 20000 in
theorem c_X3_forget (l : Launch) (g : GE) (a0 : Nat) (sz : Nat) (u0_0 u0_1 : Value) (x0_count : Int32)   (o_x0_count : Int32) (hf : f_X3_forget x0_count = some o_x0_count) : MI l g yX3_forget wsX3_forget 1 24 [.ref a0] (w_X3_forget g a0 u0_0 u0_1 x0_count) sz none (w_X3_forget g a0 u0_0 u0_1 o_x0_count) := by
  refine MI.start (cc := cX3_forget) (maxL := 1) (ret := none) rfl rfl (nle rfl) ?_
  intro p e s m args below meth c A ls Q hQ hexec hb hr hts hown hlocks hml hA hP hD hG hS hl
  unfold f_X3_forget at hf
  have hWX3 : ∀ w ∈ wsX30, w.before args s = true := fun w h => hts w (List.mem_cons_of_mem _ (List.mem_append_right _ h))
  have hS : va_S A s.heap s.heap [] := hS
  refine lv_aload_n (pc := 0) hexec hb dX3_forget_0 rfl (lv_at hl 0 rfl) ?_
  refine lv_iconst (pc := 1) hexec hb dX3_forget_1 ki_0 ?_
  refine kp_put (pc := 2) hexec hb (own := RX3) hWX3 tyX3 tyX3_ok nmX3 hown hG hP hD hS 0 rfl rfl 2 (nle rfl) (hts _ (List.mem_cons_of_mem _ (List.mem_append_left _ (List.mem_of_getElem? (i := 0) rfl)))) rfl rfl rfl rfl (nle rfl) dX3_forget_2 (fun H locs (hP : va_P g.1 vwCl (w_X3_forget g a0 u0_0 u0_1 0) H) (hD : va_D A (w_X3_forget g a0 u0_0 u0_1 0)) hS => ?_)
  cases hf
  exact ke_v hQ hexec hb hr hP hD hS dX3_forget_5 hlocks
