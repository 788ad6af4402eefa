section LL
variable {D : va_G} {cl : List vw_C} {A : Nat → Prop} {H : Heap} {X X2 cx T T1 T2 : va_W}
theorem ll_fl {α : Type} (c r t : List α) : ((c ++ r) ++ t).Perm (c ++ (r ++ t)) := by rw [List.append_assoc]
theorem ll_f1 {α : Type} (c r a b : List α) : ((c ++ r) ++ (a ++ b)).Perm (c ++ (a ++ (r ++ b))) := by
  rw [List.append_assoc]
  refine List.Perm.append_left c ?_
  rw [← List.append_assoc, ← List.append_assoc]
  exact List.perm_append_comm.append_right b
theorem ll_f2 {α : Type} (c r a b : List α) : ((c ++ r) ++ (a ++ b)).Perm (c ++ (b ++ (r ++ a))) := by
  rw [List.append_assoc]
  refine List.Perm.append_left c ?_
  have h : (r ++ (a ++ b)).Perm (r ++ (b ++ a)) := List.Perm.append_left r List.perm_append_comm
  refine h.trans ?_
  rw [← List.append_assoc, ← List.append_assoc]
  exact List.perm_append_comm.append_right a
theorem ll_m (isC isR : List Nat) (hC : isC.map (fun i => X[i]?) = cx.map some) (hR : isR.map (fun i => X[i]?) = (isR.filterMap (fun i => X[i]?)).map some) : (isC ++ isR).map (fun i => X[i]?) = (cx ++ isR.filterMap (fun i => X[i]?)).map some := by rw [List.map_append, List.map_append, hC, hR]
end LL
