def sg0 (lE nN ld rv od : Nat → Int32) : XS := ((iI 3, iI 3, iI 0, iI 0, iI 0, iI 0, iI 0, iI 0, iI 0, lE, nN, ld, rv, od, (fun _ => 0), (fun _ => 0), (fun _ => 0), (fun _ => 0), (fun _ => 0)), (0, 0, fun _ => none), (0, (fun _ => 0), (fun _ => 0), (fun _ => 0)), (0, 0, 0, 0, (fun _ => 0), (fun _ => 0), (fun _ => 0), (fun _ => 0), (fun _ => 0), (fun _ => 0)), (0, 0, 0, 0, 0, 0, 0, 0, 0, 0, 0, (fun _ => 0)), (0, 0, 0, 0, 0, 0, 0, 0, 0, (fun _ => 0), (fun _ => 0), (fun _ => 0), (fun _ => 0), (fun _ => 0), (fun _ => 0), (fun _ => 0), (fun _ => 0), (fun _ => 0), (fun _ => 0)), (0, (fun _ => 0), (fun _ => 0), (fun _ => 0)), (0, -1, 0, (fun _ => 0)), fun _ => none)
def mu0 (s : Nat → Int32) : MS := (0, 0, 0, 0, 0, 0, 0, 0, 0, 0, 0, 0, -1, 0, 0, 0, (fun _ => 0), (fun _ => 0), (fun _ => 0), (fun _ => 0), (fun _ => 0), (fun _ => 0), (fun _ => 0), (fun _ => 0), (fun _ => 0), (fun _ => 0), s, (fun _ => 0), (fun _ => 0), (fun _ => 0))
theorem sea_0 : seaS 3 3 0 = 3 := by simp [seaS]
theorem sea_1 : seaS 3 3 1 = 3 := by simp [seaS]
theorem fresh_RC {lE nN ld rv od : Nat → Int32} (hA : RA lE nN ld rv od (fun _ => 0) (fun _ => 0) (fun _ => 0) (fun _ => 0) (fun _ => 0) (seaS 3 3)) : RC (sg0 lE nN ld rv od).1 (seaS 3 3) :=
  ⟨congrArg iI sea_0.symm, congrArg iI sea_1.symm, congrArg iI (sea_z (by decide)).symm, congrArg iI (sea_z (by decide)).symm, congrArg iI (sea_z (by decide)).symm, congrArg iI (sea_z (by decide)).symm, congrArg iI (sea_z (by decide)).symm, congrArg iI (sea_z (by decide)).symm, (sea_rM 3 3).symm, hA⟩
theorem fresh_RH {past : Nat → Int32} : RH 0 0 (fun _ => none) 0 past := ⟨0, 0, by decide, by decide, by decide, by decide, by decide, by decide, by decide, fun j h1 h2 => absurd h1 (by omega)⟩
theorem fresh_RX {y my : Nat → Int32} : RX 0 y 0 my := ⟨0, fun _ => 0, by decide, by decide, by decide, by decide, fun k h1 h2 => absurd h1 (by omega)⟩
theorem fresh_RO {y my : Nat → Int32} : RO 0 y 0 my := ⟨0, by decide, by decide, by decide, by decide, fun k h1 h2 => absurd h1 (by omega)⟩
theorem fresh_RK {kept : Nat → Int32} : RK (fun _ => none) (fun _ => 0) kept := fun k _ _ => Or.inl ⟨(by decide : (0 : Int32) = iI 0), rfl⟩
theorem fresh_RR {lE nN ld rv od s : Nat → Int32} (hA : RA lE nN ld rv od (fun _ => 0) (fun _ => 0) (fun _ => 0) (fun _ => 0) (fun _ => 0) (seaS 3 3)) (hs : mS s (seaS 3 3)) : RR (sg0 lE nN ld rv od) (mu0 s) :=
  ⟨seaS 3 3, fresh_RC hA, sea_wS (by decide) (by decide) (by decide) (by decide), hs, fresh_RH, fresh_RX, fresh_RO, fresh_RK, rfl, rfl⟩
theorem fresh_x : ∃ lE nN ld rv od : Nat → Int32, f_X6_beginSea 0 0 0 0 0 0 0 0 0 (fun _ => 0) (fun _ => 0) (fun _ => 0) (fun _ => 0) (fun _ => 0) 3 3 = some (iI 3, iI 3, iI 0, iI 0, iI 0, iI 0, iI 0, iI 0, iI 0, lE, nN, ld, rv, od) ∧ RA lE nN ld rv od (fun _ => 0) (fun _ => 0) (fun _ => 0) (fun _ => 0) (fun _ => 0) (seaS 3 3) := by
  have e3 : iI 3 = (3 : Int32) := by decide
  obtain ⟨lE, nN, ld, rv, od, h1, h2⟩ := x_beginSea (a0 := 0) (a1 := 0) (a2 := 0) (a3 := 0) (a4 := 0) (a5 := 0) (a6 := 0) (a7 := 0) (a8 := 0) (lOn := (fun _ => 0)) (nOn := (fun _ => 0)) (land := (fun _ => 0)) (riv := (fun _ => 0)) (ord := (fun _ => 0)) (dir := (fun _ => 0)) (hom := (fun _ => 0)) (len := (fun _ => 0)) (let' := (fun _ => 0)) (stp := (fun _ => 0)) (r := 3) (c := 3)
  exact ⟨lE, nN, ld, rv, od, by rw [← e3]; exact h1, h2⟩
theorem fresh_m : ∃ s : Nat → Int32, f_X9_begins (fun _ => 0) 3 3 = some s ∧ mS s (seaS 3 3) := by
  have e3 : iI 3 = (3 : Int32) := by decide
  obtain ⟨s, h1, h2⟩ := m_begins (s := (fun _ => 0)) (r := 3) (c := 3)
  exact ⟨s, by rw [← e3]; exact h1, h2⟩
theorem WL_fresh {g : GE} {ax am : Nat → Nat} {ao : Nat} {as as2 : Nat → Nat → Nat} {lE nN ld rv od s : Nat → Int32} {o : Nat → Int64} : WL g ax am ao as as2 (sg0 lE nN ld rv od) (mu0 s) o ++ (hW g as (sg0 lE nN ld rv od).2.1.2.2 8 ++ hW g as2 (sg0 lE nN ld rv od).2.2.2.2.2.2.2.2 2) = (WX g ax as as2 (sg0 lE nN ld rv od) ++ WM g am (mu0 s)) ++ WO g ao o := by
  have e1 : hW g as (sg0 lE nN ld rv od).2.1.2.2 8 = [] := rfl
  have e2 : hW g as2 (sg0 lE nN ld rv od).2.2.2.2.2.2.2.2 2 = [] := rfl
  rw [e1, e2]
  show (WX g ax as as2 (sg0 lE nN ld rv od) ++ (WM g am (mu0 s) ++ WO g ao o)) ++ ([] ++ []) = _
  simp only [List.append_nil, List.append_assoc]
