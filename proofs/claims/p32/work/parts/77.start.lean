-- WHAT THE START'S TABLES SAY OF CLASSES AND ROWS
theorem arr_c {s : State} {A : Array Value} {ty : FieldType} (h : (Cond.arrayClass ty).before A s = true) (hn : ∀ C, ty ≠ .object C) : ∃ cA, ArrOfT s cA ty ∧ va_RA s cA ty := by
  obtain ⟨cA, kA, comp, h1, h2, h3⟩ := Cond.arrayClass_spec h
  refine ⟨cA, fun N z => ⟨(fun k h => by cases h), kA, h2, comp, h3⟩, ?_⟩
  cases ty with
  | object C => exact absurd rfl (hn C)
  | _ => exact h1
theorem arr_o {s : State} {A : Array Value} {C : String} (h : (Cond.arrayOver (.object C)).before A s = true) : ∃ cA, ArrOfT s cA (.object C) ∧ va_RA s cA (.object C) := by
  obtain ⟨comp, c, k, h1, h2, h3, h4, h5⟩ := Cond.arrayOver_spec h
  exact ⟨c, fun N z => ⟨(fun k h => by cases h), k, h3, comp, h4⟩, k, comp, h3, h4, h1, h5⟩
theorem arr_a {s : State} {A : Array Value} (h : (Cond.arrayOver (.array .int)).before A s = true) : ∃ cA, ArrOfT s cA (.array .int) ∧ va_RA s cA (.array .int) := by
  obtain ⟨comp, c, k, h1, h3, h4, h5⟩ := Cond.arrayOver_specA h
  exact ⟨c, fun N z => ⟨(fun k h => by cases h), k, h3, comp, h4⟩, h5⟩
theorem hK_of {s : State} {A : Array Value} (hts : ∀ w ∈ lw_tbl, w.before A s = true) : ∃ (D : va_G) (T : Nat → ClassId), va_K D vwCl (hTys T) s := by
  obtain ⟨c0, i0, k0⟩ := u_known (n := 4) hts (fun w h => (List.mem_filter.mp (hin_J0 w h)).1) (hts _ (List.mem_filter.mp kinst_J0).1)
  obtain ⟨c1, i1, k1⟩ := u_known (n := 4) hts (fun w h => (List.mem_filter.mp (hin_J4 w h)).1) (hts _ (List.mem_filter.mp kinst_J4).1)
  obtain ⟨c2, i2, k2⟩ := u_known (n := 3) hts (fun w h => (List.mem_filter.mp (hin_Jx4a65c w h)).1) (hts _ (List.mem_filter.mp kinst_Jx4a65c).1)
  obtain ⟨c3, i3, k3⟩ := u_known (n := 6) hts (fun w h => (List.mem_filter.mp (hin_X1 w h)).1) (hts _ (List.mem_filter.mp kinst_X1).1)
  obtain ⟨c4, i4, k4⟩ := u_known (n := 4) hts (fun w h => (List.mem_filter.mp (hin_X2 w h)).1) (hts _ (List.mem_filter.mp kinst_X2).1)
  obtain ⟨c5, i5, k5⟩ := u_known (n := 7) hts (fun w h => (List.mem_filter.mp (hin_X3 w h)).1) (hts _ (List.mem_filter.mp kinst_X3).1)
  obtain ⟨c6, i6, k6⟩ := u_known (n := 3) hts (fun w h => (List.mem_filter.mp (hin_X4 w h)).1) (hts _ (List.mem_filter.mp kinst_X4).1)
  obtain ⟨c7, i7, k7⟩ := u_known (n := 14) hts (fun w h => (List.mem_filter.mp (hin_X5 w h)).1) (hts _ (List.mem_filter.mp kinst_X5).1)
  obtain ⟨c8, i8, k8⟩ := u_known (n := 6) hts (fun w h => (List.mem_filter.mp (hin_X6 w h)).1) (hts _ (List.mem_filter.mp kinst_X6).1)
  obtain ⟨c9, i9, k9⟩ := u_known (n := 2) hts (fun w h => (List.mem_filter.mp (hin_X8 w h)).1) (hts _ (List.mem_filter.mp kinst_X8).1)
  obtain ⟨c10, i10, k10⟩ := u_known (n := 5) hts (fun w h => (List.mem_filter.mp (hin_X9 w h)).1) (hts _ (List.mem_filter.mp kinst_X9).1)
  obtain ⟨c11, i11, k11⟩ := u_known (n := 2) hts (fun w h => (List.mem_filter.mp (hin_X10 w h)).1) (hts _ (List.mem_filter.mp kinst_X10).1)
  obtain ⟨c12, i12, k12⟩ := u_known (n := 15) hts (fun w h => (List.mem_filter.mp (hin_X11 w h)).1) (hts _ (List.mem_filter.mp kinst_X11).1)
  obtain ⟨a0, b0⟩ := arr_c (hts _ (List.mem_filter.mp kac_int).1) (fun C h => by cases h)
  obtain ⟨a1, b1⟩ := arr_c (hts _ (List.mem_filter.mp kac_byte).1) (fun C h => by cases h)
  obtain ⟨a2, b2⟩ := arr_c (hts _ (List.mem_filter.mp kac_long).1) (fun C h => by cases h)
  obtain ⟨a3, b3⟩ := arr_o (C := "LossHouse$Sign") (hts _ (List.mem_of_getElem? (i := 122) (by decide +kernel)))
  obtain ⟨a4, b4⟩ := arr_o (C := "LossHouse$Triangle") (hts _ (List.mem_of_getElem? (i := 245) (by decide +kernel)))
  obtain ⟨a5, b5⟩ := arr_a (hts _ (List.mem_of_getElem? (i := 222) (by decide +kernel)))
  obtain ⟨a6, b6⟩ := arr_o (C := "java/lang/Object") (hts _ (List.mem_of_getElem? (i := 1175) (by decide +kernel)))
  refine ⟨(fun k => [c0, c1, c2, c3, c4, c5, c6, c7, c8, c9, c10, c11, c12].getD k c0, fun k => [i0, i1, i2, i3, i4, i5, i6, i7, i8, i9, i10, i11, i12].getD k i0), fun k => [a0, a1, a2, a3, a4, a5, a6].getD k a0, ?_, ?_⟩
  · intro k q hq
    match k, hq with
    | 0, hq => cases hq; exact k0
    | 1, hq => cases hq; exact k1
    | 2, hq => cases hq; exact k2
    | 3, hq => cases hq; exact k3
    | 4, hq => cases hq; exact k4
    | 5, hq => cases hq; exact k5
    | 6, hq => cases hq; exact k6
    | 7, hq => cases hq; exact k7
    | 8, hq => cases hq; exact k8
    | 9, hq => cases hq; exact k9
    | 10, hq => cases hq; exact k10
    | 11, hq => cases hq; exact k11
    | 12, hq => cases hq; exact k12
    | k + 13, hq => simp [vwCl] at hq
  · intro k q hq
    match k, hq with
    | 0, hq => cases hq; exact b0
    | 1, hq => cases hq; exact b1
    | 2, hq => cases hq; exact b2
    | 3, hq => cases hq; exact b3
    | 4, hq => cases hq; exact b4
    | 5, hq => cases hq; exact b5
    | 6, hq => cases hq; exact b6
    | k + 7, hq => simp [hTys] at hq
