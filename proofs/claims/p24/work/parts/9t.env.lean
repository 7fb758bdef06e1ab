/-! what the tables give at the law's entry -/
theorem in_tbl {C : String} {T : u_T} {N : Nat} (h : ∀ w ∈ u_ws C T N, w ∈ AL) : ∀ w ∈ u_ws C T N, w ∈ lw_tbl := fun w hw => AL_tbl (h w hw)
theorem arr_i {s : State} {args : Array Value} {ty : FieldType} (hty : ty = .int ∨ ty = .byte) (h : (Cond.arrayClass ty).before args s = true) : ∃ cA : ClassId, ArrOfT s cA ty ∧ va_RA s cA ty := by
  obtain ⟨cA, kA, comp, h1, h2, h3⟩ := Cond.arrayClass_spec h
  refine ⟨cA, fun n z => ⟨fun k h => (by cases h), kA, h2, comp, h3⟩, ?_⟩
  rcases hty with rfl | rfl <;> exact h1
theorem arr_o {s : State} {args : Array Value} {C : String} (h : (Cond.arrayOver (.object C)).before args s = true) : ∃ cA : ClassId, ArrOfT s cA (.object C) ∧ va_RA s cA (.object C) := by
  obtain ⟨comp, cA, kA, h1, -, h2, h3, h4⟩ := Cond.arrayOver_spec h
  exact ⟨cA, fun n z => ⟨fun k h => (by cases h), kA, h2, comp, h3⟩, kA, comp, h2, h3, h1, h4⟩
theorem st_arr {s : State} {args : Array Value} {nm : String} {t : Nat} (hl : (Cond.laysStatic "ThermostatColony" nm "[I").before args s = true) (hini : (Cond.initialized "ThermostatColony").before args s = true) (harr : (Cond.arrayOf (.static "ThermostatColony" nm "[I") .int).before args s = true) (hlen : (Cond.eq (.length (.static "ThermostatColony" nm "[I")) (.int 7)).before args s = true)
    (hel : ∀ j : Nat, j < 7 → (Cond.eq (.elem (.static "ThermostatColony" nm "[I") (.int (Int32.ofNat j))) (.int (stI t j))).before args s = true) : ∃ a : Nat, va_Z "ThermostatColony" nm "[I" (.ref a) (iA s.heap.size) s s.heap ∧ va_T .int a 7 (stV t) (iA s.heap.size) s s.heap := by
  have hA : ∀ a : Nat, a < s.heap.size → ¬ iA s.heap.size a := fun a h => Nat.not_le.mpr h
  obtain ⟨a, h1, h2⟩ := va_Tof (tm := .static "ThermostatColony" nm "[I") (ty := .int) (N := 7) (f := stV t) (by decide) harr (va_eqt hlen) (fun j hj => va_eqt (hel j hj)) hA
  exact ⟨a, va_Zof hl hini h1 hA, h2⟩
theorem env_start {s : State} {b : Nat} (hts : ∀ w ∈ lw_tbl, w.before #[Value.ref b] s = true) (hgv : (Jvm.Cond.and given_1 narrow_1).before #[Value.ref b] s = true) : ∃ E : xE, Ev E (iA s.heap.size) s s.heap ∧ E2 s := by
  have hs := flat_of_before _ hgv
  have hini := hts (.initialized "ThermostatColony") (by decide +kernel)
  obtain ⟨a0, z0, w0⟩ := st_arr (t := 0) (hts (.laysStatic "ThermostatColony" "FIRST_NUMBERS" "[I") (by decide +kernel)) hini (hs _ (by decide +kernel)) (hs _ (by decide +kernel)) (fun j hj => by
    have hj' : j = 0 ∨ j = 1 ∨ j = 2 ∨ j = 3 ∨ j = 4 ∨ j = 5 ∨ j = 6 := by omega
    rcases hj' with rfl | rfl | rfl | rfl | rfl | rfl | rfl <;> exact hs _ (by decide +kernel))
  obtain ⟨a1, z1, w1⟩ := st_arr (t := 1) (hts (.laysStatic "ThermostatColony" "LEAST_NUMBERS" "[I") (by decide +kernel)) hini (hs _ (by decide +kernel)) (hs _ (by decide +kernel)) (fun j hj => by
    have hj' : j = 0 ∨ j = 1 ∨ j = 2 ∨ j = 3 ∨ j = 4 ∨ j = 5 ∨ j = 6 := by omega
    rcases hj' with rfl | rfl | rfl | rfl | rfl | rfl | rfl <;> exact hs _ (by decide +kernel))
  obtain ⟨a2, z2, w2⟩ := st_arr (t := 2) (hts (.laysStatic "ThermostatColony" "MOST_NUMBERS" "[I") (by decide +kernel)) hini (hs _ (by decide +kernel)) (hs _ (by decide +kernel)) (fun j hj => by
    have hj' : j = 0 ∨ j = 1 ∨ j = 2 ∨ j = 3 ∨ j = 4 ∨ j = 5 ∨ j = 6 := by omega
    rcases hj' with rfl | rfl | rfl | rfl | rfl | rfl | rfl <;> exact hs _ (by decide +kernel))
  obtain ⟨c0, i0, k0⟩ := u_known (C := RX0) (T := TX0) (N := 5) (n := 5) hts (in_tbl in_X0) (hts (.instantiable RX0 5) (AL_tbl vn_X0))
  obtain ⟨c1, i1, k1⟩ := u_known (C := RX1) (T := TX1) (N := 6) (n := 6) hts (in_tbl in_X1) (hts (.instantiable RX1 6) (AL_tbl vn_X1))
  obtain ⟨c2, i2, k2⟩ := u_known (C := RX2) (T := TX2) (N := 3) (n := 3) hts (in_tbl in_X2) (hts (.instantiable RX2 3) (AL_tbl vn_X2))
  obtain ⟨c3, i3, k3⟩ := u_known (C := RX3) (T := TX3) (N := 18) (n := 18) hts (in_tbl in_X3) (hts (.instantiable RX3 18) (AL_tbl vn_X3))
  obtain ⟨c4, i4, k4⟩ := u_known (C := RX4) (T := TX4) (N := 3) (n := 3) hts (in_tbl in_X4) (hts (.instantiable RX4 3) (AL_tbl vn_X4))
  obtain ⟨c5, i5, k5⟩ := u_known (C := RX5) (T := TX5) (N := 3) (n := 3) hts (in_tbl in_X5) (hts (.instantiable RX5 3) (AL_tbl vn_X5))
  obtain ⟨c6, i6, k6⟩ := u_known (C := RX6) (T := TX6) (N := 5) (n := 5) hts (in_tbl in_X6) (hts (.instantiable RX6 5) (AL_tbl vn_X6))
  obtain ⟨q0, p0, r0⟩ := arr_i (Or.inl rfl) (hts (.arrayClass .int) (AL_tbl va_w_int))
  have ho3 := hts (.arrayOver (.object "ThermostatColony$Room")) (by decide +kernel)
  have ho1 := hts (.arrayOver (.object "ThermostatColony$Colony")) (by decide +kernel)
  obtain ⟨q2, p2, r2⟩ := arr_o ho3
  obtain ⟨q3, p3, r3⟩ := arr_o ho1
  refine ⟨(((fun c => match c with | 0 => c0 | 1 => c1 | 2 => c2 | 3 => c3 | 4 => c4 | 5 => c5 | _ => c6), (fun c => match c with | 0 => i0 | 1 => i1 | 2 => i2 | 3 => i3 | 4 => i4 | 5 => i5 | _ => i6)), (fun c => match c with | 0 => q0 | 1 => q0 | 2 => q2 | _ => q3), (fun t => match t with | 0 => a0 | 1 => a1 | _ => a2)), ⟨⟨?_, ?_⟩, trivial, ⟨z0, z1, z2⟩, ?_⟩, ⟨⟨va_Nw.of rfl (hts _ (by decide +kernel)), va_Nw.of rfl (hts _ (by decide +kernel)), va_Nw.of rfl (hts _ (by decide +kernel)), va_Nw.of rfl (hts _ (by decide +kernel)), va_Nw.of rfl (hts _ (by decide +kernel))⟩, va_Nw.of rfl (hts _ (by decide +kernel)), va_AO.of ho3, va_AO.of ho1⟩⟩
  · intro c q hq
    match c, hq with
    | 0, hq => cases hq; exact k0
    | 1, hq => cases hq; exact k1
    | 2, hq => cases hq; exact k2
    | 3, hq => cases hq; exact k3
    | 4, hq => cases hq; exact k4
    | 5, hq => cases hq; exact k5
    | 6, hq => cases hq; exact k6
    | c + 7, hq => simp [vwCl] at hq
  · intro c q hq
    match c, hq with
    | 0, hq => cases hq; exact ⟨p0, r0⟩
    | 1, hq => cases hq; exact ⟨p0, r0⟩
    | 2, hq => cases hq; exact ⟨p2, r2⟩
    | 3, hq => cases hq; exact ⟨p3, r3⟩
    | c + 4, hq => simp [xty] at hq
  · intro t ht
    match t, ht with
    | 0, _ => exact w0
    | 1, _ => exact w1
    | 2, _ => exact w2
    | t + 3, ht => omega
