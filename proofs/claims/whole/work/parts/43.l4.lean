theorem ar_p {s : State} {args : Array Value} {t : FieldType} (h : (Cond.arrayClass t).before args s = true) (hra : ∀ c, va_RA s c t = (s.vm.findClass ("[" ++ t.toString) = some c)) : ∃ c, ArrOfT s c t ∧ va_RA s c t := by
  obtain ⟨c, k, comp, h1, h2, h3⟩ := Cond.arrayClass_spec h
  exact ⟨c, fun n z => ⟨fun k h => (by cases h), k, h2, comp, h3⟩, by rw [hra]; exact h1⟩
theorem ar_o {s : State} {C : String} (h : va_AO C s) : ∃ c, ArrOfT s c (.object C) ∧ va_RA s c (.object C) := by
  obtain ⟨comp, c, k, h1, h2, h3, h4, h5⟩ := Cond.arrayOver_spec h
  exact ⟨c, fun n z => ⟨fun k h => (by cases h), k, h3, comp, h4⟩, k, comp, h3, h4, h1, h5⟩
theorem ar_a {s : State} (h : va_AA s) : ∃ c, ArrOfT s c (.array .byte) ∧ va_RA s c (.array .byte) := by
  obtain ⟨comp, c, k, h1, h2, h3, h4, h5⟩ := Jvm.Stand.arrayOver_specB h
  exact ⟨c, fun n z => ⟨fun k h => (by cases h), k, h3, comp, h4⟩, h5⟩
theorem law_X {s : State} {args : Array Value} (hts : ∀ w ∈ lw_tbl, w.before args s = true) : XW s :=
  ⟨va_AO.of (hts (.arrayOver (.object "RollbackPair$Packet")) (by decide +kernel)), va_AO.of (hts (.arrayOver (.object "RollbackPair$State")) (by decide +kernel)), va_AO.of (hts (.arrayOver (.object "RollbackPair$Peer")) (by decide +kernel)), hts (.arrayOver (.array .byte)) (by decide +kernel), va_Nw.of rfl (hts (.methodLinkNest RX4 15 yX2_init "RollbackPair") (by decide +kernel))⟩
theorem law_K {s : State} {args : Array Value} (hts : ∀ w ∈ lw_tbl, w.before args s = true) : ∃ (D : va_G) (cs : Nat → ClassId), va_K D vwCl (tysC cs) s := by
  have hX := law_X hts
  obtain ⟨c0, i0, k0⟩ := u_known (C := RX0) (T := TX0) (N := 2) hts wlX0 (hts (.instantiable RX0 2) (by decide +kernel))
  obtain ⟨c1, i1, k1⟩ := u_known (C := RX1) (T := TX1) (N := 3) hts wlX1 (hts (.instantiable RX1 3) (by decide +kernel))
  obtain ⟨c2, i2, k2⟩ := u_known (C := RX2) (T := TX2) (N := 7) hts wlX2 (hts (.instantiable RX2 7) (by decide +kernel))
  obtain ⟨c3, i3, k3⟩ := u_known (C := RX3) (T := TX3) (N := 14) hts wlX3 (hts (.instantiable RX3 14) (by decide +kernel))
  obtain ⟨c4, i4, k4⟩ := u_known (C := RX4) (T := TX4) (N := 2) hts wlX4 (hts (.instantiable RX4 2) (by decide +kernel))
  obtain ⟨c5, i5, k5⟩ := u_known (C := RX5) (T := TX5) (N := 4) hts wlX5 (hts (.instantiable RX5 4) (by decide +kernel))
  obtain ⟨c6, i6, k6⟩ := u_known (C := RX6) (T := TX6) (N := 1) hts wlX6 (hts (.instantiable RX6 1) (by decide +kernel))
  obtain ⟨c7, i7, k7⟩ := u_known (C := RX7) (T := TX7) (N := 29) hts wlX7 (hts (.instantiable RX7 29) (by decide +kernel))
  obtain ⟨a0, b0, d0⟩ := ar_p (t := .int) (hts (.arrayClass .int) (by decide +kernel)) (fun _ => rfl)
  obtain ⟨a1, b1, d1⟩ := ar_p (t := .byte) (hts (.arrayClass .byte) (by decide +kernel)) (fun _ => rfl)
  obtain ⟨a2, b2, d2⟩ := ar_p (t := .short) (hts (.arrayClass .short) (by decide +kernel)) (fun _ => rfl)
  obtain ⟨a3, b3, d3⟩ := ar_p (t := .boolean) (hts (.arrayClass .boolean) (by decide +kernel)) (fun _ => rfl)
  obtain ⟨a4, b4, d4⟩ := ar_p (t := .float) (hts (.arrayClass .float) (by decide +kernel)) (fun _ => rfl)
  obtain ⟨a5, b5, d5⟩ := ar_p (t := .long) (hts (.arrayClass .long) (by decide +kernel)) (fun _ => rfl)
  obtain ⟨a6, b6, d6⟩ := ar_p (t := .double) (hts (.arrayClass .double) (by decide +kernel)) (fun _ => rfl)
  obtain ⟨a7, b7, d7⟩ := ar_o hX.1
  obtain ⟨a8, b8, d8⟩ := ar_o hX.2.1
  obtain ⟨a9, b9, d9⟩ := ar_o hX.2.2.1
  obtain ⟨a10, b10, d10⟩ := ar_a hX.2.2.2.1
  refine ⟨(fun j => match j with | 0 => c0 | 1 => c1 | 2 => c2 | 3 => c3 | 4 => c4 | 5 => c5 | 6 => c6 | _ => c7, fun j => match j with | 0 => i0 | 1 => i1 | 2 => i2 | 3 => i3 | 4 => i4 | 5 => i5 | 6 => i6 | _ => i7), fun j => match j with | 0 => a0 | 1 => a1 | 2 => a2 | 3 => a3 | 4 => a4 | 5 => a5 | 6 => a6 | 7 => a7 | 8 => a8 | 9 => a9 | _ => a10, fun j q h => ?_, fun j q h => ?_⟩
  · have hj : j < 8 := (List.getElem?_eq_some_iff.mp h).1
    rcases (show j = 0 ∨ j = 1 ∨ j = 2 ∨ j = 3 ∨ j = 4 ∨ j = 5 ∨ j = 6 ∨ j = 7 by omega) with rfl | rfl | rfl | rfl | rfl | rfl | rfl | rfl
    · cases h; exact k0
    · cases h; exact k1
    · cases h; exact k2
    · cases h; exact k3
    · cases h; exact k4
    · cases h; exact k5
    · cases h; exact k6
    · cases h; exact k7
  · have hj : j < 11 := (List.getElem?_eq_some_iff.mp h).1
    rcases (show j = 0 ∨ j = 1 ∨ j = 2 ∨ j = 3 ∨ j = 4 ∨ j = 5 ∨ j = 6 ∨ j = 7 ∨ j = 8 ∨ j = 9 ∨ j = 10 by omega) with rfl | rfl | rfl | rfl | rfl | rfl | rfl | rfl | rfl | rfl | rfl
    · cases h; exact ⟨b0, d0⟩
    · cases h; exact ⟨b1, d1⟩
    · cases h; exact ⟨b2, d2⟩
    · cases h; exact ⟨b3, d3⟩
    · cases h; exact ⟨b4, d4⟩
    · cases h; exact ⟨b5, d5⟩
    · cases h; exact ⟨b6, d6⟩
    · cases h; exact ⟨b7, d7⟩
    · cases h; exact ⟨b8, d8⟩
    · cases h; exact ⟨b9, d9⟩
    · cases h; exact ⟨b10, d10⟩
