theorem ar_p {s : State} {args : Array Value} {t : FieldType} (h : (Cond.arrayClass t).before args s = true) (hra : ∀ c, va_RA s c t = (s.vm.findClass ("[" ++ t.toString) = some c)) : ∃ c, ArrOfT s c t ∧ va_RA s c t := by
  obtain ⟨c, k, comp, h1, h2, h3⟩ := Cond.arrayClass_spec h
  exact ⟨c, fun n z => ⟨fun k h => (by cases h), k, h2, comp, h3⟩, by rw [hra]; exact h1⟩
theorem ar_o {s : State} {C : String} (h : va_AO C s) : ∃ c, ArrOfT s c (.object C) ∧ va_RA s c (.object C) := by
  obtain ⟨comp, c, k, h1, h2, h3, h4, h5⟩ := Cond.arrayOver_spec h
  exact ⟨c, fun n z => ⟨fun k h => (by cases h), k, h3, comp, h4⟩, k, comp, h3, h4, h1, h5⟩
theorem ar_a {s : State} (h : va_AA s) : ∃ c, ArrOfT s c (.array .byte) ∧ va_RA s c (.array .byte) := by
  obtain ⟨comp, c, k, h1, h2, h3, h4, h5⟩ := Jvm.Stand.arrayOver_specB h
  exact ⟨c, fun n z => ⟨fun k h => (by cases h), k, h3, comp, h4⟩, h5⟩
theorem law_X {s : State} {args : Array Value} (hts : ∀ w ∈ lw_tbl, w.before args s = true) : XW s :=
  ⟨va_AO.of (hts (.arrayOver (.object "RollbackPair$Packet")) (by decide +kernel)), va_AO.of (hts (.arrayOver (.object "RollbackPair$State")) (by decide +kernel)), va_AO.of (hts (.arrayOver (.object "RollbackPair$Peer")) (by decide +kernel)), hts (.arrayOver (.array .byte)) (by decide +kernel), va_Nw.of rfl (hts (.methodLinkNest RX4 15 yX2_init "RollbackPair") (by decide +kernel))⟩
