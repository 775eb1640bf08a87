/-! what the relation says, for the law's loop -/
theorem CR.mono {dd ww N : Nat} {ad : Nat → Nat} {cs : Nat → ClassId} {M : Nat → va_E} {S : SS} (h : CR dd ww N ad cs M S) : CR dd ww (N + 1) ad cs M S := by
  obtain ⟨h1, h2, h3, h4⟩ := h
  refine ⟨h1, h2, fun q hq => ?_, h4⟩
  obtain ⟨a, nt, p1, p2⟩ := h3 q hq
  exact ⟨a, nt, by omega, p2⟩
theorem CR.A {dd ww N : Nat} {ad : Nat → Nat} {cs : Nat → ClassId} {M : Nat → va_E} {S : SS} (h : CR dd ww N ad cs M S) (hN : N ≤ 520) : ∀ q, q < 2 → ∃ a, S.1 2 q = nI a ∧ a ≤ 590 := by
  intro q hq
  obtain ⟨k, r1, r2, a, nt, -, -, -, ha, hI, -⟩ := h.get q hq
  exact ⟨a, hI.1, by omega⟩
theorem CR.B {dd ww N : Nat} {ad : Nat → Nat} {cs : Nat → ClassId} {M : Nat → va_E} {S : SS} (h : CR dd ww N ad cs M S) (hN : N ≤ 520) : ∀ q f, q < 2 → f ≤ tn (S.1 2 q) → BdAt S q f := by
  intro q f hq hf
  obtain ⟨k, r1, r2, a, nt, -, -, -, ha, hI, -⟩ := h.get q hq
  obtain ⟨I1, I2, I3, I4, I5, I6, I7, I9, I10, I11, I12, I13⟩ := hI
  rw [I1, tn_nI (by omega)] at hf
  exact I12 f hf
theorem f2d_nn {a : UInt32} (h : FP.Core.FFin a) : vf_n64 (FP.f2d a) := by
  have hn : FP.Core.fIsNaN a = false := h.notNaN
  have hfin : FP.Core.DFin (FP.f2d a) := by
    have := FP.Core.f2d_fin h
    rw [FP.f2d_core hn]; exact this
  exact Db.n (lo := zd _) (hi := zd _) ⟨hfin, Int.le_refl _, Int.le_refl _⟩
theorem FF_m : FP.Core.FFin 3267887104 := (FP.Core.fin_bits32 _).mpr (by decide)
theorem FF_0 : FP.Core.FFin FP.fconst0 := (FP.Core.fin_bits32 _).mpr (by decide)
theorem CR.pl {dd ww N : Nat} {ad : Nat → Nat} {cs : Nat → ClassId} {M : Nat → va_E} {S : SS} (h : CR dd ww N ad cs M S) (hN : N ≤ 520) (pe pl : Int32) : vf_n64 (FP.f2d (rPl S pe pl)) := by
  refine f2d_nn ?_
  unfold rPl
  split
  · rename_i hh
    obtain ⟨q, hq, rfl⟩ := two_q hh.1
    have hb := h.B hN q (aOf S (nI q)) hq (by unfold aOf; rw [tn_nI (by omega)]; exact Nat.le_refl _)
    rw [tn_nI (by omega)]
    split
    · exact hb.1.1
    · exact hb.2.2.1.1
  · exact FF_m
theorem CR.sp {dd ww N : Nat} {ad : Nat → Nat} {cs : Nat → ClassId} {M : Nat → va_E} {S : SS} (h : CR dd ww N ad cs M S) (hN : N ≤ 520) (pe pl : Int32) : vf_n64 (FP.f2d (rSp S pe pl)) := by
  refine f2d_nn ?_
  unfold rSp
  split
  · rename_i hh
    obtain ⟨q, hq, rfl⟩ := two_q hh.1
    have hb := h.B hN q (aOf S (nI q)) hq (by unfold aOf; rw [tn_nI (by omega)]; exact Nat.le_refl _)
    rw [tn_nI (by omega)]
    split
    · exact hb.2.1.1
    · exact hb.2.2.2.1.1
  · exact FF_0
theorem CR.av {dd ww N : Nat} {ad : Nat → Nat} {cs : Nat → ClassId} {M : Nat → va_E} {S : SS} (h : CR dd ww N ad cs M S) (pe : Int32) : vf_n64 (FP.f2d (rAv S pe)) := by
  refine f2d_nn ?_
  unfold rAv
  split
  · rename_i hh
    obtain ⟨q, hq, rfl⟩ := two_q hh
    obtain ⟨k, r1, r2, a, nt, -, -, -, ha, hI, -⟩ := h.get q hq
    obtain ⟨I1, I2, I3, I4, I5, I6, I7, I9, I10, I11, I12, I13⟩ := hI
    rw [tn_nI (by omega)]
    exact I13.1
  · exact FF_0
/-- a number from 0 to n -/
theorem in_0n {x : Int32} {n : Nat} (hn : n < 2 ^ 31) (h1 : ¬ x < 0) (h2 : ¬ nI n < x) : ∃ j : Nat, j ≤ n ∧ x = nI j := by
  rcases wh_c x n hn with h | h | h
  · exact h
  · exact absurd h h1
  · exact absurd h h2
/-- all that the methods of the reference ask of the state, for peer q -/
theorem CR.all {dd ww N : Nat} {ad : Nat → Nat} {cs : Nat → ClassId} {M : Nat → va_E} {S : SS} (h : CR dd ww N ad cs M S) (q : Nat) (hq : q < 2) : ∃ a nt t r r8, a ≤ N ∧ S.1 2 q = nI a ∧ S.1 12 (2 * q + q) = nI (a + dd) ∧ S.1 12 (2 * q + (1 - q)) = nI nt ∧ nt ≤ a + 20 ∧ S.1 5 q = nI t ∧ t ≤ a + dd ∧ S.1 19 q = nI r ∧ r ≤ 12 ∧ S.1 19 (1 - q) = nI r8 ∧ r8 ≤ 12 ∧ (∀ f, f ≤ a → BdAt S q f) ∧ Fb (S.2.1 9 q) (-(2 ^ 36 * e8)) (2 ^ 36 * e8) ∧ sh (S.1 8 q) ∧ (∀ i, sh (S.1 20 i)) := by
  obtain ⟨k, r1, r2, a, nt, -, -, -, ha, hI, -, ⟨sg9, pk, r, -, hr, hr2, -⟩, ⟨sg8, pk8, r8, -, hr8, hr82, -⟩⟩ := h.get q hq
  obtain ⟨I1, I2, I3, I4, I5, I6, ⟨t, I7, I8⟩, I9, I10, I11, I12, I13⟩ := hI
  obtain ⟨-, -, -, -, hs20, hs87⟩ := h
  exact ⟨a, nt, t, r, r8, ha, I1, I2, I3, I4, I7, I8, hr, hr2, hr8, hr82, I12, I13, (hs87 q hq).1, hs20⟩
theorem sub4 {L i : Nat} (hL : L < 2 ^ 30) (hi : i < 2 ^ 30) : nI L - nI 4 < nI i ↔ (L : Int) - 4 < i := by
  rw [Int32.lt_iff_toInt_lt, pk_sub_toInt hL (by decide), nI_toInt (by omega)]
  rfl
