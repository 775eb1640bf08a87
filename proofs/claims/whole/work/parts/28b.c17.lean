theorem sI_ne {S : SS} {j i : Nat} {g : Nat → Int32} (h : i ≠ j) : (sI S j g).1 i = S.1 i := va_up_ne _ _ h
theorem sI_eq {S : SS} {j : Nat} {g : Nat → Int32} : (sI S j g).1 j = g := va_up_self _ _ _
theorem sI_2 {S : SS} {j : Nat} {g : Nat → Int32} : (sI S j g).2 = S.2 := rfl
theorem mPlay_B (S : SS) (q f : Nat) : (mPlay S q f).2.2.1 = S.2.2.1 := rfl
theorem mPlay_9 (S : SS) (q f : Nat) : (mPlay S q f).2.1 9 = S.2.1 9 := rfl
theorem mOwn_k {dd : Nat} {S : SS} {q a j : Nat} {i : Int32} (h : j ≠ 10 ∧ j ≠ 12) : (mOwn dd S q a i).1 j = S.1 j := by
  unfold mOwn; rw [sI_ne h.2, sI_ne h.1]
theorem mOwn_10 {dd : Nat} {S : SS} {q a : Nat} {i : Int32} : (mOwn dd S q a i).1 10 = upd (S.1 10) (1200 * q + 600 * q + a + dd) i := by
  unfold mOwn; rw [sI_ne (by decide), sI_eq]
theorem mOwn_12 {dd : Nat} {S : SS} {q a : Nat} {i : Int32} : (mOwn dd S q a i).1 12 = upd (S.1 12) (2 * q + q) (nI (a + dd + 1)) := by
  unfold mOwn; rw [sI_eq]
theorem mOwn_2 {dd : Nat} {S : SS} {q a : Nat} {i : Int32} : (mOwn dd S q a i).2 = S.2 := by
  unfold mOwn; rw [sI_2, sI_2]
theorem mGo_k {dd : Nat} {S : SS} {q a j : Nat} {i : Int32} (h : j ≠ 2) : (mGo dd S q a i).1 j = (mPlay (mOwn dd S q a i) q a).1 j := by
  unfold mGo; rw [sI_ne h]
theorem mGo_2 {dd : Nat} {S : SS} {q a : Nat} {i : Int32} : (mGo dd S q a i).2 = (mPlay (mOwn dd S q a i) q a).2 := by
  unfold mGo; rw [sI_2]
theorem mGo_at {dd : Nat} {S : SS} {q a : Nat} {i : Int32} : (mGo dd S q a i).1 2 q = nI (a + 1) := by
  unfold mGo; rw [sI_eq]; exact if_pos rfl
theorem mGo_j {dd : Nat} {S : SS} {q a : Nat} {i : Int32} (j : Nat) (a1 : j ≠ 2) (a2 : j ≠ 10) (a3 : j ≠ 11) (a4 : j ≠ 12) (a5 : j ≠ 17) : (mGo dd S q a i).1 j = S.1 j := by
  rw [mGo_k a1, mPlay_k _ _ _ ⟨a3, a5⟩, mOwn_k ⟨a2, a4⟩]
theorem mGo_B {dd : Nat} {S : SS} {q a : Nat} {i : Int32} : (mGo dd S q a i).2.2.1 = S.2.2.1 := by
  rw [mGo_2, mPlay_B, mOwn_2]
theorem sB_1 {S : SS} {g : Nat → Int64} : (sB S g).1 = S.1 := rfl
theorem mNum_k {U : SS} {q j : Nat} (h : j ≠ 8) : (mNum U q).1 j = U.1 j := by unfold mNum; rw [sI_ne h]
theorem mPut_20 {S : SS} {q r c : Nat} {b : Int64} : (mPut S q r c b).1 20 = upd (S.1 20) (12 * (1 - q) + r) (S.1 8 q) := by
  unfold mPut mFill
  rw [sI_ne (by decide), sI_ne (by decide), sB_1, sI_ne (by decide), sI_ne (by decide), sI_ne (by decide), sI_ne (by decide), sI_eq]
theorem st1_k {S : SS} {q j : Nat} (h : j ≠ 3) : (mSt1 S q).1 j = S.1 j := by unfold mSt1; rw [sI_ne h]
theorem cut_k {S : SS} {q j : Nat} (h : j ≠ 3) (h2 : j ≠ 4) : (mCut S q).1 j = S.1 j := by unfold mCut; rw [sI_ne h2, st1_k h]
theorem cut_2 {S : SS} {q : Nat} : (mCut S q).2 = S.2 := by unfold mCut mSt1; rw [sI_2, sI_2]
theorem st1_I {dd ww : Nat} {S : SS} {q a nt : Nat} (hI : Iq dd ww S q a nt) : Iq dd ww (mSt1 S q) q a nt := by
  obtain ⟨I1, I2, I3, I4, I5, I6, I7, I9, I10, I11, I12, I13⟩ := hI
  exact ⟨I1, I2, I3, I4, I5, I6, I7, I9, I10, fun pl f hp hf => (I11 pl f hp hf).trans (mUse_c (S := S) rfl rfl rfl q pl f).symm, fun f hf => BdAt_of rfl (I12 f hf), I13⟩
theorem cut_I {dd ww : Nat} {S : SS} {q a nt : Nat} (hq : q < 2) (hdd : dd ≤ 4) (ha : a ≤ 560) (hn : nt ≤ a) (hI : Iq dd ww S q a nt) : Iq dd ww (mAgain (mCut S q) q a nt) q a nt := by
  have hsp := mFw_sp (S := mCut S q) (q := q) (a - nt) nt
  have hb := mFw_ge (mCut S q) q (a - nt) nt
  obtain ⟨I1, I2, I3, I4, I5, I6, I7, I9, I10, I11, I12, I13⟩ := hI
  unfold mAgain
  have c4 : (mCut S q).1 4 q = nI nt := (if_pos rfl).trans I3
  have cj : ∀ j, j ≠ 3 → j ≠ 4 → (mCut S q).1 j = S.1 j := fun j h1 h2 => cut_k h1 h2
  have c2 : (mCut S q).2 = S.2 := cut_2
  generalize mFw (mCut S q) q (a - nt) nt = F at *
  generalize mCut S q = C at *
  have hp : ∀ {j : Nat}, (j ≠ 11 ∧ j ≠ 17) → (mPlays C q (a - F) F).1 j = C.1 j := fun h => mPlays_k _ _ _ _ h
  have k2 : C.1 12 (2 * q + q) = nI (a + dd) := by rw [cj 12 (by decide) (by decide)]; exact I2
  have k3 : C.1 12 (2 * q + (1 - q)) = nI nt := by rw [cj 12 (by decide) (by decide)]; exact I3
  refine ⟨?_, ?_, ?_, I4, ?_, ?_, ?_, ?_, ?_, ?_, ?_, ?_⟩
  · rw [hp (by decide), cj 2 (by decide) (by decide)]; exact I1
  · rw [hp (by decide)]; exact k2
  · rw [hp (by decide)]; exact k3
  · intro z; rw [hp (by decide), c4] at z; exact absurd (nI_pos' (by omega)) z
  · rw [hp (by decide), c4]; exact Or.inr ⟨rfl, hn⟩
  · rw [hp (by decide), cj 5 (by decide) (by decide)]; exact I7
  · rw [hp (by decide), cj 10 (by decide) (by decide)]; exact I9
  · rw [hp (by decide), cj 10 (by decide) (by decide)]; exact I10
  · intro pl f hpl hf
    rw [mPlays_u _ _ _ _ _ _ (by omega) hpl (by omega), mUse_c (S := C) (hp (by decide)) (hp (by decide)) (hp (by decide))]
    split
    · rfl
    · rename_i hno
      have hfF : f < F := by omega
      rcases (show pl = q ∨ pl = 1 - q by omega) with rfl | rfl
      · rw [cj 11 (by decide) (by decide), I11 pl f hpl hf, mUse_eq I2 (by omega), mUse_eq k2 (by omega), if_pos (by omega), if_pos (by omega), cj 10 (by decide) (by decide)]
      · by_cases hfn : f < nt
        · rw [cj 11 (by decide) (by decide), I11 (1 - q) f hpl hf, mUse_eq I3 (by omega), mUse_eq k3 (by omega), if_pos (by omega), if_pos (by omega), cj 10 (by decide) (by decide)]
        · exact hsp f (by omega) hfF
  · intro f hf
    exact mPlays_Bd _ _ _ _ (by omega) (fun x hx => BdAt_of c2 (I12 x (by omega))) f (by omega)
  · rw [(mPlays_9 _ _ _ _).1, c2]; exact I13
theorem go_I {dd ww : Nat} {S : SS} {q a nt i : Nat} (hq : q < 2) (hdd : dd ≤ 4) (hw : ww ≤ 8) (ha : a ≤ 555) (hi : i < 8) (hI : Iq dd ww S q a nt) (hst : ¬ mStall ww S q) : Iq dd ww (mSend (mGo dd S q a (nI i)) q) q (a + 1) nt := by
  obtain ⟨I1, I2, I3, I4, I5, I6, ⟨t, I7, I8⟩, I9, I10, I11, I12, I13⟩ := hI
  have hs : ∀ {j : Nat}, (j ≠ 8 ∧ j ≠ 19 ∧ j ≠ 20 ∧ j ≠ 21 ∧ j ≠ 22 ∧ j ≠ 23 ∧ j ≠ 24 ∧ j ≠ 26) → (mSend (mGo dd S q a (nI i)) q).1 j = (mGo dd S q a (nI i)).1 j := fun h => mSend_k h
  have g0 : ∀ j, j ≠ 2 → j ≠ 10 → j ≠ 11 → j ≠ 12 → j ≠ 17 → (mGo dd S q a (nI i)).1 j = S.1 j := fun j => mGo_j j
  have g10 : (mGo dd S q a (nI i)).1 10 = upd (S.1 10) (1200 * q + 600 * q + a + dd) (nI i) := by rw [mGo_k (by decide), mPlay_k _ _ _ (by decide), mOwn_10]
  have g11 : (mGo dd S q a (nI i)).1 11 = (mPlay (mOwn dd S q a (nI i)) q a).1 11 := mGo_k (by decide)
  have g12 : (mGo dd S q a (nI i)).1 12 = upd (S.1 12) (2 * q + q) (nI (a + dd + 1)) := by rw [mGo_k (by decide), mPlay_k _ _ _ (by decide), mOwn_12]
  have gat : (mGo dd S q a (nI i)).1 2 q = nI (a + 1) := mGo_at
  have gF : (mGo dd S q a (nI i)).2 = (mPlay (mOwn dd S q a (nI i)) q a).2 := mGo_2
  have o10 : (mOwn dd S q a (nI i)).1 10 = upd (S.1 10) (1200 * q + 600 * q + a + dd) (nI i) := mOwn_10
  have o12 : (mOwn dd S q a (nI i)).1 12 = upd (S.1 12) (2 * q + q) (nI (a + dd + 1)) := mOwn_12
  have o4 : (mOwn dd S q a (nI i)).1 4 = S.1 4 := mOwn_k (by decide)
  have o11 : (mOwn dd S q a (nI i)).1 11 = S.1 11 := mOwn_k (by decide)
  have oF : (mOwn dd S q a (nI i)).2 = S.2 := mOwn_2
  have k2 : (mOwn dd S q a (nI i)).1 12 (2 * q + q) = nI (a + dd + 1) := by rw [o12]; exact if_pos rfl
  have k3 : (mOwn dd S q a (nI i)).1 12 (2 * q + (1 - q)) = nI nt := by rw [o12]; exact (upd_ne' (by omega)).trans I3
  have hF := mSend_F (mGo dd S q a (nI i)) q
  generalize mOwn dd S q a (nI i) = O at *
  generalize mGo dd S q a (nI i) = G at *
  have hU : ∀ pl f, mUse (mSend G q) q pl f = mUse O q pl f := fun pl f => (mUse_c (S := G) (hs (by decide)) (hs (by decide)) (hs (by decide)) q pl f).trans (mUse_c (S := O) (g10.trans o10.symm) (g12.trans o12.symm) ((g0 4 (by decide) (by decide) (by decide) (by decide) (by decide)).trans o4.symm) q pl f)
  refine ⟨?_, ?_, ?_, by omega, ?_, ?_, ?_, ?_, ?_, ?_, ?_, ?_⟩
  · rw [hs (by decide)]; exact gat
  · rw [hs (by decide), g12, show a + 1 + dd = a + dd + 1 by omega]; exact if_pos rfl
  · rw [hs (by decide), g12]; exact (upd_ne' (by omega)).trans I3
  · rw [hs (by decide), g0 4 (by decide) (by decide) (by decide) (by decide) (by decide)]
    intro z
    have h1 : nI a - nI nt < nI ww := Decidable.byContradiction (fun y => hst ⟨z, by rw [I1, I3]; exact y⟩)
    have h2 := (st_le (by omega) (by omega) (by omega)).mp h1
    omega
  · rw [hs (by decide), g0 4 (by decide) (by decide) (by decide) (by decide) (by decide)]
    exact I6.imp id (fun z => ⟨z.1, by omega⟩)
  · rw [hs (by decide), g0 5 (by decide) (by decide) (by decide) (by decide) (by decide)]
    exact ⟨t, I7, by omega⟩
  · intro f hf
    rw [hs (by decide), g10]
    by_cases e : f = a + dd
    · exact ⟨i, hi, if_pos (by omega)⟩
    · rw [upd_ne' (by omega)]; exact I9 f (by omega)
  · intro f hf
    rw [hs (by decide), g10, upd_ne' (by omega)]; exact I10 f hf
  · intro pl f hp hf
    rw [hU, hs (by decide), g11]
    by_cases e : f = a
    · subst e; exact mPlay_u1 _ _ _ _ (by omega) hp
    · rw [mPlay_u2 _ _ _ _ _ (by omega) hp (by omega) e]
      rw [o11, I11 pl f hp (by omega)]
      rcases (show pl = q ∨ pl = 1 - q by omega) with rfl | rfl
      · rw [mUse_eq I2 (by omega), mUse_eq k2 (by omega), if_pos (by omega), if_pos (by omega), o10]
        exact (upd_ne' (by omega)).symm
      · rw [mUse_eq I3 (by omega), mUse_eq k3 (by omega), o10, o4]
        by_cases z : f < nt
        · rw [if_pos z, if_pos z]; exact (upd_ne' (by omega)).symm
        · rw [if_neg z, if_neg z]
          rw [upd_ne' (by omega)]
  · intro f hf
    have b0 : ∀ x, x ≤ a → BdAt O q x := fun x hx => BdAt_of oF (I12 x hx)
    have b1 : BdAt (mPlay O q a) q f := by
      by_cases e : f = a + 1
      · subst e; exact mPlay_Bd (by omega) (b0 a (Nat.le_refl a))
      · exact BdAt_ne (by omega) (b0 f (by omega))
    exact BdAt_F hF (BdAt_of gF b1)
  · rw [hF.1, gF, mPlay_9, oF]; exact I13
theorem adv_I {dd ww : Nat} {S : SS} {q a nt i : Nat} (hq : q < 2) (hdd : dd ≤ 4) (hw : ww ≤ 8) (ha : a ≤ 555) (hi : i < 8) (hI : Iq dd ww S q a nt) : (mStall ww S q → nt ≤ a ∧ Iq dd ww (mAdv dd ww S q (nI i)) q a nt) ∧ (¬ mStall ww S q → Iq dd ww (mAdv dd ww S q (nI i)) q (a + 1) nt) := by
  have hI0 := hI
  obtain ⟨I1, I2, I3, I4, I5, I6, I7, -⟩ := hI
  refine ⟨fun hs => ?_, fun hs => ?_⟩
  · have h1 : ¬ nI a - nI nt < nI ww := by have z := hs.2; rw [I1, I3] at z; exact z
    have hn : ¬ ((a : Int) - nt < ww) := fun z => h1 ((st_le (by omega) (by omega) (by omega)).mpr z)
    refine ⟨by omega, ?_⟩
    unfold mAdv
    rw [if_pos hs, I1, I3, tn_nI (by omega), tn_nI (by omega)]
    split
    · exact cut_I hq hdd (by omega) (by omega) hI0
    · exact st1_I hI0
  · unfold mAdv
    rw [if_neg hs, I1, tn_nI (by omega)]
    exact go_I hq hdd hw ha hi hI0 hs
theorem adv_sh {dd ww : Nat} {S : SS} {q : Nat} {i : Int32} (hd : ∀ x, sh (S.1 20 x)) (h8 : ∀ x, x < 2 → sh (S.1 8 x) ∧ sh (S.1 7 x)) (hq : q < 2) : (∀ x, sh ((mAdv dd ww S q i).1 20 x)) ∧ (∀ x, x < 2 → sh ((mAdv dd ww S q i).1 8 x) ∧ sh ((mAdv dd ww S q i).1 7 x)) := by
  unfold mAdv
  split
  · split
    · unfold mAgain
      rw [mPlays_k _ _ _ _ (by decide), mPlays_k _ _ _ _ (by decide), mPlays_k _ _ _ _ (by decide), cut_k (by decide) (by decide), cut_k (by decide) (by decide), cut_k (by decide) (by decide)]
      exact ⟨hd, h8⟩
    · rw [st1_k (by decide), st1_k (by decide), st1_k (by decide)]; exact ⟨hd, h8⟩
  · have e : ∀ j, j ≠ 2 → j ≠ 10 → j ≠ 11 → j ≠ 12 → j ≠ 17 → (mGo dd S q (tn (S.1 2 q)) i).1 j = S.1 j := fun j => mGo_j j
    have e20 := e 20 (by decide) (by decide) (by decide) (by decide) (by decide)
    have e8 := e 8 (by decide) (by decide) (by decide) (by decide) (by decide)
    have e7 := e 7 (by decide) (by decide) (by decide) (by decide) (by decide)
    generalize mGo dd S q (tn (S.1 2 q)) i = G at *
    refine ⟨fun x => ?_, fun x hx => ⟨?_, ?_⟩⟩
    · unfold mSend
      split
      · rw [mNum_k (by decide), mPut_20, e20, e8]
        unfold upd
        split
        · exact (h8 q hq).1
        · exact hd x
      · rw [mNum_k (by decide), e20]; exact hd x
    · rw [mSend_8]
      unfold upd
      split
      · exact sh_i _
      · rw [e8]; exact (h8 x hx).1
    · rw [mSend_k (by decide), e7]; exact (h8 x hx).2
theorem adv_row {dd ww : Nat} {S : SS} {q r : Nat} {i : Int32} (hq : q < 2) (h19 : S.1 19 (1 - q) = nI r) (hr : r ≤ 12) : (mAdv dd ww S q i).1 19 q = S.1 19 q ∧ (∀ j, 12 * q ≤ j → j < 12 * q + 12 → spk (mAdv dd ww S q i) j = spk S j) ∧ (mStall ww S q → (mAdv dd ww S q i).1 19 = S.1 19 ∧ ∀ j, spk (mAdv dd ww S q i) j = spk S j) := by
  unfold mAdv
  by_cases hs : mStall ww S q
  · rw [if_pos hs]
    have key : ∀ T : SS, T = (if S.1 3 q + nI 1 = nI 12 then mAgain (mCut S q) q (tn (S.1 2 q)) (tn (S.1 12 (2 * q + (1 - q)))) else mSt1 S q) → T.1 19 = S.1 19 ∧ ∀ j, spk T j = spk S j := fun T hT => by
      subst hT
      split
      · unfold mAgain
        refine ⟨by rw [mPlays_k _ _ _ _ (by decide), cut_k (by decide) (by decide)], fun j => ?_⟩
        unfold spk
        rw [mPlays_k _ _ _ _ (by decide), mPlays_k _ _ _ _ (by decide), mPlays_k _ _ _ _ (by decide), mPlays_k _ _ _ _ (by decide), mPlays_k _ _ _ _ (by decide), mPlays_k _ _ _ _ (by decide), (mPlays_9 _ _ _ _).2, cut_k (by decide) (by decide), cut_k (by decide) (by decide), cut_k (by decide) (by decide), cut_k (by decide) (by decide), cut_k (by decide) (by decide), cut_k (by decide) (by decide), cut_2]
      · exact ⟨st1_k (by decide), fun j => rfl⟩
    obtain ⟨k1, k2⟩ := key _ rfl
    exact ⟨by rw [k1], fun j _ _ => k2 j, fun _ => ⟨k1, k2⟩⟩
  · rw [if_neg hs]
    have e : ∀ j, j ≠ 2 → j ≠ 10 → j ≠ 11 → j ≠ 12 → j ≠ 17 → (mGo dd S q (tn (S.1 2 q)) i).1 j = S.1 j := fun j => mGo_j j
    have eB : (mGo dd S q (tn (S.1 2 q)) i).2.2.1 = S.2.2.1 := mGo_B
    generalize mGo dd S q (tn (S.1 2 q)) i = G at *
    have es : ∀ j, spk G j = spk S j := fun j => by
      unfold spk
      rw [e 20 (by decide) (by decide) (by decide) (by decide) (by decide), e 21 (by decide) (by decide) (by decide) (by decide) (by decide), e 22 (by decide) (by decide) (by decide) (by decide) (by decide), e 23 (by decide) (by decide) (by decide) (by decide) (by decide), e 24 (by decide) (by decide) (by decide) (by decide) (by decide), e 26 (by decide) (by decide) (by decide) (by decide) (by decide), eB]
    have e19 := e 19 (by decide) (by decide) (by decide) (by decide) (by decide)
    refine ⟨?_, fun j z1 z2 => ?_, fun z => absurd z hs⟩
    · unfold mSend
      split
      · rw [mNum_19, mPut_19, upd_ne' (by omega), e19]
      · rw [mNum_19, e19]
    · unfold mSend
      rw [show tn (G.1 19 (1 - q)) = r by rw [e19, h19, tn_nI (by omega)]]
      split
      · rw [mNum_spk, mPut_ne (by omega), es]
      · rw [mNum_spk, es]
theorem CR_mono {dd ww N : Nat} {ad : Nat → Nat} {cs : Nat → ClassId} {M : Nat → va_E} {S : SS} (h : CR dd ww N ad cs M S) : CR dd ww (N + 1) ad cs M S := by
  obtain ⟨h1, h2, h3, h4⟩ := h
  exact ⟨h1, h2, fun q hq => by obtain ⟨a, nt, p1, p2⟩ := h3 q hq; exact ⟨a, nt, by omega, p2⟩, h4⟩
theorem CR_step {dd ww N : Nat} {ad : Nat → Nat} {cs : Nat → ClassId} {M M2 : Nat → va_E} {S S2 : SS} {q a2 nt2 : Nat} (h : CR dd ww N ad cs M S) (hdd : dd ≤ 4) (hN : N ≤ 550) (hq : q < 2) (ha2 : a2 ≤ N + 1) (hI : Iq dd ww S2 q a2 nt2) (hP : PeS ad cs (30 + 58 * q) (2 + 14 * q) (2 + 14 * (1 - q)) q ww S2 M2 a2 (a2 + dd) nt2) (hAg : Ag S S2 (1 - q)) (hR : RwS ad cs (2 + 14 * q) M2 S2 q) (hR2 : RwS ad cs (2 + 14 * (1 - q)) M2 S2 (1 - q)) (hf : ∀ j, j < 2 ∨ (30 + 58 * (1 - q) ≤ j ∧ j < 88 + 58 * (1 - q)) → M2 j = M j) (s20 : ∀ i, sh (S2.1 20 i)) (s87 : ∀ p, p < 2 → sh (S2.1 8 p) ∧ sh (S2.1 7 p)) : CR dd ww (N + 1) ad cs M2 S2 := by
  obtain ⟨h1, ⟨g, h2, h2b⟩, h3, h4, h5⟩ := h
  refine ⟨(hf 0 (Or.inl (by decide))).trans h1, ⟨g, (hf 1 (Or.inl (by decide))).trans h2, h2b⟩, fun p hp => ?_, fun p hp => ?_, s20, s87⟩
  · rcases (show p = q ∨ p = 1 - q by omega) with rfl | rfl
    · exact ⟨a2, nt2, ha2, hI, hP⟩
    · obtain ⟨a, nt, p1, p2, p3⟩ := h3 (1 - q) hp
      exact ⟨a, nt, by omega, hAg.toI hp hdd (by omega) p2, hAg.toP hp (by omega) (by omega) (by have := p2.2.2.2.1; omega) p3 (fun j z1 z2 => hf j (Or.inr (by omega)))⟩
  · rcases (show p = q ∨ p = 1 - q by omega) with rfl | rfl
    · exact hR
    · exact hR2
