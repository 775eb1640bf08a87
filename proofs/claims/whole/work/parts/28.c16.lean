/-- S and S2 agree on peer p -/
def Ag (S S2 : SS) (p : Nat) : Prop :=
  (∀ j, 2 ≤ j → j ≤ 8 → S2.1 j p = S.1 j p) ∧ S2.2.1 9 p = S.2.1 9 p ∧ (∀ y, y < 1200 → S2.1 10 (1200 * p + y) = S.1 10 (1200 * p + y)) ∧ (∀ y, y < 1200 → S2.1 11 (1200 * p + y) = S.1 11 (1200 * p + y)) ∧ (∀ y, y < 2 → S2.1 12 (2 * p + y) = S.1 12 (2 * p + y)) ∧
  ∀ y, y < 600 → S2.2.1 13 (600 * p + y) = S.2.1 13 (600 * p + y) ∧ S2.2.1 14 (600 * p + y) = S.2.1 14 (600 * p + y) ∧ S2.2.1 15 (600 * p + y) = S.2.1 15 (600 * p + y) ∧ S2.2.1 16 (600 * p + y) = S.2.1 16 (600 * p + y) ∧ S2.1 17 (600 * p + y) = S.1 17 (600 * p + y) ∧ S2.2.2.2 (600 * p + y) = S.2.2.2 (600 * p + y)
theorem Ag.tr {S S2 S3 : SS} {p : Nat} (h : Ag S S2 p) (h2 : Ag S2 S3 p) : Ag S S3 p := by
  obtain ⟨a1, a2, a3, a4, a5, a6⟩ := h
  obtain ⟨b1, b2, b3, b4, b5, b6⟩ := h2
  refine ⟨fun j x y => (b1 j x y).trans (a1 j x y), b2.trans a2, fun y h => (b3 y h).trans (a3 y h), fun y h => (b4 y h).trans (a4 y h), fun y h => (b5 y h).trans (a5 y h), fun y h => ?_⟩
  obtain ⟨c1, c2, c3, c4, c5, c6⟩ := a6 y h
  obtain ⟨d1, d2, d3, d4, d5, d6⟩ := b6 y h
  exact ⟨d1.trans c1, d2.trans c2, d3.trans c3, d4.trans c4, d5.trans c5, d6.trans c6⟩
theorem Ag.of {S S2 : SS} {p : Nat} (h : ∀ j, j < 19 → S2.1 j = S.1 j) (h2 : S2.2.1 = S.2.1 ∧ S2.2.2.2 = S.2.2.2) : Ag S S2 p := by
  refine ⟨fun j x y => by rw [h j (by omega)], by rw [h2.1], fun y _ => by rw [h 10 (by decide)], fun y _ => by rw [h 11 (by decide)], fun y _ => by rw [h 12 (by decide)], fun y _ => ?_⟩
  rw [h2.1, h2.2, h 17 (by decide)]
  exact ⟨rfl, rfl, rfl, rfl, rfl, rfl⟩
theorem Ag.one {S : SS} {p q j : Nat} {v : Int32} (hp : p ≠ q) (hj : 2 ≤ j ∧ j ≤ 8) : Ag S (sI S j (upd (S.1 j) q v)) p := by
  have e : ∀ i, i ≠ j → (sI S j (upd (S.1 j) q v)).1 i = S.1 i := fun i h => va_up_ne _ _ h
  refine ⟨fun i x y => ?_, rfl, fun y _ => by rw [e 10 (by omega)], fun y _ => by rw [e 11 (by omega)], fun y _ => by rw [e 12 (by omega)], fun y _ => ?_⟩
  · by_cases hi : i = j
    · subst hi
      show va_up S.1 i (upd (S.1 i) q v) i p = _
      rw [va_up_self]; exact upd_ne' hp
    · rw [e i hi]
  · rw [e 17 (by omega)]
    exact ⟨rfl, rfl, rfl, rfl, rfl, rfl⟩
theorem Ag.play {S : SS} {p q f : Nat} (hp : p < 2) (hq : q < 2) (hpq : p ≠ q) (hf : f < 599) : Ag S (mPlay S q f) p := by
  have e : ∀ {j : Nat}, (j ≠ 11 ∧ j ≠ 17) → (mPlay S q f).1 j = S.1 j := fun h => mPlay_k S q f h
  refine ⟨fun i x y => by rw [e (by omega)], rfl, fun y _ => by rw [e (by decide)], fun y hy => ?_, fun y _ => by rw [e (by decide)], fun y hy => mPlay_ne (by omega)⟩
  show upd (upd (S.1 11) (1200 * q + f) (mUse S q 0 f)) (1200 * q + 600 + f) (mUse S q 1 f) (1200 * p + y) = _
  rw [upd_ne' (by omega), upd_ne' (by omega)]
theorem Ag.plays {p q : Nat} (hp : p < 2) (hq : q < 2) (hpq : p ≠ q) : ∀ (c : Nat) (S : SS) (f : Nat), f + c ≤ 599 → Ag S (mPlays S q c f) p
  | 0, _, _, _ => Ag.of (fun _ _ => rfl) ⟨rfl, rfl⟩
  | c + 1, S, f, h => (Ag.play hp hq hpq (by omega)).tr (Ag.plays hp hq hpq c (mPlay S q f) (f + 1) (by omega))
theorem Ag.k12 {S : SS} {p q x y : Nat} {v v2 : Int32} (hp : p < 2) (hq : q < 2) (hpq : p ≠ q) (hx : 1200 * q ≤ x ∧ x < 1200 * q + 1200) (hy : 2 * q ≤ y ∧ y < 2 * q + 2) : Ag S (sI (sI S 10 (upd (S.1 10) x v)) 12 (upd (S.1 12) y v2)) p := by
  refine ⟨fun i a b => ?_, rfl, fun z hz => ?_, fun z _ => rfl, fun z hz => ?_, fun z _ => ⟨rfl, rfl, rfl, rfl, rfl, rfl⟩⟩
  · show va_up (va_up S.1 10 _) 12 _ i p = _
    rw [va_up_ne _ _ (by omega), va_up_ne _ _ (by omega)]
  · show upd (S.1 10) x v (1200 * p + z) = _
    exact upd_ne' (by omega)
  · show upd (S.1 12) y v2 (2 * p + z) = _
    exact upd_ne' (by omega)
theorem Ag.lr {p q : Nat} (hp : p < 2) (hq : q < 2) (hpq : p ≠ q) : ∀ (c : Nat) (S : SS) (n j : Nat), n + c ≤ 600 → Ag S (mLr S q c n j) p
  | 0, _, _, _, _ => Ag.of (fun _ _ => rfl) ⟨rfl, rfl⟩
  | c + 1, S, n, j, h => (Ag.k12 (x := 1200 * q + 600 * (1 - q) + n) (y := 2 * q + (1 - q)) hp hq hpq (by omega) (by omega)).tr (Ag.lr hp hq hpq c (mLr1 S q n j) (n + 1) (j + 1) (by omega))
theorem Ag.send {S : SS} {p q : Nat} (hpq : p ≠ q) : Ag S (mSend S q) p := by
  have hF := mSend_F S q
  refine ⟨fun i x y => ?_, by rw [hF.1], fun y _ => by rw [mSend_k (by decide)], fun y _ => by rw [mSend_k (by decide)], fun y _ => by rw [mSend_k (by decide)], fun y _ => ?_⟩
  · by_cases hi : i = 8
    · subst hi; rw [mSend_8]; exact upd_ne' hpq
    · rw [mSend_k (by omega)]
  · rw [hF.1, hF.2, mSend_k (by decide)]
    exact ⟨rfl, rfl, rfl, rfl, rfl, rfl⟩
theorem Ag.lead {S : SS} {p q : Nat} {v : UInt32} (hpq : p ≠ q) : Ag S (sF S 9 (vf_upd (S.2.1 9) q v)) p := by
  refine ⟨fun _ _ _ => rfl, ?_, fun _ _ => rfl, fun _ _ => rfl, fun _ _ => rfl, fun _ _ => ⟨rfl, rfl, rfl, rfl, rfl, rfl⟩⟩
  show vf_upd (S.2.1 9) q v p = S.2.1 9 p
  exact if_neg hpq
theorem Ag.acc {S : SS} {p q : Nat} (hpq : p ≠ q) : Ag S (mAcc S q) p := by
  have h1 : Ag S (mTk1 S q) p := ((Ag.one (j := 6) (v := nI 1) hpq (by decide)).tr ((Ag.one (j := 7) (v := S.1 20 24) hpq (by decide)).tr (Ag.one (j := 3) (v := nI 0) hpq (by decide)))).tr (Ag.lead hpq)
  refine h1.tr ?_
  unfold mAcc mTold
  split
  · exact Ag.one (j := 5) hpq (by decide)
  · exact Ag.of (fun _ _ => rfl) ⟨rfl, rfl⟩
theorem Ag.use {S S2 : SS} {p pl f N : Nat} (h : Ag S S2 p) (hp : pl < 2) (hn : S.1 12 (2 * p + pl) = nI N) (hN : N ≤ 600) : mUse S2 p pl f = mUse S p pl f := by
  rw [mUse_eq hn hN, mUse_eq ((h.2.2.2.2.1 pl hp).trans hn) hN, h.1 4 (by decide) (by decide)]
  have e := h.2.2.1
  by_cases h1 : f < N
  · rw [if_pos h1, if_pos h1, show 1200 * p + 600 * pl + f = 1200 * p + (600 * pl + f) by omega, e _ (by omega)]
  · rw [if_neg h1, if_neg h1]
    by_cases h2 : (pl ≠ p ∧ ¬ S.1 4 p < 0) ∨ N = 0
    · rw [if_pos h2, if_pos h2]
    · rw [if_neg h2, if_neg h2]
      have h3 : N ≠ 0 := fun z => h2 (Or.inr z)
      rw [show 1200 * p + 600 * pl + N - 1 = 1200 * p + (600 * pl + N - 1) by omega, e _ (by omega)]
theorem Ag.toI {dd ww : Nat} {S S2 : SS} {q a nt : Nat} (h : Ag S S2 q) (hq : q < 2) (hdd : dd ≤ 4) (ha : a ≤ 560) (hI : Iq dd ww S q a nt) : Iq dd ww S2 q a nt := by
  obtain ⟨I1, I2, I3, I4, I5, I6, I7, I9, I10, I11, I12, I13⟩ := hI
  have hu : ∀ pl f, pl < 2 → mUse S2 q pl f = mUse S q pl f := fun pl f hp => by
    rcases (show pl = q ∨ pl = 1 - q by omega) with rfl | rfl
    · exact h.use hp I2 (by omega)
    · exact h.use hp I3 (by omega)
  obtain ⟨a1, a2, a3, a4, a5, a6⟩ := h
  refine ⟨(a1 2 (by decide) (by decide)).trans I1, (a5 q hq).trans I2, (a5 (1 - q) (by omega)).trans I3, I4, ?_, ?_, ?_, ?_, ?_, ?_, ?_, ?_⟩
  · rw [a1 4 (by decide) (by decide)]; exact I5
  · rw [a1 4 (by decide) (by decide)]; exact I6
  · rw [a1 5 (by decide) (by decide)]; exact I7
  · intro f hf
    rw [show 1200 * q + 600 * q + f = 1200 * q + (600 * q + f) by omega, a3 _ (by omega), show 1200 * q + (600 * q + f) = 1200 * q + 600 * q + f by omega]; exact I9 f hf
  · intro f hf
    rw [show 1200 * q + 600 * (1 - q) + f = 1200 * q + (600 * (1 - q) + f) by omega, a3 _ (by omega), show 1200 * q + (600 * (1 - q) + f) = 1200 * q + 600 * (1 - q) + f by omega]; exact I10 f hf
  · intro pl f hp hf
    rw [hu pl f hp, show 1200 * q + 600 * pl + f = 1200 * q + (600 * pl + f) by omega, a4 _ (by omega), show 1200 * q + (600 * pl + f) = 1200 * q + 600 * pl + f by omega]; exact I11 pl f hp hf
  · intro f hf
    obtain ⟨b1, b2, b3, b4, b5, b6⟩ := a6 f (by omega)
    unfold BdAt
    rw [b1, b2, b3, b4, b6]; exact I12 f hf
  · rw [a2]; exact I13
theorem Ag.toP {ad : Nat → Nat} {cs : Nat → ClassId} {k r1 r2 q ww : Nat} {S S2 : SS} {M M2 : Nat → va_E} {a no nt : Nat} (h : Ag S S2 q) (hq : q < 2) (ha : a ≤ 560) (hno : no ≤ 600) (hnt : nt ≤ 600) (hP : PeS ad cs k r1 r2 q ww S M a no nt) (hf : ∀ j, k ≤ j → j < k + 58 → M2 j = M j) : PeS ad cs k r1 r2 q ww S2 M2 a no nt := by
  obtain ⟨X, V, hh, wk, U, gO, gT, h1, hH, hR, h2, h3, hOw, h4, h5, hOt⟩ := hP
  obtain ⟨a1, a2, a3, a4, a5, a6⟩ := h
  refine ⟨X, V, hh, wk, U, gO, gT, ?_, hH.kept (fun j z1 z2 => hf j (by omega) (by omega)), ⟨fun f z1 z2 => ?_, fun pl f hp z1 z2 => ?_⟩, (hf _ (by omega) (by omega)).trans h2, (hf _ (by omega) (by omega)).trans h3, fun f hf2 => ?_, ?_, (hf _ (by omega) (by omega)).trans h5, fun f z1 z2 => ?_⟩
  · rw [hf _ (by omega) (by omega), h1, a1 3 (by decide) (by decide), a1 5 (by decide) (by decide), a1 8 (by decide) (by decide), a1 7 (by decide) (by decide), a1 6 (by decide) (by decide), a2]
  · obtain ⟨b1, b2, b3, b4, b5, b6⟩ := a6 f (by omega)
    rw [b1, b2, b3, b4, b5, b6]; exact hR.1 f z1 z2
  · rw [show 1200 * q + 600 * pl + f = 1200 * q + (600 * pl + f) by omega, a4 _ (by omega), show 1200 * q + (600 * pl + f) = 1200 * q + 600 * pl + f by omega]; exact hR.2 pl f hp z1 z2
  · rw [show 1200 * q + 600 * q + f = 1200 * q + (600 * q + f) by omega, a3 _ (by omega), show 1200 * q + (600 * q + f) = 1200 * q + 600 * q + f by omega]; exact hOw f hf2
  · rw [hf _ (by omega) (by omega), h4]; unfold edOf; rw [a1 4 (by decide) (by decide)]
  · rw [show 1200 * q + 600 * (1 - q) + f = 1200 * q + (600 * (1 - q) + f) by omega, a3 _ (by omega), show 1200 * q + (600 * (1 - q) + f) = 1200 * q + 600 * (1 - q) + f by omega]; exact hOt f z1 z2
theorem Ag.adv {dd ww : Nat} {S : SS} {p q a nt : Nat} {i : Int32} (hp : p < 2) (hq : q < 2) (hpq : p ≠ q) (hdd : dd ≤ 4) (ha : a ≤ 560) (h1 : S.1 2 q = nI a) (h3 : S.1 12 (2 * q + (1 - q)) = nI nt) (hnt : nt ≤ 600) (hst : mStall ww S q → nt ≤ a) : Ag S (mAdv dd ww S q i) p := by
  unfold mAdv
  by_cases hs : mStall ww S q
  · rw [if_pos hs, h1, h3, tn_nI (by omega), tn_nI (by omega)]
    have hn := hst hs
    split
    · have e1 : Ag S (mCut S q) p := (Ag.one (j := 3) hpq (by decide)).tr (Ag.one (j := 4) hpq (by decide))
      have hb := mFw_ge (mCut S q) q (a - nt) nt
      unfold mAgain
      exact e1.tr (Ag.plays hp hq hpq _ _ _ (by omega))
    · exact Ag.one (j := 3) hpq (by decide)
  · rw [if_neg hs, h1, tn_nI (by omega)]
    refine Ag.tr ?_ (Ag.send hpq)
    have e1 : Ag S (mOwn dd S q a i) p := Ag.k12 (x := 1200 * q + 600 * q + a + dd) (y := 2 * q + q) hp hq hpq (by omega) (by omega)
    refine (e1.tr (Ag.play (f := a) hp hq hpq (by omega))).tr ?_
    exact Ag.one (S := mPlay (mOwn dd S q a i) q a) (j := 2) hpq (by decide)
theorem Ag.del2 {dd ww : Nat} {S : SS} {p q a nt : Nat} (hp : p < 2) (hq : q < 2) (hpq : p ≠ q) (hdd : dd ≤ 4) (ha : a ≤ 560) (hI : Iq dd ww S q a nt) : Ag S (mDel2 S q) p := by
  unfold mDel2
  by_cases hd : dropP S q
  · rw [if_pos hd]; exact Ag.of (fun _ _ => rfl) ⟨rfl, rfl⟩
  · rw [if_neg hd, hI.1, hI.2.2.1, tn_nI (by omega), tn_nI (by have := hI.2.2.2.1; omega), (rc_eq hq hdd ha hI (fun z => hd (Or.inr (Or.inl z)))).2]
    have hl := lrC_le (S := mAcc S q) hI.2.2.2.1
    have hb := fwF_b (Z := mLrn (mAcc S q) q nt a) (q := q) (a := a) (n := nt)
    exact ((Ag.acc hpq).tr (Ag.lr hp hq hpq _ _ _ _ (by omega))).tr (Ag.plays hp hq hpq _ _ _ (by omega))
