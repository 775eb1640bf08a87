/-- what is known behind the learning from a packet -/

def LrF (dd : Nat) (U Y Z : SS) (q a n L : Nat) : Prop :=
  Z.1 12 (2 * q + q) = nI (a + dd) ∧ Z.1 12 (2 * q + (1 - q)) = nI (n + L) ∧ n + L ≤ a + 20 ∧ L ≤ 16 ∧ (∀ j, j ≠ 3 → j ≠ 5 → j ≠ 6 → j ≠ 7 → j ≠ 10 → j ≠ 12 → Z.1 j = U.1 j) ∧ (∀ j, j ≠ 10 → j ≠ 12 → Z.1 j = Y.1 j) ∧ Z.2 = Y.2 ∧ (∀ f, f < 600 → Z.1 10 (1200 * q + 600 * q + f) = U.1 10 (1200 * q + 600 * q + f)) ∧ (∀ f, f < n → Z.1 10 (1200 * q + 600 * (1 - q) + f) = U.1 10 (1200 * q + 600 * (1 - q) + f)) ∧ (∀ f, f < n + L → ∃ j, j < 8 ∧ Z.1 10 (1200 * q + 600 * (1 - q) + f) = nI j) ∧ (∀ pl f, pl < 2 → ∃ j, j < 8 ∧ mUse Z q pl f = nI j) ∧ (∀ f, f ≤ a → BdAt Z q f)
theorem lr_facts {dd ww : Nat} {U : SS} {q a n : Nat} (hq : q < 2) (hdd : dd ≤ 4) (ha : a ≤ 560) (hI : Iq dd ww U q a n) : LrF dd U (mAcc U q) (mLrn (mAcc U q) q n a) q a n (lrC (mAcc U q) n a) := by
  obtain ⟨I1, I2, I3, I4, I5, I6, I7, I9, I10, I11, I12, I13⟩ := hI
  have y3 : (mAcc U q).1 12 (2 * q + (1 - q)) = nI n := by rw [mAcc_k (by omega)]; exact I3
  obtain ⟨l1, l2⟩ := lrC_le (S := mAcc U q) I4
  obtain ⟨k1, k2, k3, k4⟩ := mLr_k (q := q) hq (lrC (mAcc U q) n a) (mAcc U q) n ((n : Int) - ((mAcc U q).1 23 24).toInt).toNat y3
  have e10 : (mAcc U q).1 10 = U.1 10 := mAcc_k (by omega)
  have hs : ∀ f, f < n → ∃ j, j < 8 ∧ (mAcc U q).1 10 (1200 * q + 600 * (1 - q) + f) = nI j := by rw [e10]; exact I10
  have s1 := mLr_sm (q := q) (lrC (mAcc U q) n a) (mAcc U q) n ((n : Int) - ((mAcc U q).1 23 24).toInt).toNat hs
  have s2 : ∀ f, f < 600 → (mLrn (mAcc U q) q n a).1 10 (1200 * q + 600 * q + f) = U.1 10 (1200 * q + 600 * q + f) := fun f hf => by unfold mLrn; rw [mLr_own hq _ _ _ _ f (by omega) hf, e10]
  have c1 : (mLrn (mAcc U q) q n a).1 12 (2 * q + q) = nI (a + dd) := by unfold mLrn; rw [k3, mAcc_k (by omega)]; exact I2
  refine ⟨c1, k1, l2, l1, fun j a1 a2 a3 a4 a5 a6 => by unfold mLrn; rw [k2 j a5 a6, mAcc_k ⟨a1, a2, a3, a4⟩], fun j a5 a6 => by unfold mLrn; exact k2 j a5 a6, k4, s2, fun f hf => by unfold mLrn; rw [mLr_old _ _ _ _ f hf, e10], s1, us_sm hq c1 (by omega) k1 (by omega) (fun f hf => by rw [s2 f (by omega)]; exact I9 f hf) s1, fun f hf => BdAt_of k4 (mAcc_Bd (I12 f hf))⟩
theorem rc_eq {dd ww : Nat} {U : SS} {q a n : Nat} (hq : q < 2) (hdd : dd ≤ 4) (ha : a ≤ 560) (hI : Iq dd ww U q a n) (hnd : ¬ 0 ≤ U.1 4 q) : rDl (mAcc U q) q a n = nI (a - fwF (mLrn (mAcc U q) q n a) q a n) ∧ mDl (mAcc U q) q a n = mPlays (mLrn (mAcc U q) q n a) q (a - fwF (mLrn (mAcc U q) q n a) q a n) (fwF (mLrn (mAcc U q) q n a) q a n) := by
  obtain ⟨f1, f2, f3, f4, f5, f6, f7, f8, f9, f10, f11, f12⟩ := lr_facts hq hdd ha hI
  obtain ⟨I1, I2, I3, I4, I5, I6, I7, I9, I10, I11, I12, I13⟩ := hI
  have h4 : U.1 4 q < 0 := Int32.not_le.mp hnd
  unfold rDl mDl
  have hz : lrC (mAcc U q) n a = 0 → mLrn (mAcc U q) q n a = mAcc U q := fun e => by unfold mLrn; rw [e]; rfl
  refine dl_eq (g := if n = 0 then 0 else U.1 10 (1200 * q + 600 * (1 - q) + n - 1)) f2 (by omega) (by rw [f5 4 (by decide) (by decide) (by decide) (by decide) (by decide) (by decide)]; exact h4) (fun f z1 z2 => ?_) (fun e f z1 z2 => ?_)
  · rw [f5 11 (by decide) (by decide) (by decide) (by decide) (by decide) (by decide), I11 (1 - q) f (by omega) z2, mUse_eq I3 (by omega), if_neg (by omega)]
    by_cases e : n = 0
    · rw [if_pos (Or.inr e), if_pos e]
    · rw [if_neg (fun z => z.elim (fun z => z.2 h4) e), if_neg e]
  · rw [hz e, mUse_c (S := U) (mAcc_k (by omega)) (mAcc_k (by omega)) (mAcc_k (by omega)), mUse_eq I3 (by omega), if_neg (by omega)]
    by_cases e : n = 0
    · rw [if_pos (Or.inr e), if_pos e]
    · rw [if_neg (fun z => z.elim (fun z => z.2 h4) e), if_neg e]
theorem fwF_b {Z : SS} {q a n : Nat} : fwF Z q a n ≤ a ∧ (n < a → n ≤ fwF Z q a n) ∧ (a ≤ n → fwF Z q a n = a) := by
  unfold fwF
  split
  · omega
  · have := mFw_ge Z q (a - n) n
    omega
theorem acc_told {dd ww : Nat} {U : SS} {q a n : Nat} (hdd : dd ≤ 4) (ha : a ≤ 560) (hI : Iq dd ww U q a n) : ∃ t, (mAcc U q).1 5 q = nI t ∧ t ≤ a + dd := by
  obtain ⟨I1, I2, I3, I4, I5, I6, ⟨t, I7, I8⟩, -⟩ := hI
  unfold mAcc mTold
  split
  · rename_i h
    have h1 : ¬ U.1 22 24 ≤ U.1 5 q := h.1
    have h2 : ¬ U.1 12 (2 * q + q) < U.1 22 24 := h.2
    rw [I7] at h1
    rw [I2] at h2
    obtain ⟨j, hj, e⟩ := nI_of2 (x := U.1 22 24) (M := nI (a + dd)) (n := a + dd) (nI_toInt (by omega)) (fun z => h1 (Int32.le_of_lt (Int32.lt_of_lt_of_le z (nI_pos' (by omega))))) (Int32.not_lt.mp h2)
    exact ⟨j, (if_pos rfl).trans e, hj⟩
  · exact ⟨t, I7, I8⟩
theorem rc_Iq {dd ww : Nat} {U : SS} {q a n : Nat} (hq : q < 2) (hdd : dd ≤ 4) (ha : a ≤ 560) (hI : Iq dd ww U q a n) (hnd : ¬ 0 ≤ U.1 4 q) : Iq dd ww (mPlays (mLrn (mAcc U q) q n a) q (a - fwF (mLrn (mAcc U q) q n a) q a n) (fwF (mLrn (mAcc U q) q n a) q a n)) q a (n + lrC (mAcc U q) n a) := by
  obtain ⟨t, ht, ht2⟩ := acc_told hdd ha hI
  obtain ⟨f1, f2, f3, f4, f5, f6, f7, f8, f9, f10, f11, f12⟩ := lr_facts hq hdd ha hI
  obtain ⟨I1, I2, I3, I4, I5, I6, I7, I9, I10, I11, I12, I13⟩ := hI
  have hYF : (mAcc U q).2.1 9 q = avN U q := by unfold mAcc; rw [mTold_2]; exact if_pos rfl
  have hsp : ∀ x, n ≤ x → x < fwF (mLrn (mAcc U q) q n a) q a n → (mLrn (mAcc U q) q n a).1 11 (1200 * q + 600 * (1 - q) + x) = mUse (mLrn (mAcc U q) q n a) q (1 - q) x := fun x z1 z2 => by
    unfold fwF at z2
    split at z2
    · omega
    · exact mFw_sp _ _ x z1 z2
  generalize mAcc U q = Y at *
  generalize mLrn Y q n a = Z at *
  generalize lrC Y n a = L at *
  have hb := fwF_b (Z := Z) (q := q) (a := a) (n := n)
  generalize fwF Z q a n = F at *
  have hp : ∀ {j : Nat}, (j ≠ 11 ∧ j ≠ 17) → (mPlays Z q (a - F) F).1 j = Z.1 j := fun h => mPlays_k _ _ _ _ h
  have e4 : Z.1 4 = U.1 4 := f5 4 (by decide) (by decide) (by decide) (by decide) (by decide) (by decide)
  refine ⟨?_, ?_, ?_, f3, ?_, ?_, ?_, ?_, ?_, ?_, ?_, ?_⟩
  · rw [hp (by decide), f5 2 (by decide) (by decide) (by decide) (by decide) (by decide) (by decide)]; exact I1
  · rw [hp (by decide)]; exact f1
  · rw [hp (by decide)]; exact f2
  · intro _; have := I5 hnd; omega
  · rw [hp (by decide), e4]
    exact Or.inl (I6.resolve_right (fun z => hnd (by rw [z.1]; exact nI_pos' (by omega))))
  · exact ⟨t, by rw [hp (by decide), f6 5 (by decide) (by decide)]; exact ht, ht2⟩
  · intro f hf; rw [hp (by decide), f8 f (by omega)]; exact I9 f hf
  · intro f hf; rw [hp (by decide)]; exact f10 f hf
  · intro pl f hpl hf
    rw [mPlays_u _ _ _ _ _ _ (by omega) hpl (by omega), mUse_c (S := Z) (hp (by decide)) (hp (by decide)) (hp (by decide))]
    split
    · rfl
    · rename_i hno
      have hfF : f < F := by omega
      rcases (show pl = q ∨ pl = 1 - q by omega) with rfl | rfl
      · rw [f5 11 (by decide) (by decide) (by decide) (by decide) (by decide) (by decide), I11 pl f hpl hf, mUse_eq I2 (by omega), mUse_eq f1 (by omega), if_pos (by omega), if_pos (by omega), f8 f (by omega)]
      · by_cases hfn : f < n
        · rw [f5 11 (by decide) (by decide) (by decide) (by decide) (by decide) (by decide), I11 (1 - q) f hpl hf, mUse_eq I3 (by omega), mUse_eq f2 (by omega), if_pos (by omega), if_pos (by omega), f9 f hfn]
        · exact hsp f (by omega) hfF
  · intro f hf
    exact mPlays_Bd _ _ _ _ (by omega) (fun x hx => f12 x (by omega)) f (by omega)
  · rw [(mPlays_9 _ _ _ _).1, f7, hYF]
    exact av_3 I13 (i2f_b _)
