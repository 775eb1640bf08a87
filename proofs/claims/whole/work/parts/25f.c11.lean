theorem mFw_of {S : SS} {q : Nat} : ∀ (c f G : Nat), f ≤ G → G ≤ f + c → (∀ x, f ≤ x → x < G → S.1 11 (1200 * q + 600 * (1 - q) + x) = mUse S q (1 - q) x) → (G < f + c → ¬ S.1 11 (1200 * q + 600 * (1 - q) + G) = mUse S q (1 - q) G) → mFw S q c f = G
  | 0, f, G, h1, h2, _, _ => by show f = G; omega
  | c + 1, f, G, h1, h2, h3, h4 => by
    rw [mFw_s]
    by_cases e : f = G
    · subst e; rw [if_neg (h4 (by omega))]
    · rw [if_pos (h3 f (Nat.le_refl f) (by omega))]
      exact mFw_of c (f + 1) G (by omega) (by omega) (fun x z1 z2 => h3 x (by omega) z2) (fun z => h4 (by omega))
theorem mFw_sp {S : SS} {q : Nat} : ∀ (c f : Nat), ∀ x, f ≤ x → x < mFw S q c f → S.1 11 (1200 * q + 600 * (1 - q) + x) = mUse S q (1 - q) x
  | 0, f, x, h1, h2 => by have h2 : x < f := h2; omega
  | c + 1, f, x, h1, h2 => by
    rw [mFw_s] at h2
    split at h2
    · rename_i z
      by_cases e : x = f
      · subst e; exact z
      · exact mFw_sp c (f + 1) x (by omega) h2
    · omega
theorem mRf_sp {S : SS} {q : Nat} : ∀ (c f : Nat), f ≤ mRf S q c f ∧ mRf S q c f ≤ f + c ∧ (∀ x, f ≤ x → x < mRf S q c f → S.1 11 (1200 * q + 600 * (1 - q) + x) = S.1 10 (1200 * q + 600 * (1 - q) + x)) ∧ (mRf S q c f < f + c → ¬ S.1 11 (1200 * q + 600 * (1 - q) + mRf S q c f) = S.1 10 (1200 * q + 600 * (1 - q) + mRf S q c f))
  | 0, f => ⟨Nat.le_refl f, Nat.le_refl f, fun x h1 h2 => by have h2 : x < f := h2; omega, fun h => by have h : f < f + 0 := h; omega⟩
  | c + 1, f => by
    rw [mRf_s]
    split
    · rename_i z
      obtain ⟨a1, a2, a3, a4⟩ := mRf_sp (S := S) (q := q) c (f + 1)
      refine ⟨by omega, by omega, fun x h1 h2 => ?_, fun h => a4 (by omega)⟩
      by_cases e : x = f
      · subst e; exact z
      · exact a3 x (by omega) h2
    · rename_i z
      exact ⟨Nat.le_refl f, by omega, fun x h1 h2 => by omega, fun _ => z⟩
/-- where the peer begins to play again -/
def fwF (Z : SS) (q a n : Nat) : Nat := if a ≤ n then a else mFw Z q (a - n) n
theorem dl_eq {Z : SS} {q a n L : Nat} {g : Int32} (hn : Z.1 12 (2 * q + (1 - q)) = nI (n + L)) (hL : n + L ≤ 600) (h4 : Z.1 4 q < 0) (hu : ∀ f, n ≤ f → f < a → Z.1 11 (1200 * q + 600 * (1 - q) + f) = g) (h0 : L = 0 → ∀ f, n ≤ f → f < a → mUse Z q (1 - q) f = g) :
    (if L = 0 then nI 0 else rRep Z q a n (n + L)) = nI (a - fwF Z q a n) ∧ (if L = 0 then Z else mRep Z q a n (n + L)) = mPlays Z q (a - fwF Z q a n) (fwF Z q a n) := by
  have hU : ∀ f, mUse Z q (1 - q) f = if f < n + L then Z.1 10 (1200 * q + 600 * (1 - q) + f) else if (1 - q ≠ q ∧ ¬ Z.1 4 q < 0) ∨ n + L = 0 then 0 else Z.1 10 (1200 * q + 600 * (1 - q) + (n + L) - 1) := fun f => mUse_eq hn hL
  unfold fwF
  by_cases ha : a ≤ n
  · rw [if_pos ha, Nat.sub_self]
    by_cases e : L = 0
    · rw [if_pos e, if_pos e]; exact ⟨rfl, rfl⟩
    · rw [if_neg e, if_neg e]
      unfold rRep mRep
      rw [show min (n + L) a - n = 0 by omega]
      have e2 : ¬ mRf Z q 0 n < min (n + L) a := by show ¬ n < _; omega
      rw [if_neg e2, if_neg e2]; exact ⟨rfl, rfl⟩
  · rw [if_neg ha]
    have all : (∀ x, n ≤ x → x < a → Z.1 11 (1200 * q + 600 * (1 - q) + x) = mUse Z q (1 - q) x) → mFw Z q (a - n) n = a := fun z => mFw_of _ _ _ (by omega) (by omega) z (fun z => absurd z (by omega))
    by_cases e : L = 0
    · rw [if_pos e, if_pos e, all (fun x z1 z2 => (hu x z1 z2).trans (h0 e x z1 z2).symm), Nat.sub_self]; exact ⟨rfl, rfl⟩
    · rw [if_neg e, if_neg e]
      obtain ⟨s1, s2, s3, s4⟩ := mRf_sp (S := Z) (q := q) (min (n + L) a - n) n
      unfold rRep mRep
      generalize mRf Z q (min (n + L) a - n) n = G at s1 s2 s3 s4
      by_cases hG : G < min (n + L) a
      · have u1 : ∀ x, x ≤ G → mUse Z q (1 - q) x = Z.1 10 (1200 * q + 600 * (1 - q) + x) := fun x hx => by rw [hU, if_pos (by omega)]
        have u2 : ¬ Z.1 11 (1200 * q + 600 * (1 - q) + G) = mUse Z q (1 - q) G := by rw [u1 G (Nat.le_refl G)]; exact s4 (by omega)
        have f1 : mFw Z q (a - n) n = G := mFw_of _ _ _ s1 (by omega) (fun x z1 z2 => by rw [u1 x (by omega)]; exact s3 x z1 z2) (fun _ => u2)
        have f2 : mFw Z q (a - G) G = G := mFw_of _ _ _ (Nat.le_refl G) (by omega) (fun x z1 z2 => absurd z2 (by omega)) (fun _ => u2)
        rw [if_pos hG, if_pos hG]
        unfold mAgain
        rw [f1, f2]; exact ⟨rfl, rfl⟩
      · rw [if_neg hG, if_neg hG]
        rw [all (fun x z1 z2 => ?_), Nat.sub_self]
        · exact ⟨rfl, rfl⟩
        · rw [hU]
          by_cases hx : x < n + L
          · rw [if_pos hx]; exact s3 x z1 (by omega)
          · rw [if_neg hx, if_neg (fun z => z.elim (fun z => z.2 h4) (by omega)), show 1200 * q + 600 * (1 - q) + (n + L) - 1 = 1200 * q + 600 * (1 - q) + (n + L - 1) by omega, ← s3 (n + L - 1) (by omega) (by omega), hu x z1 z2, hu (n + L - 1) (by omega) (by omega)]
theorem mPlays_u : ∀ (c : Nat) (S : SS) (q f pl x : Nat), f + c ≤ 599 → pl < 2 → x < 600 → (mPlays S q c f).1 11 (1200 * q + 600 * pl + x) = if f ≤ x ∧ x < f + c then mUse S q pl x else S.1 11 (1200 * q + 600 * pl + x)
  | 0, S, q, f, pl, x, _, _, _ => by rw [if_neg (by omega)]; rfl
  | c + 1, S, q, f, pl, x, h1, h2, h3 => by
    show (mPlays (mPlay S q f) q c (f + 1)).1 11 _ = _
    rw [mPlays_u c (mPlay S q f) q (f + 1) pl x (by omega) h2 h3, mUse_c (mPlay_k S q f (by decide)) (mPlay_k S q f (by decide)) (mPlay_k S q f (by decide)) q pl x]
    by_cases e : x = f
    · subst e
      rw [if_neg (by omega), if_pos (by omega), mPlay_u1 S q x pl (by omega) h2]
    · rw [mPlay_u2 S q f pl x (by omega) h2 h3 e]
      by_cases e2 : f ≤ x ∧ x < f + (c + 1)
      · rw [if_pos (by omega), if_pos e2]
      · rw [if_neg (by omega), if_neg e2]
theorem BdAt_ne {S : SS} {q f p x : Nat} (h : 600 * p + x ≠ 600 * q + f + 1) (hb : BdAt S p x) : BdAt (mPlay S q f) p x := by
  obtain ⟨a1, a2, a3, a4, a5, a6⟩ := mPlay_ne (S := S) h
  unfold BdAt at *
  rw [a1, a2, a3, a4, a6]
  exact hb
theorem mPlays_Bd : ∀ (c : Nat) (S : SS) (q f : Nat), f + c ≤ 599 → (∀ x, x ≤ f → BdAt S q x) → ∀ x, x ≤ f + c → BdAt (mPlays S q c f) q x
  | 0, S, q, f, _, h, x, hx => h x hx
  | c + 1, S, q, f, h1, h, x, hx => by
    show BdAt (mPlays (mPlay S q f) q c (f + 1)) q x
    refine mPlays_Bd c (mPlay S q f) q (f + 1) (by omega) (fun y hy => ?_) x (by omega)
    by_cases e : y = f + 1
    · subst e; exact mPlay_Bd (by omega) (h f (Nat.le_refl f))
    · exact BdAt_ne (by omega) (h y (by omega))
theorem mLr_own {q : Nat} (hq : q < 2) : ∀ (c : Nat) (S : SS) (n j f : Nat), n + c ≤ 600 → f < 600 → (mLr S q c n j).1 10 (1200 * q + 600 * q + f) = S.1 10 (1200 * q + 600 * q + f)
  | 0, _, _, _, _, _, _ => rfl
  | c + 1, S, n, j, f, h1, h2 => by
    show (mLr (mLr1 S q n j) q c (n + 1) (j + 1)).1 10 _ = _
    rw [mLr_own hq c _ (n + 1) (j + 1) f (by omega) h2]
    show upd (S.1 10) (1200 * q + 600 * (1 - q) + n) _ (1200 * q + 600 * q + f) = _
    exact upd_ne' (by omega)
theorem mLr_old {q : Nat} : ∀ (c : Nat) (S : SS) (n j f : Nat), f < n → (mLr S q c n j).1 10 (1200 * q + 600 * (1 - q) + f) = S.1 10 (1200 * q + 600 * (1 - q) + f)
  | 0, _, _, _, _, _ => rfl
  | c + 1, S, n, j, f, h => by
    show (mLr (mLr1 S q n j) q c (n + 1) (j + 1)).1 10 _ = _
    rw [mLr_old c _ (n + 1) (j + 1) f (by omega)]
    show upd (S.1 10) (1200 * q + 600 * (1 - q) + n) _ (1200 * q + 600 * (1 - q) + f) = _
    exact upd_ne' (by omega)
theorem mLr_sm {q : Nat} : ∀ (c : Nat) (S : SS) (n j : Nat), (∀ f, f < n → ∃ r, r < 8 ∧ S.1 10 (1200 * q + 600 * (1 - q) + f) = nI r) → ∀ f, f < n + c → ∃ r, r < 8 ∧ (mLr S q c n j).1 10 (1200 * q + 600 * (1 - q) + f) = nI r
  | 0, _, _, _, h, f, hf => h f hf
  | c + 1, S, n, j, h, f, hf => by
    show ∃ r, r < 8 ∧ (mLr (mLr1 S q n j) q c (n + 1) (j + 1)).1 10 _ = nI r
    refine mLr_sm c (mLr1 S q n j) (n + 1) (j + 1) (fun x hx => ?_) f (by omega)
    show ∃ r, r < 8 ∧ upd (S.1 10) (1200 * q + 600 * (1 - q) + n) (bt3 (S.2.2.1 24) j) (1200 * q + 600 * (1 - q) + x) = nI r
    by_cases e : x = n
    · subst e
      obtain ⟨r, hr, e⟩ := bt3_s (S.2.2.1 24) j
      exact ⟨r, hr, (if_pos rfl).trans e⟩
    · rw [upd_ne' (by omega)]; exact h x (by omega)
theorem lrC_le {S : SS} {n a : Nat} (hn : n ≤ a + 20) : lrC S n a ≤ 16 ∧ n + lrC S n a ≤ a + 20 := by
  have h := mo24_le S
  unfold lrC lrN
  split <;> omega
theorem us_sm {S : SS} {q o n : Nat} (hq : q < 2) (h1 : S.1 12 (2 * q + q) = nI o) (ho : o ≤ 600) (h2 : S.1 12 (2 * q + (1 - q)) = nI n) (hn : n ≤ 600) (s1 : ∀ f, f < o → ∃ j, j < 8 ∧ S.1 10 (1200 * q + 600 * q + f) = nI j) (s2 : ∀ f, f < n → ∃ j, j < 8 ∧ S.1 10 (1200 * q + 600 * (1 - q) + f) = nI j) (pl f : Nat) (hp : pl < 2) : ∃ j, j < 8 ∧ mUse S q pl f = nI j := by
  have hz : ∃ j, j < 8 ∧ (0 : Int32) = nI j := ⟨0, by decide, rfl⟩
  rcases (show pl = q ∨ pl = 1 - q by omega) with rfl | rfl
  · rw [mUse_eq h1 ho]
    split
    · exact s1 f (by omega)
    · split
      · exact hz
      · rename_i u1 u2
        have u3 : o ≠ 0 := fun z => u2 (Or.inr z)
        rw [show 1200 * pl + 600 * pl + o - 1 = 1200 * pl + 600 * pl + (o - 1) by omega]
        exact s1 _ (by omega)
  · rw [mUse_eq h2 hn]
    split
    · exact s2 f (by omega)
    · split
      · exact hz
      · rename_i u1 u2
        have u3 : n ≠ 0 := fun z => u2 (Or.inr z)
        rw [show 1200 * q + 600 * (1 - q) + n - 1 = 1200 * q + 600 * (1 - q) + (n - 1) by omega]
        exact s2 _ (by omega)
