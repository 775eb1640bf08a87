theorem spk_19 (S : SS) (g : Nat → Int32) (j : Nat) : spk (sI S 19 g) j = spk S j := rfl
theorem spk_copy (S : SS) (a b j : Nat) : spk (mCopy S a b) j = if j = b then spk S a else spk S j := by
  by_cases h : j = b
  · subst h
    rw [if_pos rfl]
    simp [spk, mCopy, sI, sB, va_up, upd, vp_updL]
  · rw [if_neg h]
    simp [spk, mCopy, sI, sB, va_up, upd, vp_updL, h]
theorem spk_shift : ∀ (n : Nat) (S : SS) (k j : Nat), spk (mShift S n k) j = if k ≤ j ∧ j < k + n then spk S (j + 1) else spk S j
  | 0, S, k, j => by rw [if_neg (by omega)]; rfl
  | n + 1, S, k, j => by
    show spk (mShift (mCopy S (k + 1) k) n (k + 1)) j = _
    rw [spk_shift n, spk_copy, spk_copy]
    by_cases h : j = k
    · subst h
      rw [if_neg (by omega), if_pos rfl, if_pos (by omega)]
    · by_cases h2 : k ≤ j ∧ j < k + (n + 1)
      · rw [if_pos (by omega), if_neg (by omega), if_pos h2]
      · rw [if_neg (by omega), if_neg h, if_neg h2]
theorem spk_take {S : SS} {q r : Nat} (hq : q < 2) (h : S.1 19 q = nI r) (hr : r ≤ 12) (j : Nat) : spk (mTake S q) j = if 12 * q ≤ j ∧ j < 12 * q + (r - 1) then spk S (j + 1) else if j = 24 then spk S (12 * q) else spk S j := by
  unfold mTake
  rw [h, tn_nI (by omega), spk_shift, spk_19, spk_19, spk_copy, spk_copy]
  by_cases h1 : 12 * q ≤ j ∧ j < 12 * q + (r - 1)
  · rw [if_pos h1, if_pos h1, if_neg (by omega)]
  · rw [if_neg h1, if_neg h1]
theorem rot_lt {sg9 : Nat → Nat} {r : Nat} (h : ∀ i, i < 12 → sg9 i < 12) (hr : r ≤ 12) : ∀ i, i < 12 → rot sg9 r i < 12 := by
  intro i hi
  unfold rot
  split
  · exact h _ (by omega)
  · split
    · exact h _ (by omega)
    · exact h _ hi
theorem rot_r (sg9 : Nat → Nat) (r i : Nat) : ∃ x, rot sg9 r i = sg9 x ∧ ((i + 1 < r ∧ x = i + 1) ∨ (i + 1 = r ∧ x = 0) ∨ (r < i + 1 ∧ x = i)) := by
  unfold rot
  split
  · exact ⟨_, rfl, Or.inl ⟨by omega, rfl⟩⟩
  · split
    · exact ⟨_, rfl, Or.inr (Or.inl ⟨by omega, rfl⟩)⟩
    · exact ⟨_, rfl, Or.inr (Or.inr ⟨by omega, rfl⟩)⟩
theorem rot_inj {sg9 : Nat → Nat} {r : Nat} (h : ∀ i j, i < 12 → j < 12 → sg9 i = sg9 j → i = j) (hr : r ≤ 12) : ∀ i j, i < 12 → j < 12 → rot sg9 r i = rot sg9 r j → i = j := by
  intro i j hi hj e
  obtain ⟨x, e1, hx⟩ := rot_r sg9 r i
  obtain ⟨y, e2, hy⟩ := rot_r sg9 r j
  rw [e1, e2] at e
  have := h x y (by omega) (by omega) e
  omega
theorem rot_a {sg9 : Nat → Nat} {r i : Nat} (h : i + 1 < r) : rot sg9 r i = sg9 (i + 1) := if_pos h
theorem rot_b {sg9 : Nat → Nat} {r i : Nat} (h : i + 1 = r) : rot sg9 r i = sg9 0 := by unfold rot; rw [if_neg (by omega), if_pos h]
section RWX
variable {ad : Nat → Nat} {cs : Nat → ClassId} {kr : Nat} {M M2 : Nat → va_E} {S : SS} {q r : Nat} {sg9 : Nat → Nat} {pk : Nat → PK}
theorem RwS_take (hq : q < 2) (h : RwA ad cs kr M2 (rot sg9 r) (r - 1) pk) (h0 : S.1 19 q = nI r) (hr : r ≤ 12) (hr1 : 1 ≤ r) (hsg : ∀ i, i < 12 → sg9 i < 12) (hinj : ∀ i j, i < 12 → j < 12 → sg9 i = sg9 j → i = j) (hpk : ∀ i, i < r → pk (sg9 i) = spk S (12 * q + i)) : RwS ad cs kr M2 (mTake S q) q := by
  refine ⟨rot sg9 r, pk, r - 1, h, ?_, by omega, rot_lt hsg hr, rot_inj hinj hr, fun i hi => ?_⟩
  · rw [mTake_19, h0, tn_nI (by omega)]; exact if_pos rfl
  · rw [rot_a (by omega), hpk _ (by omega), spk_take hq h0 hr, if_pos (by omega), show 12 * q + (i + 1) = 12 * q + i + 1 by omega]
theorem RwS_take2 (hq : q < 2) (h : RwS ad cs kr M S (1 - q)) (h0 : S.1 19 q = nI r) (hr : r ≤ 12) : RwS ad cs kr M (mTake S q) (1 - q) :=
  RwS_c h (by rw [mTake_19]; exact upd_ne' (by omega)) (fun j z1 z2 => by rw [spk_take hq h0 hr, if_neg (by omega), if_neg (by omega)])
theorem RwS_end (hq : q < 2) (h : RwA ad cs kr M2 (rot sg9 r) r pk) (h0 : S.1 19 q = nI r) (hr : r ≤ 12) (hr1 : 1 ≤ r) (hsg : ∀ i, i < 12 → sg9 i < 12) (hinj : ∀ i j, i < 12 → j < 12 → sg9 i = sg9 j → i = j) (hpk : ∀ i, i < r → pk (sg9 i) = spk S (12 * q + i)) : RwS ad cs kr M2 (mEnd S q) q := by
  unfold mEnd
  refine ⟨rot sg9 r, pk, r, h, ?_, hr, rot_lt hsg hr, rot_inj hinj hr, fun i hi => ?_⟩
  · rw [sI_eq, h0, tn_nI (by omega), show r - 1 + 1 = r by omega]; exact if_pos rfl
  · rw [spk_19, spk_copy, h0, tn_nI (by omega)]
    by_cases e : i + 1 = r
    · rw [rot_b e, if_pos (by omega), spk_take hq h0 hr, if_neg (by omega), if_pos rfl, hpk 0 (by omega)]; rfl
    · rw [rot_a (by omega), if_neg (by omega), spk_take hq h0 hr, if_pos (by omega), hpk _ (by omega), show 12 * q + (i + 1) = 12 * q + i + 1 by omega]
theorem RwS_end2 (hq : q < 2) (h : RwS ad cs kr M S (1 - q)) (h0 : S.1 19 q = nI r) (hr : r ≤ 12) (hr1 : 1 ≤ r) : RwS ad cs kr M (mEnd S q) (1 - q) := by
  unfold mEnd
  refine RwS_c (RwS_take2 hq h h0 hr) ?_ (fun j z1 z2 => ?_)
  · rw [sI_eq]; exact upd_ne' (by omega)
  · rw [spk_19, spk_copy, h0, tn_nI (by omega), if_neg (by omega)]
theorem RwS_dbl (hq : q < 2) (h : RwA ad cs kr M2 sg9 (r + 1) (va_up pk (sg9 r) (pk (sg9 0)))) (h0 : S.1 19 q = nI r) (hr : r < 12) (hr1 : 1 ≤ r) (hsg : ∀ i, i < 12 → sg9 i < 12) (hinj : ∀ i j, i < 12 → j < 12 → sg9 i = sg9 j → i = j) (hpk : ∀ i, i < r → pk (sg9 i) = spk S (12 * q + i)) : RwS ad cs kr M2 (mDbl S q) q := by
  unfold mDbl
  refine ⟨sg9, _, r + 1, h, ?_, by omega, hsg, hinj, fun i hi => ?_⟩
  · rw [sI_eq, h0, tn_nI (by omega)]; exact if_pos rfl
  · rw [spk_19, spk_copy, h0, tn_nI (by omega)]
    by_cases e : i = r
    · subst e; rw [va_up_self, if_pos rfl, hpk 0 (by omega)]; rfl
    · rw [va_up_ne _ _ (fun z => e (hinj i r (by omega) hr z)), if_neg (by omega)]; exact hpk i (by omega)
theorem RwS_dbl2 (hq : q < 2) (h : RwS ad cs kr M S (1 - q)) (h0 : S.1 19 q = nI r) (hr : r < 12) : RwS ad cs kr M (mDbl S q) (1 - q) := by
  unfold mDbl
  refine RwS_c h ?_ (fun j z1 z2 => ?_)
  · rw [sI_eq]; exact upd_ne' (by omega)
  · rw [spk_19, spk_copy, h0, tn_nI (by omega), if_neg (by omega)]
end RWX
/-- a packet with a part spoilt -/
def flP (x : PK) (j : Nat) (bits : Int32) : PK := (if j = 0 then (x.1 ^^^ bits).toInt16.toInt32 else x.1, if j = 1 then x.2.1 ^^^ bits else x.2.1, if j = 2 then x.2.2.1 ^^^ bits else x.2.2.1, if j = 3 then x.2.2.2.1 ^^^ bits else x.2.2.2.1, if j = 4 then x.2.2.2.2.1 ^^^ bits else x.2.2.2.2.1, if j = 5 then x.2.2.2.2.2.1 ^^^ (bits.toInt64 &&& (4294967295 : Int64)) else x.2.2.2.2.2.1, if j = 6 then x.2.2.2.2.2.2 ^^^ bits else x.2.2.2.2.2.2)
theorem spk_spl (S : SS) (k j : Nat) (bits : Int32) (i : Nat) : spk (mSpl S k j bits) i = if i = k then flP (spk S k) j bits else spk S i := by
  by_cases h : i = k
  · subst h
    rw [if_pos rfl]
    simp [spk, flP, mSpl, sI, sB, va_up, upd, vp_updL]
  · rw [if_neg h]
    simp [spk, mSpl, sI, sB, va_up, upd, vp_updL, h]
theorem spl_k {S : SS} {k j i : Nat} {bits : Int32} (h : i < 20 ∨ 26 < i) : (mSpl S k j bits).1 i = S.1 i := by
  have h0 : i ≠ 20 ∧ i ≠ 21 ∧ i ≠ 22 ∧ i ≠ 23 ∧ i ≠ 24 ∧ i ≠ 26 := by omega
  simp [mSpl, sI, sB, va_up, h0]
theorem sB_F {S : SS} {g : Nat → Int64} : (sB S g).2.1 = S.2.1 ∧ (sB S g).2.2.2 = S.2.2.2 := ⟨rfl, rfl⟩
theorem spl_F {S : SS} {k j : Nat} {bits : Int32} : (mSpl S k j bits).2.1 = S.2.1 ∧ (mSpl S k j bits).2.2.2 = S.2.2.2 := by
  unfold mSpl
  rw [sI_2, sB_F.1, sB_F.2, sI_2, sI_2, sI_2, sI_2, sI_2]
  exact ⟨rfl, rfl⟩
theorem spl_sh {S : SS} {k j : Nat} {bits : Int32} (h : ∀ i, sh (S.1 20 i)) : ∀ i, sh ((mSpl S k j bits).1 20 i) := by
  intro i
  unfold mSpl
  rw [sI_ne (by decide), sB_1, sI_ne (by decide), sI_ne (by decide), sI_ne (by decide), sI_ne (by decide), sI_eq]
  unfold upd
  split
  · split
    · exact sh_i _
    · exact h k
  · exact h i
theorem mCopy_F (S : SS) (a b : Nat) : (mCopy S a b).2.1 = S.2.1 ∧ (mCopy S a b).2.2.2 = S.2.2.2 := by
  unfold mCopy
  rw [sI_2, sB_F.1, sB_F.2, sI_2, sI_2, sI_2, sI_2, sI_2]
  exact ⟨rfl, rfl⟩
theorem mAl_k {S : SS} {q how j : Nat} (h : j < 19) : (mAl S q how).1 j = S.1 j := by
  unfold mAl
  split
  · unfold mDbl; rw [sI_ne (by omega), mCopy_k (by omega)]
  · split
    · unfold mEnd; rw [sI_ne (by omega), mCopy_k (by omega), mTake_k (by omega)]
    · exact mTake_k (by omega)
theorem mAl_F (S : SS) (q how : Nat) : (mAl S q how).2.1 = S.2.1 ∧ (mAl S q how).2.2.2 = S.2.2.2 := by
  unfold mAl
  split
  · unfold mDbl; rw [sI_2]; exact mCopy_F _ _ _
  · split
    · unfold mEnd
      rw [sI_2, (mCopy_F _ _ _).1, (mCopy_F _ _ _).2]; exact mTake_F S q
    · exact mTake_F S q
theorem mAl_sh {S : SS} {q how : Nat} (h : ∀ i, sh (S.1 20 i)) : ∀ i, sh ((mAl S q how).1 20 i) := by
  unfold mAl
  split
  · unfold mDbl; rw [sI_ne (by decide)]; exact mCopy_sh h
  · split
    · unfold mEnd; rw [sI_ne (by decide)]; exact mCopy_sh (mTake_sh h)
    · exact mTake_sh h
