/-! deliver -/
theorem mCopy_k {S : SS} {a b j : Nat} (h : j < 20 ∨ 26 < j) : (mCopy S a b).1 j = S.1 j := by
  have h0 : j ≠ 20 ∧ j ≠ 21 ∧ j ≠ 22 ∧ j ≠ 23 ∧ j ≠ 24 ∧ j ≠ 26 := by omega
  simp [mCopy, sI, sB, va_up, h0]
theorem mShift_k : ∀ (n : Nat) (S : SS) (k j : Nat), (j < 20 ∨ 26 < j) → (mShift S n k).1 j = S.1 j
  | 0, _, _, _, _ => rfl
  | n + 1, S, k, j, h => by
    show (mShift (mCopy S (k + 1) k) n (k + 1)).1 j = S.1 j
    rw [mShift_k n _ _ j h, mCopy_k h]
theorem mShift_F : ∀ (n : Nat) (S : SS) (k : Nat), (mShift S n k).2.1 = S.2.1 ∧ (mShift S n k).2.2.2 = S.2.2.2
  | 0, _, _ => ⟨rfl, rfl⟩
  | n + 1, S, k => mShift_F n (mCopy S (k + 1) k) (k + 1)
theorem mShift_sh : ∀ (n : Nat) (S : SS) (k : Nat), (∀ i, sh (S.1 20 i)) → ∀ i, sh ((mShift S n k).1 20 i)
  | 0, _, _, h => h
  | n + 1, S, k, h => mShift_sh n (mCopy S (k + 1) k) (k + 1) (mCopy_sh h)
theorem mTake_k {S : SS} {q j : Nat} (h : j < 19 ∨ 26 < j) : (mTake S q).1 j = S.1 j := by
  unfold mTake
  rw [mShift_k _ _ _ j (by omega)]
  show va_up (mCopy S (12 * q) 24).1 19 _ j = S.1 j
  rw [va_up_ne _ _ (by omega), mCopy_k (by omega)]
theorem mTake_F (S : SS) (q : Nat) : (mTake S q).2.1 = S.2.1 ∧ (mTake S q).2.2.2 = S.2.2.2 := by
  unfold mTake
  have h := mShift_F (tn (S.1 19 q) - 1) (sI (mCopy S (12 * q) 24) 19 (upd (S.1 19) q (nI (tn (S.1 19 q) - 1)))) (12 * q)
  exact ⟨h.1, h.2⟩
theorem mTake_sh {S : SS} {q : Nat} (h : ∀ i, sh (S.1 20 i)) : ∀ i, sh ((mTake S q).1 20 i) := by
  unfold mTake
  exact mShift_sh _ _ _ (mCopy_sh h)
theorem BdAt_F {S S2 : SS} {q f : Nat} (h : S2.2.1 = S.2.1 ∧ S2.2.2.2 = S.2.2.2) (hb : BdAt S q f) : BdAt S2 q f := by
  unfold BdAt at *
  rw [h.1, h.2]
  exact hb
/-- the packet at hand is dropped -/
abbrev dropP (S : SS) (q : Nat) : Prop := ¬ S.1 26 24 = mChk S 24 ∨ 0 ≤ S.1 4 q ∨ (¬ S.1 6 q = 0 ∧ ¬ 0 < (S.1 20 24 - S.1 7 q).toInt16.toInt32)
def avN (S : SS) (q : Nat) : UInt32 := FP.fadd (FP.fmul (S.2.1 9 q) 1061158912) (FP.fmul 1048576000 (FP.i2f (S.1 2 q - S.1 21 24)))
def mTk1 (S : SS) (q : Nat) : SS := sF (sI (sI (sI S 6 (upd (S.1 6) q (nI 1))) 7 (upd (S.1 7) q (S.1 20 24))) 3 (upd (S.1 3) q (nI 0))) 9 (vf_upd (S.2.1 9) q (avN S q))
abbrev ackP (S : SS) (q : Nat) : Prop := ¬ S.1 22 24 ≤ S.1 5 q ∧ ¬ S.1 12 (2 * q + q) < S.1 22 24
def mTold (S : SS) (q : Nat) : SS := if ackP S q then sI S 5 (upd (S.1 5) q (S.1 22 24)) else S
/-- three bits of the inputs -/
def bt3 (x : Int64) (j : Nat) : Int32 := ((x >>> ((nI (3 * j)).toInt64 &&& 63)) &&& (7 : Int64)).toInt32
def mLr1 (S : SS) (q n j : Nat) : SS := sI (sI S 10 (upd (S.1 10) (1200 * q + 600 * (1 - q) + n) (bt3 (S.2.2.1 24) j))) 12 (upd (S.1 12) (2 * q + (1 - q)) (nI (n + 1)))
def mLr (S : SS) (q : Nat) : Nat → Nat → Nat → SS
  | 0, _, _ => S
  | c + 1, n, j => mLr (mLr1 S q n j) q c (n + 1) (j + 1)
/-- how many inputs are learnt -/
def lrN (J mo : Int) (n a : Nat) : Nat := if 0 ≤ J then min (mo - J).toNat (a + 20 - n) else 0
def mo24 (S : SS) : Int32 := if S.1 24 24 ≤ nI 16 then S.1 24 24 else nI 16
theorem mo24_le (S : SS) : (mo24 S).toInt ≤ 16 := by
  unfold mo24
  split
  · rename_i h
    rw [Int32.le_iff_toInt_le] at h
    exact h
  · decide
def lrC (S : SS) (n a : Nat) : Nat := lrN ((n : Int) - (S.1 23 24).toInt) (mo24 S).toInt n a
def mLrn (S : SS) (q n a : Nat) : SS := mLr S q (lrC S n a) n ((n : Int) - (S.1 23 24).toInt).toNat
def rDl (S : SS) (q a n : Nat) : Int32 := if lrC S n a = 0 then nI 0 else rRep (mLrn S q n a) q a n (n + lrC S n a)
def mDl (S : SS) (q a n : Nat) : SS := if lrC S n a = 0 then mLrn S q n a else mRep (mLrn S q n a) q a n (n + lrC S n a)
def mAcc (S : SS) (q : Nat) : SS := mTold (mTk1 S q) q
def rDel2 (S : SS) (q : Nat) : Int32 := if dropP S q then -2 else rDl (mAcc S q) q (tn (S.1 2 q)) (tn (S.1 12 (2 * q + (1 - q))))
def mDel2 (S : SS) (q : Nat) : SS := if dropP S q then S else mDl (mAcc S q) q (tn (S.1 2 q)) (tn (S.1 12 (2 * q + (1 - q))))
def rDel (S : SS) (q : Nat) : Int32 := if S.1 19 q = 0 then -1 else rDel2 (mTake S q) q
def mDel (S : SS) (q : Nat) : SS := if S.1 19 q = 0 then S else mDel2 (mTake S q) q
theorem mTold_k {S : SS} {q j : Nat} (h : j ≠ 5) : (mTold S q).1 j = S.1 j := by
  unfold mTold
  split
  · exact va_up_ne _ _ h
  · rfl
theorem mTold_2 (S : SS) (q : Nat) : (mTold S q).2 = S.2 := by
  unfold mTold
  split <;> rfl
theorem mTk1_k {S : SS} {q j : Nat} (h : j ≠ 6 ∧ j ≠ 7 ∧ j ≠ 3) : (mTk1 S q).1 j = S.1 j := by
  simp [mTk1, sI, sF, va_up, h]
theorem mAcc_k {S : SS} {q j : Nat} (h : j ≠ 3 ∧ j ≠ 5 ∧ j ≠ 6 ∧ j ≠ 7) : (mAcc S q).1 j = S.1 j := by
  unfold mAcc
  rw [mTold_k h.2.1, mTk1_k (by omega)]
theorem mAcc_Bd {S : SS} {q x f : Nat} (h : BdAt S x f) : BdAt (mAcc S q) x f := by
  have e := mTold_2 (mTk1 S q) q
  have h2 : BdAt (mTk1 S q) x f := h
  exact BdAt_of e h2
theorem mLr_k {q : Nat} (hq : q < 2) : ∀ (c : Nat) (S : SS) (n j : Nat), S.1 12 (2 * q + (1 - q)) = nI n → (mLr S q c n j).1 12 (2 * q + (1 - q)) = nI (n + c) ∧ (∀ k, k ≠ 10 → k ≠ 12 → (mLr S q c n j).1 k = S.1 k) ∧ (mLr S q c n j).1 12 (2 * q + q) = S.1 12 (2 * q + q) ∧ (mLr S q c n j).2 = S.2
  | 0, S, n, j, h => ⟨h, fun _ _ _ => rfl, rfl, rfl⟩
  | c + 1, S, n, j, h => by
    have ih := mLr_k hq c (mLr1 S q n j) (n + 1) (j + 1) (if_pos rfl)
    show (mLr (mLr1 S q n j) q c (n + 1) (j + 1)).1 12 (2 * q + (1 - q)) = nI (n + (c + 1)) ∧ (∀ k, k ≠ 10 → k ≠ 12 → (mLr (mLr1 S q n j) q c (n + 1) (j + 1)).1 k = S.1 k) ∧ (mLr (mLr1 S q n j) q c (n + 1) (j + 1)).1 12 (2 * q + q) = S.1 12 (2 * q + q) ∧ (mLr (mLr1 S q n j) q c (n + 1) (j + 1)).2 = S.2
    obtain ⟨a1, a2, a3, a4⟩ := ih
    refine ⟨by rw [a1]; congr 1; omega, fun k h1 h2 => ?_, ?_, by rw [a4]; rfl⟩
    · rw [a2 k h1 h2]
      simp [mLr1, sI, va_up, h1, h2]
    · rw [a3]
      show upd (S.1 12) (2 * q + (1 - q)) _ (2 * q + q) = _
      exact if_neg (by omega)
theorem lv_sub64 {n : Nat} (hn : n ≤ 1000) (x : Int32) : ((nI n).toInt64 - x.toInt64).toInt = (n : Int) - x.toInt := by
  have h1 := x.toInt_lt
  have h2 := x.le_toInt
  rw [FP.Core.int64_sub] <;> rw [Int32.toInt_toInt64, Int32.toInt_toInt64, nI_toInt (by omega)] <;> omega
set_option maxHeartbeats 4000000 in
set_option maxRecDepth 100000 in
/-- deliver: no such peer -/
theorem c_deliver_no (l : Launch) (D : va_G) (cs : Nat → ClassId) (ad : Nat → Nat) (hJ : Inj ad 26) (d w : Int32) (S : SS) (np ns : UInt32) (pe : Int32) (hno : ¬ (pe = 0 ∨ pe = 1)) : CTi l yX7_deliver wsX7_deliver ({ frames := 1, cells := 0, slots := 0, locals := 20 }) D cs ad 26 (mm ad cs d w S np ns) [.ref (ad 0), .int pe] (fun r M2 => M2 = (mm ad cs d w S np ns) ∧ r = -1) := by
  refine Met.ofW (cc := cX7_deliver) (maxL := 8) (ret := (some .int)) (by decide) rfl ?_
  intro p e s m args below meth c s₁ B hml hv
  obtain ⟨rfl, hP, hK⟩ := hv
  have hx := B.exec
  have hb := B.bytes
  have hr := B.returns
  have hts := atoms_spec (ws := wsX7_deliver) B.pre
  have hown : s.vm.findClass RX7 = some m.cls := findClass_of_methodNamed B.named
  have hlocks := B.notSynchronized
  have hS : va_S (Ad ad 26) s.heap s.heap [] := va_S.rf
  have hl := lv_entry ([.ref (ad 0), .int pe]) (n := 8) (Nat.le_of_ble_eq_true rfl)
  rw [lg_entry_eq]
  generalize (lg_sl ([.ref (ad 0), .int pe]) ++ List.replicate (8 - (lg_sl ([.ref (ad 0), .int pe])).length) Slot.unset).toArray = ls at hl ⊢
  have hl : lv_has ls 8 [(0, .ref (ad 0)), (1, .int pe)] := hl
  have inX7 : ∀ w ∈ u_ws RX7 TX7 29, w ∈ wsX7_deliver := fun w h => List.mem_cons_of_mem _ (List.mem_append_right _ h)
  refine lv_iload_n hx hb dX7_deliver_0 rfl (lv_at hl 1 rfl) ?_
  refine k_Si (As := [.int pe]) (rest := []) ⟨hx, hb, hml, hown, hts⟩ hK hP hS Ad_le (c_isTwo l D cs ad 26 (mm ad cs d w S np ns) pe) (va_cwS 1 hts gX7_deliver_X7_isTwo rfl rfl rfl (by decide +kernel) ⟨Nat.le_of_ble_eq_true rfl, Nat.le_of_ble_eq_true rfl⟩) rfl rfl hl.1 (Nat.le_of_ble_eq_true rfl) dX7_deliver_1 ⟨Nat.le_of_ble_eq_true rfl, Nat.le_of_ble_eq_true rfl⟩ (fun r_1 M1 H locs hpo hP hS _ _ => ?_)
  obtain ⟨rfl, rfl⟩ := hpo
  refine lv_if_eq (tgt := 16) hx hb dX7_deliver_4 (by decide) (fun c1 => ?_) (fun c1 => absurd (if_neg hno) c1)
  refine lv_iconst (v := (-1)) hx hb dX7_deliver_16 (by decide) ?_
  exact r_i hx hb hr hlocks hK hP hS dX7_deliver_17 ⟨rfl, rfl⟩
