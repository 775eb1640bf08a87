
/-! the cells of a peer, and of a row, against the state S -/
def OwS (S : SS) (q no : Nat) (gO : Nat → Int32) : Prop := ∀ f, f < no → gO f = S.1 10 (1200 * q + 600 * q + f)
def OtS (S : SS) (q nt : Nat) (gT : Nat → Int32) : Prop := ∀ f, f < nt → nt ≤ f + 32 → gT (f % 32) = S.1 10 (1200 * q + 600 * (1 - q) + f)
def edOf (S : SS) (q : Nat) : Int32 := if 0 ≤ S.1 4 q then nI 1 else 0
def spk (S : SS) (j : Nat) : PK := (S.1 20 j, S.1 21 j, S.1 22 j, S.1 23 j, S.1 24 j, S.2.2.1 j, S.1 26 j)
def PeS (ad : Nat → Nat) (cs : Nat → ClassId) (k r1 r2 q ww : Nat) (S : SS) (M : Nat → va_E) (a no nt : Nat) : Prop :=
  ∃ X V hh wk U gO gT, M k = oPe ad k r1 r2 q ww a (S.1 3 q) (S.1 5 q) (S.1 8 q) (S.1 7 q) (S.1 6 q) (S.2.1 9 q) ∧ HiA ad cs (k + 1) M X V hh wk U ∧ HR S q (a - 15) a X V hh wk U ∧ M (k + 54) = oIn ad (k + 55) no 0 ∧ M (k + 55) = eB cs 1024 gO ∧ OwS S q no gO ∧ M (k + 56) = oIn ad (k + 57) nt (edOf S q) ∧ M (k + 57) = eB cs 32 gT ∧ OtS S q nt gT
def RwS (ad : Nat → Nat) (cs : Nat → ClassId) (kr : Nat) (M : Nat → va_E) (S : SS) (o : Nat) : Prop :=
  ∃ sg9 pk r, RwA ad cs kr M sg9 r pk ∧ S.1 19 o = nI r ∧ r ≤ 12 ∧ (∀ i, i < 12 → sg9 i < 12) ∧ (∀ i j, i < 12 → j < 12 → sg9 i = sg9 j → i = j) ∧ ∀ i, i < r → pk (sg9 i) = spk S (12 * o + i)
/-- what holds of peer q's part of S -/
def Iq (dd ww : Nat) (S : SS) (q a nt : Nat) : Prop :=
  S.1 2 q = nI a ∧ S.1 12 (2 * q + q) = nI (a + dd) ∧ S.1 12 (2 * q + (1 - q)) = nI nt ∧ nt ≤ a + 20 ∧ (¬ 0 ≤ S.1 4 q → a ≤ nt + ww) ∧ (S.1 4 q = -1 ∨ (S.1 4 q = nI nt ∧ nt ≤ a)) ∧ (∃ t, S.1 5 q = nI t ∧ t ≤ a + dd) ∧
  (∀ f, f < a + dd → ∃ j, j < 8 ∧ S.1 10 (1200 * q + 600 * q + f) = nI j) ∧ (∀ f, f < nt → ∃ j, j < 8 ∧ S.1 10 (1200 * q + 600 * (1 - q) + f) = nI j) ∧ (∀ pl f, pl < 2 → f < a → S.1 11 (1200 * q + 600 * pl + f) = mUse S q pl f) ∧ (∀ f, f ≤ a → BdAt S q f) ∧ Fb (S.2.1 9 q) (-(2 ^ 36 * e8)) (2 ^ 36 * e8)
theorem HR_c {S S2 : SS} {q lo hi : Nat} {X V : Nat → Nat → UInt32} {hh : Nat → Int32} {wk : Nat → UInt64} {U : Nat → Nat → Int32} (h : HR S q lo hi X V hh wk U) (h11 : S2.1 11 = S.1 11) (h17 : S2.1 17 = S.1 17) (hF : S2.2.1 13 = S.2.1 13 ∧ S2.2.1 14 = S.2.1 14 ∧ S2.2.1 15 = S.2.1 15 ∧ S2.2.1 16 = S.2.1 16) (hD : S2.2.2.2 = S.2.2.2) : HR S2 q lo hi X V hh wk U := by
  unfold HR at *
  rw [h11, h17, hF.1, hF.2.1, hF.2.2.1, hF.2.2.2, hD]
  exact h
theorem OwS_c {S S2 : SS} {q no : Nat} {g : Nat → Int32} (h : OwS S q no g) (h10 : S2.1 10 = S.1 10) : OwS S2 q no g := by
  unfold OwS at *; rw [h10]; exact h
theorem OtS_c {S S2 : SS} {q nt : Nat} {g : Nat → Int32} (h : OtS S q nt g) (h10 : S2.1 10 = S.1 10) : OtS S2 q nt g := by
  unfold OtS at *; rw [h10]; exact h
theorem use_own {S : SS} {q no : Nat} {gO : Nat → Int32} (h : OwS S q no gO) (hn : S.1 12 (2 * q + q) = nI no) (hno : no ≤ 600) (f : Nat) : inU 1024 no gO 0 f = mUse S q q f := by
  rw [mUse_eq hn hno]
  unfold inU
  by_cases h1 : f < no
  · rw [if_pos h1, if_pos h1, Nat.mod_eq_of_lt (by omega)]; exact h f h1
  · rw [if_neg h1, if_neg h1]
    by_cases h2 : no = 0
    · rw [if_pos (Or.inr h2), if_pos (Or.inr h2)]; rfl
    · rw [if_neg (fun z => z.elim (fun z => z rfl) h2), if_neg (fun z => z.elim (fun z => z.1 rfl) h2), Nat.mod_eq_of_lt (by omega), h (no - 1) (by omega), show 1200 * q + 600 * q + (no - 1) = 1200 * q + 600 * q + no - 1 by omega]
theorem edOf_0 (S : SS) (q : Nat) : ¬ edOf S q = 0 ↔ ¬ S.1 4 q < 0 := by
  unfold edOf
  by_cases h : 0 ≤ S.1 4 q
  · rw [if_pos h]
    exact ⟨fun _ => Int32.not_lt.mpr h, fun _ => by decide⟩
  · rw [if_neg h]
    exact ⟨fun z => absurd rfl z, fun z => absurd (Int32.not_lt.mp z) h⟩
theorem use_oth {S : SS} {q nt : Nat} {gT : Nat → Int32} (hq : q < 2) (h : OtS S q nt gT) (hn : S.1 12 (2 * q + (1 - q)) = nI nt) (hnt : nt ≤ 600) {f : Nat} (hf : nt ≤ f + 32) : inU 32 nt gT (edOf S q) f = mUse S q (1 - q) f := by
  rw [mUse_eq hn hnt]
  unfold inU
  by_cases h1 : f < nt
  · rw [if_pos h1, if_pos h1]; exact h f h1 hf
  · rw [if_neg h1, if_neg h1]
    by_cases h2 : ¬ edOf S q = 0 ∨ nt = 0
    · rw [if_pos h2, if_pos (h2.elim (fun z => Or.inl ⟨by omega, (edOf_0 S q).mp z⟩) Or.inr)]; rfl
    · rw [if_neg h2, if_neg (fun z => h2 (z.elim (fun z => Or.inl ((edOf_0 S q).mpr z.2)) Or.inr))]
      have h3 : nt ≠ 0 := fun z => h2 (Or.inr z)
      rw [h (nt - 1) (by omega) (by omega), show 1200 * q + 600 * (1 - q) + (nt - 1) = 1200 * q + 600 * (1 - q) + nt - 1 by omega]
theorem use_small {dd ww : Nat} {S : SS} {q a nt : Nat} (hq : q < 2) (hdd : dd ≤ 4) (ha : a ≤ 570) (h : Iq dd ww S q a nt) (pl f : Nat) (hp : pl < 2) : ∃ j, j < 8 ∧ mUse S q pl f = nI j := by
  obtain ⟨-, h2, h3, h4, -, -, -, h8, h9, -, -, -⟩ := h
  have hz : ∃ j, j < 8 ∧ (0 : Int32) = nI j := ⟨0, by decide, rfl⟩
  rcases (show pl = q ∨ pl = 1 - q by omega) with rfl | rfl
  · rw [mUse_eq h2 (by omega)]
    split
    · exact h8 f (by omega)
    · split
      · exact hz
      · rename_i u1 u2
        have u3 : a + dd ≠ 0 := fun z => u2 (Or.inr z)
        rw [show 1200 * pl + 600 * pl + (a + dd) - 1 = 1200 * pl + 600 * pl + (a + dd - 1) by omega]
        exact h8 _ (by omega)
  · rw [mUse_eq h3 (by omega)]
    split
    · exact h9 f (by omega)
    · split
      · exact hz
      · rename_i u1 u2
        have u3 : nt ≠ 0 := fun z => u2 (Or.inr z)
        rw [show 1200 * q + 600 * (1 - q) + nt - 1 = 1200 * q + 600 * (1 - q) + (nt - 1) by omega]
        exact h9 _ (by omega)
theorem mPlays_k : ∀ (c : Nat) (S : SS) (q f : Nat) {j : Nat}, (j ≠ 11 ∧ j ≠ 17) → (mPlays S q c f).1 j = S.1 j
  | 0, _, _, _, _, _ => rfl
  | c + 1, S, q, f, j, h => by
    show (mPlays (mPlay S q f) q c (f + 1)).1 j = S.1 j
    rw [mPlays_k c _ q _ h, mPlay_k S q f h]
theorem mPlays_9 : ∀ (c : Nat) (S : SS) (q f : Nat), (mPlays S q c f).2.1 9 = S.2.1 9 ∧ (mPlays S q c f).2.2.1 = S.2.2.1
  | 0, _, _, _ => ⟨rfl, rfl⟩
  | c + 1, S, q, f => by
    show (mPlays (mPlay S q f) q c (f + 1)).2.1 9 = S.2.1 9 ∧ (mPlays (mPlay S q f) q c (f + 1)).2.2.1 = S.2.2.1
    obtain ⟨h1, h2⟩ := mPlays_9 c (mPlay S q f) q (f + 1)
    rw [h1, h2]
    exact ⟨rfl, rfl⟩
theorem pkB_c {u v : Nat → Int32} {b1 b2 : Nat} : ∀ c, (∀ j, j < c → u (b1 + j) = v (b2 + j)) → pkB u b1 c = pkB v b2 c
  | 0, _ => rfl
  | c + 1, h => by
    show pkB u b1 c ||| _ = pkB v b2 c ||| _
    rw [pkB_c c (fun j hj => h j (by omega)), h c (by omega)]
theorem cut_small {dd ww : Nat} {S : SS} {q a nt : Nat} (hq : q < 2) (hdd : dd ≤ 4) (ha : a ≤ 570) (h : Iq dd ww S q a nt) (pl f : Nat) (hp : pl < 2) : ∃ j, j < 8 ∧ mUse (mCut S q) q pl f = nI j := by
  obtain ⟨j, hj, e⟩ := use_small hq hdd ha h pl f hp
  by_cases h1 : mUse (mCut S q) q pl f = mUse S q pl f
  · exact ⟨j, hj, h1.trans e⟩
  · refine ⟨0, by decide, ?_⟩
    unfold mUse at h1 ⊢
    rw [show (mCut S q).1 12 = S.1 12 from rfl, show (mCut S q).1 10 = S.1 10 from rfl] at h1 ⊢
    by_cases z1 : f < tn (S.1 12 (2 * q + pl))
    · rw [if_pos z1, if_pos z1] at h1; exact absurd rfl h1
    · rw [if_neg z1, if_neg z1] at h1
      rw [if_neg z1]
      by_cases z2 : (pl ≠ q ∧ ¬ (mCut S q).1 4 q < 0) ∨ tn (S.1 12 (2 * q + pl)) = 0
      · rw [if_pos z2]; rfl
      · rw [if_neg z2] at h1
        by_cases z3 : (pl ≠ q ∧ ¬ S.1 4 q < 0) ∨ tn (S.1 12 (2 * q + pl)) = 0
        · exfalso
          rcases z3 with z3 | z3
          · refine z2 (Or.inl ⟨z3.1, ?_⟩)
            rw [show (mCut S q).1 4 q = S.1 12 (2 * q + (1 - q)) from if_pos rfl, h.2.2.1]
            exact nI_pos (by have := h.2.2.2.1; omega)
          · exact z2 (Or.inr z3)
        · rw [if_neg z3] at h1; exact absurd rfl h1
set_option maxHeartbeats 4000000 in
set_option maxRecDepth 100000 in
/-- Peer.stall() -/
theorem c_stall (l : Launch) (D : va_G) (cs : Nat → ClassId) (ad : Nat → Nat) (n : Nat) (hJ : Inj ad n) (M : Nat → va_E) (k r1 r2 q ww a dd nt : Nat) (S : SS) (hk : k + 58 ≤ n) (hq : q < 2) (hdd : dd ≤ 4) (hw1 : 1 ≤ ww) (hw2 : ww ≤ 8) (ha : a ≤ 560) (hI : Iq dd ww S q a nt) (hPe : PeS ad cs k r1 r2 q ww S M a (a + dd) nt) (hst : nt ≤ a) (hst2 : a ≤ nt + 8) : CTv l yX3_stall wsX3_stall ({ frames := 4, cells := 0, slots := 0, locals := 99 }) D cs ad n M [.ref (ad k)] (fun M2 => PeS ad cs k r1 r2 q ww (if S.1 3 q + nI 1 = nI 12 then mAgain (mCut S q) q a nt else mSt1 S q) M2 a (a + dd) nt ∧ ∀ j, (j < k ∨ k + 58 ≤ j) → M2 j = M j) := by
  refine Met.ofW (cc := cX3_stall) (maxL := 1) (ret := none) (by decide) rfl ?_
  intro p e s m args below meth c s₁ B hml hv
  obtain ⟨rfl, hP, hK⟩ := hv
  have hx := B.exec
  have hb := B.bytes
  have hr := B.returns
  have hts := atoms_spec (ws := wsX3_stall) B.pre
  have hown : s.vm.findClass RX3 = some m.cls := findClass_of_methodNamed B.named
  have hlocks := B.notSynchronized
  have hS : va_S (Ad ad n) s.heap s.heap [] := va_S.rf
  have hl := lv_entry ([.ref (ad k)]) (n := 1) (Nat.le_of_ble_eq_true rfl)
  rw [lg_entry_eq]
  generalize (lg_sl ([.ref (ad k)]) ++ List.replicate (1 - (lg_sl ([.ref (ad k)])).length) Slot.unset).toArray = ls at hl ⊢
  have hl : lv_has ls 1 [(0, .ref (ad k))] := hl
  have inX3 : ∀ w ∈ u_ws RX3 TX3 14, w ∈ wsX3_stall := fun w h => List.mem_cons_of_mem _ (List.mem_append_left _ (List.mem_append_left _ (List.mem_append_left _ (List.mem_append_right _ h))))
  have inX1 : ∀ w ∈ u_ws RX1 TX1 3, w ∈ wsX3_stall := fun w h => List.mem_cons_of_mem _ (List.mem_append_left _ (List.mem_append_left _ (List.mem_append_right _ h)))
  obtain ⟨X, V, hh, wk, U, gO, gT, h1, hH, hR, h2, h3, hOw, h4, h5, hOt⟩ := hPe
  obtain ⟨I1, I2, I3, I4, I5, I6, ⟨tt, I7, I8⟩, I9, I10, I11, I12, I13⟩ := id hI
  refine lv_aload_n hx hb dX3_stall_0 rfl (lv_at hl 0 rfl) ?_
  refine lv_dup hx hb dX3_stall_1 rfl ?_
  refine m_get hx hb hts inX3 hown hK hP (ci := 3) rfl (k := k) (by omega) h1 8 (by decide) (hts (.fieldLink RX3 84 "RollbackPair$Peer" "stalls" "I") (by decide +kernel)) rfl dX3_stall_2 ?_
  refine lv_iconst (v := nI 1) hx hb dX3_stall_5 (by decide) ?_
  refine lv_iadd hx hb dX3_stall_6 ?_
  refine m_put hx hb hts inX3 tyX3 tyX3_ok nmX3 hown hK hP hJ hS (ci := 3) rfl (k := k) (by omega) h1 8 (by decide) (hts (.fieldLink RX3 84 "RollbackPair$Peer" "stalls" "I") (by decide +kernel)) rfl rfl rfl (Nat.le_of_ble_eq_true rfl) (fs' := [.int (nI q), .int (nI ww), .ref (ad r1), .ref (ad r2), .ref (ad (k + 54)), .ref (ad (k + 56)), .ref (ad (k + 1)), .int (nI a), .int ((S.1 3 q) + (nI 1)), .int (S.1 5 q), .int (S.1 8 q), .int (S.1 7 q), .int (S.1 6 q), .float (S.2.1 9 q)]) rfl dX3_stall_7 (fun H locs hP hS => ?_)
  obtain ⟨M_1, eM_1⟩ : ∃ z, z = va_up M k (.inr (3, [.int (nI q), .int (nI ww), .ref (ad r1), .ref (ad r2), .ref (ad (k + 54)), .ref (ad (k + 56)), .ref (ad (k + 1)), .int (nI a), .int ((S.1 3 q) + (nI 1)), .int (S.1 5 q), .int (S.1 8 q), .int (S.1 7 q), .int (S.1 6 q), .float (S.2.1 9 q)])) := ⟨_, rfl⟩
  rw [← eM_1] at hP
  have h1_1 : M_1 k = .inr (3, [.int (nI q), .int (nI ww), .ref (ad r1), .ref (ad r2), .ref (ad (k + 54)), .ref (ad (k + 56)), .ref (ad (k + 1)), .int (nI a), .int ((S.1 3 q) + (nI 1)), .int (S.1 5 q), .int (S.1 8 q), .int (S.1 7 q), .int (S.1 6 q), .float (S.2.1 9 q)]) := by rw [eM_1]; exact va_up_self _ _ _
  have h1_2 : M_1 (k + 54) = .inr (1, [.ref (ad (k + 55)), .int (nI (a + dd)), .int 0]) := by rw [eM_1]; exact (va_up_ne _ _ (by omega)).trans h2
  have h1_3 : M_1 (k + 55) = eB cs 1024 gO := by rw [eM_1]; exact (va_up_ne _ _ (by omega)).trans h3
  have h1_4 : M_1 (k + 56) = .inr (1, [.ref (ad (k + 57)), .int (nI nt), .int (edOf S q)]) := by rw [eM_1]; exact (va_up_ne _ _ (by omega)).trans h4
  have h1_5 : M_1 (k + 57) = eB cs 32 gT := by rw [eM_1]; exact (va_up_ne _ _ (by omega)).trans h5
  refine lv_aload_n hx hb dX3_stall_10 rfl (lv_at hl 0 rfl) ?_
  refine m_get hx hb hts inX3 hown hK hP (ci := 3) rfl (k := k) (by omega) h1_1 8 (by decide) (hts (.fieldLink RX3 84 "RollbackPair$Peer" "stalls" "I") (by decide +kernel)) rfl dX3_stall_11 ?_
  refine lv_bipush (v := nI 12) hx hb dX3_stall_14 (by decide) ?_
  refine lv_icmp_ne (tgt := 46) hx hb dX3_stall_16 (by decide) (fun c1 => ?_) (fun c1 => ?_)
  · rw [if_neg c1]
    refine r_v hx hb hr hlocks hK hP hS dX3_stall_46 ⟨⟨X, V, hh, wk, U, gO, gT, ?_, hH.kept (fun j z1 z2 => by rw [eM_1, va_up_ne _ _ (by omega)]), HR_c hR rfl rfl ⟨rfl, rfl, rfl, rfl⟩ rfl, h1_2, h1_3, OwS_c hOw rfl, h1_4, h1_5, OtS_c hOt rfl⟩, fun j hj => by rw [eM_1, va_up_ne _ _ (by omega)]⟩
    show _ = oPe ad k r1 r2 q ww a (upd (S.1 3) q (S.1 3 q + nI 1) q) (S.1 5 q) (S.1 8 q) (S.1 7 q) (S.1 6 q) (S.2.1 9 q)
    rw [show upd (S.1 3) q (S.1 3 q + nI 1) q = S.1 3 q + nI 1 from if_pos rfl]; exact h1_1
  · refine lv_aload_n hx hb dX3_stall_19 rfl (lv_at hl 0 rfl) ?_
    refine m_get hx hb hts inX3 hown hK hP (ci := 3) rfl (k := k) (by omega) h1_1 5 (by decide) (hts (.fieldLink RX3 41 "RollbackPair$Peer" "others" "LRollbackPair$Inputs;") (by decide +kernel)) rfl dX3_stall_20 ?_
    refine lv_iconst (v := nI 1) hx hb dX3_stall_23 (by decide) ?_
    refine m_put hx hb hts inX1 tyX1 tyX1_ok nmX1 hown hK hP hJ hS (ci := 1) rfl (k := (k + 56)) (by omega) h1_4 2 (by decide) (hts (.fieldLink RX3 61 "RollbackPair$Inputs" "ended" "Z") (by decide +kernel)) rfl rfl rfl (Nat.le_of_ble_eq_true rfl) (fs' := [.ref (ad (k + 57)), .int (nI nt), .int (nI 1)]) rfl dX3_stall_24 (fun H locs hP hS => ?_)
    obtain ⟨M_2, eM_2⟩ : ∃ z, z = va_up M_1 (k + 56) (.inr (1, [.ref (ad (k + 57)), .int (nI nt), .int (nI 1)])) := ⟨_, rfl⟩
    rw [← eM_2] at hP
    have h2_1 : M_2 k = .inr (3, [.int (nI q), .int (nI ww), .ref (ad r1), .ref (ad r2), .ref (ad (k + 54)), .ref (ad (k + 56)), .ref (ad (k + 1)), .int (nI a), .int ((S.1 3 q) + (nI 1)), .int (S.1 5 q), .int (S.1 8 q), .int (S.1 7 q), .int (S.1 6 q), .float (S.2.1 9 q)]) := by rw [eM_2]; exact (va_up_ne _ _ (by omega)).trans h1_1
    have h2_2 : M_2 (k + 54) = .inr (1, [.ref (ad (k + 55)), .int (nI (a + dd)), .int 0]) := by rw [eM_2]; exact (va_up_ne _ _ (by omega)).trans h1_2
    have h2_3 : M_2 (k + 55) = eB cs 1024 gO := by rw [eM_2]; exact (va_up_ne _ _ (by omega)).trans h1_3
    have h2_4 : M_2 (k + 56) = .inr (1, [.ref (ad (k + 57)), .int (nI nt), .int (nI 1)]) := by rw [eM_2]; exact va_up_self _ _ _
    have h2_5 : M_2 (k + 57) = eB cs 32 gT := by rw [eM_2]; exact (va_up_ne _ _ (by omega)).trans h1_5
    have hjs : ∀ pl f, pl < 2 → ∃ j, j < 8 ∧ mUse (mCut S q) q pl f = nI j := fun pl f hp => cut_small hq hdd (by omega) hI pl f hp
    refine lv_aload_n hx hb dX3_stall_27 rfl (lv_at hl 0 rfl) ?_
    refine lv_aload_n hx hb dX3_stall_28 rfl (lv_at hl 0 rfl) ?_
    refine lv_aload_n hx hb dX3_stall_29 rfl (lv_at hl 0 rfl) ?_
    refine m_get hx hb hts inX3 hown hK hP (ci := 3) rfl (k := k) (by omega) h2_1 5 (by decide) (hts (.fieldLink RX3 41 "RollbackPair$Peer" "others" "LRollbackPair$Inputs;") (by decide +kernel)) rfl dX3_stall_30 ?_
    refine m_get hx hb hts inX1 hown hK hP (ci := 1) rfl (k := (k + 56)) (by omega) h2_4 1 (by decide) (hts (.fieldLink RX3 58 "RollbackPair$Inputs" "count" "I") (by decide +kernel)) rfl dX3_stall_33 ?_
    have hH2 : HiA ad cs (k + 1) M_2 X V hh wk U := hH.kept (fun j z1 z2 => by rw [eM_2, va_up_ne _ _ (by omega), eM_1, va_up_ne _ _ (by omega)])
    have hed : edOf (mCut S q) q = nI 1 := if_pos (by show 0 ≤ upd (S.1 4) q (S.1 12 (2 * q + (1 - q))) q; rw [show upd (S.1 4) q (S.1 12 (2 * q + (1 - q))) q = S.1 12 (2 * q + (1 - q)) from if_pos rfl, I3]; exact nI_pos' (by omega))
    have hO2 : OwS (mCut S q) q (a + dd) gO := OwS_c hOw rfl
    have hT2 : OtS (mCut S q) q nt gT := OtS_c hOt rfl
    have hR2 : HR (mCut S q) q (a - 15) a X V hh wk U := HR_c hR rfl rfl ⟨rfl, rfl, rfl, rfl⟩ rfl
    have g4 : M_2 (k + 56) = oIn ad (k + 57) nt (edOf (mCut S q) q) := by rw [hed]; exact h2_4
    have hTe : ∀ f, nt ≤ f → f < a → inU 32 nt gT (edOf (mCut S q) q) f = mUse (mCut S q) q (1 - q) f := fun f z1 z2 => use_oth hq hT2 I3 (by omega) (by omega)
    refine k_Vi (As := [.int (nI nt)]) (rest := [.ref (ad k)]) (k := k) (ci := 3) ⟨hx, hb, hml, hown, hts⟩ hK hP hS Ad_le (c_firstWrong l D cs ad n hJ M_2 k r1 r2 q ww a (S.1 3 q + nI 1) (S.1 5 q) (S.1 8 q) (S.1 7 q) (S.1 6 q) (S.2.1 9 q) hk hq (by omega) h2_1 (a + dd) nt (edOf (mCut S q) q) gO gT (by omega) (by omega) h2_2 h2_3 g4 h2_5 X V hh wk U hH2 (mCut S q) nt (fun f z1 z2 => hR2.2 (1 - q) f (by omega) (by omega) z1) hTe (by omega) hst) (cwV 1 hts gX3_stall_X3_firstWrong rfl rfl rfl (by decide +kernel) ⟨Nat.le_of_ble_eq_true rfl, Nat.le_of_ble_eq_true rfl⟩) (by omega) h2_1 rfl rfl rfl hl.1 (Nat.le_of_ble_eq_true rfl) dX3_stall_36 ⟨Nat.le_of_ble_eq_true rfl, Nat.le_of_ble_eq_true rfl⟩ (fun r_1 M1 H locs hpo hP hS _ _ => ?_)
    obtain ⟨hMe, rfl⟩ := hpo
    rw [hMe] at hP
    have hFb := mFw_ge (mCut S q) q (a - nt) nt
    generalize hF : mFw (mCut S q) q (a - nt) nt = F at hP hFb ⊢
    refine lv_aload_n hx hb dX3_stall_39 rfl (lv_at hl 0 rfl) ?_
    refine m_get hx hb hts inX3 hown hK hP (ci := 3) rfl (k := k) (by omega) h2_1 7 (by decide) (hts (.fieldLink RX3 51 "RollbackPair$Peer" "at" "I") (by decide +kernel)) rfl dX3_stall_40 ?_
    refine k_Vv (As := [.int (nI F), .int (nI a)]) (rest := []) (k := k) (ci := 3) ⟨hx, hb, hml, hown, hts⟩ hK hP hS Ad_le (c_playFrames l D cs ad n hJ M_2 k r1 r2 q ww a (S.1 3 q + nI 1) (S.1 5 q) (S.1 8 q) (S.1 7 q) (S.1 6 q) (S.2.1 9 q) hk hq (by omega) h2_1 (a + dd) nt (edOf (mCut S q) q) gO gT (by omega) (by omega) h2_2 h2_3 g4 h2_5 X V hh wk U hH2 (mCut S q) F a (a - 15) a hR2 (by omega) (by omega) (by omega) (by omega) (by omega) (fun f z1 z2 => use_own hO2 I2 (by omega) f) (fun f z1 z2 => hTe f (by omega) z2) (fun pl f hp _ _ => hjs pl f hp) (BdAt_of rfl (I12 F (by omega)))) (cwV 2 hts gX3_stall_X3_playFrames rfl rfl rfl (by decide +kernel) ⟨Nat.le_of_ble_eq_true rfl, Nat.le_of_ble_eq_true rfl⟩) (by omega) h2_1 rfl rfl rfl hl.1 (Nat.le_of_ble_eq_true rfl) dX3_stall_43 ⟨Nat.le_of_ble_eq_true rfl, Nat.le_of_ble_eq_true rfl⟩ (fun N9 H locs hpo hP hS _ _ => ?_)
    obtain ⟨X2, V2, hh2, wk2, U2, q1, q2, q3⟩ := hpo
    have hE : mAgain (mCut S q) q a nt = mPlays (mCut S q) q (a - F) F := by unfold mAgain; rw [hF]
    have e9 := mPlays_9 (a - F) (mCut S q) q F
    rw [if_pos c1, hE]
    refine r_v hx hb hr hlocks hK hP hS dX3_stall_46 ⟨⟨X2, V2, hh2, wk2, U2, gO, gT, ?_, q1, ?_, (q3 _ (by omega)).trans h2_2, (q3 _ (by omega)).trans h2_3, OwS_c hO2 (mPlays_k _ _ _ _ (by decide)), ?_, (q3 _ (by omega)).trans h2_5, OtS_c hT2 (mPlays_k _ _ _ _ (by decide))⟩, fun j hj => (q3 j (by omega)).trans (by rw [eM_2, va_up_ne _ _ (by omega), eM_1, va_up_ne _ _ (by omega)])⟩
    · rw [q3 _ (by omega), h2_1, mPlays_k _ _ _ _ (by decide), mPlays_k _ _ _ _ (by decide), mPlays_k _ _ _ _ (by decide), mPlays_k _ _ _ _ (by decide), mPlays_k _ _ _ _ (by decide), e9.1]
      show _ = oPe ad k r1 r2 q ww a (upd (S.1 3) q (S.1 3 q + nI 1) q) (S.1 5 q) (S.1 8 q) (S.1 7 q) (S.1 6 q) (S.2.1 9 q)
      rw [show upd (S.1 3) q (S.1 3 q + nI 1) q = S.1 3 q + nI 1 from if_pos rfl]
    · rw [show max (a - 15) (a - 15) = a - 15 by omega, show max a a = a by omega] at q2; exact q2
    · rw [q3 _ (by omega), g4]; unfold edOf; rw [mPlays_k _ _ _ _ (by decide)]
