theorem mTk1_v (S : SS) (q : Nat) : (mTk1 S q).1 3 q = nI 0 ∧ (mTk1 S q).1 8 q = S.1 8 q ∧ (mTk1 S q).1 7 q = S.1 20 24 ∧ (mTk1 S q).1 6 q = nI 1 ∧ (mTk1 S q).2.1 9 q = avN S q ∧ (mTk1 S q).1 5 q = S.1 5 q :=
  ⟨if_pos rfl, rfl, if_pos rfl, if_pos rfl, if_pos rfl, rfl⟩
theorem acc_v (S : SS) (q : Nat) : (mAcc S q).1 3 q = nI 0 ∧ (mAcc S q).1 8 q = S.1 8 q ∧ (mAcc S q).1 7 q = S.1 20 24 ∧ (mAcc S q).1 6 q = nI 1 ∧ (mAcc S q).2.1 9 q = avN S q := by
  obtain ⟨h1, h2, h3, h4, h5, -⟩ := mTk1_v S q
  unfold mAcc
  rw [mTold_k (by decide), mTold_k (by decide), mTold_k (by decide), mTold_k (by decide), mTold_2]
  exact ⟨h1, h2, h3, h4, h5⟩
theorem acc_5 (S : SS) (q : Nat) : (mAcc S q).1 5 q = if ¬ S.1 22 24 ≤ S.1 5 q ∧ ¬ S.1 12 (2 * q + q) < S.1 22 24 then S.1 22 24 else S.1 5 q := by
  unfold mAcc mTold
  by_cases h : ackP (mTk1 S q) q
  · rw [if_pos h, if_pos (show ¬ S.1 22 24 ≤ S.1 5 q ∧ ¬ S.1 12 (2 * q + q) < S.1 22 24 from h)]; exact if_pos rfl
  · rw [if_neg h, if_neg (show ¬ (¬ S.1 22 24 ≤ S.1 5 q ∧ ¬ S.1 12 (2 * q + q) < S.1 22 24) from h)]; rfl
theorem acc_spk (S : SS) (q j : Nat) : spk (mAcc S q) j = spk S j := by
  unfold spk
  rw [mAcc_k (by decide), mAcc_k (by decide), mAcc_k (by decide), mAcc_k (by decide), mAcc_k (by decide), mAcc_k (by decide), show (mAcc S q).2.2.1 = S.2.2.1 by unfold mAcc; rw [mTold_2]; rfl]
theorem acc_F (S : SS) (q : Nat) : (mAcc S q).2.1 13 = S.2.1 13 ∧ (mAcc S q).2.1 14 = S.2.1 14 ∧ (mAcc S q).2.1 15 = S.2.1 15 ∧ (mAcc S q).2.1 16 = S.2.1 16 ∧ (mAcc S q).2.2.2 = S.2.2.2 := by
  unfold mAcc; rw [mTold_2]; exact ⟨rfl, rfl, rfl, rfl, rfl⟩
theorem c_fw (l : Launch) (D : va_G) (cs : Nat → ClassId) (ad : Nat → Nat) (n : Nat) (hJ : Inj ad n) (M : Nat → va_E) (k r1 r2 q ww a : Nat) (st to nn ln ht : Int32) (le : UInt32) (hk : k + 58 ≤ n) (hq : q < 2) (ha : a ≤ 580) (h1 : M k = oPe ad k r1 r2 q ww a st to nn ln ht le) (no nt : Nat) (ed : Int32) (gO gT : Nat → Int32) (hno : no ≤ 600) (hnt : nt ≤ 600) (h2 : M (k + 54) = oIn ad (k + 55) no 0) (h3 : M (k + 55) = eB cs 1024 gO) (h4 : M (k + 56) = oIn ad (k + 57) nt ed) (h5 : M (k + 57) = eB cs 32 gT) (X V : Nat → Nat → UInt32) (hh : Nat → Int32) (wk : Nat → UInt64) (U : Nat → Nat → Int32) (hH : HiA ad cs (k + 1) M X V hh wk U) (S : SS) (f0 : Nat) (hU : ∀ f, f < a → f0 ≤ f → U (1 - q) (f % 16) = S.1 11 (1200 * q + 600 * (1 - q) + f)) (hT : ∀ f, f0 ≤ f → f < a → inU 32 nt gT ed f = mUse S q (1 - q) f) (hf0 : a ≤ f0 + 15) (hf1 : f0 ≤ 1000) : CTi l yX3_firstWrong wsX3_firstWrong ({ frames := 1, cells := 0, slots := 0, locals := 23 }) D cs ad n M [.ref (ad k), .int (nI f0)] (fun r M2 => M2 = M ∧ r = nI (fwF S q a f0)) := by
  by_cases hfa : a ≤ f0
  · have h := c_firstWrong_gt l D cs ad n hJ M k r1 r2 q ww a st to nn ln ht le hk hq ha h1 f0 hf1 hfa
    rw [show fwF S q a f0 = a from if_pos hfa]; exact h
  · have h := c_firstWrong l D cs ad n hJ M k r1 r2 q ww a st to nn ln ht le hk hq ha h1 no nt ed gO gT hno hnt h2 h3 h4 h5 X V hh wk U hH S f0 hU hT hf0 (by omega)
    rw [show fwF S q a f0 = mFw S q (a - f0) f0 from if_neg hfa]; exact h
set_option maxHeartbeats 4000000 in
set_option maxRecDepth 100000 in
/-- Peer.receive(packet) -/
theorem c_receive (l : Launch) (D : va_G) (cs : Nat → ClassId) (ad : Nat → Nat) (n : Nat) (hJ : Inj ad n) (M : Nat → va_E) (k r1 r2 q ww a dd nt : Nat) (S : SS) (hk : k + 58 ≤ n) (hq : q < 2) (hdd : dd ≤ 4) (hw1 : 1 ≤ ww) (hw2 : ww ≤ 8) (ha : a ≤ 560) (hI : Iq dd ww S q a nt) (pp : Nat) (hpp : pp < k) (hsh : sh (S.1 20 24)) (hPe : PeS ad cs k r1 r2 q ww S M a (a + dd) nt) (hp : M pp = oT (spk S 24)) : CTi l yX3_receive wsX3_receive ({ frames := 4, cells := 0, slots := 0, locals := 99 }) D cs ad n M [.ref (ad k), .ref (ad pp)] (fun r M2 => r = rDel2 S q ∧ (∃ nt2, Iq dd ww (mDel2 S q) q a nt2 ∧ PeS ad cs k r1 r2 q ww (mDel2 S q) M2 a (a + dd) nt2) ∧ ∀ j, (j < k ∨ k + 58 ≤ j) → M2 j = M j) := by
  refine Met.ofW (cc := cX3_receive) (maxL := 4) (ret := (some .int)) (by decide) rfl ?_
  intro p e s m args below meth c s₁ B hml hv
  obtain ⟨rfl, hP, hK⟩ := hv
  have hx := B.exec
  have hb := B.bytes
  have hr := B.returns
  have hts := atoms_spec (ws := wsX3_receive) B.pre
  have hown : s.vm.findClass RX3 = some m.cls := findClass_of_methodNamed B.named
  have hlocks := B.notSynchronized
  have hS : va_S (Ad ad n) s.heap s.heap [] := va_S.rf
  have hl := lv_entry ([.ref (ad k), .ref (ad pp)]) (n := 4) (Nat.le_of_ble_eq_true rfl)
  rw [lg_entry_eq]
  generalize (lg_sl ([.ref (ad k), .ref (ad pp)]) ++ List.replicate (4 - (lg_sl ([.ref (ad k), .ref (ad pp)])).length) Slot.unset).toArray = ls at hl ⊢
  have hl : lv_has ls 4 [(0, .ref (ad k)), (1, .ref (ad pp))] := hl
  have inX3 : ∀ w ∈ u_ws RX3 TX3 14, w ∈ wsX3_receive := fun w h => List.mem_cons_of_mem _ (List.mem_append_left _ (List.mem_append_left _ (List.mem_append_left _ (List.mem_append_left _ (List.mem_append_right _ h)))))
  have inX1 : ∀ w ∈ u_ws RX1 TX1 3, w ∈ wsX3_receive := fun w h => List.mem_cons_of_mem _ (List.mem_append_left _ (List.mem_append_left _ (List.mem_append_right _ h)))
  have inX2 : ∀ w ∈ u_ws RX2 TX2 7, w ∈ wsX3_receive := fun w h => List.mem_cons_of_mem _ (List.mem_append_left _ (List.mem_append_left _ (List.mem_append_left _ (List.mem_append_right _ h))))
  have hPe0 := hPe
  obtain ⟨X, V, hh, wk, U, gO, gT, h1, hH, hR, h2, h3, hOw, h4, h5, hOt⟩ := hPe
  obtain ⟨I1, I2, I3, I4, I5, I6, ⟨tt, I7, I8⟩, I9, I10, I11, I12, I13⟩ := id hI
  by_cases hdr : dropP S q
  · refine lv_aload_n hx hb dX3_receive_0 rfl (lv_at hl 0 rfl) ?_
    refine lv_aload_n hx hb dX3_receive_1 rfl (lv_at hl 1 rfl) ?_
    refine k_Vi (As := [.ref (ad pp)]) (rest := []) (k := k) (ci := 3) ⟨hx, hb, hml, hown, hts⟩ hK hP hS Ad_le (c_takes l D cs ad n hJ M k r1 r2 q ww a nt pp S hk hpp h1 h4 hp) (cwV 1 hts gX3_receive_X3_takes rfl rfl rfl (by decide +kernel) ⟨Nat.le_of_ble_eq_true rfl, Nat.le_of_ble_eq_true rfl⟩) (by omega) h1 rfl rfl rfl hl.1 (Nat.le_of_ble_eq_true rfl) dX3_receive_2 ⟨Nat.le_of_ble_eq_true rfl, Nat.le_of_ble_eq_true rfl⟩ (fun r_1 M1 H locs hpo hP hS _ _ => ?_)
    obtain ⟨hMe, rfl⟩ := hpo
    rw [hMe] at hP
    refine n_val (if_pos hdr) ?_
    refine n_if_ne (tgt := 11) hx hb dX3_receive_5 (by decide) (by omega) (fun c_2 => absurd c_2 (by decide)) (fun c_2 => ?_)
    refine lv_bipush (v := (-2)) hx hb dX3_receive_8 (by decide) ?_
    exact r_i hx hb hr hlocks hK hP hS dX3_receive_10 ⟨by unfold rDel2; rw [if_pos hdr], ⟨nt, by unfold mDel2; rw [if_pos hdr]; exact hI, by unfold mDel2; rw [if_pos hdr]; exact hPe0⟩, fun _ _ => rfl⟩
  · have hnd : ¬ 0 ≤ S.1 4 q := fun z => hdr (Or.inr (Or.inl z))
    have eR : rDel2 S q = rDl (mAcc S q) q a nt := by unfold rDel2; rw [if_neg hdr, I1, I3, tn_nI (by omega), tn_nI (by omega)]
    have eM : mDel2 S q = mDl (mAcc S q) q a nt := by unfold mDel2; rw [if_neg hdr, I1, I3, tn_nI (by omega), tn_nI (by omega)]
    obtain ⟨eR2, eM2⟩ := rc_eq hq hdd ha hI hnd
    have eI := rc_Iq hq hdd ha hI hnd
    rw [eR, eM, eR2, eM2]
    clear eR eM eR2 eM2
    obtain ⟨f1, f2, f3, f4, f5, f6, f7, f8, f9, f10, f11, f12⟩ := lr_facts hq hdd ha hI
    obtain ⟨v1, v2, v3, v4, v5⟩ := acc_v S q
    have v6 := acc_5 S q
    have v7 := acc_spk S q 24
    obtain ⟨v8, v9, v10, v11, v12⟩ := acc_F S q
    have v13 : (mAcc S q).1 12 (2 * q + (1 - q)) = nI nt := by rw [mAcc_k (by omega)]; exact I3
    have v14 : (mAcc S q).1 10 = S.1 10 := mAcc_k (by omega)
    have hbd := fwF_b (Z := mLrn (mAcc S q) q nt a) (q := q) (a := a) (n := nt)
    generalize mAcc S q = Y at *
    have hs4 := I5 hnd
    refine lv_aload_n hx hb dX3_receive_0 rfl (lv_at hl 0 rfl) ?_
    refine lv_aload_n hx hb dX3_receive_1 rfl (lv_at hl 1 rfl) ?_
    refine k_Vi (As := [.ref (ad pp)]) (rest := []) (k := k) (ci := 3) ⟨hx, hb, hml, hown, hts⟩ hK hP hS Ad_le (c_takes l D cs ad n hJ M k r1 r2 q ww a nt pp S hk hpp h1 h4 hp) (cwV 1 hts gX3_receive_X3_takes rfl rfl rfl (by decide +kernel) ⟨Nat.le_of_ble_eq_true rfl, Nat.le_of_ble_eq_true rfl⟩) (by omega) h1 rfl rfl rfl hl.1 (Nat.le_of_ble_eq_true rfl) dX3_receive_2 ⟨Nat.le_of_ble_eq_true rfl, Nat.le_of_ble_eq_true rfl⟩ (fun r_1 M1 H locs hpo hP hS _ _ => ?_)
    obtain ⟨hMe, rfl⟩ := hpo
    rw [hMe] at hP
    refine n_val (if_neg hdr) ?_
    refine n_if_ne (tgt := 11) hx hb dX3_receive_5 (by decide) (by omega) (fun c_2 => ?_) (fun c_2 => absurd c_2 (by decide))
    refine lv_aload_n hx hb dX3_receive_11 rfl (lv_at hl 0 rfl) ?_
    refine lv_iconst (v := nI 1) hx hb dX3_receive_12 (by decide) ?_
    refine m_put hx hb hts inX3 tyX3 tyX3_ok nmX3 hown hK hP hJ hS (ci := 3) rfl (k := k) (by omega) h1 12 (by decide) (hts (.fieldLink RX3 138 "RollbackPair$Peer" "hasTaken" "Z") (by decide +kernel)) rfl rfl rfl (Nat.le_of_ble_eq_true rfl) (fs' := [.int (nI q), .int (nI ww), .ref (ad r1), .ref (ad r2), .ref (ad (k + 54)), .ref (ad (k + 56)), .ref (ad (k + 1)), .int (nI a), .int (S.1 3 q), .int (S.1 5 q), .int (S.1 8 q), .int (S.1 7 q), .int (nI 1), .float (S.2.1 9 q)]) rfl dX3_receive_13 (fun H locs hP hS => ?_)
    obtain ⟨M_1, eM_1⟩ : ∃ z, z = va_up M k (.inr (3, [.int (nI q), .int (nI ww), .ref (ad r1), .ref (ad r2), .ref (ad (k + 54)), .ref (ad (k + 56)), .ref (ad (k + 1)), .int (nI a), .int (S.1 3 q), .int (S.1 5 q), .int (S.1 8 q), .int (S.1 7 q), .int (nI 1), .float (S.2.1 9 q)])) := ⟨_, rfl⟩
    rw [← eM_1] at hP
    have h1_1 : M_1 k = .inr (3, [.int (nI q), .int (nI ww), .ref (ad r1), .ref (ad r2), .ref (ad (k + 54)), .ref (ad (k + 56)), .ref (ad (k + 1)), .int (nI a), .int (S.1 3 q), .int (S.1 5 q), .int (S.1 8 q), .int (S.1 7 q), .int (nI 1), .float (S.2.1 9 q)]) := by rw [eM_1]; exact va_up_self _ _ _
    have h1_2 : M_1 (k + 54) = .inr (1, [.ref (ad (k + 55)), .int (nI (a + dd)), .int 0]) := by rw [eM_1]; exact (va_up_ne _ _ (by omega)).trans h2
    have h1_3 : M_1 (k + 55) = eB cs 1024 gO := by rw [eM_1]; exact (va_up_ne _ _ (by omega)).trans h3
    have h1_4 : M_1 (k + 56) = .inr (1, [.ref (ad (k + 57)), .int (nI nt), .int (edOf S q)]) := by rw [eM_1]; exact (va_up_ne _ _ (by omega)).trans h4
    have h1_5 : M_1 (k + 57) = eB cs 32 gT := by rw [eM_1]; exact (va_up_ne _ _ (by omega)).trans h5
    have h1_6 : M_1 pp = .inr (2, [.int (S.1 20 24), .int (S.1 21 24), .int (S.1 22 24), .int (S.1 23 24), .int (S.1 24 24), .long (S.2.2.1 24), .int (S.1 26 24)]) := by rw [eM_1]; exact (va_up_ne _ _ (by omega)).trans hp
    refine lv_aload_n hx hb dX3_receive_16 rfl (lv_at hl 0 rfl) ?_
    refine lv_aload_n hx hb dX3_receive_17 rfl (lv_at hl 1 rfl) ?_
    refine m_get hx hb hts inX2 hown hK hP (ci := 2) rfl (k := pp) (by omega) h1_6 0 (by decide) (hts (.fieldLink RX3 112 "RollbackPair$Packet" "number" "S") (by decide +kernel)) rfl dX3_receive_18 ?_
    refine m_put hx hb hts inX3 tyX3 tyX3_ok nmX3 hown hK hP hJ hS (ci := 3) rfl (k := k) (by omega) h1_1 11 (by decide) (hts (.fieldLink RX3 141 "RollbackPair$Peer" "latestNumber" "S") (by decide +kernel)) rfl (nar_sh hsh) (fit_sh hsh) (Nat.le_of_ble_eq_true rfl) (fs' := [.int (nI q), .int (nI ww), .ref (ad r1), .ref (ad r2), .ref (ad (k + 54)), .ref (ad (k + 56)), .ref (ad (k + 1)), .int (nI a), .int (S.1 3 q), .int (S.1 5 q), .int (S.1 8 q), .int (S.1 20 24), .int (nI 1), .float (S.2.1 9 q)]) rfl dX3_receive_21 (fun H locs hP hS => ?_)
    obtain ⟨M_2, eM_2⟩ : ∃ z, z = va_up M_1 k (.inr (3, [.int (nI q), .int (nI ww), .ref (ad r1), .ref (ad r2), .ref (ad (k + 54)), .ref (ad (k + 56)), .ref (ad (k + 1)), .int (nI a), .int (S.1 3 q), .int (S.1 5 q), .int (S.1 8 q), .int (S.1 20 24), .int (nI 1), .float (S.2.1 9 q)])) := ⟨_, rfl⟩
    rw [← eM_2] at hP
    have h2_1 : M_2 k = .inr (3, [.int (nI q), .int (nI ww), .ref (ad r1), .ref (ad r2), .ref (ad (k + 54)), .ref (ad (k + 56)), .ref (ad (k + 1)), .int (nI a), .int (S.1 3 q), .int (S.1 5 q), .int (S.1 8 q), .int (S.1 20 24), .int (nI 1), .float (S.2.1 9 q)]) := by rw [eM_2]; exact va_up_self _ _ _
    have h2_2 : M_2 (k + 54) = .inr (1, [.ref (ad (k + 55)), .int (nI (a + dd)), .int 0]) := by rw [eM_2]; exact (va_up_ne _ _ (by omega)).trans h1_2
    have h2_3 : M_2 (k + 55) = eB cs 1024 gO := by rw [eM_2]; exact (va_up_ne _ _ (by omega)).trans h1_3
    have h2_4 : M_2 (k + 56) = .inr (1, [.ref (ad (k + 57)), .int (nI nt), .int (edOf S q)]) := by rw [eM_2]; exact (va_up_ne _ _ (by omega)).trans h1_4
    have h2_5 : M_2 (k + 57) = eB cs 32 gT := by rw [eM_2]; exact (va_up_ne _ _ (by omega)).trans h1_5
    have h2_6 : M_2 pp = .inr (2, [.int (S.1 20 24), .int (S.1 21 24), .int (S.1 22 24), .int (S.1 23 24), .int (S.1 24 24), .long (S.2.2.1 24), .int (S.1 26 24)]) := by rw [eM_2]; exact (va_up_ne _ _ (by omega)).trans h1_6
    refine lv_aload_n hx hb dX3_receive_24 rfl (lv_at hl 0 rfl) ?_
    refine lv_iconst (v := nI 0) hx hb dX3_receive_25 (by decide) ?_
    refine m_put hx hb hts inX3 tyX3 tyX3_ok nmX3 hown hK hP hJ hS (ci := 3) rfl (k := k) (by omega) h2_1 8 (by decide) (hts (.fieldLink RX3 84 "RollbackPair$Peer" "stalls" "I") (by decide +kernel)) rfl rfl rfl (Nat.le_of_ble_eq_true rfl) (fs' := [.int (nI q), .int (nI ww), .ref (ad r1), .ref (ad r2), .ref (ad (k + 54)), .ref (ad (k + 56)), .ref (ad (k + 1)), .int (nI a), .int (nI 0), .int (S.1 5 q), .int (S.1 8 q), .int (S.1 20 24), .int (nI 1), .float (S.2.1 9 q)]) rfl dX3_receive_26 (fun H locs hP hS => ?_)
    obtain ⟨M_3, eM_3⟩ : ∃ z, z = va_up M_2 k (.inr (3, [.int (nI q), .int (nI ww), .ref (ad r1), .ref (ad r2), .ref (ad (k + 54)), .ref (ad (k + 56)), .ref (ad (k + 1)), .int (nI a), .int (nI 0), .int (S.1 5 q), .int (S.1 8 q), .int (S.1 20 24), .int (nI 1), .float (S.2.1 9 q)])) := ⟨_, rfl⟩
    rw [← eM_3] at hP
    have h3_1 : M_3 k = .inr (3, [.int (nI q), .int (nI ww), .ref (ad r1), .ref (ad r2), .ref (ad (k + 54)), .ref (ad (k + 56)), .ref (ad (k + 1)), .int (nI a), .int (nI 0), .int (S.1 5 q), .int (S.1 8 q), .int (S.1 20 24), .int (nI 1), .float (S.2.1 9 q)]) := by rw [eM_3]; exact va_up_self _ _ _
    have h3_2 : M_3 (k + 54) = .inr (1, [.ref (ad (k + 55)), .int (nI (a + dd)), .int 0]) := by rw [eM_3]; exact (va_up_ne _ _ (by omega)).trans h2_2
    have h3_3 : M_3 (k + 55) = eB cs 1024 gO := by rw [eM_3]; exact (va_up_ne _ _ (by omega)).trans h2_3
    have h3_4 : M_3 (k + 56) = .inr (1, [.ref (ad (k + 57)), .int (nI nt), .int (edOf S q)]) := by rw [eM_3]; exact (va_up_ne _ _ (by omega)).trans h2_4
    have h3_5 : M_3 (k + 57) = eB cs 32 gT := by rw [eM_3]; exact (va_up_ne _ _ (by omega)).trans h2_5
    have h3_6 : M_3 pp = .inr (2, [.int (S.1 20 24), .int (S.1 21 24), .int (S.1 22 24), .int (S.1 23 24), .int (S.1 24 24), .long (S.2.2.1 24), .int (S.1 26 24)]) := by rw [eM_3]; exact (va_up_ne _ _ (by omega)).trans h2_6
    refine lv_aload_n hx hb dX3_receive_29 rfl (lv_at hl 0 rfl) ?_
    refine lv_aload_n hx hb dX3_receive_30 rfl (lv_at hl 0 rfl) ?_
    refine m_get hx hb hts inX3 hown hK hP (ci := 3) rfl (k := k) (by omega) h3_1 13 (by decide) (hts (.fieldLink RX3 144 "RollbackPair$Peer" "lead" "F") (by decide +kernel)) rfl dX3_receive_31 ?_
    refine lv_ldcf hx hb hown (hts (.constantFloat RX3 148 (1061158912)) (by decide +kernel)) dX3_receive_34 ?_
    refine lv_fmul hx hb dX3_receive_36 (av_1 I13).n ?_
    refine lv_ldcf hx hb hown (hts (.constantFloat RX3 149 (1048576000)) (by decide +kernel)) dX3_receive_37 ?_
    refine lv_aload_n hx hb dX3_receive_39 rfl (lv_at hl 0 rfl) ?_
    refine m_get hx hb hts inX3 hown hK hP (ci := 3) rfl (k := k) (by omega) h3_1 7 (by decide) (hts (.fieldLink RX3 51 "RollbackPair$Peer" "at" "I") (by decide +kernel)) rfl dX3_receive_40 ?_
    refine lv_aload_n hx hb dX3_receive_43 rfl (lv_at hl 1 rfl) ?_
    refine m_get hx hb hts inX2 hown hK hP (ci := 2) rfl (k := pp) (by omega) h3_6 1 (by decide) (hts (.fieldLink RX3 117 "RollbackPair$Packet" "frame" "I") (by decide +kernel)) rfl dX3_receive_44 ?_
    refine lv_isub hx hb dX3_receive_47 ?_
    refine n_val (show nI a - S.1 21 24 = S.1 2 q - S.1 21 24 from by rw [I1]) ?_
    refine lv_i2f hx hb dX3_receive_48 ?_
    refine lv_fmul hx hb dX3_receive_49 (av_2 (i2f_b _)).n ?_
    refine lv_fadd hx hb dX3_receive_50 (av_3 I13 (i2f_b _)).n ?_
    refine m_put hx hb hts inX3 tyX3 tyX3_ok nmX3 hown hK hP hJ hS (ci := 3) rfl (k := k) (by omega) h3_1 13 (by decide) (hts (.fieldLink RX3 144 "RollbackPair$Peer" "lead" "F") (by decide +kernel)) rfl rfl rfl (Nat.le_of_ble_eq_true rfl) (fs' := [.int (nI q), .int (nI ww), .ref (ad r1), .ref (ad r2), .ref (ad (k + 54)), .ref (ad (k + 56)), .ref (ad (k + 1)), .int (nI a), .int (nI 0), .int (S.1 5 q), .int (S.1 8 q), .int (S.1 20 24), .int (nI 1), .float (avN S q)]) rfl dX3_receive_51 (fun H locs hP hS => ?_)
    obtain ⟨M_4, eM_4⟩ : ∃ z, z = va_up M_3 k (.inr (3, [.int (nI q), .int (nI ww), .ref (ad r1), .ref (ad r2), .ref (ad (k + 54)), .ref (ad (k + 56)), .ref (ad (k + 1)), .int (nI a), .int (nI 0), .int (S.1 5 q), .int (S.1 8 q), .int (S.1 20 24), .int (nI 1), .float (avN S q)])) := ⟨_, rfl⟩
    rw [← eM_4] at hP
    have h4_1 : M_4 k = .inr (3, [.int (nI q), .int (nI ww), .ref (ad r1), .ref (ad r2), .ref (ad (k + 54)), .ref (ad (k + 56)), .ref (ad (k + 1)), .int (nI a), .int (nI 0), .int (S.1 5 q), .int (S.1 8 q), .int (S.1 20 24), .int (nI 1), .float (avN S q)]) := by rw [eM_4]; exact va_up_self _ _ _
    have h4_2 : M_4 (k + 54) = .inr (1, [.ref (ad (k + 55)), .int (nI (a + dd)), .int 0]) := by rw [eM_4]; exact (va_up_ne _ _ (by omega)).trans h3_2
    have h4_3 : M_4 (k + 55) = eB cs 1024 gO := by rw [eM_4]; exact (va_up_ne _ _ (by omega)).trans h3_3
    have h4_4 : M_4 (k + 56) = .inr (1, [.ref (ad (k + 57)), .int (nI nt), .int (edOf S q)]) := by rw [eM_4]; exact (va_up_ne _ _ (by omega)).trans h3_4
    have h4_5 : M_4 (k + 57) = eB cs 32 gT := by rw [eM_4]; exact (va_up_ne _ _ (by omega)).trans h3_5
    have h4_6 : M_4 pp = .inr (2, [.int (S.1 20 24), .int (S.1 21 24), .int (S.1 22 24), .int (S.1 23 24), .int (S.1 24 24), .long (S.2.2.1 24), .int (S.1 26 24)]) := by rw [eM_4]; exact (va_up_ne _ _ (by omega)).trans h3_6
    refine lv_aload_n hx hb dX3_receive_54 rfl (lv_at hl 1 rfl) ?_
    refine m_get hx hb hts inX2 hown hK hP (ci := 2) rfl (k := pp) (by omega) h4_6 2 (by decide) (hts (.fieldLink RX3 120 "RollbackPair$Packet" "ack" "I") (by decide +kernel)) rfl dX3_receive_55 ?_
    refine lv_aload_n hx hb dX3_receive_58 rfl (lv_at hl 0 rfl) ?_
    refine m_get hx hb hts inX3 hown hK hP (ci := 3) rfl (k := k) (by omega) h4_1 9 (by decide) (hts (.fieldLink RX3 44 "RollbackPair$Peer" "told" "I") (by decide +kernel)) rfl dX3_receive_59 ?_
    refine lv_icmp_le (tgt := 87) hx hb dX3_receive_62 (by decide) (fun c6 => ?_) (fun c6 => ?_)
    · rw [show (if ¬ S.1 22 24 ≤ S.1 5 q ∧ ¬ S.1 12 (2 * q + q) < S.1 22 24 then S.1 22 24 else S.1 5 q) = S.1 5 q from if_neg (fun z => z.1 c6)] at v6
      have y1 : M_4 k = oPe ad k r1 r2 q ww a (Y.1 3 q) (Y.1 5 q) (Y.1 8 q) (Y.1 7 q) (Y.1 6 q) (Y.2.1 9 q) := by rw [v1, v2, v3, v4, v5, v6]; exact h4_1
      have fr1 : ∀ j, j ≠ k → M_4 j = M j := fun j z => by rw [eM_4, va_up_ne _ _ z, eM_3, va_up_ne _ _ z, eM_2, va_up_ne _ _ z, eM_1, va_up_ne _ _ z]
      have hp1 : M_4 pp = oT (spk Y 24) := by rw [v7]; exact h4_6
      refine lv_aload_n hx hb dX3_receive_87 rfl (lv_at hl 0 rfl) ?_
      refine m_get hx hb hts inX3 hown hK hP (ci := 3) rfl (k := k) (by omega) y1 5 (by decide) (hts (.fieldLink RX3 41 "RollbackPair$Peer" "others" "LRollbackPair$Inputs;") (by decide +kernel)) rfl dX3_receive_88 ?_
      refine m_get hx hb hts inX1 hown hK hP (ci := 1) rfl (k := (k + 56)) (by omega) h4_4 1 (by decide) (hts (.fieldLink RX3 58 "RollbackPair$Inputs" "count" "I") (by decide +kernel)) rfl dX3_receive_91 ?_
      refine lv_istore_n (lv' := [(2, .int (nI nt)), (0, .ref (ad k)), (1, .ref (ad pp))]) hx hb dX3_receive_94 rfl hl (by decide) rfl (fun ls hl => ?_)
      refine lv_aload_n hx hb dX3_receive_95 rfl (lv_at hl 1 rfl) ?_
      refine lv_aload_n hx hb dX3_receive_96 rfl (lv_at hl 2 rfl) ?_
      refine k_Vv (As := [.ref (ad pp)]) (rest := []) (k := k) (ci := 3) ⟨hx, hb, hml, hown, hts⟩ hK hP hS Ad_le (c_learnFrom l D cs ad n hJ M_4 k r1 r2 q ww a nt pp Y (edOf S q) gT hq hk hpp (by omega) I4 y1 h4_4 h4_5 (OtS_c hOt v14) v13 hp1) (cwV 1 hts gX3_receive_X3_learnFrom rfl rfl rfl (by decide +kernel) ⟨Nat.le_of_ble_eq_true rfl, Nat.le_of_ble_eq_true rfl⟩) (by omega) y1 rfl rfl rfl hl.1 (Nat.le_of_ble_eq_true rfl) dX3_receive_97 ⟨Nat.le_of_ble_eq_true rfl, Nat.le_of_ble_eq_true rfl⟩ (fun N1 H locs hpo hP hS _ _ => ?_)
      obtain ⟨gT2, o1, o2, o3, o4⟩ := hpo
      generalize hLL : lrC Y nt a = L at *
      generalize hZZ : mLrn Y q nt a = Z at *
      have h5_1 : N1 k = .inr (3, [.int (nI q), .int (nI ww), .ref (ad r1), .ref (ad r2), .ref (ad (k + 54)), .ref (ad (k + 56)), .ref (ad (k + 1)), .int (nI a), .int (Y.1 3 q), .int (Y.1 5 q), .int (Y.1 8 q), .int (Y.1 7 q), .int (Y.1 6 q), .float (Y.2.1 9 q)]) := (o4 _ (by omega) (by omega)).trans y1
      have h5_2 : N1 (k + 54) = .inr (1, [.ref (ad (k + 55)), .int (nI (a + dd)), .int 0]) := (o4 _ (by omega) (by omega)).trans h4_2
      have h5_3 : N1 (k + 55) = eB cs 1024 gO := (o4 _ (by omega) (by omega)).trans h4_3
      have h5_6 : N1 pp = .inr (2, [.int (S.1 20 24), .int (S.1 21 24), .int (S.1 22 24), .int (S.1 23 24), .int (S.1 24 24), .long (S.2.2.1 24), .int (S.1 26 24)]) := (o4 _ (by omega) (by omega)).trans h4_6
      have hed : edOf S q = edOf Z q := by unfold edOf; rw [f5 4 (by decide) (by decide) (by decide) (by decide) (by decide) (by decide)]
      rw [hed] at o1
      have hH2 : HiA ad cs (k + 1) N1 X V hh wk U := hH.kept (fun j z1 z2 => (o4 j (by omega) (by omega)).trans (fr1 j (by omega)))
      have hR2 : HR Z q (a - 15) a X V hh wk U := HR_c hR (f5 11 (by decide) (by decide) (by decide) (by decide) (by decide) (by decide)) (f5 17 (by decide) (by decide) (by decide) (by decide) (by decide) (by decide)) ⟨by rw [f7]; exact v8, by rw [f7]; exact v9, by rw [f7]; exact v10, by rw [f7]; exact v11⟩ (by rw [f7]; exact v12)
      have hOw2 : OwS Z q (a + dd) gO := fun f hf => (hOw f hf).trans (f8 f (by omega)).symm
      have hTe : ∀ f, nt ≤ f → f < a → inU 32 (nt + L) gT2 (edOf Z q) f = mUse Z q (1 - q) f := fun f z1 z2 => use_oth hq o3 f2 (by omega) (by omega)
      refine lv_aload_n hx hb dX3_receive_100 rfl (lv_at hl 1 rfl) ?_
      refine lv_iload_n hx hb dX3_receive_101 rfl (lv_at hl 0 rfl) ?_
      have y2 : N1 k = oPe ad k r1 r2 q ww a (Y.1 3 q) (Y.1 5 q) (Y.1 8 q) (Y.1 7 q) (Y.1 6 q) (Y.2.1 9 q) := h5_1
      refine k_Vi (As := [.int (nI nt)]) (rest := []) (k := k) (ci := 3) ⟨hx, hb, hml, hown, hts⟩ hK hP hS Ad_le (c_fw l D cs ad n hJ N1 k r1 r2 q ww a (Y.1 3 q) (Y.1 5 q) (Y.1 8 q) (Y.1 7 q) (Y.1 6 q) (Y.2.1 9 q) hk hq (by omega) y2 (a + dd) (nt + L) (edOf Z q) gO gT2 (by omega) (by omega) h5_2 h5_3 o1 o2 X V hh wk U hH2 Z nt (fun f z1 z2 => hR2.2 (1 - q) f (by omega) (by omega) z1) hTe (by omega) (by omega)) (cwV 1 hts gX3_receive_X3_firstWrong rfl rfl rfl (by decide +kernel) ⟨Nat.le_of_ble_eq_true rfl, Nat.le_of_ble_eq_true rfl⟩) (by omega) h5_1 rfl rfl rfl hl.1 (Nat.le_of_ble_eq_true rfl) dX3_receive_102 ⟨Nat.le_of_ble_eq_true rfl, Nat.le_of_ble_eq_true rfl⟩ (fun r_4 M1 H locs hpo hP hS _ _ => ?_)
      obtain ⟨hMe, rfl⟩ := hpo
      rw [hMe] at hP
      generalize fwF Z q a nt = F at *
      refine lv_istore_n (lv' := [(3, .int (nI F)), (2, .int (nI nt)), (0, .ref (ad k)), (1, .ref (ad pp))]) hx hb dX3_receive_105 rfl hl (by decide) rfl (fun ls hl => ?_)
      refine lv_aload_n hx hb dX3_receive_106 rfl (lv_at hl 2 rfl) ?_
      refine lv_iload_n hx hb dX3_receive_107 rfl (lv_at hl 0 rfl) ?_
      refine lv_aload_n hx hb dX3_receive_108 rfl (lv_at hl 2 rfl) ?_
      refine m_get hx hb hts inX3 hown hK hP (ci := 3) rfl (k := k) (by omega) h5_1 7 (by decide) (hts (.fieldLink RX3 51 "RollbackPair$Peer" "at" "I") (by decide +kernel)) rfl dX3_receive_109 ?_
      refine k_Vv (As := [.int (nI F), .int (nI a)]) (rest := []) (k := k) (ci := 3) ⟨hx, hb, hml, hown, hts⟩ hK hP hS Ad_le (c_playFrames l D cs ad n hJ N1 k r1 r2 q ww a (Y.1 3 q) (Y.1 5 q) (Y.1 8 q) (Y.1 7 q) (Y.1 6 q) (Y.2.1 9 q) hk hq (by omega) y2 (a + dd) (nt + L) (edOf Z q) gO gT2 (by omega) (by omega) h5_2 h5_3 o1 o2 X V hh wk U hH2 Z F a (a - 15) a hR2 (by omega) (by omega) (by omega) (by omega) (by omega) (fun f z1 z2 => use_own hOw2 f1 (by omega) f) (fun f z1 z2 => hTe f (by omega) z2) (fun pl f hp9 _ _ => f11 pl f hp9) (f12 F (by omega))) (cwV 2 hts gX3_receive_X3_playFrames rfl rfl rfl (by decide +kernel) ⟨Nat.le_of_ble_eq_true rfl, Nat.le_of_ble_eq_true rfl⟩) (by omega) h5_1 rfl rfl rfl hl.1 (Nat.le_of_ble_eq_true rfl) dX3_receive_112 ⟨Nat.le_of_ble_eq_true rfl, Nat.le_of_ble_eq_true rfl⟩ (fun N9 H locs hpo hP hS _ _ => ?_)
      obtain ⟨X2, V2, hh2, wk2, U2, q1, q2, q3⟩ := hpo
      have h6_1 : N9 k = .inr (3, [.int (nI q), .int (nI ww), .ref (ad r1), .ref (ad r2), .ref (ad (k + 54)), .ref (ad (k + 56)), .ref (ad (k + 1)), .int (nI a), .int (Y.1 3 q), .int (Y.1 5 q), .int (Y.1 8 q), .int (Y.1 7 q), .int (Y.1 6 q), .float (Y.2.1 9 q)]) := (q3 _ (by omega)).trans h5_1
      have h6_2 : N9 (k + 54) = .inr (1, [.ref (ad (k + 55)), .int (nI (a + dd)), .int 0]) := (q3 _ (by omega)).trans h5_2
      have h6_3 : N9 (k + 55) = eB cs 1024 gO := (q3 _ (by omega)).trans h5_3
      have h6_4 : N9 (k + 56) = .inr (1, [.ref (ad (k + 57)), .int (nI (nt + L)), .int (edOf Z q)]) := (q3 _ (by omega)).trans o1
      have h6_5 : N9 (k + 57) = eB cs 32 gT2 := (q3 _ (by omega)).trans o2
      have h6_6 : N9 pp = .inr (2, [.int (S.1 20 24), .int (S.1 21 24), .int (S.1 22 24), .int (S.1 23 24), .int (S.1 24 24), .long (S.2.2.1 24), .int (S.1 26 24)]) := (q3 _ (by omega)).trans h5_6
      refine lv_aload_n hx hb dX3_receive_115 rfl (lv_at hl 2 rfl) ?_
      refine m_get hx hb hts inX3 hown hK hP (ci := 3) rfl (k := k) (by omega) h6_1 7 (by decide) (hts (.fieldLink RX3 51 "RollbackPair$Peer" "at" "I") (by decide +kernel)) rfl dX3_receive_116 ?_
      refine lv_iload_n hx hb dX3_receive_119 rfl (lv_at hl 0 rfl) ?_
      refine n_sub hx hb (by omega) dX3_receive_120 ?_
      have e9 := mPlays_9 (a - F) Z q F
      rw [show max (a - 15) (a - 15) = a - 15 by omega, show max a a = a by omega] at q2
      refine r_i hx hb hr hlocks hK hP hS dX3_receive_121 ⟨rfl, ⟨nt + L, eI, X2, V2, hh2, wk2, U2, gO, gT2, ?_, q1, q2, h6_2, h6_3, OwS_c hOw2 (mPlays_k _ _ _ _ (by decide)), ?_, h6_5, OtS_c o3 (mPlays_k _ _ _ _ (by decide))⟩, fun j hj => (q3 j (by omega)).trans ((o4 j (by omega) (by omega)).trans (fr1 j (by omega)))⟩
      · rw [mPlays_k _ _ _ _ (by decide), mPlays_k _ _ _ _ (by decide), mPlays_k _ _ _ _ (by decide), mPlays_k _ _ _ _ (by decide), mPlays_k _ _ _ _ (by decide), e9.1, f6 3 (by decide) (by decide), f6 5 (by decide) (by decide), f6 8 (by decide) (by decide), f6 7 (by decide) (by decide), f6 6 (by decide) (by decide), f7]; exact h6_1
      · rw [show edOf (mPlays Z q (a - F) F) q = edOf Z q by unfold edOf; rw [mPlays_k _ _ _ _ (by decide)]]; exact h6_4
    · refine lv_aload_n hx hb dX3_receive_65 rfl (lv_at hl 1 rfl) ?_
      refine m_get hx hb hts inX2 hown hK hP (ci := 2) rfl (k := pp) (by omega) h4_6 2 (by decide) (hts (.fieldLink RX3 120 "RollbackPair$Packet" "ack" "I") (by decide +kernel)) rfl dX3_receive_66 ?_
      refine lv_aload_n hx hb dX3_receive_69 rfl (lv_at hl 0 rfl) ?_
      refine m_get hx hb hts inX3 hown hK hP (ci := 3) rfl (k := k) (by omega) h4_1 4 (by decide) (hts (.fieldLink RX3 37 "RollbackPair$Peer" "own" "LRollbackPair$Inputs;") (by decide +kernel)) rfl dX3_receive_70 ?_
      refine m_get hx hb hts inX1 hown hK hP (ci := 1) rfl (k := (k + 54)) (by omega) h4_2 1 (by decide) (hts (.fieldLink RX3 58 "RollbackPair$Inputs" "count" "I") (by decide +kernel)) rfl dX3_receive_73 ?_
      refine lv_icmp_gt (tgt := 87) hx hb dX3_receive_76 (by decide) (fun c7 => ?_) (fun c7 => ?_)
      · rw [show (if ¬ S.1 22 24 ≤ S.1 5 q ∧ ¬ S.1 12 (2 * q + q) < S.1 22 24 then S.1 22 24 else S.1 5 q) = S.1 5 q from if_neg (fun z => z.2 (by rw [I2]; exact c7))] at v6
        have y1 : M_4 k = oPe ad k r1 r2 q ww a (Y.1 3 q) (Y.1 5 q) (Y.1 8 q) (Y.1 7 q) (Y.1 6 q) (Y.2.1 9 q) := by rw [v1, v2, v3, v4, v5, v6]; exact h4_1
        have fr1 : ∀ j, j ≠ k → M_4 j = M j := fun j z => by rw [eM_4, va_up_ne _ _ z, eM_3, va_up_ne _ _ z, eM_2, va_up_ne _ _ z, eM_1, va_up_ne _ _ z]
        have hp1 : M_4 pp = oT (spk Y 24) := by rw [v7]; exact h4_6
        refine lv_aload_n hx hb dX3_receive_87 rfl (lv_at hl 0 rfl) ?_
        refine m_get hx hb hts inX3 hown hK hP (ci := 3) rfl (k := k) (by omega) y1 5 (by decide) (hts (.fieldLink RX3 41 "RollbackPair$Peer" "others" "LRollbackPair$Inputs;") (by decide +kernel)) rfl dX3_receive_88 ?_
        refine m_get hx hb hts inX1 hown hK hP (ci := 1) rfl (k := (k + 56)) (by omega) h4_4 1 (by decide) (hts (.fieldLink RX3 58 "RollbackPair$Inputs" "count" "I") (by decide +kernel)) rfl dX3_receive_91 ?_
        refine lv_istore_n (lv' := [(2, .int (nI nt)), (0, .ref (ad k)), (1, .ref (ad pp))]) hx hb dX3_receive_94 rfl hl (by decide) rfl (fun ls hl => ?_)
        refine lv_aload_n hx hb dX3_receive_95 rfl (lv_at hl 1 rfl) ?_
        refine lv_aload_n hx hb dX3_receive_96 rfl (lv_at hl 2 rfl) ?_
        refine k_Vv (As := [.ref (ad pp)]) (rest := []) (k := k) (ci := 3) ⟨hx, hb, hml, hown, hts⟩ hK hP hS Ad_le (c_learnFrom l D cs ad n hJ M_4 k r1 r2 q ww a nt pp Y (edOf S q) gT hq hk hpp (by omega) I4 y1 h4_4 h4_5 (OtS_c hOt v14) v13 hp1) (cwV 1 hts gX3_receive_X3_learnFrom rfl rfl rfl (by decide +kernel) ⟨Nat.le_of_ble_eq_true rfl, Nat.le_of_ble_eq_true rfl⟩) (by omega) y1 rfl rfl rfl hl.1 (Nat.le_of_ble_eq_true rfl) dX3_receive_97 ⟨Nat.le_of_ble_eq_true rfl, Nat.le_of_ble_eq_true rfl⟩ (fun N1 H locs hpo hP hS _ _ => ?_)
        obtain ⟨gT2, o1, o2, o3, o4⟩ := hpo
        generalize hLL : lrC Y nt a = L at *
        generalize hZZ : mLrn Y q nt a = Z at *
        have h7_1 : N1 k = .inr (3, [.int (nI q), .int (nI ww), .ref (ad r1), .ref (ad r2), .ref (ad (k + 54)), .ref (ad (k + 56)), .ref (ad (k + 1)), .int (nI a), .int (Y.1 3 q), .int (Y.1 5 q), .int (Y.1 8 q), .int (Y.1 7 q), .int (Y.1 6 q), .float (Y.2.1 9 q)]) := (o4 _ (by omega) (by omega)).trans y1
        have h7_2 : N1 (k + 54) = .inr (1, [.ref (ad (k + 55)), .int (nI (a + dd)), .int 0]) := (o4 _ (by omega) (by omega)).trans h4_2
        have h7_3 : N1 (k + 55) = eB cs 1024 gO := (o4 _ (by omega) (by omega)).trans h4_3
        have h7_6 : N1 pp = .inr (2, [.int (S.1 20 24), .int (S.1 21 24), .int (S.1 22 24), .int (S.1 23 24), .int (S.1 24 24), .long (S.2.2.1 24), .int (S.1 26 24)]) := (o4 _ (by omega) (by omega)).trans h4_6
        have hed : edOf S q = edOf Z q := by unfold edOf; rw [f5 4 (by decide) (by decide) (by decide) (by decide) (by decide) (by decide)]
        rw [hed] at o1
        have hH2 : HiA ad cs (k + 1) N1 X V hh wk U := hH.kept (fun j z1 z2 => (o4 j (by omega) (by omega)).trans (fr1 j (by omega)))
        have hR2 : HR Z q (a - 15) a X V hh wk U := HR_c hR (f5 11 (by decide) (by decide) (by decide) (by decide) (by decide) (by decide)) (f5 17 (by decide) (by decide) (by decide) (by decide) (by decide) (by decide)) ⟨by rw [f7]; exact v8, by rw [f7]; exact v9, by rw [f7]; exact v10, by rw [f7]; exact v11⟩ (by rw [f7]; exact v12)
        have hOw2 : OwS Z q (a + dd) gO := fun f hf => (hOw f hf).trans (f8 f (by omega)).symm
        have hTe : ∀ f, nt ≤ f → f < a → inU 32 (nt + L) gT2 (edOf Z q) f = mUse Z q (1 - q) f := fun f z1 z2 => use_oth hq o3 f2 (by omega) (by omega)
        refine lv_aload_n hx hb dX3_receive_100 rfl (lv_at hl 1 rfl) ?_
        refine lv_iload_n hx hb dX3_receive_101 rfl (lv_at hl 0 rfl) ?_
        have y2 : N1 k = oPe ad k r1 r2 q ww a (Y.1 3 q) (Y.1 5 q) (Y.1 8 q) (Y.1 7 q) (Y.1 6 q) (Y.2.1 9 q) := h7_1
        refine k_Vi (As := [.int (nI nt)]) (rest := []) (k := k) (ci := 3) ⟨hx, hb, hml, hown, hts⟩ hK hP hS Ad_le (c_fw l D cs ad n hJ N1 k r1 r2 q ww a (Y.1 3 q) (Y.1 5 q) (Y.1 8 q) (Y.1 7 q) (Y.1 6 q) (Y.2.1 9 q) hk hq (by omega) y2 (a + dd) (nt + L) (edOf Z q) gO gT2 (by omega) (by omega) h7_2 h7_3 o1 o2 X V hh wk U hH2 Z nt (fun f z1 z2 => hR2.2 (1 - q) f (by omega) (by omega) z1) hTe (by omega) (by omega)) (cwV 1 hts gX3_receive_X3_firstWrong rfl rfl rfl (by decide +kernel) ⟨Nat.le_of_ble_eq_true rfl, Nat.le_of_ble_eq_true rfl⟩) (by omega) h7_1 rfl rfl rfl hl.1 (Nat.le_of_ble_eq_true rfl) dX3_receive_102 ⟨Nat.le_of_ble_eq_true rfl, Nat.le_of_ble_eq_true rfl⟩ (fun r_7 M1 H locs hpo hP hS _ _ => ?_)
        obtain ⟨hMe, rfl⟩ := hpo
        rw [hMe] at hP
        generalize fwF Z q a nt = F at *
        refine lv_istore_n (lv' := [(3, .int (nI F)), (2, .int (nI nt)), (0, .ref (ad k)), (1, .ref (ad pp))]) hx hb dX3_receive_105 rfl hl (by decide) rfl (fun ls hl => ?_)
        refine lv_aload_n hx hb dX3_receive_106 rfl (lv_at hl 2 rfl) ?_
        refine lv_iload_n hx hb dX3_receive_107 rfl (lv_at hl 0 rfl) ?_
        refine lv_aload_n hx hb dX3_receive_108 rfl (lv_at hl 2 rfl) ?_
        refine m_get hx hb hts inX3 hown hK hP (ci := 3) rfl (k := k) (by omega) h7_1 7 (by decide) (hts (.fieldLink RX3 51 "RollbackPair$Peer" "at" "I") (by decide +kernel)) rfl dX3_receive_109 ?_
        refine k_Vv (As := [.int (nI F), .int (nI a)]) (rest := []) (k := k) (ci := 3) ⟨hx, hb, hml, hown, hts⟩ hK hP hS Ad_le (c_playFrames l D cs ad n hJ N1 k r1 r2 q ww a (Y.1 3 q) (Y.1 5 q) (Y.1 8 q) (Y.1 7 q) (Y.1 6 q) (Y.2.1 9 q) hk hq (by omega) y2 (a + dd) (nt + L) (edOf Z q) gO gT2 (by omega) (by omega) h7_2 h7_3 o1 o2 X V hh wk U hH2 Z F a (a - 15) a hR2 (by omega) (by omega) (by omega) (by omega) (by omega) (fun f z1 z2 => use_own hOw2 f1 (by omega) f) (fun f z1 z2 => hTe f (by omega) z2) (fun pl f hp9 _ _ => f11 pl f hp9) (f12 F (by omega))) (cwV 2 hts gX3_receive_X3_playFrames rfl rfl rfl (by decide +kernel) ⟨Nat.le_of_ble_eq_true rfl, Nat.le_of_ble_eq_true rfl⟩) (by omega) h7_1 rfl rfl rfl hl.1 (Nat.le_of_ble_eq_true rfl) dX3_receive_112 ⟨Nat.le_of_ble_eq_true rfl, Nat.le_of_ble_eq_true rfl⟩ (fun N9 H locs hpo hP hS _ _ => ?_)
        obtain ⟨X2, V2, hh2, wk2, U2, q1, q2, q3⟩ := hpo
        have h8_1 : N9 k = .inr (3, [.int (nI q), .int (nI ww), .ref (ad r1), .ref (ad r2), .ref (ad (k + 54)), .ref (ad (k + 56)), .ref (ad (k + 1)), .int (nI a), .int (Y.1 3 q), .int (Y.1 5 q), .int (Y.1 8 q), .int (Y.1 7 q), .int (Y.1 6 q), .float (Y.2.1 9 q)]) := (q3 _ (by omega)).trans h7_1
        have h8_2 : N9 (k + 54) = .inr (1, [.ref (ad (k + 55)), .int (nI (a + dd)), .int 0]) := (q3 _ (by omega)).trans h7_2
        have h8_3 : N9 (k + 55) = eB cs 1024 gO := (q3 _ (by omega)).trans h7_3
        have h8_4 : N9 (k + 56) = .inr (1, [.ref (ad (k + 57)), .int (nI (nt + L)), .int (edOf Z q)]) := (q3 _ (by omega)).trans o1
        have h8_5 : N9 (k + 57) = eB cs 32 gT2 := (q3 _ (by omega)).trans o2
        have h8_6 : N9 pp = .inr (2, [.int (S.1 20 24), .int (S.1 21 24), .int (S.1 22 24), .int (S.1 23 24), .int (S.1 24 24), .long (S.2.2.1 24), .int (S.1 26 24)]) := (q3 _ (by omega)).trans h7_6
        refine lv_aload_n hx hb dX3_receive_115 rfl (lv_at hl 2 rfl) ?_
        refine m_get hx hb hts inX3 hown hK hP (ci := 3) rfl (k := k) (by omega) h8_1 7 (by decide) (hts (.fieldLink RX3 51 "RollbackPair$Peer" "at" "I") (by decide +kernel)) rfl dX3_receive_116 ?_
        refine lv_iload_n hx hb dX3_receive_119 rfl (lv_at hl 0 rfl) ?_
        refine n_sub hx hb (by omega) dX3_receive_120 ?_
        have e9 := mPlays_9 (a - F) Z q F
        rw [show max (a - 15) (a - 15) = a - 15 by omega, show max a a = a by omega] at q2
        refine r_i hx hb hr hlocks hK hP hS dX3_receive_121 ⟨rfl, ⟨nt + L, eI, X2, V2, hh2, wk2, U2, gO, gT2, ?_, q1, q2, h8_2, h8_3, OwS_c hOw2 (mPlays_k _ _ _ _ (by decide)), ?_, h8_5, OtS_c o3 (mPlays_k _ _ _ _ (by decide))⟩, fun j hj => (q3 j (by omega)).trans ((o4 j (by omega) (by omega)).trans (fr1 j (by omega)))⟩
        · rw [mPlays_k _ _ _ _ (by decide), mPlays_k _ _ _ _ (by decide), mPlays_k _ _ _ _ (by decide), mPlays_k _ _ _ _ (by decide), mPlays_k _ _ _ _ (by decide), e9.1, f6 3 (by decide) (by decide), f6 5 (by decide) (by decide), f6 8 (by decide) (by decide), f6 7 (by decide) (by decide), f6 6 (by decide) (by decide), f7]; exact h8_1
        · rw [show edOf (mPlays Z q (a - F) F) q = edOf Z q by unfold edOf; rw [mPlays_k _ _ _ _ (by decide)]]; exact h8_4
      · refine lv_aload_n hx hb dX3_receive_79 rfl (lv_at hl 0 rfl) ?_
        refine lv_aload_n hx hb dX3_receive_80 rfl (lv_at hl 1 rfl) ?_
        refine m_get hx hb hts inX2 hown hK hP (ci := 2) rfl (k := pp) (by omega) h4_6 2 (by decide) (hts (.fieldLink RX3 120 "RollbackPair$Packet" "ack" "I") (by decide +kernel)) rfl dX3_receive_81 ?_
        refine m_put hx hb hts inX3 tyX3 tyX3_ok nmX3 hown hK hP hJ hS (ci := 3) rfl (k := k) (by omega) h4_1 9 (by decide) (hts (.fieldLink RX3 44 "RollbackPair$Peer" "told" "I") (by decide +kernel)) rfl rfl rfl (Nat.le_of_ble_eq_true rfl) (fs' := [.int (nI q), .int (nI ww), .ref (ad r1), .ref (ad r2), .ref (ad (k + 54)), .ref (ad (k + 56)), .ref (ad (k + 1)), .int (nI a), .int (nI 0), .int (S.1 22 24), .int (S.1 8 q), .int (S.1 20 24), .int (nI 1), .float (avN S q)]) rfl dX3_receive_84 (fun H locs hP hS => ?_)
        obtain ⟨M_9, eM_9⟩ : ∃ z, z = va_up M_4 k (.inr (3, [.int (nI q), .int (nI ww), .ref (ad r1), .ref (ad r2), .ref (ad (k + 54)), .ref (ad (k + 56)), .ref (ad (k + 1)), .int (nI a), .int (nI 0), .int (S.1 22 24), .int (S.1 8 q), .int (S.1 20 24), .int (nI 1), .float (avN S q)])) := ⟨_, rfl⟩
        rw [← eM_9] at hP
        have h9_1 : M_9 k = .inr (3, [.int (nI q), .int (nI ww), .ref (ad r1), .ref (ad r2), .ref (ad (k + 54)), .ref (ad (k + 56)), .ref (ad (k + 1)), .int (nI a), .int (nI 0), .int (S.1 22 24), .int (S.1 8 q), .int (S.1 20 24), .int (nI 1), .float (avN S q)]) := by rw [eM_9]; exact va_up_self _ _ _
        have h9_2 : M_9 (k + 54) = .inr (1, [.ref (ad (k + 55)), .int (nI (a + dd)), .int 0]) := by rw [eM_9]; exact (va_up_ne _ _ (by omega)).trans h4_2
        have h9_3 : M_9 (k + 55) = eB cs 1024 gO := by rw [eM_9]; exact (va_up_ne _ _ (by omega)).trans h4_3
        have h9_4 : M_9 (k + 56) = .inr (1, [.ref (ad (k + 57)), .int (nI nt), .int (edOf S q)]) := by rw [eM_9]; exact (va_up_ne _ _ (by omega)).trans h4_4
        have h9_5 : M_9 (k + 57) = eB cs 32 gT := by rw [eM_9]; exact (va_up_ne _ _ (by omega)).trans h4_5
        have h9_6 : M_9 pp = .inr (2, [.int (S.1 20 24), .int (S.1 21 24), .int (S.1 22 24), .int (S.1 23 24), .int (S.1 24 24), .long (S.2.2.1 24), .int (S.1 26 24)]) := by rw [eM_9]; exact (va_up_ne _ _ (by omega)).trans h4_6
        rw [show (if ¬ S.1 22 24 ≤ S.1 5 q ∧ ¬ S.1 12 (2 * q + q) < S.1 22 24 then S.1 22 24 else S.1 5 q) = S.1 22 24 from if_pos ⟨c6, by rw [I2]; exact c7⟩] at v6
        have y1 : M_9 k = oPe ad k r1 r2 q ww a (Y.1 3 q) (Y.1 5 q) (Y.1 8 q) (Y.1 7 q) (Y.1 6 q) (Y.2.1 9 q) := by rw [v1, v2, v3, v4, v5, v6]; exact h9_1
        have fr1 : ∀ j, j ≠ k → M_9 j = M j := fun j z => by rw [eM_9, va_up_ne _ _ z, eM_4, va_up_ne _ _ z, eM_3, va_up_ne _ _ z, eM_2, va_up_ne _ _ z, eM_1, va_up_ne _ _ z]
        have hp1 : M_9 pp = oT (spk Y 24) := by rw [v7]; exact h9_6
        refine lv_aload_n hx hb dX3_receive_87 rfl (lv_at hl 0 rfl) ?_
        refine m_get hx hb hts inX3 hown hK hP (ci := 3) rfl (k := k) (by omega) y1 5 (by decide) (hts (.fieldLink RX3 41 "RollbackPair$Peer" "others" "LRollbackPair$Inputs;") (by decide +kernel)) rfl dX3_receive_88 ?_
        refine m_get hx hb hts inX1 hown hK hP (ci := 1) rfl (k := (k + 56)) (by omega) h9_4 1 (by decide) (hts (.fieldLink RX3 58 "RollbackPair$Inputs" "count" "I") (by decide +kernel)) rfl dX3_receive_91 ?_
        refine lv_istore_n (lv' := [(2, .int (nI nt)), (0, .ref (ad k)), (1, .ref (ad pp))]) hx hb dX3_receive_94 rfl hl (by decide) rfl (fun ls hl => ?_)
        refine lv_aload_n hx hb dX3_receive_95 rfl (lv_at hl 1 rfl) ?_
        refine lv_aload_n hx hb dX3_receive_96 rfl (lv_at hl 2 rfl) ?_
        refine k_Vv (As := [.ref (ad pp)]) (rest := []) (k := k) (ci := 3) ⟨hx, hb, hml, hown, hts⟩ hK hP hS Ad_le (c_learnFrom l D cs ad n hJ M_9 k r1 r2 q ww a nt pp Y (edOf S q) gT hq hk hpp (by omega) I4 y1 h9_4 h9_5 (OtS_c hOt v14) v13 hp1) (cwV 1 hts gX3_receive_X3_learnFrom rfl rfl rfl (by decide +kernel) ⟨Nat.le_of_ble_eq_true rfl, Nat.le_of_ble_eq_true rfl⟩) (by omega) y1 rfl rfl rfl hl.1 (Nat.le_of_ble_eq_true rfl) dX3_receive_97 ⟨Nat.le_of_ble_eq_true rfl, Nat.le_of_ble_eq_true rfl⟩ (fun N1 H locs hpo hP hS _ _ => ?_)
        obtain ⟨gT2, o1, o2, o3, o4⟩ := hpo
        generalize hLL : lrC Y nt a = L at *
        generalize hZZ : mLrn Y q nt a = Z at *
        have h10_1 : N1 k = .inr (3, [.int (nI q), .int (nI ww), .ref (ad r1), .ref (ad r2), .ref (ad (k + 54)), .ref (ad (k + 56)), .ref (ad (k + 1)), .int (nI a), .int (Y.1 3 q), .int (Y.1 5 q), .int (Y.1 8 q), .int (Y.1 7 q), .int (Y.1 6 q), .float (Y.2.1 9 q)]) := (o4 _ (by omega) (by omega)).trans y1
        have h10_2 : N1 (k + 54) = .inr (1, [.ref (ad (k + 55)), .int (nI (a + dd)), .int 0]) := (o4 _ (by omega) (by omega)).trans h9_2
        have h10_3 : N1 (k + 55) = eB cs 1024 gO := (o4 _ (by omega) (by omega)).trans h9_3
        have h10_6 : N1 pp = .inr (2, [.int (S.1 20 24), .int (S.1 21 24), .int (S.1 22 24), .int (S.1 23 24), .int (S.1 24 24), .long (S.2.2.1 24), .int (S.1 26 24)]) := (o4 _ (by omega) (by omega)).trans h9_6
        have hed : edOf S q = edOf Z q := by unfold edOf; rw [f5 4 (by decide) (by decide) (by decide) (by decide) (by decide) (by decide)]
        rw [hed] at o1
        have hH2 : HiA ad cs (k + 1) N1 X V hh wk U := hH.kept (fun j z1 z2 => (o4 j (by omega) (by omega)).trans (fr1 j (by omega)))
        have hR2 : HR Z q (a - 15) a X V hh wk U := HR_c hR (f5 11 (by decide) (by decide) (by decide) (by decide) (by decide) (by decide)) (f5 17 (by decide) (by decide) (by decide) (by decide) (by decide) (by decide)) ⟨by rw [f7]; exact v8, by rw [f7]; exact v9, by rw [f7]; exact v10, by rw [f7]; exact v11⟩ (by rw [f7]; exact v12)
        have hOw2 : OwS Z q (a + dd) gO := fun f hf => (hOw f hf).trans (f8 f (by omega)).symm
        have hTe : ∀ f, nt ≤ f → f < a → inU 32 (nt + L) gT2 (edOf Z q) f = mUse Z q (1 - q) f := fun f z1 z2 => use_oth hq o3 f2 (by omega) (by omega)
        refine lv_aload_n hx hb dX3_receive_100 rfl (lv_at hl 1 rfl) ?_
        refine lv_iload_n hx hb dX3_receive_101 rfl (lv_at hl 0 rfl) ?_
        have y2 : N1 k = oPe ad k r1 r2 q ww a (Y.1 3 q) (Y.1 5 q) (Y.1 8 q) (Y.1 7 q) (Y.1 6 q) (Y.2.1 9 q) := h10_1
        refine k_Vi (As := [.int (nI nt)]) (rest := []) (k := k) (ci := 3) ⟨hx, hb, hml, hown, hts⟩ hK hP hS Ad_le (c_fw l D cs ad n hJ N1 k r1 r2 q ww a (Y.1 3 q) (Y.1 5 q) (Y.1 8 q) (Y.1 7 q) (Y.1 6 q) (Y.2.1 9 q) hk hq (by omega) y2 (a + dd) (nt + L) (edOf Z q) gO gT2 (by omega) (by omega) h10_2 h10_3 o1 o2 X V hh wk U hH2 Z nt (fun f z1 z2 => hR2.2 (1 - q) f (by omega) (by omega) z1) hTe (by omega) (by omega)) (cwV 1 hts gX3_receive_X3_firstWrong rfl rfl rfl (by decide +kernel) ⟨Nat.le_of_ble_eq_true rfl, Nat.le_of_ble_eq_true rfl⟩) (by omega) h10_1 rfl rfl rfl hl.1 (Nat.le_of_ble_eq_true rfl) dX3_receive_102 ⟨Nat.le_of_ble_eq_true rfl, Nat.le_of_ble_eq_true rfl⟩ (fun r_10 M1 H locs hpo hP hS _ _ => ?_)
        obtain ⟨hMe, rfl⟩ := hpo
        rw [hMe] at hP
        generalize fwF Z q a nt = F at *
        refine lv_istore_n (lv' := [(3, .int (nI F)), (2, .int (nI nt)), (0, .ref (ad k)), (1, .ref (ad pp))]) hx hb dX3_receive_105 rfl hl (by decide) rfl (fun ls hl => ?_)
        refine lv_aload_n hx hb dX3_receive_106 rfl (lv_at hl 2 rfl) ?_
        refine lv_iload_n hx hb dX3_receive_107 rfl (lv_at hl 0 rfl) ?_
        refine lv_aload_n hx hb dX3_receive_108 rfl (lv_at hl 2 rfl) ?_
        refine m_get hx hb hts inX3 hown hK hP (ci := 3) rfl (k := k) (by omega) h10_1 7 (by decide) (hts (.fieldLink RX3 51 "RollbackPair$Peer" "at" "I") (by decide +kernel)) rfl dX3_receive_109 ?_
        refine k_Vv (As := [.int (nI F), .int (nI a)]) (rest := []) (k := k) (ci := 3) ⟨hx, hb, hml, hown, hts⟩ hK hP hS Ad_le (c_playFrames l D cs ad n hJ N1 k r1 r2 q ww a (Y.1 3 q) (Y.1 5 q) (Y.1 8 q) (Y.1 7 q) (Y.1 6 q) (Y.2.1 9 q) hk hq (by omega) y2 (a + dd) (nt + L) (edOf Z q) gO gT2 (by omega) (by omega) h10_2 h10_3 o1 o2 X V hh wk U hH2 Z F a (a - 15) a hR2 (by omega) (by omega) (by omega) (by omega) (by omega) (fun f z1 z2 => use_own hOw2 f1 (by omega) f) (fun f z1 z2 => hTe f (by omega) z2) (fun pl f hp9 _ _ => f11 pl f hp9) (f12 F (by omega))) (cwV 2 hts gX3_receive_X3_playFrames rfl rfl rfl (by decide +kernel) ⟨Nat.le_of_ble_eq_true rfl, Nat.le_of_ble_eq_true rfl⟩) (by omega) h10_1 rfl rfl rfl hl.1 (Nat.le_of_ble_eq_true rfl) dX3_receive_112 ⟨Nat.le_of_ble_eq_true rfl, Nat.le_of_ble_eq_true rfl⟩ (fun N9 H locs hpo hP hS _ _ => ?_)
        obtain ⟨X2, V2, hh2, wk2, U2, q1, q2, q3⟩ := hpo
        have h11_1 : N9 k = .inr (3, [.int (nI q), .int (nI ww), .ref (ad r1), .ref (ad r2), .ref (ad (k + 54)), .ref (ad (k + 56)), .ref (ad (k + 1)), .int (nI a), .int (Y.1 3 q), .int (Y.1 5 q), .int (Y.1 8 q), .int (Y.1 7 q), .int (Y.1 6 q), .float (Y.2.1 9 q)]) := (q3 _ (by omega)).trans h10_1
        have h11_2 : N9 (k + 54) = .inr (1, [.ref (ad (k + 55)), .int (nI (a + dd)), .int 0]) := (q3 _ (by omega)).trans h10_2
        have h11_3 : N9 (k + 55) = eB cs 1024 gO := (q3 _ (by omega)).trans h10_3
        have h11_4 : N9 (k + 56) = .inr (1, [.ref (ad (k + 57)), .int (nI (nt + L)), .int (edOf Z q)]) := (q3 _ (by omega)).trans o1
        have h11_5 : N9 (k + 57) = eB cs 32 gT2 := (q3 _ (by omega)).trans o2
        have h11_6 : N9 pp = .inr (2, [.int (S.1 20 24), .int (S.1 21 24), .int (S.1 22 24), .int (S.1 23 24), .int (S.1 24 24), .long (S.2.2.1 24), .int (S.1 26 24)]) := (q3 _ (by omega)).trans h10_6
        refine lv_aload_n hx hb dX3_receive_115 rfl (lv_at hl 2 rfl) ?_
        refine m_get hx hb hts inX3 hown hK hP (ci := 3) rfl (k := k) (by omega) h11_1 7 (by decide) (hts (.fieldLink RX3 51 "RollbackPair$Peer" "at" "I") (by decide +kernel)) rfl dX3_receive_116 ?_
        refine lv_iload_n hx hb dX3_receive_119 rfl (lv_at hl 0 rfl) ?_
        refine n_sub hx hb (by omega) dX3_receive_120 ?_
        have e9 := mPlays_9 (a - F) Z q F
        rw [show max (a - 15) (a - 15) = a - 15 by omega, show max a a = a by omega] at q2
        refine r_i hx hb hr hlocks hK hP hS dX3_receive_121 ⟨rfl, ⟨nt + L, eI, X2, V2, hh2, wk2, U2, gO, gT2, ?_, q1, q2, h11_2, h11_3, OwS_c hOw2 (mPlays_k _ _ _ _ (by decide)), ?_, h11_5, OtS_c o3 (mPlays_k _ _ _ _ (by decide))⟩, fun j hj => (q3 j (by omega)).trans ((o4 j (by omega) (by omega)).trans (fr1 j (by omega)))⟩
        · rw [mPlays_k _ _ _ _ (by decide), mPlays_k _ _ _ _ (by decide), mPlays_k _ _ _ _ (by decide), mPlays_k _ _ _ _ (by decide), mPlays_k _ _ _ _ (by decide), e9.1, f6 3 (by decide) (by decide), f6 5 (by decide) (by decide), f6 8 (by decide) (by decide), f6 7 (by decide) (by decide), f6 6 (by decide) (by decide), f7]; exact h11_1
        · rw [show edOf (mPlays Z q (a - F) F) q = edOf Z q by unfold edOf; rw [mPlays_k _ _ _ _ (by decide)]]; exact h11_4
