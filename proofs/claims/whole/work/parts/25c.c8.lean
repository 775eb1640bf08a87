theorem mSend_k {S : SS} {q j : Nat} (h : j ≠ 8 ∧ j ≠ 19 ∧ j ≠ 20 ∧ j ≠ 21 ∧ j ≠ 22 ∧ j ≠ 23 ∧ j ≠ 24 ∧ j ≠ 26) : (mSend S q).1 j = S.1 j := by
  unfold mSend
  split
  · simp [mNum, mPut, mFill, sI, sB, va_up, h]
  · simp [mNum, sI, va_up, h]
theorem mSend_F (S : SS) (q : Nat) : (mSend S q).2.1 = S.2.1 ∧ (mSend S q).2.2.2 = S.2.2.2 := by
  unfold mSend
  split <;> exact ⟨rfl, rfl⟩
theorem mSend_8 (S : SS) (q : Nat) : (mSend S q).1 8 = upd (S.1 8) q (S.1 8 q + nI 1).toInt16.toInt32 := by
  unfold mSend
  split <;> rfl
theorem mNum_spk (U : SS) (q j : Nat) : spk (mNum U q) j = spk U j := rfl
theorem mNum_19 (U : SS) (q : Nat) : (mNum U q).1 19 = U.1 19 := rfl
theorem mPut_19 (S : SS) (q r c : Nat) (b : Int64) : (mPut S q r c b).1 19 = upd (S.1 19) (1 - q) (nI (r + 1)) := rfl
theorem mPut_ne {S : SS} {q r c j : Nat} {b : Int64} (h : j ≠ 12 * (1 - q) + r) : spk (mPut S q r c b) j = spk S j := by
  simp [spk, mPut, mFill, sI, sB, va_up, upd, vp_updL, h]
theorem mPut_eq (S : SS) (q r c : Nat) (b : Int64) : spk (mPut S q r c b) (12 * (1 - q) + r) = (S.1 8 q, S.1 2 q, S.1 12 (2 * q + (1 - q)), S.1 5 q, nI c, b, ck (S.1 8 q) (S.1 2 q) (S.1 12 (2 * q + (1 - q))) (S.1 5 q) (nI c) b.toInt32 (hi32 b)) := by
  simp [spk, mPut, mFill, mChk, sI, sB, va_up, upd, vp_updL]
theorem RwS_c {ad : Nat → Nat} {cs : Nat → ClassId} {kr : Nat} {M : Nat → va_E} {S S2 : SS} {o : Nat} (h : RwS ad cs kr M S o) (h19 : S2.1 19 o = S.1 19 o) (hp : ∀ j, 12 * o ≤ j → j < 12 * o + 12 → spk S2 j = spk S j) : RwS ad cs kr M S2 o := by
  obtain ⟨sg9, pk, r, h1, h2, h3, h4, h5, h6⟩ := h
  exact ⟨sg9, pk, r, h1, h19.trans h2, h3, h4, h5, fun i hi => (h6 i hi).trans (hp _ (by omega) (by omega)).symm⟩
theorem RwS.kept {ad : Nat → Nat} {cs : Nat → ClassId} {kr : Nat} {M M2 : Nat → va_E} {S : SS} {o : Nat} (h : RwS ad cs kr M S o) (hf : ∀ j, kr ≤ j → j < kr + 14 → M2 j = M j) : RwS ad cs kr M2 S o := by
  obtain ⟨sg9, pk, r, h1, h2⟩ := h
  exact ⟨sg9, pk, r, h1.kept hf, h2⟩
set_option maxHeartbeats 4000000 in
set_option maxRecDepth 100000 in
/-- Peer.sendPacket() -/
theorem c_sendPacket (l : Launch) (D : va_G) (cs : Nat → ClassId) (ad : Nat → Nat) (n : Nat) (hJ : Inj ad n) (M : Nat → va_E) (k r1 r2 q ww a no nt tt : Nat) (S : SS) (gO : Nat → Int32) (ed : Int32) (hk : k + 58 ≤ n) (hr2 : r2 + 14 ≤ k) (hq : q < 2) (ha : a ≤ 580) (hno : no ≤ 600) (hnt : nt ≤ 600) (htt : tt ≤ no) (hat : S.1 2 q = nI a) (hon : S.1 12 (2 * q + q) = nI no) (hnn : S.1 12 (2 * q + (1 - q)) = nI nt) (hto : S.1 5 q = nI tt) (hsh : sh (S.1 8 q)) (h1 : M k = oPe ad k r1 r2 q ww a (S.1 3 q) (nI tt) (S.1 8 q) (S.1 7 q) (S.1 6 q) (S.2.1 9 q)) (h2 : M (k + 54) = oIn ad (k + 55) no 0) (h3 : M (k + 55) = eB cs 1024 gO) (hOw : OwS S q no gO) (h4 : M (k + 56) = oIn ad (k + 57) nt ed) (hRw : RwS ad cs r2 M S (1 - q)) : CTv l yX3_sendPacket wsX3_sendPacket ({ frames := 2, cells := 0, slots := 0, locals := 44 }) D cs ad n M [.ref (ad k)] (fun M2 => M2 k = oPe ad k r1 r2 q ww a (S.1 3 q) (nI tt) (S.1 8 q + nI 1).toInt16.toInt32 (S.1 7 q) (S.1 6 q) (S.2.1 9 q) ∧ RwS ad cs r2 M2 (mSend S q) (1 - q) ∧ ∀ j, j ≠ k → (j < r2 ∨ r2 + 14 ≤ j) → M2 j = M j) := by
  refine Met.ofW (cc := cX3_sendPacket) (maxL := 3) (ret := none) (by decide) rfl ?_
  intro p e s m args below meth c s₁ B hml hv
  obtain ⟨rfl, hP, hK⟩ := hv
  have hx := B.exec
  have hb := B.bytes
  have hr := B.returns
  have hts := atoms_spec (ws := wsX3_sendPacket) B.pre
  have hown : s.vm.findClass RX3 = some m.cls := findClass_of_methodNamed B.named
  have hlocks := B.notSynchronized
  have hS : va_S (Ad ad n) s.heap s.heap [] := va_S.rf
  have hl := lv_entry ([.ref (ad k)]) (n := 3) (Nat.le_of_ble_eq_true rfl)
  rw [lg_entry_eq]
  generalize (lg_sl ([.ref (ad k)]) ++ List.replicate (3 - (lg_sl ([.ref (ad k)])).length) Slot.unset).toArray = ls at hl ⊢
  have hl : lv_has ls 3 [(0, .ref (ad k))] := hl
  have inX3 : ∀ w ∈ u_ws RX3 TX3 14, w ∈ wsX3_sendPacket := fun w h => List.mem_cons_of_mem _ (List.mem_append_left _ (List.mem_append_left _ (List.mem_append_left _ (List.mem_append_right _ h))))
  have inX2 : ∀ w ∈ u_ws RX2 TX2 7, w ∈ wsX3_sendPacket := fun w h => List.mem_cons_of_mem _ (List.mem_append_left _ (List.mem_append_left _ (List.mem_append_right _ h)))
  have inX1 : ∀ w ∈ u_ws RX1 TX1 3, w ∈ wsX3_sendPacket := fun w h => List.mem_cons_of_mem _ (List.mem_append_left _ (List.mem_append_right _ h))
  have inX4 : ∀ w ∈ u_ws RX4 TX4 2, w ∈ wsX3_sendPacket := fun w h => List.mem_cons_of_mem _ (List.mem_append_right _ h)
  obtain ⟨sg9, pk, r, hA, hr0, hrl, hsg, hinj, hpk⟩ := hRw
  obtain ⟨y1, ⟨g, y2, hg⟩, y3⟩ := id hA
  rw [mSend_eq hr0 hrl hon hno hto htt]
  by_cases hr12 : r < 12
  · refine lv_aload_n hx hb dX3_sendPacket_0 rfl (lv_at hl 0 rfl) ?_
    refine m_get hx hb hts inX3 hown hK hP (ci := 3) rfl (k := k) (by omega) h1 10 (by decide) (hts (.fieldLink RX3 47 "RollbackPair$Peer" "nextNumber" "S") (by decide +kernel)) rfl dX3_sendPacket_1 ?_
    refine lv_istore_n (lv' := [(1, .int (S.1 8 q)), (0, .ref (ad k))]) hx hb dX3_sendPacket_4 rfl hl (by decide) rfl (fun ls hl => ?_)
    refine lv_aload_n hx hb dX3_sendPacket_5 rfl (lv_at hl 1 rfl) ?_
    refine lv_iload_n hx hb dX3_sendPacket_6 rfl (lv_at hl 0 rfl) ?_
    refine lv_iconst (v := nI 1) hx hb dX3_sendPacket_7 (by decide) ?_
    refine lv_iadd hx hb dX3_sendPacket_8 ?_
    refine lv_i2s hx hb dX3_sendPacket_9 rfl ?_
    refine m_put hx hb hts inX3 tyX3 tyX3_ok nmX3 hown hK hP hJ hS (ci := 3) rfl (k := k) (by omega) h1 10 (by decide) (hts (.fieldLink RX3 47 "RollbackPair$Peer" "nextNumber" "S") (by decide +kernel)) rfl (nar_sh (sh_i _)) (fit_sh (sh_i _)) (Nat.le_of_ble_eq_true rfl) (fs' := [.int (nI q), .int (nI ww), .ref (ad r1), .ref (ad r2), .ref (ad (k + 54)), .ref (ad (k + 56)), .ref (ad (k + 1)), .int (nI a), .int (S.1 3 q), .int (nI tt), .int (((S.1 8 q) + (nI 1)).toInt16.toInt32), .int (S.1 7 q), .int (S.1 6 q), .float (S.2.1 9 q)]) rfl dX3_sendPacket_10 (fun H locs hP hS => ?_)
    obtain ⟨M_1, eM_1⟩ : ∃ z, z = va_up M k (.inr (3, [.int (nI q), .int (nI ww), .ref (ad r1), .ref (ad r2), .ref (ad (k + 54)), .ref (ad (k + 56)), .ref (ad (k + 1)), .int (nI a), .int (S.1 3 q), .int (nI tt), .int (((S.1 8 q) + (nI 1)).toInt16.toInt32), .int (S.1 7 q), .int (S.1 6 q), .float (S.2.1 9 q)])) := ⟨_, rfl⟩
    rw [← eM_1] at hP
    have h1_1 : M_1 k = .inr (3, [.int (nI q), .int (nI ww), .ref (ad r1), .ref (ad r2), .ref (ad (k + 54)), .ref (ad (k + 56)), .ref (ad (k + 1)), .int (nI a), .int (S.1 3 q), .int (nI tt), .int (((S.1 8 q) + (nI 1)).toInt16.toInt32), .int (S.1 7 q), .int (S.1 6 q), .float (S.2.1 9 q)]) := by rw [eM_1]; exact va_up_self _ _ _
    have h1_2 : M_1 (k + 54) = .inr (1, [.ref (ad (k + 55)), .int (nI no), .int 0]) := by rw [eM_1]; exact (va_up_ne _ _ (by omega)).trans h2
    have h1_3 : M_1 (k + 55) = eB cs 1024 gO := by rw [eM_1]; exact (va_up_ne _ _ (by omega)).trans h3
    have h1_4 : M_1 (k + 56) = .inr (1, [.ref (ad (k + 57)), .int (nI nt), .int ed]) := by rw [eM_1]; exact (va_up_ne _ _ (by omega)).trans h4
    have h1_5 : M_1 r2 = .inr (4, [.ref (ad (r2 + 1)), .int (nI r)]) := by rw [eM_1]; exact (va_up_ne _ _ (by omega)).trans y1
    refine lv_aload_n hx hb dX3_sendPacket_13 rfl (lv_at hl 1 rfl) ?_
    refine m_get hx hb hts inX3 hown hK hP (ci := 3) rfl (k := k) (by omega) h1_1 3 (by decide) (hts (.fieldLink RX3 29 "RollbackPair$Peer" "leaving" "LRollbackPair$Row;") (by decide +kernel)) rfl dX3_sendPacket_14 ?_
    have s1 := hsg r hr12
    have hA2 : RwA ad cs r2 M_1 sg9 r pk := hA.kept (fun j z1 z2 => by rw [eM_1, va_up_ne _ _ (by omega)])
    refine k_Vq (As := []) (rest := []) (k := r2) (ci := 4) ⟨hx, hb, hml, hown, hts⟩ hK hP hS Ad_le (c_addLast l D cs ad n hJ M_1 r2 sg9 r pk (by omega) hsg hA2 hr12) (cwV 0 hts gX3_sendPacket_X4_addLast rfl rfl rfl (by decide +kernel) ⟨Nat.le_of_ble_eq_true rfl, Nat.le_of_ble_eq_true rfl⟩) (by omega) h1_5 rfl rfl rfl hl.1 (Nat.le_of_ble_eq_true rfl) dX3_sendPacket_17 ⟨Nat.le_of_ble_eq_true rfl, Nat.le_of_ble_eq_true rfl⟩ (fun r_1 N1 H locs hpo hP hS _ _ => ?_)
    obtain ⟨rfl, q1, qf⟩ := hpo
    have h2_1 : N1 k = .inr (3, [.int (nI q), .int (nI ww), .ref (ad r1), .ref (ad r2), .ref (ad (k + 54)), .ref (ad (k + 56)), .ref (ad (k + 1)), .int (nI a), .int (S.1 3 q), .int (nI tt), .int (((S.1 8 q) + (nI 1)).toInt16.toInt32), .int (S.1 7 q), .int (S.1 6 q), .float (S.2.1 9 q)]) := (qf _ (by omega)).trans h1_1
    have h2_2 : N1 (k + 54) = .inr (1, [.ref (ad (k + 55)), .int (nI no), .int 0]) := (qf _ (by omega)).trans h1_2
    have h2_3 : N1 (k + 55) = eB cs 1024 gO := (qf _ (by omega)).trans h1_3
    have h2_4 : N1 (k + 56) = .inr (1, [.ref (ad (k + 57)), .int (nI nt), .int ed]) := (qf _ (by omega)).trans h1_4
    have f4 : N1 (r2 + 2 + sg9 r) = oT (pk (sg9 r)) := (qf _ (by omega)).trans (hA2.2.2 _ s1)
    refine lv_astore_n (lv' := [(2, .ref (ad (r2 + 2 + sg9 r))), (1, .int (S.1 8 q)), (0, .ref (ad k))]) hx hb dX3_sendPacket_20 rfl hl (by decide) rfl (fun ls hl => ?_)
    refine lv_aload_n hx hb dX3_sendPacket_21 rfl (lv_at hl 0 rfl) ?_
    refine lv_ifnull hx hb dX3_sendPacket_22 ?_
    refine lv_aload_n hx hb dX3_sendPacket_25 rfl (lv_at hl 0 rfl) ?_
    refine lv_iload_n hx hb dX3_sendPacket_26 rfl (lv_at hl 1 rfl) ?_
    refine m_put hx hb hts inX2 tyX2 tyX2_ok nmX2 hown hK hP hJ hS (ci := 2) rfl (k := (r2 + 2 + sg9 r)) (by omega) f4 0 (by decide) (hts (.fieldLink RX3 112 "RollbackPair$Packet" "number" "S") (by decide +kernel)) rfl (nar_sh hsh) (fit_sh hsh) (Nat.le_of_ble_eq_true rfl) (fs' := [.int (S.1 8 q), .int ((pk (sg9 r)).2.1), .int ((pk (sg9 r)).2.2.1), .int ((pk (sg9 r)).2.2.2.1), .int ((pk (sg9 r)).2.2.2.2.1), .long ((pk (sg9 r)).2.2.2.2.2.1), .int ((pk (sg9 r)).2.2.2.2.2.2)]) rfl dX3_sendPacket_27 (fun H locs hP hS => ?_)
    obtain ⟨M_3, eM_3⟩ : ∃ z, z = va_up N1 (r2 + 2 + sg9 r) (.inr (2, [.int (S.1 8 q), .int ((pk (sg9 r)).2.1), .int ((pk (sg9 r)).2.2.1), .int ((pk (sg9 r)).2.2.2.1), .int ((pk (sg9 r)).2.2.2.2.1), .long ((pk (sg9 r)).2.2.2.2.2.1), .int ((pk (sg9 r)).2.2.2.2.2.2)])) := ⟨_, rfl⟩
    rw [← eM_3] at hP
    have h3_1 : M_3 k = .inr (3, [.int (nI q), .int (nI ww), .ref (ad r1), .ref (ad r2), .ref (ad (k + 54)), .ref (ad (k + 56)), .ref (ad (k + 1)), .int (nI a), .int (S.1 3 q), .int (nI tt), .int (((S.1 8 q) + (nI 1)).toInt16.toInt32), .int (S.1 7 q), .int (S.1 6 q), .float (S.2.1 9 q)]) := by rw [eM_3]; exact (va_up_ne _ _ (by omega)).trans h2_1
    have h3_2 : M_3 (k + 54) = .inr (1, [.ref (ad (k + 55)), .int (nI no), .int 0]) := by rw [eM_3]; exact (va_up_ne _ _ (by omega)).trans h2_2
    have h3_3 : M_3 (k + 55) = eB cs 1024 gO := by rw [eM_3]; exact (va_up_ne _ _ (by omega)).trans h2_3
    have h3_4 : M_3 (k + 56) = .inr (1, [.ref (ad (k + 57)), .int (nI nt), .int ed]) := by rw [eM_3]; exact (va_up_ne _ _ (by omega)).trans h2_4
    have h3_5 : M_3 r2 = .inr (4, [.ref (ad (r2 + 1)), .int (nI (r + 1))]) := by rw [eM_3]; exact (va_up_ne _ _ (by omega)).trans q1
    have h3_6 : M_3 (r2 + 2 + sg9 r) = .inr (2, [.int (S.1 8 q), .int ((pk (sg9 r)).2.1), .int ((pk (sg9 r)).2.2.1), .int ((pk (sg9 r)).2.2.2.1), .int ((pk (sg9 r)).2.2.2.2.1), .long ((pk (sg9 r)).2.2.2.2.2.1), .int ((pk (sg9 r)).2.2.2.2.2.2)]) := by rw [eM_3]; exact va_up_self _ _ _
    refine lv_aload_n hx hb dX3_sendPacket_30 rfl (lv_at hl 0 rfl) ?_
    refine lv_aload_n hx hb dX3_sendPacket_31 rfl (lv_at hl 2 rfl) ?_
    refine m_get hx hb hts inX3 hown hK hP (ci := 3) rfl (k := k) (by omega) h3_1 7 (by decide) (hts (.fieldLink RX3 51 "RollbackPair$Peer" "at" "I") (by decide +kernel)) rfl dX3_sendPacket_32 ?_
    refine m_put hx hb hts inX2 tyX2 tyX2_ok nmX2 hown hK hP hJ hS (ci := 2) rfl (k := (r2 + 2 + sg9 r)) (by omega) h3_6 1 (by decide) (hts (.fieldLink RX3 117 "RollbackPair$Packet" "frame" "I") (by decide +kernel)) rfl rfl rfl (Nat.le_of_ble_eq_true rfl) (fs' := [.int (S.1 8 q), .int (nI a), .int ((pk (sg9 r)).2.2.1), .int ((pk (sg9 r)).2.2.2.1), .int ((pk (sg9 r)).2.2.2.2.1), .long ((pk (sg9 r)).2.2.2.2.2.1), .int ((pk (sg9 r)).2.2.2.2.2.2)]) rfl dX3_sendPacket_35 (fun H locs hP hS => ?_)
    obtain ⟨M_4, eM_4⟩ : ∃ z, z = va_up M_3 (r2 + 2 + sg9 r) (.inr (2, [.int (S.1 8 q), .int (nI a), .int ((pk (sg9 r)).2.2.1), .int ((pk (sg9 r)).2.2.2.1), .int ((pk (sg9 r)).2.2.2.2.1), .long ((pk (sg9 r)).2.2.2.2.2.1), .int ((pk (sg9 r)).2.2.2.2.2.2)])) := ⟨_, rfl⟩
    rw [← eM_4] at hP
    have h4_1 : M_4 k = .inr (3, [.int (nI q), .int (nI ww), .ref (ad r1), .ref (ad r2), .ref (ad (k + 54)), .ref (ad (k + 56)), .ref (ad (k + 1)), .int (nI a), .int (S.1 3 q), .int (nI tt), .int (((S.1 8 q) + (nI 1)).toInt16.toInt32), .int (S.1 7 q), .int (S.1 6 q), .float (S.2.1 9 q)]) := by rw [eM_4]; exact (va_up_ne _ _ (by omega)).trans h3_1
    have h4_2 : M_4 (k + 54) = .inr (1, [.ref (ad (k + 55)), .int (nI no), .int 0]) := by rw [eM_4]; exact (va_up_ne _ _ (by omega)).trans h3_2
    have h4_3 : M_4 (k + 55) = eB cs 1024 gO := by rw [eM_4]; exact (va_up_ne _ _ (by omega)).trans h3_3
    have h4_4 : M_4 (k + 56) = .inr (1, [.ref (ad (k + 57)), .int (nI nt), .int ed]) := by rw [eM_4]; exact (va_up_ne _ _ (by omega)).trans h3_4
    have h4_5 : M_4 r2 = .inr (4, [.ref (ad (r2 + 1)), .int (nI (r + 1))]) := by rw [eM_4]; exact (va_up_ne _ _ (by omega)).trans h3_5
    have h4_6 : M_4 (r2 + 2 + sg9 r) = .inr (2, [.int (S.1 8 q), .int (nI a), .int ((pk (sg9 r)).2.2.1), .int ((pk (sg9 r)).2.2.2.1), .int ((pk (sg9 r)).2.2.2.2.1), .long ((pk (sg9 r)).2.2.2.2.2.1), .int ((pk (sg9 r)).2.2.2.2.2.2)]) := by rw [eM_4]; exact va_up_self _ _ _
    refine lv_aload_n hx hb dX3_sendPacket_38 rfl (lv_at hl 0 rfl) ?_
    refine lv_aload_n hx hb dX3_sendPacket_39 rfl (lv_at hl 2 rfl) ?_
    refine m_get hx hb hts inX3 hown hK hP (ci := 3) rfl (k := k) (by omega) h4_1 5 (by decide) (hts (.fieldLink RX3 41 "RollbackPair$Peer" "others" "LRollbackPair$Inputs;") (by decide +kernel)) rfl dX3_sendPacket_40 ?_
    refine m_get hx hb hts inX1 hown hK hP (ci := 1) rfl (k := (k + 56)) (by omega) h4_4 1 (by decide) (hts (.fieldLink RX3 58 "RollbackPair$Inputs" "count" "I") (by decide +kernel)) rfl dX3_sendPacket_43 ?_
    refine m_put hx hb hts inX2 tyX2 tyX2_ok nmX2 hown hK hP hJ hS (ci := 2) rfl (k := (r2 + 2 + sg9 r)) (by omega) h4_6 2 (by decide) (hts (.fieldLink RX3 120 "RollbackPair$Packet" "ack" "I") (by decide +kernel)) rfl rfl rfl (Nat.le_of_ble_eq_true rfl) (fs' := [.int (S.1 8 q), .int (nI a), .int (nI nt), .int ((pk (sg9 r)).2.2.2.1), .int ((pk (sg9 r)).2.2.2.2.1), .long ((pk (sg9 r)).2.2.2.2.2.1), .int ((pk (sg9 r)).2.2.2.2.2.2)]) rfl dX3_sendPacket_46 (fun H locs hP hS => ?_)
    obtain ⟨M_5, eM_5⟩ : ∃ z, z = va_up M_4 (r2 + 2 + sg9 r) (.inr (2, [.int (S.1 8 q), .int (nI a), .int (nI nt), .int ((pk (sg9 r)).2.2.2.1), .int ((pk (sg9 r)).2.2.2.2.1), .long ((pk (sg9 r)).2.2.2.2.2.1), .int ((pk (sg9 r)).2.2.2.2.2.2)])) := ⟨_, rfl⟩
    rw [← eM_5] at hP
    have h5_1 : M_5 k = .inr (3, [.int (nI q), .int (nI ww), .ref (ad r1), .ref (ad r2), .ref (ad (k + 54)), .ref (ad (k + 56)), .ref (ad (k + 1)), .int (nI a), .int (S.1 3 q), .int (nI tt), .int (((S.1 8 q) + (nI 1)).toInt16.toInt32), .int (S.1 7 q), .int (S.1 6 q), .float (S.2.1 9 q)]) := by rw [eM_5]; exact (va_up_ne _ _ (by omega)).trans h4_1
    have h5_2 : M_5 (k + 54) = .inr (1, [.ref (ad (k + 55)), .int (nI no), .int 0]) := by rw [eM_5]; exact (va_up_ne _ _ (by omega)).trans h4_2
    have h5_3 : M_5 (k + 55) = eB cs 1024 gO := by rw [eM_5]; exact (va_up_ne _ _ (by omega)).trans h4_3
    have h5_4 : M_5 (k + 56) = .inr (1, [.ref (ad (k + 57)), .int (nI nt), .int ed]) := by rw [eM_5]; exact (va_up_ne _ _ (by omega)).trans h4_4
    have h5_5 : M_5 r2 = .inr (4, [.ref (ad (r2 + 1)), .int (nI (r + 1))]) := by rw [eM_5]; exact (va_up_ne _ _ (by omega)).trans h4_5
    have h5_6 : M_5 (r2 + 2 + sg9 r) = .inr (2, [.int (S.1 8 q), .int (nI a), .int (nI nt), .int ((pk (sg9 r)).2.2.2.1), .int ((pk (sg9 r)).2.2.2.2.1), .long ((pk (sg9 r)).2.2.2.2.2.1), .int ((pk (sg9 r)).2.2.2.2.2.2)]) := by rw [eM_5]; exact va_up_self _ _ _
    refine lv_aload_n hx hb dX3_sendPacket_49 rfl (lv_at hl 0 rfl) ?_
    refine lv_aload_n hx hb dX3_sendPacket_50 rfl (lv_at hl 2 rfl) ?_
    refine m_get hx hb hts inX3 hown hK hP (ci := 3) rfl (k := k) (by omega) h5_1 4 (by decide) (hts (.fieldLink RX3 37 "RollbackPair$Peer" "own" "LRollbackPair$Inputs;") (by decide +kernel)) rfl dX3_sendPacket_51 ?_
    refine lv_aload_n hx hb dX3_sendPacket_54 rfl (lv_at hl 2 rfl) ?_
    refine m_get hx hb hts inX3 hown hK hP (ci := 3) rfl (k := k) (by omega) h5_1 9 (by decide) (hts (.fieldLink RX3 44 "RollbackPair$Peer" "told" "I") (by decide +kernel)) rfl dX3_sendPacket_55 ?_
    refine k_Vv (As := [.ref (ad (k + 54)), .int (nI tt)]) (rest := []) (k := (r2 + 2 + sg9 r)) (ci := 2) ⟨hx, hb, hml, hown, hts⟩ hK hP hS Ad_le (c_carry l D cs ad n hJ M_5 (r2 + 2 + sg9 r) (S.1 8 q) (nI a) (nI nt) ((pk (sg9 r)).2.2.2.1) ((pk (sg9 r)).2.2.2.2.1) ((pk (sg9 r)).2.2.2.2.2.1) ((pk (sg9 r)).2.2.2.2.2.2) (by omega) h5_6 (k + 54) (k + 55) 1024 10 no gO 0 (by omega) (by omega) (by omega) (by omega) (by omega) rfl (by decide) (by omega) h5_2 h5_3 tt htt) (cwV 2 hts gX3_sendPacket_X2_carry rfl rfl rfl (by decide +kernel) ⟨Nat.le_of_ble_eq_true rfl, Nat.le_of_ble_eq_true rfl⟩) (by omega) h5_6 rfl rfl rfl hl.1 (Nat.le_of_ble_eq_true rfl) dX3_sendPacket_58 ⟨Nat.le_of_ble_eq_true rfl, Nat.le_of_ble_eq_true rfl⟩ (fun N2 H locs hpo hP hS _ _ => ?_)
    obtain ⟨w1, wf⟩ := hpo
    have hbt : pkB (inU 1024 no gO 0) tt (min 16 (no - tt)) = pkB (S.1 10) (1200 * q + 600 * q + tt) (min 16 (no - tt)) := pkB_c _ (fun j hj => by unfold inU; rw [if_pos (by omega), Nat.mod_eq_of_lt (by omega), hOw (tt + j) (by omega)]; rw [show 1200 * q + 600 * q + (tt + j) = 1200 * q + 600 * q + tt + j by omega])
    rw [hbt] at w1
    generalize hBT : pkB (S.1 10) (1200 * q + 600 * q + tt) (min 16 (no - tt)) = BT at w1 ⊢
    have h6_1 : N2 k = .inr (3, [.int (nI q), .int (nI ww), .ref (ad r1), .ref (ad r2), .ref (ad (k + 54)), .ref (ad (k + 56)), .ref (ad (k + 1)), .int (nI a), .int (S.1 3 q), .int (nI tt), .int (((S.1 8 q) + (nI 1)).toInt16.toInt32), .int (S.1 7 q), .int (S.1 6 q), .float (S.2.1 9 q)]) := (wf _ (by omega)).trans h5_1
    have h6_2 : N2 (k + 54) = .inr (1, [.ref (ad (k + 55)), .int (nI no), .int 0]) := (wf _ (by omega)).trans h5_2
    have h6_3 : N2 (k + 55) = eB cs 1024 gO := (wf _ (by omega)).trans h5_3
    have h6_4 : N2 (k + 56) = .inr (1, [.ref (ad (k + 57)), .int (nI nt), .int ed]) := (wf _ (by omega)).trans h5_4
    have h6_5 : N2 r2 = .inr (4, [.ref (ad (r2 + 1)), .int (nI (r + 1))]) := (wf _ (by omega)).trans h5_5
    refine lv_aload_n hx hb dX3_sendPacket_61 rfl (lv_at hl 0 rfl) ?_
    refine lv_aload_n hx hb dX3_sendPacket_62 rfl (lv_at hl 0 rfl) ?_
    refine k_Vi (As := []) (rest := [.ref (ad (r2 + 2 + sg9 r))]) (k := (r2 + 2 + sg9 r)) (ci := 2) ⟨hx, hb, hml, hown, hts⟩ hK hP hS Ad_le (c_rightCheck l D cs ad n hJ N2 (r2 + 2 + sg9 r) (S.1 8 q) (nI a) (nI nt) (nI tt) (nI (min 16 (no - tt))) BT ((pk (sg9 r)).2.2.2.2.2.2) (by omega) w1) (cwV 0 hts gX3_sendPacket_X2_rightCheck rfl rfl rfl (by decide +kernel) ⟨Nat.le_of_ble_eq_true rfl, Nat.le_of_ble_eq_true rfl⟩) (by omega) w1 rfl rfl rfl hl.1 (Nat.le_of_ble_eq_true rfl) dX3_sendPacket_63 ⟨Nat.le_of_ble_eq_true rfl, Nat.le_of_ble_eq_true rfl⟩ (fun r_3 M1 H locs hpo hP hS _ _ => ?_)
    obtain ⟨hMe, rfl⟩ := hpo
    rw [hMe] at hP
    refine m_put hx hb hts inX2 tyX2 tyX2_ok nmX2 hown hK hP hJ hS (ci := 2) rfl (k := (r2 + 2 + sg9 r)) (by omega) w1 6 (by decide) (hts (.fieldLink RX3 131 "RollbackPair$Packet" "check" "I") (by decide +kernel)) rfl rfl rfl (Nat.le_of_ble_eq_true rfl) (fs' := [.int (S.1 8 q), .int (nI a), .int (nI nt), .int (nI tt), .int (nI (min 16 (no - tt))), .long BT, .int (ck (S.1 8 q) (nI a) (nI nt) (nI tt) (nI (min 16 (no - tt))) BT.toInt32 (hi32 BT))]) rfl dX3_sendPacket_66 (fun H locs hP hS => ?_)
    obtain ⟨M_7, eM_7⟩ : ∃ z, z = va_up N2 (r2 + 2 + sg9 r) (.inr (2, [.int (S.1 8 q), .int (nI a), .int (nI nt), .int (nI tt), .int (nI (min 16 (no - tt))), .long BT, .int (ck (S.1 8 q) (nI a) (nI nt) (nI tt) (nI (min 16 (no - tt))) BT.toInt32 (hi32 BT))])) := ⟨_, rfl⟩
    rw [← eM_7] at hP
    have h7_1 : M_7 k = .inr (3, [.int (nI q), .int (nI ww), .ref (ad r1), .ref (ad r2), .ref (ad (k + 54)), .ref (ad (k + 56)), .ref (ad (k + 1)), .int (nI a), .int (S.1 3 q), .int (nI tt), .int (((S.1 8 q) + (nI 1)).toInt16.toInt32), .int (S.1 7 q), .int (S.1 6 q), .float (S.2.1 9 q)]) := by rw [eM_7]; exact (va_up_ne _ _ (by omega)).trans h6_1
    have h7_2 : M_7 (k + 54) = .inr (1, [.ref (ad (k + 55)), .int (nI no), .int 0]) := by rw [eM_7]; exact (va_up_ne _ _ (by omega)).trans h6_2
    have h7_3 : M_7 (k + 55) = eB cs 1024 gO := by rw [eM_7]; exact (va_up_ne _ _ (by omega)).trans h6_3
    have h7_4 : M_7 (k + 56) = .inr (1, [.ref (ad (k + 57)), .int (nI nt), .int ed]) := by rw [eM_7]; exact (va_up_ne _ _ (by omega)).trans h6_4
    have h7_5 : M_7 r2 = .inr (4, [.ref (ad (r2 + 1)), .int (nI (r + 1))]) := by rw [eM_7]; exact (va_up_ne _ _ (by omega)).trans h6_5
    have h7_6 : M_7 (r2 + 2 + sg9 r) = .inr (2, [.int (S.1 8 q), .int (nI a), .int (nI nt), .int (nI tt), .int (nI (min 16 (no - tt))), .long BT, .int (ck (S.1 8 q) (nI a) (nI nt) (nI tt) (nI (min 16 (no - tt))) BT.toInt32 (hi32 BT))]) := by rw [eM_7]; exact va_up_self _ _ _
    have fr : ∀ j, j ≠ k → j ≠ r2 → j ≠ r2 + 2 + sg9 r → M_7 j = M j := fun j z1 z2 z3 => by rw [eM_7, va_up_ne _ _ z3, wf j z3, eM_5, va_up_ne _ _ z3, eM_4, va_up_ne _ _ z3, eM_3, va_up_ne _ _ z3, qf j z2, eM_1, va_up_ne _ _ z1]
    refine r_v hx hb hr hlocks hK hP hS dX3_sendPacket_69 ⟨h7_1, ?_, fun j z1 z2 => fr j z1 (by omega) (by omega)⟩
    rw [if_pos hr12]
    refine ⟨sg9, va_up pk (sg9 r) (S.1 8 q, nI a, nI nt, nI tt, nI (min 16 (no - tt)), BT, ck (S.1 8 q) (nI a) (nI nt) (nI tt) (nI (min 16 (no - tt))) BT.toInt32 (hi32 BT)), r + 1, ⟨h7_5, ⟨g, (fr _ (by omega) (by omega) (by omega)).trans y2, hg⟩, fun i hi => ?_⟩, by rw [mNum_19, mPut_19]; exact if_pos rfl, by omega, hsg, hinj, fun i hi => ?_⟩
    · by_cases h9 : i = sg9 r
      · subst h9; rw [va_up_self]; exact h7_6
      · rw [va_up_ne _ _ h9]; exact (fr _ (by omega) (by omega) (by omega)).trans (y3 i hi)
    · rw [mNum_spk]
      by_cases h9 : i = r
      · subst h9; rw [va_up_self, mPut_eq, hat, hnn, hto]
      · rw [va_up_ne _ _ (fun z => h9 (hinj i r (by omega) hr12 z)), mPut_ne (by omega)]; exact hpk i (by omega)
  · refine lv_aload_n hx hb dX3_sendPacket_0 rfl (lv_at hl 0 rfl) ?_
    refine m_get hx hb hts inX3 hown hK hP (ci := 3) rfl (k := k) (by omega) h1 10 (by decide) (hts (.fieldLink RX3 47 "RollbackPair$Peer" "nextNumber" "S") (by decide +kernel)) rfl dX3_sendPacket_1 ?_
    refine lv_istore_n (lv' := [(1, .int (S.1 8 q)), (0, .ref (ad k))]) hx hb dX3_sendPacket_4 rfl hl (by decide) rfl (fun ls hl => ?_)
    refine lv_aload_n hx hb dX3_sendPacket_5 rfl (lv_at hl 1 rfl) ?_
    refine lv_iload_n hx hb dX3_sendPacket_6 rfl (lv_at hl 0 rfl) ?_
    refine lv_iconst (v := nI 1) hx hb dX3_sendPacket_7 (by decide) ?_
    refine lv_iadd hx hb dX3_sendPacket_8 ?_
    refine lv_i2s hx hb dX3_sendPacket_9 rfl ?_
    refine m_put hx hb hts inX3 tyX3 tyX3_ok nmX3 hown hK hP hJ hS (ci := 3) rfl (k := k) (by omega) h1 10 (by decide) (hts (.fieldLink RX3 47 "RollbackPair$Peer" "nextNumber" "S") (by decide +kernel)) rfl (nar_sh (sh_i _)) (fit_sh (sh_i _)) (Nat.le_of_ble_eq_true rfl) (fs' := [.int (nI q), .int (nI ww), .ref (ad r1), .ref (ad r2), .ref (ad (k + 54)), .ref (ad (k + 56)), .ref (ad (k + 1)), .int (nI a), .int (S.1 3 q), .int (nI tt), .int (((S.1 8 q) + (nI 1)).toInt16.toInt32), .int (S.1 7 q), .int (S.1 6 q), .float (S.2.1 9 q)]) rfl dX3_sendPacket_10 (fun H locs hP hS => ?_)
    obtain ⟨M_1, eM_1⟩ : ∃ z, z = va_up M k (.inr (3, [.int (nI q), .int (nI ww), .ref (ad r1), .ref (ad r2), .ref (ad (k + 54)), .ref (ad (k + 56)), .ref (ad (k + 1)), .int (nI a), .int (S.1 3 q), .int (nI tt), .int (((S.1 8 q) + (nI 1)).toInt16.toInt32), .int (S.1 7 q), .int (S.1 6 q), .float (S.2.1 9 q)])) := ⟨_, rfl⟩
    rw [← eM_1] at hP
    have h1_1 : M_1 k = .inr (3, [.int (nI q), .int (nI ww), .ref (ad r1), .ref (ad r2), .ref (ad (k + 54)), .ref (ad (k + 56)), .ref (ad (k + 1)), .int (nI a), .int (S.1 3 q), .int (nI tt), .int (((S.1 8 q) + (nI 1)).toInt16.toInt32), .int (S.1 7 q), .int (S.1 6 q), .float (S.2.1 9 q)]) := by rw [eM_1]; exact va_up_self _ _ _
    have h1_2 : M_1 (k + 54) = .inr (1, [.ref (ad (k + 55)), .int (nI no), .int 0]) := by rw [eM_1]; exact (va_up_ne _ _ (by omega)).trans h2
    have h1_3 : M_1 (k + 55) = eB cs 1024 gO := by rw [eM_1]; exact (va_up_ne _ _ (by omega)).trans h3
    have h1_4 : M_1 (k + 56) = .inr (1, [.ref (ad (k + 57)), .int (nI nt), .int ed]) := by rw [eM_1]; exact (va_up_ne _ _ (by omega)).trans h4
    have h1_5 : M_1 r2 = .inr (4, [.ref (ad (r2 + 1)), .int (nI r)]) := by rw [eM_1]; exact (va_up_ne _ _ (by omega)).trans y1
    refine lv_aload_n hx hb dX3_sendPacket_13 rfl (lv_at hl 1 rfl) ?_
    refine m_get hx hb hts inX3 hown hK hP (ci := 3) rfl (k := k) (by omega) h1_1 3 (by decide) (hts (.fieldLink RX3 29 "RollbackPair$Peer" "leaving" "LRollbackPair$Row;") (by decide +kernel)) rfl dX3_sendPacket_14 ?_
    have hA2 : RwA ad cs r2 M_1 sg9 r pk := hA.kept (fun j z1 z2 => by rw [eM_1, va_up_ne _ _ (by omega)])
    refine k_Vq (As := []) (rest := []) (k := r2) (ci := 4) ⟨hx, hb, hml, hown, hts⟩ hK hP hS Ad_le (c_addLast_no l D cs ad n hJ M_1 r2 sg9 r pk (by omega) hsg hA2 (by omega)) (cwV 0 hts gX3_sendPacket_X4_addLast rfl rfl rfl (by decide +kernel) ⟨Nat.le_of_ble_eq_true rfl, Nat.le_of_ble_eq_true rfl⟩) (by omega) h1_5 rfl rfl rfl hl.1 (Nat.le_of_ble_eq_true rfl) dX3_sendPacket_17 ⟨Nat.le_of_ble_eq_true rfl, Nat.le_of_ble_eq_true rfl⟩ (fun r_1 M1 H locs hpo hP hS _ _ => ?_)
    obtain ⟨hMe, rfl⟩ := hpo
    rw [hMe] at hP
    refine lv_astore_nN (lv' := [(2, .null), (1, .int (S.1 8 q)), (0, .ref (ad k))]) hx hb dX3_sendPacket_20 rfl hl (by decide) rfl (fun ls hl => ?_)
    refine lv_aload_nN hx hb dX3_sendPacket_21 rfl (lv_at hl 0 rfl) ?_
    refine lv_ifnullN (tgt := 69) hx hb dX3_sendPacket_22 (by decide) ?_
    refine r_v hx hb hr hlocks hK hP hS dX3_sendPacket_69 ⟨h1_1, ?_, fun j z1 z2 => by rw [eM_1, va_up_ne _ _ z1]⟩
    rw [if_neg hr12]
    exact ⟨sg9, pk, r, hA2, by rw [mNum_19]; exact hr0, hrl, hsg, hinj, fun i hi => by rw [mNum_spk]; exact hpk i hi⟩
