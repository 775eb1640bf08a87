theorem mSend_use {S : SS} {q x pl f : Nat} : mUse (mSend S q) x pl f = mUse S x pl f := mUse_c (mSend_k (by decide)) (mSend_k (by decide)) (mSend_k (by decide)) x pl f
theorem upd_ne' {f : Nat → Int32} {i j : Nat} {v : Int32} (h : j ≠ i) : upd f i v j = f j := if_neg h
theorem own_small {dd ww : Nat} {S : SS} {q a nt i : Nat} (hq : q < 2) (hdd : dd ≤ 4) (ha : a ≤ 570) (hi : i < 8) (h : Iq dd ww S q a nt) (pl f : Nat) (hp : pl < 2) : ∃ j, j < 8 ∧ mUse (mOwn dd S q a (nI i)) q pl f = nI j := by
  have hu := use_small hq hdd ha h (1 - q) f (by omega)
  obtain ⟨-, h2, h3, h4, -, -, -, h8, h9, -, -, -⟩ := h
  rcases (show pl = q ∨ pl = 1 - q by omega) with rfl | rfl
  · have k1 : (mOwn dd S pl a (nI i)).1 12 (2 * pl + pl) = nI (a + dd + 1) := if_pos rfl
    rw [mUse_eq k1 (by omega)]
    show ∃ j, j < 8 ∧ (if f < a + dd + 1 then upd (S.1 10) (1200 * pl + 600 * pl + a + dd) (nI i) (1200 * pl + 600 * pl + f) else if (pl ≠ pl ∧ ¬ S.1 4 pl < 0) ∨ a + dd + 1 = 0 then 0 else upd (S.1 10) (1200 * pl + 600 * pl + a + dd) (nI i) (1200 * pl + 600 * pl + (a + dd + 1) - 1)) = nI j
    split
    · by_cases e : f = a + dd
      · exact ⟨i, hi, if_pos (by omega)⟩
      · rw [upd_ne' (by omega)]; exact h8 f (by omega)
    · split
      · exact ⟨0, by decide, rfl⟩
      · exact ⟨i, hi, if_pos (by omega)⟩
  · obtain ⟨j, hj, e⟩ := hu
    refine ⟨j, hj, ?_⟩
    have k2 : (mOwn dd S q a (nI i)).1 12 (2 * q + (1 - q)) = nI nt := (if_neg (by omega)).trans h3
    rw [← e, mUse_eq k2 (by omega), mUse_eq h3 (by omega)]
    show (if f < nt then upd (S.1 10) (1200 * q + 600 * q + a + dd) (nI i) (1200 * q + 600 * (1 - q) + f) else if (1 - q ≠ q ∧ ¬ S.1 4 q < 0) ∨ nt = 0 then 0 else upd (S.1 10) (1200 * q + 600 * q + a + dd) (nI i) (1200 * q + 600 * (1 - q) + nt - 1)) = _
    split
    · rw [upd_ne' (by omega)]
    · split
      · rfl
      · rw [upd_ne' (by omega)]
theorem OwS_own {dd : Nat} {S : SS} {q a i : Nat} {gO : Nat → Int32} (ha : a + dd < 1000) (h : OwS S q (a + dd) gO) : OwS (mOwn dd S q a (nI i)) q (a + dd + 1) (upd gO ((a + dd) % 1024) (nI i)) := by
  intro f hf
  show upd gO _ (nI i) f = upd (S.1 10) (1200 * q + 600 * q + a + dd) (nI i) (1200 * q + 600 * q + f)
  rw [Nat.mod_eq_of_lt (by omega)]
  by_cases e : f = a + dd
  · unfold upd; rw [if_pos e, if_pos (by omega)]
  · rw [upd_ne' e, upd_ne' (by omega)]; exact h f (by omega)
theorem OtS_own {dd : Nat} {S : SS} {q a nt i : Nat} {gT : Nat → Int32} (hq : q < 2) (ha : a + dd < 600) (hn : nt ≤ 600) (h : OtS S q nt gT) : OtS (mOwn dd S q a (nI i)) q nt gT := by
  intro f h1 h2
  show _ = upd (S.1 10) (1200 * q + 600 * q + a + dd) (nI i) (1200 * q + 600 * (1 - q) + f)
  rw [upd_ne' (by omega)]
  exact h f h1 h2
theorem i8_nI {i : Nat} (hi : i < 8) : (nI i).toInt8.toInt32 = nI i := by
  rcases (show i = 0 ∨ i = 1 ∨ i = 2 ∨ i = 3 ∨ i = 4 ∨ i = 5 ∨ i = 6 ∨ i = 7 by omega) with rfl | rfl | rfl | rfl | rfl | rfl | rfl | rfl <;> decide
set_option maxHeartbeats 4000000 in
set_option maxRecDepth 100000 in
/-- Peer.goOn, waiting -/
theorem c_goOn_s (l : Launch) (D : va_G) (cs : Nat → ClassId) (ad : Nat → Nat) (n : Nat) (hJ : Inj ad n) (M : Nat → va_E) (k r1 r2 q ww a dd nt : Nat) (S : SS) (hk : k + 58 ≤ n) (hq : q < 2) (hdd : dd ≤ 4) (hw1 : 1 ≤ ww) (hw2 : ww ≤ 8) (ha : a ≤ 560) (hI : Iq dd ww S q a nt) (i : Nat) (hPe : PeS ad cs k r1 r2 q ww S M a (a + dd) nt) (hst : mStall ww S q) : CTi l yX3_goOn wsX3_goOn ({ frames := 5, cells := 0, slots := 0, locals := 130 }) D cs ad n M [.ref (ad k), .int (nI i)] (fun r M2 => r = rAdv ww S q ∧ PeS ad cs k r1 r2 q ww (mAdv dd ww S q (nI i)) M2 a (a + dd) nt ∧ ∀ j, (j < k ∨ k + 58 ≤ j) → M2 j = M j) := by
  refine Met.ofW (cc := cX3_goOn) (maxL := 2) (ret := (some .int)) (by decide) rfl ?_
  intro p e s m args below meth c s₁ B hml hv
  obtain ⟨rfl, hP, hK⟩ := hv
  have hx := B.exec
  have hb := B.bytes
  have hr := B.returns
  have hts := atoms_spec (ws := wsX3_goOn) B.pre
  have hown : s.vm.findClass RX3 = some m.cls := findClass_of_methodNamed B.named
  have hlocks := B.notSynchronized
  have hS : va_S (Ad ad n) s.heap s.heap [] := va_S.rf
  have hl := lv_entry ([.ref (ad k), .int (nI i)]) (n := 2) (Nat.le_of_ble_eq_true rfl)
  rw [lg_entry_eq]
  generalize (lg_sl ([.ref (ad k), .int (nI i)]) ++ List.replicate (2 - (lg_sl ([.ref (ad k), .int (nI i)])).length) Slot.unset).toArray = ls at hl ⊢
  have hl : lv_has ls 2 [(0, .ref (ad k)), (1, .int (nI i))] := hl
  have inX3 : ∀ w ∈ u_ws RX3 TX3 14, w ∈ wsX3_goOn := fun w h => List.mem_cons_of_mem _ (List.mem_append_left _ (List.mem_append_left _ (List.mem_append_left _ (List.mem_append_left _ (List.mem_append_left _ (List.mem_append_right _ h))))))
  have inX1 : ∀ w ∈ u_ws RX1 TX1 3, w ∈ wsX3_goOn := fun w h => List.mem_cons_of_mem _ (List.mem_append_left _ (List.mem_append_left _ (List.mem_append_left _ (List.mem_append_left _ (List.mem_append_right _ h)))))
  have hPe2 := hPe
  obtain ⟨X, V, hh, wk, U, gO, gT, h1, hH, hR, h2, h3, hOw, h4, h5, hOt⟩ := hPe
  obtain ⟨I1, I2, I3, I4, I5, I6, ⟨tt, I7, I8⟩, I9, I10, I11, I12, I13⟩ := id hI
  have hs2 : ¬ nI a - nI nt < nI ww := by have z := hst.2; rw [I1, I3] at z; exact z
  have hs3 : ¬ ((a : Int) - nt < ww) := fun z => hs2 ((st_le (by omega) (by omega) (by omega)).mpr z)
  have hs4 := I5 hst.1
  refine lv_aload_n hx hb dX3_goOn_0 rfl (lv_at hl 0 rfl) ?_
  refine m_get hx hb hts inX3 hown hK hP (ci := 3) rfl (k := k) (by omega) h1 5 (by decide) (hts (.fieldLink RX3 41 "RollbackPair$Peer" "others" "LRollbackPair$Inputs;") (by decide +kernel)) rfl dX3_goOn_1 ?_
  refine m_get hx hb hts inX1 hown hK hP (ci := 1) rfl (k := (k + 56)) (by omega) h4 2 (by decide) (hts (.fieldLink RX3 61 "RollbackPair$Inputs" "ended" "Z") (by decide +kernel)) rfl dX3_goOn_4 ?_
  refine lv_if_ne (tgt := 35) hx hb dX3_goOn_7 (by decide) (fun c1 => absurd (Int32.not_lt.mp ((edOf_0 S q).mp c1)) hst.1) (fun c1 => ?_)
  refine lv_aload_n hx hb dX3_goOn_10 rfl (lv_at hl 0 rfl) ?_
  refine m_get hx hb hts inX3 hown hK hP (ci := 3) rfl (k := k) (by omega) h1 7 (by decide) (hts (.fieldLink RX3 51 "RollbackPair$Peer" "at" "I") (by decide +kernel)) rfl dX3_goOn_11 ?_
  refine lv_aload_n hx hb dX3_goOn_14 rfl (lv_at hl 0 rfl) ?_
  refine m_get hx hb hts inX3 hown hK hP (ci := 3) rfl (k := k) (by omega) h1 5 (by decide) (hts (.fieldLink RX3 41 "RollbackPair$Peer" "others" "LRollbackPair$Inputs;") (by decide +kernel)) rfl dX3_goOn_15 ?_
  refine m_get hx hb hts inX1 hown hK hP (ci := 1) rfl (k := (k + 56)) (by omega) h4 1 (by decide) (hts (.fieldLink RX3 58 "RollbackPair$Inputs" "count" "I") (by decide +kernel)) rfl dX3_goOn_18 ?_
  refine lv_isub hx hb dX3_goOn_21 ?_
  refine lv_aload_n hx hb dX3_goOn_22 rfl (lv_at hl 0 rfl) ?_
  refine m_get hx hb hts inX3 hown hK hP (ci := 3) rfl (k := k) (by omega) h1 1 (by decide) (hts (.fieldLink RX3 22 "RollbackPair$Peer" "window" "I") (by decide +kernel)) rfl dX3_goOn_23 ?_
  refine lv_icmp_lt (tgt := 35) hx hb dX3_goOn_26 (by decide) (fun c2 => absurd c2 hs2) (fun c2 => ?_)
  refine lv_aload_n hx hb dX3_goOn_29 rfl (lv_at hl 0 rfl) ?_
  refine k_Vv (As := []) (rest := []) (k := k) (ci := 3) ⟨hx, hb, hml, hown, hts⟩ hK hP hS Ad_le (c_stall l D cs ad n hJ M k r1 r2 q ww a dd nt S hk hq hdd hw1 hw2 ha hI hPe2 (by omega) (by omega)) (cwV 0 hts gX3_goOn_X3_stall rfl rfl rfl (by decide +kernel) ⟨Nat.le_of_ble_eq_true rfl, Nat.le_of_ble_eq_true rfl⟩) (by omega) h1 rfl rfl rfl hl.1 (Nat.le_of_ble_eq_true rfl) dX3_goOn_30 ⟨Nat.le_of_ble_eq_true rfl, Nat.le_of_ble_eq_true rfl⟩ (fun N1 H locs hpo hP hS _ _ => ?_)
  refine lv_iconst (v := (-1)) hx hb dX3_goOn_33 (by decide) ?_
  have e1 : mAdv dd ww S q (nI i) = if S.1 3 q + nI 1 = nI 12 then mAgain (mCut S q) q a nt else mSt1 S q := by unfold mAdv; rw [if_pos hst, I1, I3, tn_nI (by omega), tn_nI (by omega)]
  rw [e1]
  exact r_i hx hb hr hlocks hK hP hS dX3_goOn_34 ⟨by unfold rAdv; rw [if_pos hst], hpo⟩
set_option maxHeartbeats 4000000 in
set_option maxRecDepth 100000 in
/-- Peer.goOn -/
theorem c_goOn (l : Launch) (D : va_G) (cs : Nat → ClassId) (ad : Nat → Nat) (n : Nat) (hJ : Inj ad n) (M : Nat → va_E) (k r1 r2 q ww a dd nt : Nat) (S : SS) (hk : k + 58 ≤ n) (hq : q < 2) (hdd : dd ≤ 4) (hw1 : 1 ≤ ww) (hw2 : ww ≤ 8) (ha : a ≤ 560) (hI : Iq dd ww S q a nt) (i : Nat) (hi : i < 8) (hr2 : r2 + 14 ≤ k) (hPe : PeS ad cs k r1 r2 q ww S M a (a + dd) nt) (hRw : RwS ad cs r2 M S (1 - q)) (hsh : sh (S.1 8 q)) (hst : ¬ mStall ww S q) : CTi l yX3_goOn wsX3_goOn ({ frames := 5, cells := 0, slots := 0, locals := 130 }) D cs ad n M [.ref (ad k), .int (nI i)] (fun r M2 => r = rAdv ww S q ∧ PeS ad cs k r1 r2 q ww (mAdv dd ww S q (nI i)) M2 (a + 1) (a + 1 + dd) nt ∧ RwS ad cs r2 M2 (mAdv dd ww S q (nI i)) (1 - q) ∧ ∀ j, (j < k ∨ k + 58 ≤ j) → (j < r2 ∨ r2 + 14 ≤ j) → M2 j = M j) := by
  refine Met.ofW (cc := cX3_goOn) (maxL := 2) (ret := (some .int)) (by decide) rfl ?_
  intro p e s m args below meth c s₁ B hml hv
  obtain ⟨rfl, hP, hK⟩ := hv
  have hx := B.exec
  have hb := B.bytes
  have hr := B.returns
  have hts := atoms_spec (ws := wsX3_goOn) B.pre
  have hown : s.vm.findClass RX3 = some m.cls := findClass_of_methodNamed B.named
  have hlocks := B.notSynchronized
  have hS : va_S (Ad ad n) s.heap s.heap [] := va_S.rf
  have hl := lv_entry ([.ref (ad k), .int (nI i)]) (n := 2) (Nat.le_of_ble_eq_true rfl)
  rw [lg_entry_eq]
  generalize (lg_sl ([.ref (ad k), .int (nI i)]) ++ List.replicate (2 - (lg_sl ([.ref (ad k), .int (nI i)])).length) Slot.unset).toArray = ls at hl ⊢
  have hl : lv_has ls 2 [(0, .ref (ad k)), (1, .int (nI i))] := hl
  have inX3 : ∀ w ∈ u_ws RX3 TX3 14, w ∈ wsX3_goOn := fun w h => List.mem_cons_of_mem _ (List.mem_append_left _ (List.mem_append_left _ (List.mem_append_left _ (List.mem_append_left _ (List.mem_append_left _ (List.mem_append_right _ h))))))
  have inX1 : ∀ w ∈ u_ws RX1 TX1 3, w ∈ wsX3_goOn := fun w h => List.mem_cons_of_mem _ (List.mem_append_left _ (List.mem_append_left _ (List.mem_append_left _ (List.mem_append_left _ (List.mem_append_right _ h)))))
  obtain ⟨X, V, hh, wk, U, gO, gT, h1, hH, hR, h2, h3, hOw, h4, h5, hOt⟩ := hPe
  obtain ⟨I1, I2, I3, I4, I5, I6, ⟨tt, I7, I8⟩, I9, I10, I11, I12, I13⟩ := id hI
  rw [I7] at h1
  have e1 : mAdv dd ww S q (nI i) = mSend (mGo dd S q a (nI i)) q := by unfold mAdv; rw [if_neg hst, I1, tn_nI (by omega)]
  have e2 : rAdv ww S q = nI a := by unfold rAdv; rw [if_neg hst, I1]
  rw [e1, e2]
  have k1 : (mOwn dd S q a (nI i)).1 12 (2 * q + q) = nI (a + dd + 1) := if_pos rfl
  have k2 : (mOwn dd S q a (nI i)).1 12 (2 * q + (1 - q)) = nI nt := (if_neg (by omega)).trans I3
  have w1 := OwS_own (i := i) (by omega) hOw
  have w2 := OtS_own (dd := dd) (a := a) (i := i) hq (by omega) (by omega) hOt
  generalize hgo : upd gO ((a + dd) % 1024) (nI i) = gO2 at w1
  refine lv_aload_n hx hb dX3_goOn_0 rfl (lv_at hl 0 rfl) ?_
  refine m_get hx hb hts inX3 hown hK hP (ci := 3) rfl (k := k) (by omega) h1 5 (by decide) (hts (.fieldLink RX3 41 "RollbackPair$Peer" "others" "LRollbackPair$Inputs;") (by decide +kernel)) rfl dX3_goOn_1 ?_
  refine m_get hx hb hts inX1 hown hK hP (ci := 1) rfl (k := (k + 56)) (by omega) h4 2 (by decide) (hts (.fieldLink RX3 61 "RollbackPair$Inputs" "ended" "Z") (by decide +kernel)) rfl dX3_goOn_4 ?_
  refine lv_if_ne (tgt := 35) hx hb dX3_goOn_7 (by decide) (fun c1 => ?_) (fun c1 => ?_)
  · refine lv_aload_n hx hb dX3_goOn_35 rfl (lv_at hl 0 rfl) ?_
    refine m_get hx hb hts inX3 hown hK hP (ci := 3) rfl (k := k) (by omega) h1 4 (by decide) (hts (.fieldLink RX3 37 "RollbackPair$Peer" "own" "LRollbackPair$Inputs;") (by decide +kernel)) rfl dX3_goOn_36 ?_
    refine lv_iload_n hx hb dX3_goOn_39 rfl (lv_at hl 1 rfl) ?_
    refine k_Vv (As := [.int (nI i)]) (rest := []) (k := (k + 54)) (ci := 1) ⟨hx, hb, hml, hown, hts⟩ hK hP hS Ad_le (c_learn l D cs ad n hJ M (k + 54) (k + 55) 1024 10 (a + dd) gO 0 (by omega) (by omega) (by omega) rfl (by decide) (by omega) h2 h3 (nI i) (i8_nI hi)) (cwV 1 hts gX3_goOn_X1_learn rfl rfl rfl (by decide +kernel) ⟨Nat.le_of_ble_eq_true rfl, Nat.le_of_ble_eq_true rfl⟩) (by omega) h2 rfl rfl rfl hl.1 (Nat.le_of_ble_eq_true rfl) dX3_goOn_40 ⟨Nat.le_of_ble_eq_true rfl, Nat.le_of_ble_eq_true rfl⟩ (fun N1 H locs hpo hP hS _ _ => ?_)
    rw [hgo] at hpo
    have b1 : N1 (k + 54) = oIn ad (k + 55) (a + dd + 1) 0 := by rw [hpo]; exact va_up_self _ _ _
    have b2 : N1 (k + 55) = eB cs 1024 gO2 := by rw [hpo, va_up_ne _ _ (by omega)]; exact va_up_self _ _ _
    have b3 : ∀ j, j ≠ k + 54 → j ≠ k + 55 → N1 j = M j := fun j z1 z2 => by rw [hpo, va_up_ne _ _ z1, va_up_ne _ _ z2]
    have h1_1 : N1 k = .inr (3, [.int (nI q), .int (nI ww), .ref (ad r1), .ref (ad r2), .ref (ad (k + 54)), .ref (ad (k + 56)), .ref (ad (k + 1)), .int (nI a), .int (S.1 3 q), .int (nI tt), .int (S.1 8 q), .int (S.1 7 q), .int (S.1 6 q), .float (S.2.1 9 q)]) := (b3 _ (by omega) (by omega)).trans h1
    have h1_4 : N1 (k + 56) = .inr (1, [.ref (ad (k + 57)), .int (nI nt), .int (edOf S q)]) := (b3 _ (by omega) (by omega)).trans h4
    have h1_5 : N1 (k + 57) = eB cs 32 gT := (b3 _ (by omega) (by omega)).trans h5
    have hH2 : HiA ad cs (k + 1) N1 X V hh wk U := hH.kept (fun j z1 z2 => b3 j (by omega) (by omega))
    refine lv_aload_n hx hb dX3_goOn_43 rfl (lv_at hl 0 rfl) ?_
    refine lv_aload_n hx hb dX3_goOn_44 rfl (lv_at hl 0 rfl) ?_
    refine m_get hx hb hts inX3 hown hK hP (ci := 3) rfl (k := k) (by omega) h1_1 7 (by decide) (hts (.fieldLink RX3 51 "RollbackPair$Peer" "at" "I") (by decide +kernel)) rfl dX3_goOn_45 ?_
    refine lv_aload_n hx hb dX3_goOn_48 rfl (lv_at hl 0 rfl) ?_
    refine m_get hx hb hts inX3 hown hK hP (ci := 3) rfl (k := k) (by omega) h1_1 7 (by decide) (hts (.fieldLink RX3 51 "RollbackPair$Peer" "at" "I") (by decide +kernel)) rfl dX3_goOn_49 ?_
    refine lv_iconst (v := nI 1) hx hb dX3_goOn_52 (by decide) ?_
    refine n_add hx hb dX3_goOn_53 ?_
    refine k_Vv (As := [.int (nI a), .int (nI (a + 1))]) (rest := []) (k := k) (ci := 3) ⟨hx, hb, hml, hown, hts⟩ hK hP hS Ad_le (c_playFrames l D cs ad n hJ N1 k r1 r2 q ww a (S.1 3 q) (nI tt) (S.1 8 q) (S.1 7 q) (S.1 6 q) (S.2.1 9 q) hk hq (by omega) h1_1 (a + dd + 1) nt (edOf (mOwn dd S q a (nI i)) q) gO2 gT (by omega) (by omega) b1 b2 h1_4 h1_5 X V hh wk U hH2 (mOwn dd S q a (nI i)) a (a + 1) (a - 15) a (HR_c hR rfl rfl ⟨rfl, rfl, rfl, rfl⟩ rfl) (by omega) (by omega) (by omega) (by omega) (by omega) (fun f z1 z2 => use_own w1 k1 (by omega) f) (fun f z1 z2 => use_oth hq w2 k2 (by omega) (by omega)) (fun pl f hp _ _ => own_small hq hdd (by omega) hi hI pl f hp) (BdAt_of rfl (I12 a (Nat.le_refl a)))) (cwV 2 hts gX3_goOn_X3_playFrames rfl rfl rfl (by decide +kernel) ⟨Nat.le_of_ble_eq_true rfl, Nat.le_of_ble_eq_true rfl⟩) (by omega) h1_1 rfl rfl rfl hl.1 (Nat.le_of_ble_eq_true rfl) dX3_goOn_54 ⟨Nat.le_of_ble_eq_true rfl, Nat.le_of_ble_eq_true rfl⟩ (fun N2 H locs hpo hP hS _ _ => ?_)
    obtain ⟨X2, V2, hh2, wk2, U2, q1, q2, q3⟩ := hpo
    rw [show a + 1 - a = 1 by omega, show max (a - 15) (a + 1 - 15) = a + 1 - 15 by omega, show max a (a + 1) = a + 1 by omega] at q2
    have q4 : HR (mPlay (mOwn dd S q a (nI i)) q a) q (a + 1 - 15) (a + 1) X2 V2 hh2 wk2 U2 := q2
    have h2_1 : N2 k = .inr (3, [.int (nI q), .int (nI ww), .ref (ad r1), .ref (ad r2), .ref (ad (k + 54)), .ref (ad (k + 56)), .ref (ad (k + 1)), .int (nI a), .int (S.1 3 q), .int (nI tt), .int (S.1 8 q), .int (S.1 7 q), .int (S.1 6 q), .float (S.2.1 9 q)]) := (q3 _ (by omega)).trans h1_1
    have h2_2 : N2 (k + 54) = .inr (1, [.ref (ad (k + 55)), .int (nI (a + dd + 1)), .int 0]) := (q3 _ (by omega)).trans b1
    have h2_3 : N2 (k + 55) = eB cs 1024 gO2 := (q3 _ (by omega)).trans b2
    have h2_4 : N2 (k + 56) = .inr (1, [.ref (ad (k + 57)), .int (nI nt), .int (edOf S q)]) := (q3 _ (by omega)).trans h1_4
    have h2_5 : N2 (k + 57) = eB cs 32 gT := (q3 _ (by omega)).trans h1_5
    refine lv_aload_n hx hb dX3_goOn_57 rfl (lv_at hl 0 rfl) ?_
    refine lv_dup hx hb dX3_goOn_58 rfl ?_
    refine m_get hx hb hts inX3 hown hK hP (ci := 3) rfl (k := k) (by omega) h2_1 7 (by decide) (hts (.fieldLink RX3 51 "RollbackPair$Peer" "at" "I") (by decide +kernel)) rfl dX3_goOn_59 ?_
    refine lv_iconst (v := nI 1) hx hb dX3_goOn_62 (by decide) ?_
    refine n_add hx hb dX3_goOn_63 ?_
    refine m_put hx hb hts inX3 tyX3 tyX3_ok nmX3 hown hK hP hJ hS (ci := 3) rfl (k := k) (by omega) h2_1 7 (by decide) (hts (.fieldLink RX3 51 "RollbackPair$Peer" "at" "I") (by decide +kernel)) rfl rfl rfl (Nat.le_of_ble_eq_true rfl) (fs' := [.int (nI q), .int (nI ww), .ref (ad r1), .ref (ad r2), .ref (ad (k + 54)), .ref (ad (k + 56)), .ref (ad (k + 1)), .int (nI (a + 1)), .int (S.1 3 q), .int (nI tt), .int (S.1 8 q), .int (S.1 7 q), .int (S.1 6 q), .float (S.2.1 9 q)]) rfl dX3_goOn_64 (fun H locs hP hS => ?_)
    obtain ⟨M_3, eM_3⟩ : ∃ z, z = va_up N2 k (.inr (3, [.int (nI q), .int (nI ww), .ref (ad r1), .ref (ad r2), .ref (ad (k + 54)), .ref (ad (k + 56)), .ref (ad (k + 1)), .int (nI (a + 1)), .int (S.1 3 q), .int (nI tt), .int (S.1 8 q), .int (S.1 7 q), .int (S.1 6 q), .float (S.2.1 9 q)])) := ⟨_, rfl⟩
    rw [← eM_3] at hP
    have h3_1 : M_3 k = .inr (3, [.int (nI q), .int (nI ww), .ref (ad r1), .ref (ad r2), .ref (ad (k + 54)), .ref (ad (k + 56)), .ref (ad (k + 1)), .int (nI (a + 1)), .int (S.1 3 q), .int (nI tt), .int (S.1 8 q), .int (S.1 7 q), .int (S.1 6 q), .float (S.2.1 9 q)]) := by rw [eM_3]; exact va_up_self _ _ _
    have h3_2 : M_3 (k + 54) = .inr (1, [.ref (ad (k + 55)), .int (nI (a + dd + 1)), .int 0]) := by rw [eM_3]; exact (va_up_ne _ _ (by omega)).trans h2_2
    have h3_3 : M_3 (k + 55) = eB cs 1024 gO2 := by rw [eM_3]; exact (va_up_ne _ _ (by omega)).trans h2_3
    have h3_4 : M_3 (k + 56) = .inr (1, [.ref (ad (k + 57)), .int (nI nt), .int (edOf S q)]) := by rw [eM_3]; exact (va_up_ne _ _ (by omega)).trans h2_4
    have h3_5 : M_3 (k + 57) = eB cs 32 gT := by rw [eM_3]; exact (va_up_ne _ _ (by omega)).trans h2_5
    refine lv_aload_n hx hb dX3_goOn_67 rfl (lv_at hl 0 rfl) ?_
    have b4 : ∀ j, (j < k ∨ k + 58 ≤ j) → M_3 j = M j := fun j z1 => by rw [eM_3, va_up_ne _ _ (by omega), q3 j (by omega), b3 j (by omega) (by omega)]
    generalize hS2 : mGo dd S q a (nI i) = S2
    have g1 : ∀ j, j ≠ 2 → j ≠ 10 → j ≠ 11 → j ≠ 12 → j ≠ 17 → S2.1 j = S.1 j := fun j a1 a2 a3 a4 a5 => by rw [← hS2]; show va_up (mPlay (mOwn dd S q a (nI i)) q a).1 2 _ j = _; rw [va_up_ne _ _ a1, mPlay_k _ _ _ ⟨a3, a5⟩]; show va_up (va_up S.1 10 _) 12 _ j = _; rw [va_up_ne _ _ a4, va_up_ne _ _ a2]
    have g2 : S2.1 2 q = nI (a + 1) := by rw [← hS2]; exact if_pos rfl
    have g3 : ∀ j, j ≠ 2 → S2.1 j = (mPlay (mOwn dd S q a (nI i)) q a).1 j := fun j z => by rw [← hS2]; exact va_up_ne _ _ z
    have g4 : S2.2 = (mPlay (mOwn dd S q a (nI i)) q a).2 := by rw [← hS2]; rfl
    have g5 : S2.2.1 9 = S.2.1 9 := by rw [g4]; rfl
    have g6 : S2.2.2.1 = S.2.2.1 := by rw [g4]; rfl
    have g7 : S2.1 12 = (mOwn dd S q a (nI i)).1 12 := by rw [g3 12 (by decide)]; exact mPlay_k _ _ _ (by decide)
    have g8 : S2.1 10 = (mOwn dd S q a (nI i)).1 10 := by rw [g3 10 (by decide)]; exact mPlay_k _ _ _ (by decide)
    have gs : ∀ j, spk S2 j = spk S j := fun j => by unfold spk; rw [g1 20 (by decide) (by decide) (by decide) (by decide) (by decide), g1 21 (by decide) (by decide) (by decide) (by decide) (by decide), g1 22 (by decide) (by decide) (by decide) (by decide) (by decide), g1 23 (by decide) (by decide) (by decide) (by decide) (by decide), g1 24 (by decide) (by decide) (by decide) (by decide) (by decide), g1 26 (by decide) (by decide) (by decide) (by decide) (by decide), g6]
    have hRw2 : RwS ad cs r2 M_3 S2 (1 - q) := RwS_c (hRw.kept (fun j z1 z2 => b4 j (by omega))) (by rw [g1 19 (by decide) (by decide) (by decide) (by decide) (by decide)]) (fun j _ _ => gs j)
    have h1b : M_3 k = oPe ad k r1 r2 q ww (a + 1) (S2.1 3 q) (nI tt) (S2.1 8 q) (S2.1 7 q) (S2.1 6 q) (S2.2.1 9 q) := by rw [g1 3 (by decide) (by decide) (by decide) (by decide) (by decide), g1 8 (by decide) (by decide) (by decide) (by decide) (by decide), g1 7 (by decide) (by decide) (by decide) (by decide) (by decide), g1 6 (by decide) (by decide) (by decide) (by decide) (by decide), g5]; exact h3_1
    refine k_Vv (As := []) (rest := []) (k := k) (ci := 3) ⟨hx, hb, hml, hown, hts⟩ hK hP hS Ad_le (c_sendPacket l D cs ad n hJ M_3 k r1 r2 q ww (a + 1) (a + dd + 1) nt tt S2 gO2 (edOf S q) hk hr2 hq (by omega) (by omega) (by omega) (by omega) g2 (by rw [g7]; exact k1) (by rw [g7]; exact k2) (by rw [g1 5 (by decide) (by decide) (by decide) (by decide) (by decide)]; exact I7) (by rw [g1 8 (by decide) (by decide) (by decide) (by decide) (by decide)]; exact hsh) h1b h3_2 h3_3 (OwS_c w1 g8) h3_4 hRw2) (cwV 0 hts gX3_goOn_X3_sendPacket rfl rfl rfl (by decide +kernel) ⟨Nat.le_of_ble_eq_true rfl, Nat.le_of_ble_eq_true rfl⟩) (by omega) h3_1 rfl rfl rfl hl.1 (Nat.le_of_ble_eq_true rfl) dX3_goOn_68 ⟨Nat.le_of_ble_eq_true rfl, Nat.le_of_ble_eq_true rfl⟩ (fun N3 H locs hpo hP hS _ _ => ?_)
    obtain ⟨p1, p2, p3⟩ := hpo
    have h4_2 : N3 (k + 54) = .inr (1, [.ref (ad (k + 55)), .int (nI (a + dd + 1)), .int 0]) := (p3 _ (by omega) (by omega)).trans h3_2
    have h4_3 : N3 (k + 55) = eB cs 1024 gO2 := (p3 _ (by omega) (by omega)).trans h3_3
    have h4_4 : N3 (k + 56) = .inr (1, [.ref (ad (k + 57)), .int (nI nt), .int (edOf S q)]) := (p3 _ (by omega) (by omega)).trans h3_4
    have h4_5 : N3 (k + 57) = eB cs 32 gT := (p3 _ (by omega) (by omega)).trans h3_5
    refine lv_aload_n hx hb dX3_goOn_71 rfl (lv_at hl 0 rfl) ?_
    refine m_get hx hb hts inX3 hown hK hP (ci := 3) rfl (k := k) (by omega) p1 7 (by decide) (hts (.fieldLink RX3 51 "RollbackPair$Peer" "at" "I") (by decide +kernel)) rfl dX3_goOn_72 ?_
    refine lv_iconst (v := nI 1) hx hb dX3_goOn_75 (by decide) ?_
    refine n_sub hx hb (by omega) dX3_goOn_76 ?_
    have m9 := mSend_F S2 q
    refine r_i hx hb hr hlocks hK hP hS dX3_goOn_77 ⟨rfl, ⟨X2, V2, hh2, wk2, U2, gO2, gT, ?_, ?_, ?_, ?_, h4_3, OwS_c (OwS_c (by rw [show a + 1 + dd = a + dd + 1 by omega]; exact w1) g8) (mSend_k (by decide)), ?_, h4_5, OtS_c (OtS_c w2 g8) (mSend_k (by decide))⟩, p2, fun j z1 z2 => (p3 j (by omega) z2).trans (b4 j z1)⟩
    · rw [p1, mSend_8, mSend_k (by decide), mSend_k (by decide), mSend_k (by decide), mSend_k (by decide), m9.1, g1 5 (by decide) (by decide) (by decide) (by decide) (by decide), I7, show upd (S2.1 8) q (S2.1 8 q + nI 1).toInt16.toInt32 q = (S2.1 8 q + nI 1).toInt16.toInt32 from if_pos rfl]
    · exact q1.kept (fun j z1 z2 => by rw [p3 j (by omega) (by omega), eM_3, va_up_ne _ _ (by omega)])
    · exact HR_c q4 ((mSend_k (by decide)).trans (g3 11 (by decide))) ((mSend_k (by decide)).trans (g3 17 (by decide))) ⟨by rw [m9.1, g4], by rw [m9.1, g4], by rw [m9.1, g4], by rw [m9.1, g4]⟩ (by rw [m9.2, g4])
    · rw [show a + 1 + dd = a + dd + 1 by omega]; exact h4_2
    · rw [show edOf (mSend S2 q) q = edOf S q by unfold edOf; rw [mSend_k (by decide), g1 4 (by decide) (by decide) (by decide) (by decide) (by decide)]]; exact h4_4
  · refine lv_aload_n hx hb dX3_goOn_10 rfl (lv_at hl 0 rfl) ?_
    refine m_get hx hb hts inX3 hown hK hP (ci := 3) rfl (k := k) (by omega) h1 7 (by decide) (hts (.fieldLink RX3 51 "RollbackPair$Peer" "at" "I") (by decide +kernel)) rfl dX3_goOn_11 ?_
    refine lv_aload_n hx hb dX3_goOn_14 rfl (lv_at hl 0 rfl) ?_
    refine m_get hx hb hts inX3 hown hK hP (ci := 3) rfl (k := k) (by omega) h1 5 (by decide) (hts (.fieldLink RX3 41 "RollbackPair$Peer" "others" "LRollbackPair$Inputs;") (by decide +kernel)) rfl dX3_goOn_15 ?_
    refine m_get hx hb hts inX1 hown hK hP (ci := 1) rfl (k := (k + 56)) (by omega) h4 1 (by decide) (hts (.fieldLink RX3 58 "RollbackPair$Inputs" "count" "I") (by decide +kernel)) rfl dX3_goOn_18 ?_
    refine lv_isub hx hb dX3_goOn_21 ?_
    refine lv_aload_n hx hb dX3_goOn_22 rfl (lv_at hl 0 rfl) ?_
    refine m_get hx hb hts inX3 hown hK hP (ci := 3) rfl (k := k) (by omega) h1 1 (by decide) (hts (.fieldLink RX3 22 "RollbackPair$Peer" "window" "I") (by decide +kernel)) rfl dX3_goOn_23 ?_
    refine lv_icmp_lt (tgt := 35) hx hb dX3_goOn_26 (by decide) (fun c2 => ?_) (fun c2 => absurd (show mStall ww S q from ⟨fun z => (edOf_0 S q).mpr (Int32.not_lt.mpr z) c1, by rw [I1, I3]; exact c2⟩) hst)
    refine lv_aload_n hx hb dX3_goOn_35 rfl (lv_at hl 0 rfl) ?_
    refine m_get hx hb hts inX3 hown hK hP (ci := 3) rfl (k := k) (by omega) h1 4 (by decide) (hts (.fieldLink RX3 37 "RollbackPair$Peer" "own" "LRollbackPair$Inputs;") (by decide +kernel)) rfl dX3_goOn_36 ?_
    refine lv_iload_n hx hb dX3_goOn_39 rfl (lv_at hl 1 rfl) ?_
    refine k_Vv (As := [.int (nI i)]) (rest := []) (k := (k + 54)) (ci := 1) ⟨hx, hb, hml, hown, hts⟩ hK hP hS Ad_le (c_learn l D cs ad n hJ M (k + 54) (k + 55) 1024 10 (a + dd) gO 0 (by omega) (by omega) (by omega) rfl (by decide) (by omega) h2 h3 (nI i) (i8_nI hi)) (cwV 1 hts gX3_goOn_X1_learn rfl rfl rfl (by decide +kernel) ⟨Nat.le_of_ble_eq_true rfl, Nat.le_of_ble_eq_true rfl⟩) (by omega) h2 rfl rfl rfl hl.1 (Nat.le_of_ble_eq_true rfl) dX3_goOn_40 ⟨Nat.le_of_ble_eq_true rfl, Nat.le_of_ble_eq_true rfl⟩ (fun N1 H locs hpo hP hS _ _ => ?_)
    rw [hgo] at hpo
    have b1 : N1 (k + 54) = oIn ad (k + 55) (a + dd + 1) 0 := by rw [hpo]; exact va_up_self _ _ _
    have b2 : N1 (k + 55) = eB cs 1024 gO2 := by rw [hpo, va_up_ne _ _ (by omega)]; exact va_up_self _ _ _
    have b3 : ∀ j, j ≠ k + 54 → j ≠ k + 55 → N1 j = M j := fun j z1 z2 => by rw [hpo, va_up_ne _ _ z1, va_up_ne _ _ z2]
    have h5_1 : N1 k = .inr (3, [.int (nI q), .int (nI ww), .ref (ad r1), .ref (ad r2), .ref (ad (k + 54)), .ref (ad (k + 56)), .ref (ad (k + 1)), .int (nI a), .int (S.1 3 q), .int (nI tt), .int (S.1 8 q), .int (S.1 7 q), .int (S.1 6 q), .float (S.2.1 9 q)]) := (b3 _ (by omega) (by omega)).trans h1
    have h5_4 : N1 (k + 56) = .inr (1, [.ref (ad (k + 57)), .int (nI nt), .int (edOf S q)]) := (b3 _ (by omega) (by omega)).trans h4
    have h5_5 : N1 (k + 57) = eB cs 32 gT := (b3 _ (by omega) (by omega)).trans h5
    have hH2 : HiA ad cs (k + 1) N1 X V hh wk U := hH.kept (fun j z1 z2 => b3 j (by omega) (by omega))
    refine lv_aload_n hx hb dX3_goOn_43 rfl (lv_at hl 0 rfl) ?_
    refine lv_aload_n hx hb dX3_goOn_44 rfl (lv_at hl 0 rfl) ?_
    refine m_get hx hb hts inX3 hown hK hP (ci := 3) rfl (k := k) (by omega) h5_1 7 (by decide) (hts (.fieldLink RX3 51 "RollbackPair$Peer" "at" "I") (by decide +kernel)) rfl dX3_goOn_45 ?_
    refine lv_aload_n hx hb dX3_goOn_48 rfl (lv_at hl 0 rfl) ?_
    refine m_get hx hb hts inX3 hown hK hP (ci := 3) rfl (k := k) (by omega) h5_1 7 (by decide) (hts (.fieldLink RX3 51 "RollbackPair$Peer" "at" "I") (by decide +kernel)) rfl dX3_goOn_49 ?_
    refine lv_iconst (v := nI 1) hx hb dX3_goOn_52 (by decide) ?_
    refine n_add hx hb dX3_goOn_53 ?_
    refine k_Vv (As := [.int (nI a), .int (nI (a + 1))]) (rest := []) (k := k) (ci := 3) ⟨hx, hb, hml, hown, hts⟩ hK hP hS Ad_le (c_playFrames l D cs ad n hJ N1 k r1 r2 q ww a (S.1 3 q) (nI tt) (S.1 8 q) (S.1 7 q) (S.1 6 q) (S.2.1 9 q) hk hq (by omega) h5_1 (a + dd + 1) nt (edOf (mOwn dd S q a (nI i)) q) gO2 gT (by omega) (by omega) b1 b2 h5_4 h5_5 X V hh wk U hH2 (mOwn dd S q a (nI i)) a (a + 1) (a - 15) a (HR_c hR rfl rfl ⟨rfl, rfl, rfl, rfl⟩ rfl) (by omega) (by omega) (by omega) (by omega) (by omega) (fun f z1 z2 => use_own w1 k1 (by omega) f) (fun f z1 z2 => use_oth hq w2 k2 (by omega) (by omega)) (fun pl f hp _ _ => own_small hq hdd (by omega) hi hI pl f hp) (BdAt_of rfl (I12 a (Nat.le_refl a)))) (cwV 2 hts gX3_goOn_X3_playFrames rfl rfl rfl (by decide +kernel) ⟨Nat.le_of_ble_eq_true rfl, Nat.le_of_ble_eq_true rfl⟩) (by omega) h5_1 rfl rfl rfl hl.1 (Nat.le_of_ble_eq_true rfl) dX3_goOn_54 ⟨Nat.le_of_ble_eq_true rfl, Nat.le_of_ble_eq_true rfl⟩ (fun N2 H locs hpo hP hS _ _ => ?_)
    obtain ⟨X2, V2, hh2, wk2, U2, q1, q2, q3⟩ := hpo
    rw [show a + 1 - a = 1 by omega, show max (a - 15) (a + 1 - 15) = a + 1 - 15 by omega, show max a (a + 1) = a + 1 by omega] at q2
    have q4 : HR (mPlay (mOwn dd S q a (nI i)) q a) q (a + 1 - 15) (a + 1) X2 V2 hh2 wk2 U2 := q2
    have h6_1 : N2 k = .inr (3, [.int (nI q), .int (nI ww), .ref (ad r1), .ref (ad r2), .ref (ad (k + 54)), .ref (ad (k + 56)), .ref (ad (k + 1)), .int (nI a), .int (S.1 3 q), .int (nI tt), .int (S.1 8 q), .int (S.1 7 q), .int (S.1 6 q), .float (S.2.1 9 q)]) := (q3 _ (by omega)).trans h5_1
    have h6_2 : N2 (k + 54) = .inr (1, [.ref (ad (k + 55)), .int (nI (a + dd + 1)), .int 0]) := (q3 _ (by omega)).trans b1
    have h6_3 : N2 (k + 55) = eB cs 1024 gO2 := (q3 _ (by omega)).trans b2
    have h6_4 : N2 (k + 56) = .inr (1, [.ref (ad (k + 57)), .int (nI nt), .int (edOf S q)]) := (q3 _ (by omega)).trans h5_4
    have h6_5 : N2 (k + 57) = eB cs 32 gT := (q3 _ (by omega)).trans h5_5
    refine lv_aload_n hx hb dX3_goOn_57 rfl (lv_at hl 0 rfl) ?_
    refine lv_dup hx hb dX3_goOn_58 rfl ?_
    refine m_get hx hb hts inX3 hown hK hP (ci := 3) rfl (k := k) (by omega) h6_1 7 (by decide) (hts (.fieldLink RX3 51 "RollbackPair$Peer" "at" "I") (by decide +kernel)) rfl dX3_goOn_59 ?_
    refine lv_iconst (v := nI 1) hx hb dX3_goOn_62 (by decide) ?_
    refine n_add hx hb dX3_goOn_63 ?_
    refine m_put hx hb hts inX3 tyX3 tyX3_ok nmX3 hown hK hP hJ hS (ci := 3) rfl (k := k) (by omega) h6_1 7 (by decide) (hts (.fieldLink RX3 51 "RollbackPair$Peer" "at" "I") (by decide +kernel)) rfl rfl rfl (Nat.le_of_ble_eq_true rfl) (fs' := [.int (nI q), .int (nI ww), .ref (ad r1), .ref (ad r2), .ref (ad (k + 54)), .ref (ad (k + 56)), .ref (ad (k + 1)), .int (nI (a + 1)), .int (S.1 3 q), .int (nI tt), .int (S.1 8 q), .int (S.1 7 q), .int (S.1 6 q), .float (S.2.1 9 q)]) rfl dX3_goOn_64 (fun H locs hP hS => ?_)
    obtain ⟨M_7, eM_7⟩ : ∃ z, z = va_up N2 k (.inr (3, [.int (nI q), .int (nI ww), .ref (ad r1), .ref (ad r2), .ref (ad (k + 54)), .ref (ad (k + 56)), .ref (ad (k + 1)), .int (nI (a + 1)), .int (S.1 3 q), .int (nI tt), .int (S.1 8 q), .int (S.1 7 q), .int (S.1 6 q), .float (S.2.1 9 q)])) := ⟨_, rfl⟩
    rw [← eM_7] at hP
    have h7_1 : M_7 k = .inr (3, [.int (nI q), .int (nI ww), .ref (ad r1), .ref (ad r2), .ref (ad (k + 54)), .ref (ad (k + 56)), .ref (ad (k + 1)), .int (nI (a + 1)), .int (S.1 3 q), .int (nI tt), .int (S.1 8 q), .int (S.1 7 q), .int (S.1 6 q), .float (S.2.1 9 q)]) := by rw [eM_7]; exact va_up_self _ _ _
    have h7_2 : M_7 (k + 54) = .inr (1, [.ref (ad (k + 55)), .int (nI (a + dd + 1)), .int 0]) := by rw [eM_7]; exact (va_up_ne _ _ (by omega)).trans h6_2
    have h7_3 : M_7 (k + 55) = eB cs 1024 gO2 := by rw [eM_7]; exact (va_up_ne _ _ (by omega)).trans h6_3
    have h7_4 : M_7 (k + 56) = .inr (1, [.ref (ad (k + 57)), .int (nI nt), .int (edOf S q)]) := by rw [eM_7]; exact (va_up_ne _ _ (by omega)).trans h6_4
    have h7_5 : M_7 (k + 57) = eB cs 32 gT := by rw [eM_7]; exact (va_up_ne _ _ (by omega)).trans h6_5
    refine lv_aload_n hx hb dX3_goOn_67 rfl (lv_at hl 0 rfl) ?_
    have b4 : ∀ j, (j < k ∨ k + 58 ≤ j) → M_7 j = M j := fun j z1 => by rw [eM_7, va_up_ne _ _ (by omega), q3 j (by omega), b3 j (by omega) (by omega)]
    generalize hS2 : mGo dd S q a (nI i) = S2
    have g1 : ∀ j, j ≠ 2 → j ≠ 10 → j ≠ 11 → j ≠ 12 → j ≠ 17 → S2.1 j = S.1 j := fun j a1 a2 a3 a4 a5 => by rw [← hS2]; show va_up (mPlay (mOwn dd S q a (nI i)) q a).1 2 _ j = _; rw [va_up_ne _ _ a1, mPlay_k _ _ _ ⟨a3, a5⟩]; show va_up (va_up S.1 10 _) 12 _ j = _; rw [va_up_ne _ _ a4, va_up_ne _ _ a2]
    have g2 : S2.1 2 q = nI (a + 1) := by rw [← hS2]; exact if_pos rfl
    have g3 : ∀ j, j ≠ 2 → S2.1 j = (mPlay (mOwn dd S q a (nI i)) q a).1 j := fun j z => by rw [← hS2]; exact va_up_ne _ _ z
    have g4 : S2.2 = (mPlay (mOwn dd S q a (nI i)) q a).2 := by rw [← hS2]; rfl
    have g5 : S2.2.1 9 = S.2.1 9 := by rw [g4]; rfl
    have g6 : S2.2.2.1 = S.2.2.1 := by rw [g4]; rfl
    have g7 : S2.1 12 = (mOwn dd S q a (nI i)).1 12 := by rw [g3 12 (by decide)]; exact mPlay_k _ _ _ (by decide)
    have g8 : S2.1 10 = (mOwn dd S q a (nI i)).1 10 := by rw [g3 10 (by decide)]; exact mPlay_k _ _ _ (by decide)
    have gs : ∀ j, spk S2 j = spk S j := fun j => by unfold spk; rw [g1 20 (by decide) (by decide) (by decide) (by decide) (by decide), g1 21 (by decide) (by decide) (by decide) (by decide) (by decide), g1 22 (by decide) (by decide) (by decide) (by decide) (by decide), g1 23 (by decide) (by decide) (by decide) (by decide) (by decide), g1 24 (by decide) (by decide) (by decide) (by decide) (by decide), g1 26 (by decide) (by decide) (by decide) (by decide) (by decide), g6]
    have hRw2 : RwS ad cs r2 M_7 S2 (1 - q) := RwS_c (hRw.kept (fun j z1 z2 => b4 j (by omega))) (by rw [g1 19 (by decide) (by decide) (by decide) (by decide) (by decide)]) (fun j _ _ => gs j)
    have h1b : M_7 k = oPe ad k r1 r2 q ww (a + 1) (S2.1 3 q) (nI tt) (S2.1 8 q) (S2.1 7 q) (S2.1 6 q) (S2.2.1 9 q) := by rw [g1 3 (by decide) (by decide) (by decide) (by decide) (by decide), g1 8 (by decide) (by decide) (by decide) (by decide) (by decide), g1 7 (by decide) (by decide) (by decide) (by decide) (by decide), g1 6 (by decide) (by decide) (by decide) (by decide) (by decide), g5]; exact h7_1
    refine k_Vv (As := []) (rest := []) (k := k) (ci := 3) ⟨hx, hb, hml, hown, hts⟩ hK hP hS Ad_le (c_sendPacket l D cs ad n hJ M_7 k r1 r2 q ww (a + 1) (a + dd + 1) nt tt S2 gO2 (edOf S q) hk hr2 hq (by omega) (by omega) (by omega) (by omega) g2 (by rw [g7]; exact k1) (by rw [g7]; exact k2) (by rw [g1 5 (by decide) (by decide) (by decide) (by decide) (by decide)]; exact I7) (by rw [g1 8 (by decide) (by decide) (by decide) (by decide) (by decide)]; exact hsh) h1b h7_2 h7_3 (OwS_c w1 g8) h7_4 hRw2) (cwV 0 hts gX3_goOn_X3_sendPacket rfl rfl rfl (by decide +kernel) ⟨Nat.le_of_ble_eq_true rfl, Nat.le_of_ble_eq_true rfl⟩) (by omega) h7_1 rfl rfl rfl hl.1 (Nat.le_of_ble_eq_true rfl) dX3_goOn_68 ⟨Nat.le_of_ble_eq_true rfl, Nat.le_of_ble_eq_true rfl⟩ (fun N3 H locs hpo hP hS _ _ => ?_)
    obtain ⟨p1, p2, p3⟩ := hpo
    have h8_2 : N3 (k + 54) = .inr (1, [.ref (ad (k + 55)), .int (nI (a + dd + 1)), .int 0]) := (p3 _ (by omega) (by omega)).trans h7_2
    have h8_3 : N3 (k + 55) = eB cs 1024 gO2 := (p3 _ (by omega) (by omega)).trans h7_3
    have h8_4 : N3 (k + 56) = .inr (1, [.ref (ad (k + 57)), .int (nI nt), .int (edOf S q)]) := (p3 _ (by omega) (by omega)).trans h7_4
    have h8_5 : N3 (k + 57) = eB cs 32 gT := (p3 _ (by omega) (by omega)).trans h7_5
    refine lv_aload_n hx hb dX3_goOn_71 rfl (lv_at hl 0 rfl) ?_
    refine m_get hx hb hts inX3 hown hK hP (ci := 3) rfl (k := k) (by omega) p1 7 (by decide) (hts (.fieldLink RX3 51 "RollbackPair$Peer" "at" "I") (by decide +kernel)) rfl dX3_goOn_72 ?_
    refine lv_iconst (v := nI 1) hx hb dX3_goOn_75 (by decide) ?_
    refine n_sub hx hb (by omega) dX3_goOn_76 ?_
    have m9 := mSend_F S2 q
    refine r_i hx hb hr hlocks hK hP hS dX3_goOn_77 ⟨rfl, ⟨X2, V2, hh2, wk2, U2, gO2, gT, ?_, ?_, ?_, ?_, h8_3, OwS_c (OwS_c (by rw [show a + 1 + dd = a + dd + 1 by omega]; exact w1) g8) (mSend_k (by decide)), ?_, h8_5, OtS_c (OtS_c w2 g8) (mSend_k (by decide))⟩, p2, fun j z1 z2 => (p3 j (by omega) z2).trans (b4 j z1)⟩
    · rw [p1, mSend_8, mSend_k (by decide), mSend_k (by decide), mSend_k (by decide), mSend_k (by decide), m9.1, g1 5 (by decide) (by decide) (by decide) (by decide) (by decide), I7, show upd (S2.1 8) q (S2.1 8 q + nI 1).toInt16.toInt32 q = (S2.1 8 q + nI 1).toInt16.toInt32 from if_pos rfl]
    · exact q1.kept (fun j z1 z2 => by rw [p3 j (by omega) (by omega), eM_7, va_up_ne _ _ (by omega)])
    · exact HR_c q4 ((mSend_k (by decide)).trans (g3 11 (by decide))) ((mSend_k (by decide)).trans (g3 17 (by decide))) ⟨by rw [m9.1, g4], by rw [m9.1, g4], by rw [m9.1, g4], by rw [m9.1, g4]⟩ (by rw [m9.2, g4])
    · rw [show a + 1 + dd = a + dd + 1 by omega]; exact h8_2
    · rw [show edOf (mSend S2 q) q = edOf S q by unfold edOf; rw [mSend_k (by decide), g1 4 (by decide) (by decide) (by decide) (by decide) (by decide)]]; exact h8_4
