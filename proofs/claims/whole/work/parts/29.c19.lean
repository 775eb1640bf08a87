theorem del2_k {dd ww : Nat} {S : SS} {q a nt : Nat} (hq : q < 2) (hdd : dd ≤ 4) (ha : a ≤ 560) (hI : Iq dd ww S q a nt) : (∀ j, (j = 8 ∨ 19 ≤ j) → (mDel2 S q).1 j = S.1 j) ∧ (mDel2 S q).2.2.1 = S.2.2.1 ∧ (∀ x, (mDel2 S q).1 7 x = S.1 7 x ∨ (mDel2 S q).1 7 x = S.1 20 24) := by
  unfold mDel2
  by_cases hd : dropP S q
  · rw [if_pos hd]; exact ⟨fun _ _ => rfl, rfl, fun _ => Or.inl rfl⟩
  · have hn := hI.2.2.2.1
    rw [if_neg hd, hI.1, hI.2.2.1, tn_nI (by omega), tn_nI (by omega), (rc_eq hq hdd ha hI (fun z => hd (Or.inr (Or.inl z)))).2]
    obtain ⟨f1, f2, f3, f4, f5, f6, f7, -⟩ := lr_facts hq hdd ha hI
    refine ⟨fun j hj => ?_, ?_, fun x => ?_⟩
    · rw [mPlays_k _ _ _ _ (by omega), f5 j (by omega) (by omega) (by omega) (by omega) (by omega) (by omega)]
    · rw [(mPlays_9 _ _ _ _).2, f7]
      unfold mAcc; rw [mTold_2]; rfl
    · rw [mPlays_k _ _ _ _ (by decide), f6 7 (by decide) (by decide)]
      unfold mAcc
      rw [mTold_k (by decide)]
      show upd (S.1 7) q (S.1 20 24) x = _ ∨ upd (S.1 7) q (S.1 20 24) x = _
      unfold upd
      split
      · exact Or.inr rfl
      · exact Or.inl rfl
theorem del2_spk {dd ww : Nat} {S : SS} {q a nt : Nat} (hq : q < 2) (hdd : dd ≤ 4) (ha : a ≤ 560) (hI : Iq dd ww S q a nt) (j : Nat) : spk (mDel2 S q) j = spk S j := by
  obtain ⟨h1, h2, -⟩ := del2_k hq hdd ha hI
  unfold spk
  rw [h1 20 (by decide), h1 21 (by decide), h1 22 (by decide), h1 23 (by decide), h1 24 (by decide), h1 26 (by decide), h2]
set_option maxHeartbeats 4000000 in
set_option maxRecDepth 100000 in
/-- advance, refused -/
theorem c6_advance_no (l : Launch) (D : va_G) (cs : Nat → ClassId) (ad : Nat → Nat) (hJ : Inj ad 146) (M : Nat → va_E) (dd ww N : Nat) (S : SS) (hdd : dd ≤ 4) (hw1 : 1 ≤ ww) (hw2 : ww ≤ 8) (hN : N ≤ 550) (hC : CR dd ww N ad cs M S) (pe i : Int32) (hno : ¬ (pe = 0 ∨ pe = 1) ∨ i < 0 ∨ ¬ i ≤ nI 7) : CTi l yX6_advance wsX6_advance ({ frames := 6, cells := 0, slots := 0, locals := 155 }) D cs ad 146 M [.ref (ad 0), .int pe, .int i] (fun r M2 => M2 = M ∧ r = -2) := by
  refine Met.ofW (cc := cX6_advance) (maxL := 4) (ret := (some .int)) (by decide) rfl ?_
  intro p e s m args below meth c s₁ B hml hv
  obtain ⟨rfl, hP, hK⟩ := hv
  have hx := B.exec
  have hb := B.bytes
  have hr := B.returns
  have hts := atoms_spec (ws := wsX6_advance) B.pre
  have hown : s.vm.findClass RX6 = some m.cls := findClass_of_methodNamed B.named
  have hlocks := B.notSynchronized
  have hS : va_S (Ad ad 146) s.heap s.heap [] := va_S.rf
  have hl := lv_entry ([.ref (ad 0), .int pe, .int i]) (n := 4) (Nat.le_of_ble_eq_true rfl)
  rw [lg_entry_eq]
  generalize (lg_sl ([.ref (ad 0), .int pe, .int i]) ++ List.replicate (4 - (lg_sl ([.ref (ad 0), .int pe, .int i])).length) Slot.unset).toArray = ls at hl ⊢
  have hl : lv_has ls 4 [(0, .ref (ad 0)), (1, .int pe), (2, .int i)] := hl
  have inX6 : ∀ w ∈ u_ws RX6 TX6 1, w ∈ wsX6_advance := fun w h => List.mem_cons_of_mem _ (List.mem_append_left _ (List.mem_append_left _ (List.mem_append_left _ (List.mem_append_left _ (List.mem_append_left _ (List.mem_append_left _ (List.mem_append_right _ h)))))))
  have inX3 : ∀ w ∈ u_ws RX3 TX3 14, w ∈ wsX6_advance := fun w h => List.mem_cons_of_mem _ (List.mem_append_left _ (List.mem_append_left _ (List.mem_append_left _ (List.mem_append_left _ (List.mem_append_left _ (List.mem_append_right _ h))))))
  by_cases hpe : two pe
  · obtain ⟨q, hq, rfl⟩ := two_q hpe
    obtain ⟨k, r1, r2, a, nt, ek, er1, er2, haN, hI, hPe, hRw, hRw2⟩ := hC.get q hq
    obtain ⟨h0, ⟨g, hg1, hg2⟩, -, -, hs20, hs87⟩ := id hC
    have hgk : g q = some (ad k) := by rw [ek]; exact hg2 q hq
    have hPe0 := hPe
    obtain ⟨X, V, hh, wk, U, gO, gT, h1, hH, hR, h2, h3, hOw, h4, h5, hOt⟩ := hPe
    obtain ⟨I1, I2, I3, I4, I5, I6, ⟨tt, I7, I8⟩, I9, I10, I11, I12, I13⟩ := id hI
    obtain ⟨sg9, pk, r, hA, hr0, hrl, hsg, hinj, hpk⟩ := id hRw
    have hA1 := hA.1
    obtain ⟨s1, s2, s3⟩ := hH.2.2.2.2.2 (a % 16) (by omega)
    have hR1 := hR.1 a (by omega) (Nat.le_refl a)
    have hao := aOf_eq hq (by omega) I1
    have htq : tn (nI q) = q := tn_nI (by omega)
    refine lv_aload_n hx hb dX6_advance_0 rfl (lv_at hl 0 rfl) ?_
    refine lv_iload_n hx hb dX6_advance_1 rfl (lv_at hl 1 rfl) ?_
    refine k_Vq (As := [.int (nI q)]) (rest := []) (k := 0) (ci := 6) ⟨hx, hb, hml, hown, hts⟩ hK hP hS Ad_le (c6_find l D cs ad hJ M g q hq h0 hg1 k hgk) (cwV 1 hts gX6_advance_X6_find rfl rfl rfl (by decide +kernel) ⟨Nat.le_of_ble_eq_true rfl, Nat.le_of_ble_eq_true rfl⟩) (by omega) h0 rfl rfl rfl hl.1 (Nat.le_of_ble_eq_true rfl) dX6_advance_2 ⟨Nat.le_of_ble_eq_true rfl, Nat.le_of_ble_eq_true rfl⟩ (fun r_1 M1 H locs hpo hP hS _ _ => ?_)
    obtain ⟨hMe, rfl⟩ := hpo
    rw [hMe] at hP
    refine lv_astore_n (lv' := [(3, .ref (ad k)), (0, .ref (ad 0)), (1, .int (nI q)), (2, .int i)]) hx hb dX6_advance_5 rfl hl (by decide) rfl (fun ls hl => ?_)
    refine lv_aload_n hx hb dX6_advance_6 rfl (lv_at hl 0 rfl) ?_
    refine lv_ifnull hx hb dX6_advance_7 ?_
    refine lv_iload_n hx hb dX6_advance_10 rfl (lv_at hl 3 rfl) ?_
    refine lv_if_lt (tgt := 20) hx hb dX6_advance_11 (by decide) (fun c2 => ?_) (fun c2 => ?_)
    · refine lv_bipush (v := (-2)) hx hb dX6_advance_20 (by decide) ?_
      exact r_i hx hb hr hlocks hK hP hS dX6_advance_22 ⟨rfl, rfl⟩
    · refine lv_iload_n hx hb dX6_advance_14 rfl (lv_at hl 3 rfl) ?_
      refine lv_bipush (v := nI 7) hx hb dX6_advance_15 (by decide) ?_
      refine lv_icmp_le (tgt := 23) hx hb dX6_advance_17 (by decide) (fun c3 => ?_) (fun c3 => ?_)
      · exact absurd hno (fun z => z.elim (fun z => z hpe) (fun z => z.elim c2 (fun z => z c3)))
      · refine lv_bipush (v := (-2)) hx hb dX6_advance_20 (by decide) ?_
        exact r_i hx hb hr hlocks hK hP hS dX6_advance_22 ⟨rfl, rfl⟩
  · obtain ⟨h0, ⟨g, hg1, hg2⟩, -⟩ := id hC
    refine lv_aload_n hx hb dX6_advance_0 rfl (lv_at hl 0 rfl) ?_
    refine lv_iload_n hx hb dX6_advance_1 rfl (lv_at hl 1 rfl) ?_
    refine k_Vq (As := [.int pe]) (rest := []) (k := 0) (ci := 6) ⟨hx, hb, hml, hown, hts⟩ hK hP hS Ad_le (c6_find0 l D cs ad hJ M pe hpe) (cwV 1 hts gX6_advance_X6_find rfl rfl rfl (by decide +kernel) ⟨Nat.le_of_ble_eq_true rfl, Nat.le_of_ble_eq_true rfl⟩) (by omega) h0 rfl rfl rfl hl.1 (Nat.le_of_ble_eq_true rfl) dX6_advance_2 ⟨Nat.le_of_ble_eq_true rfl, Nat.le_of_ble_eq_true rfl⟩ (fun r_1 M1 H locs hpo hP hS _ _ => ?_)
    obtain ⟨hMe, rfl⟩ := hpo
    rw [hMe] at hP
    refine lv_astore_nN (lv' := [(3, .null), (0, .ref (ad 0)), (1, .int pe), (2, .int i)]) hx hb dX6_advance_5 rfl hl (by decide) rfl (fun ls hl => ?_)
    refine lv_aload_nN hx hb dX6_advance_6 rfl (lv_at hl 0 rfl) ?_
    refine lv_ifnullN (tgt := 20) hx hb dX6_advance_7 (by decide) ?_
    refine lv_bipush (v := (-2)) hx hb dX6_advance_20 (by decide) ?_
    exact r_i hx hb hr hlocks hK hP hS dX6_advance_22 ⟨rfl, rfl⟩
set_option maxHeartbeats 4000000 in
set_option maxRecDepth 100000 in
/-- advance(q, i) -/
theorem c6_advance (l : Launch) (D : va_G) (cs : Nat → ClassId) (ad : Nat → Nat) (hJ : Inj ad 146) (M : Nat → va_E) (dd ww N : Nat) (S : SS) (hdd : dd ≤ 4) (hw1 : 1 ≤ ww) (hw2 : ww ≤ 8) (hN : N ≤ 550) (hC : CR dd ww N ad cs M S) (q i : Nat) (hq : q < 2) (hi : i < 8) : CTi l yX6_advance wsX6_advance ({ frames := 6, cells := 0, slots := 0, locals := 155 }) D cs ad 146 M [.ref (ad 0), .int (nI q), .int (nI i)] (fun r M2 => r = rAdv ww S q ∧ CR dd ww (N + 1) ad cs M2 (mAdv dd ww S q (nI i))) := by
  refine Met.ofW (cc := cX6_advance) (maxL := 4) (ret := (some .int)) (by decide) rfl ?_
  intro p e s m args below meth c s₁ B hml hv
  obtain ⟨rfl, hP, hK⟩ := hv
  have hx := B.exec
  have hb := B.bytes
  have hr := B.returns
  have hts := atoms_spec (ws := wsX6_advance) B.pre
  have hown : s.vm.findClass RX6 = some m.cls := findClass_of_methodNamed B.named
  have hlocks := B.notSynchronized
  have hS : va_S (Ad ad 146) s.heap s.heap [] := va_S.rf
  have hl := lv_entry ([.ref (ad 0), .int (nI q), .int (nI i)]) (n := 4) (Nat.le_of_ble_eq_true rfl)
  rw [lg_entry_eq]
  generalize (lg_sl ([.ref (ad 0), .int (nI q), .int (nI i)]) ++ List.replicate (4 - (lg_sl ([.ref (ad 0), .int (nI q), .int (nI i)])).length) Slot.unset).toArray = ls at hl ⊢
  have hl : lv_has ls 4 [(0, .ref (ad 0)), (1, .int (nI q)), (2, .int (nI i))] := hl
  have inX6 : ∀ w ∈ u_ws RX6 TX6 1, w ∈ wsX6_advance := fun w h => List.mem_cons_of_mem _ (List.mem_append_left _ (List.mem_append_left _ (List.mem_append_left _ (List.mem_append_left _ (List.mem_append_left _ (List.mem_append_left _ (List.mem_append_right _ h)))))))
  have inX3 : ∀ w ∈ u_ws RX3 TX3 14, w ∈ wsX6_advance := fun w h => List.mem_cons_of_mem _ (List.mem_append_left _ (List.mem_append_left _ (List.mem_append_left _ (List.mem_append_left _ (List.mem_append_left _ (List.mem_append_right _ h))))))
  obtain ⟨k, r1, r2, a, nt, ek, er1, er2, haN, hI, hPe, hRw, hRw2⟩ := hC.get q hq
  obtain ⟨h0, ⟨g, hg1, hg2⟩, -, -, hs20, hs87⟩ := id hC
  have hgk : g q = some (ad k) := by rw [ek]; exact hg2 q hq
  have hPe0 := hPe
  obtain ⟨X, V, hh, wk, U, gO, gT, h1, hH, hR, h2, h3, hOw, h4, h5, hOt⟩ := hPe
  obtain ⟨I1, I2, I3, I4, I5, I6, ⟨tt, I7, I8⟩, I9, I10, I11, I12, I13⟩ := id hI
  obtain ⟨sg9, pk, r, hA, hr0, hrl, hsg, hinj, hpk⟩ := id hRw
  have hA1 := hA.1
  obtain ⟨s1, s2, s3⟩ := hH.2.2.2.2.2 (a % 16) (by omega)
  have hR1 := hR.1 a (by omega) (Nat.le_refl a)
  have hao := aOf_eq hq (by omega) I1
  have htq : tn (nI q) = q := tn_nI (by omega)
  obtain ⟨A1, A2⟩ := adv_I (i := i) hq hdd hw2 (by omega) hi hI
  obtain ⟨T1, T2⟩ := adv_sh (dd := dd) (ww := ww) (q := q) (i := nI i) hs20 hs87 hq
  obtain ⟨sg8, pk8, r8, hA8, hr8, hrl8, hsg8, hinj8, hpk8⟩ := id hRw2
  obtain ⟨R1, R2, R3⟩ := adv_row (dd := dd) (ww := ww) (i := nI i) hq hr8 hrl8
  have hAg : Ag S (mAdv dd ww S q (nI i)) (1 - q) := Ag.adv (p := 1 - q) (by omega) hq (by omega) hdd (by omega) I1 I3 (by omega) (fun z => (A1 z).1)
  by_cases hst : mStall ww S q
  · refine lv_aload_n hx hb dX6_advance_0 rfl (lv_at hl 0 rfl) ?_
    refine lv_iload_n hx hb dX6_advance_1 rfl (lv_at hl 1 rfl) ?_
    refine k_Vq (As := [.int (nI q)]) (rest := []) (k := 0) (ci := 6) ⟨hx, hb, hml, hown, hts⟩ hK hP hS Ad_le (c6_find l D cs ad hJ M g q hq h0 hg1 k hgk) (cwV 1 hts gX6_advance_X6_find rfl rfl rfl (by decide +kernel) ⟨Nat.le_of_ble_eq_true rfl, Nat.le_of_ble_eq_true rfl⟩) (by omega) h0 rfl rfl rfl hl.1 (Nat.le_of_ble_eq_true rfl) dX6_advance_2 ⟨Nat.le_of_ble_eq_true rfl, Nat.le_of_ble_eq_true rfl⟩ (fun r_1 M1 H locs hpo hP hS _ _ => ?_)
    obtain ⟨hMe, rfl⟩ := hpo
    rw [hMe] at hP
    refine lv_astore_n (lv' := [(3, .ref (ad k)), (0, .ref (ad 0)), (1, .int (nI q)), (2, .int (nI i))]) hx hb dX6_advance_5 rfl hl (by decide) rfl (fun ls hl => ?_)
    refine lv_aload_n hx hb dX6_advance_6 rfl (lv_at hl 0 rfl) ?_
    refine lv_ifnull hx hb dX6_advance_7 ?_
    refine lv_iload_n hx hb dX6_advance_10 rfl (lv_at hl 3 rfl) ?_
    refine lv_if_lt (tgt := 20) hx hb dX6_advance_11 (by decide) (fun c2 => absurd c2 (nI_pos (by omega))) (fun c2 => ?_)
    refine lv_iload_n hx hb dX6_advance_14 rfl (lv_at hl 3 rfl) ?_
    refine lv_bipush (v := nI 7) hx hb dX6_advance_15 (by decide) ?_
    refine n_cmp_le (tgt := 23) hx hb dX6_advance_17 (by decide) (by omega) (by omega) (fun c3 => ?_) (fun c3 => absurd c3 (by omega))
    refine lv_aload_n hx hb dX6_advance_23 rfl (lv_at hl 0 rfl) ?_
    refine lv_iload_n hx hb dX6_advance_24 rfl (lv_at hl 3 rfl) ?_
    refine k_Vi (As := [.int (nI i)]) (rest := []) (k := k) (ci := 3) ⟨hx, hb, hml, hown, hts⟩ hK hP hS Ad_le (c_goOn_s l D cs ad 146 hJ M k r1 r2 q ww a dd nt S (by omega) hq hdd hw1 hw2 (by omega) hI i hPe0 hst) (cwV 1 hts gX6_advance_X3_goOn rfl rfl rfl (by decide +kernel) ⟨Nat.le_of_ble_eq_true rfl, Nat.le_of_ble_eq_true rfl⟩) (by omega) h1 rfl rfl rfl hl.1 (Nat.le_of_ble_eq_true rfl) dX6_advance_25 ⟨Nat.le_of_ble_eq_true rfl, Nat.le_of_ble_eq_true rfl⟩ (fun r_2 N1 H locs hpo hP hS _ _ => ?_)
    obtain ⟨rfl, p1, p2⟩ := hpo
    have hW1 : RwS ad cs r1 N1 (mAdv dd ww S q (nI i)) q := RwS_c (hRw.kept (fun j z1 z2 => p2 j (by omega))) R1 R2
    have hW2 : RwS ad cs r2 N1 (mAdv dd ww S q (nI i)) (1 - q) := RwS_c (hRw2.kept (fun j z1 z2 => p2 j (by omega))) (by rw [(R3 hst).1]) (fun j _ _ => (R3 hst).2 j)
    exact r_i hx hb hr hlocks hK hP hS dX6_advance_28 ⟨rfl, CR_step hC hdd hN hq (by omega) (A1 hst).2 (by rw [← ek, ← er1, ← er2]; exact p1) hAg (by rw [← er1]; exact hW1) (by rw [← er2]; exact hW2) (fun j hj => p2 j (by omega)) T1 T2⟩
  · refine lv_aload_n hx hb dX6_advance_0 rfl (lv_at hl 0 rfl) ?_
    refine lv_iload_n hx hb dX6_advance_1 rfl (lv_at hl 1 rfl) ?_
    refine k_Vq (As := [.int (nI q)]) (rest := []) (k := 0) (ci := 6) ⟨hx, hb, hml, hown, hts⟩ hK hP hS Ad_le (c6_find l D cs ad hJ M g q hq h0 hg1 k hgk) (cwV 1 hts gX6_advance_X6_find rfl rfl rfl (by decide +kernel) ⟨Nat.le_of_ble_eq_true rfl, Nat.le_of_ble_eq_true rfl⟩) (by omega) h0 rfl rfl rfl hl.1 (Nat.le_of_ble_eq_true rfl) dX6_advance_2 ⟨Nat.le_of_ble_eq_true rfl, Nat.le_of_ble_eq_true rfl⟩ (fun r_1 M1 H locs hpo hP hS _ _ => ?_)
    obtain ⟨hMe, rfl⟩ := hpo
    rw [hMe] at hP
    refine lv_astore_n (lv' := [(3, .ref (ad k)), (0, .ref (ad 0)), (1, .int (nI q)), (2, .int (nI i))]) hx hb dX6_advance_5 rfl hl (by decide) rfl (fun ls hl => ?_)
    refine lv_aload_n hx hb dX6_advance_6 rfl (lv_at hl 0 rfl) ?_
    refine lv_ifnull hx hb dX6_advance_7 ?_
    refine lv_iload_n hx hb dX6_advance_10 rfl (lv_at hl 3 rfl) ?_
    refine lv_if_lt (tgt := 20) hx hb dX6_advance_11 (by decide) (fun c2 => absurd c2 (nI_pos (by omega))) (fun c2 => ?_)
    refine lv_iload_n hx hb dX6_advance_14 rfl (lv_at hl 3 rfl) ?_
    refine lv_bipush (v := nI 7) hx hb dX6_advance_15 (by decide) ?_
    refine n_cmp_le (tgt := 23) hx hb dX6_advance_17 (by decide) (by omega) (by omega) (fun c3 => ?_) (fun c3 => absurd c3 (by omega))
    refine lv_aload_n hx hb dX6_advance_23 rfl (lv_at hl 0 rfl) ?_
    refine lv_iload_n hx hb dX6_advance_24 rfl (lv_at hl 3 rfl) ?_
    refine k_Vi (As := [.int (nI i)]) (rest := []) (k := k) (ci := 3) ⟨hx, hb, hml, hown, hts⟩ hK hP hS Ad_le (c_goOn l D cs ad 146 hJ M k r1 r2 q ww a dd nt S (by omega) hq hdd hw1 hw2 (by omega) hI i hi (by omega) hPe0 hRw2 (hs87 q hq).1 hst) (cwV 1 hts gX6_advance_X3_goOn rfl rfl rfl (by decide +kernel) ⟨Nat.le_of_ble_eq_true rfl, Nat.le_of_ble_eq_true rfl⟩) (by omega) h1 rfl rfl rfl hl.1 (Nat.le_of_ble_eq_true rfl) dX6_advance_25 ⟨Nat.le_of_ble_eq_true rfl, Nat.le_of_ble_eq_true rfl⟩ (fun r_2 N1 H locs hpo hP hS _ _ => ?_)
    obtain ⟨rfl, p1, p3, p2⟩ := hpo
    have hW1 : RwS ad cs r1 N1 (mAdv dd ww S q (nI i)) q := RwS_c (hRw.kept (fun j z1 z2 => p2 j (by omega) (by omega))) R1 R2
    exact r_i hx hb hr hlocks hK hP hS dX6_advance_28 ⟨rfl, CR_step hC hdd hN hq (by omega) (A2 hst) (by rw [← ek, ← er1, ← er2]; exact p1) hAg (by rw [← er1]; exact hW1) (by rw [← er2]; exact p3) (fun j hj => p2 j (by omega) (by omega)) T1 T2⟩
set_option maxHeartbeats 4000000 in
set_option maxRecDepth 100000 in
/-- deliver, no such peer -/
theorem c6_deliver_no (l : Launch) (D : va_G) (cs : Nat → ClassId) (ad : Nat → Nat) (hJ : Inj ad 146) (M : Nat → va_E) (dd ww N : Nat) (S : SS) (hdd : dd ≤ 4) (hw1 : 1 ≤ ww) (hw2 : ww ≤ 8) (hN : N ≤ 550) (hC : CR dd ww N ad cs M S) (pe : Int32) (hpe : ¬ (pe = 0 ∨ pe = 1)) : CTi l yX6_deliver wsX6_deliver ({ frames := 5, cells := 0, slots := 0, locals := 125 }) D cs ad 146 M [.ref (ad 0), .int pe] (fun r M2 => M2 = M ∧ r = -1) := by
  refine Met.ofW (cc := cX6_deliver) (maxL := 4) (ret := (some .int)) (by decide) rfl ?_
  intro p e s m args below meth c s₁ B hml hv
  obtain ⟨rfl, hP, hK⟩ := hv
  have hx := B.exec
  have hb := B.bytes
  have hr := B.returns
  have hts := atoms_spec (ws := wsX6_deliver) B.pre
  have hown : s.vm.findClass RX6 = some m.cls := findClass_of_methodNamed B.named
  have hlocks := B.notSynchronized
  have hS : va_S (Ad ad 146) s.heap s.heap [] := va_S.rf
  have hl := lv_entry ([.ref (ad 0), .int pe]) (n := 4) (Nat.le_of_ble_eq_true rfl)
  rw [lg_entry_eq]
  generalize (lg_sl ([.ref (ad 0), .int pe]) ++ List.replicate (4 - (lg_sl ([.ref (ad 0), .int pe])).length) Slot.unset).toArray = ls at hl ⊢
  have hl : lv_has ls 4 [(0, .ref (ad 0)), (1, .int pe)] := hl
  have inX6 : ∀ w ∈ u_ws RX6 TX6 1, w ∈ wsX6_deliver := fun w h => List.mem_cons_of_mem _ (List.mem_append_left _ (List.mem_append_left _ (List.mem_append_left _ (List.mem_append_left _ (List.mem_append_left _ (List.mem_append_right _ h))))))
  have inX3 : ∀ w ∈ u_ws RX3 TX3 14, w ∈ wsX6_deliver := fun w h => List.mem_cons_of_mem _ (List.mem_append_left _ (List.mem_append_left _ (List.mem_append_left _ (List.mem_append_left _ (List.mem_append_left _ (List.mem_append_left _ (List.mem_append_right _ h)))))))
  obtain ⟨h0, ⟨g, hg1, hg2⟩, -⟩ := id hC
  refine lv_aload_n hx hb dX6_deliver_0 rfl (lv_at hl 0 rfl) ?_
  refine lv_iload_n hx hb dX6_deliver_1 rfl (lv_at hl 1 rfl) ?_
  refine k_Vq (As := [.int pe]) (rest := []) (k := 0) (ci := 6) ⟨hx, hb, hml, hown, hts⟩ hK hP hS Ad_le (c6_find0 l D cs ad hJ M pe hpe) (cwV 1 hts gX6_deliver_X6_find rfl rfl rfl (by decide +kernel) ⟨Nat.le_of_ble_eq_true rfl, Nat.le_of_ble_eq_true rfl⟩) (by omega) h0 rfl rfl rfl hl.1 (Nat.le_of_ble_eq_true rfl) dX6_deliver_2 ⟨Nat.le_of_ble_eq_true rfl, Nat.le_of_ble_eq_true rfl⟩ (fun r_1 M1 H locs hpo hP hS _ _ => ?_)
  obtain ⟨hMe, rfl⟩ := hpo
  rw [hMe] at hP
  refine lv_astore_nN (lv' := [(2, .null), (0, .ref (ad 0)), (1, .int pe)]) hx hb dX6_deliver_5 rfl hl (by decide) rfl (fun ls hl => ?_)
  refine lv_aload_nN hx hb dX6_deliver_6 rfl (lv_at hl 0 rfl) ?_
  refine lv_ifnonnullN hx hb dX6_deliver_7 ?_
  refine lv_iconst (v := (-1)) hx hb dX6_deliver_10 (by decide) ?_
  exact r_i hx hb hr hlocks hK hP hS dX6_deliver_11 ⟨rfl, rfl⟩
set_option maxHeartbeats 4000000 in
set_option maxRecDepth 100000 in
/-- deliver(q) -/
theorem c6_deliver (l : Launch) (D : va_G) (cs : Nat → ClassId) (ad : Nat → Nat) (hJ : Inj ad 146) (M : Nat → va_E) (dd ww N : Nat) (S : SS) (hdd : dd ≤ 4) (hw1 : 1 ≤ ww) (hw2 : ww ≤ 8) (hN : N ≤ 550) (hC : CR dd ww N ad cs M S) (q : Nat) (hq : q < 2) : CTi l yX6_deliver wsX6_deliver ({ frames := 5, cells := 0, slots := 0, locals := 125 }) D cs ad 146 M [.ref (ad 0), .int (nI q)] (fun r M2 => r = rDel S q ∧ CR dd ww (N + 1) ad cs M2 (mDel S q)) := by
  refine Met.ofW (cc := cX6_deliver) (maxL := 4) (ret := (some .int)) (by decide) rfl ?_
  intro p e s m args below meth c s₁ B hml hv
  obtain ⟨rfl, hP, hK⟩ := hv
  have hx := B.exec
  have hb := B.bytes
  have hr := B.returns
  have hts := atoms_spec (ws := wsX6_deliver) B.pre
  have hown : s.vm.findClass RX6 = some m.cls := findClass_of_methodNamed B.named
  have hlocks := B.notSynchronized
  have hS : va_S (Ad ad 146) s.heap s.heap [] := va_S.rf
  have hl := lv_entry ([.ref (ad 0), .int (nI q)]) (n := 4) (Nat.le_of_ble_eq_true rfl)
  rw [lg_entry_eq]
  generalize (lg_sl ([.ref (ad 0), .int (nI q)]) ++ List.replicate (4 - (lg_sl ([.ref (ad 0), .int (nI q)])).length) Slot.unset).toArray = ls at hl ⊢
  have hl : lv_has ls 4 [(0, .ref (ad 0)), (1, .int (nI q))] := hl
  have inX6 : ∀ w ∈ u_ws RX6 TX6 1, w ∈ wsX6_deliver := fun w h => List.mem_cons_of_mem _ (List.mem_append_left _ (List.mem_append_left _ (List.mem_append_left _ (List.mem_append_left _ (List.mem_append_left _ (List.mem_append_right _ h))))))
  have inX3 : ∀ w ∈ u_ws RX3 TX3 14, w ∈ wsX6_deliver := fun w h => List.mem_cons_of_mem _ (List.mem_append_left _ (List.mem_append_left _ (List.mem_append_left _ (List.mem_append_left _ (List.mem_append_left _ (List.mem_append_left _ (List.mem_append_right _ h)))))))
  obtain ⟨k, r1, r2, a, nt, ek, er1, er2, haN, hI, hPe, hRw, hRw2⟩ := hC.get q hq
  obtain ⟨h0, ⟨g, hg1, hg2⟩, -, -, hs20, hs87⟩ := id hC
  have hgk : g q = some (ad k) := by rw [ek]; exact hg2 q hq
  have hPe0 := hPe
  obtain ⟨X, V, hh, wk, U, gO, gT, h1, hH, hR, h2, h3, hOw, h4, h5, hOt⟩ := hPe
  obtain ⟨I1, I2, I3, I4, I5, I6, ⟨tt, I7, I8⟩, I9, I10, I11, I12, I13⟩ := id hI
  obtain ⟨sg9, pk, r, hA, hr0, hrl, hsg, hinj, hpk⟩ := id hRw
  have hA1 := hA.1
  obtain ⟨s1, s2, s3⟩ := hH.2.2.2.2.2 (a % 16) (by omega)
  have hR1 := hR.1 a (by omega) (Nat.le_refl a)
  have hao := aOf_eq hq (by omega) I1
  have htq : tn (nI q) = q := tn_nI (by omega)
  by_cases hz : r = 0
  · refine lv_aload_n hx hb dX6_deliver_0 rfl (lv_at hl 0 rfl) ?_
    refine lv_iload_n hx hb dX6_deliver_1 rfl (lv_at hl 1 rfl) ?_
    refine k_Vq (As := [.int (nI q)]) (rest := []) (k := 0) (ci := 6) ⟨hx, hb, hml, hown, hts⟩ hK hP hS Ad_le (c6_find l D cs ad hJ M g q hq h0 hg1 k hgk) (cwV 1 hts gX6_deliver_X6_find rfl rfl rfl (by decide +kernel) ⟨Nat.le_of_ble_eq_true rfl, Nat.le_of_ble_eq_true rfl⟩) (by omega) h0 rfl rfl rfl hl.1 (Nat.le_of_ble_eq_true rfl) dX6_deliver_2 ⟨Nat.le_of_ble_eq_true rfl, Nat.le_of_ble_eq_true rfl⟩ (fun r_1 M1 H locs hpo hP hS _ _ => ?_)
    obtain ⟨hMe, rfl⟩ := hpo
    rw [hMe] at hP
    refine lv_astore_n (lv' := [(2, .ref (ad k)), (0, .ref (ad 0)), (1, .int (nI q))]) hx hb dX6_deliver_5 rfl hl (by decide) rfl (fun ls hl => ?_)
    refine lv_aload_n hx hb dX6_deliver_6 rfl (lv_at hl 0 rfl) ?_
    refine lv_ifnonnull (tgt := 12) hx hb dX6_deliver_7 (by decide) ?_
    refine lv_aload_n hx hb dX6_deliver_12 rfl (lv_at hl 0 rfl) ?_
    refine m_get hx hb hts inX3 hown hK hP (ci := 3) rfl (k := k) (by omega) h1 2 (by decide) (hts (.fieldLink RX6 38 "RollbackPair$Peer" "arriving" "LRollbackPair$Row;") (by decide +kernel)) rfl dX6_deliver_13 ?_
    refine k_Vq (As := []) (rest := []) (k := r1) (ci := 4) ⟨hx, hb, hml, hown, hts⟩ hK hP hS Ad_le (c_tf0 l D cs ad 146 hJ M r1 sg9 r pk (by omega) hsg hA hz) (cwV 0 hts gX6_deliver_X4_takeFirst rfl rfl rfl (by decide +kernel) ⟨Nat.le_of_ble_eq_true rfl, Nat.le_of_ble_eq_true rfl⟩) (by omega) hA1 rfl rfl rfl hl.1 (Nat.le_of_ble_eq_true rfl) dX6_deliver_16 ⟨Nat.le_of_ble_eq_true rfl, Nat.le_of_ble_eq_true rfl⟩ (fun r_2 M1 H locs hpo hP hS _ _ => ?_)
    obtain ⟨hMe, rfl⟩ := hpo
    rw [hMe] at hP
    refine lv_astore_nN (lv' := [(3, .null), (2, .ref (ad k)), (0, .ref (ad 0)), (1, .int (nI q))]) hx hb dX6_deliver_19 rfl hl (by decide) rfl (fun ls hl => ?_)
    refine lv_aload_nN hx hb dX6_deliver_20 rfl (lv_at hl 0 rfl) ?_
    refine lv_ifnonnullN hx hb dX6_deliver_21 ?_
    refine lv_iconst (v := (-1)) hx hb dX6_deliver_24 (by decide) ?_
    have hz0 : S.1 19 q = 0 := by rw [hr0, hz]; exact nI_0
    exact r_i hx hb hr hlocks hK hP hS dX6_deliver_25 ⟨by unfold rDel; rw [if_pos hz0], by unfold mDel; rw [if_pos hz0]; exact CR_mono hC⟩
  · refine lv_aload_n hx hb dX6_deliver_0 rfl (lv_at hl 0 rfl) ?_
    refine lv_iload_n hx hb dX6_deliver_1 rfl (lv_at hl 1 rfl) ?_
    refine k_Vq (As := [.int (nI q)]) (rest := []) (k := 0) (ci := 6) ⟨hx, hb, hml, hown, hts⟩ hK hP hS Ad_le (c6_find l D cs ad hJ M g q hq h0 hg1 k hgk) (cwV 1 hts gX6_deliver_X6_find rfl rfl rfl (by decide +kernel) ⟨Nat.le_of_ble_eq_true rfl, Nat.le_of_ble_eq_true rfl⟩) (by omega) h0 rfl rfl rfl hl.1 (Nat.le_of_ble_eq_true rfl) dX6_deliver_2 ⟨Nat.le_of_ble_eq_true rfl, Nat.le_of_ble_eq_true rfl⟩ (fun r_1 M1 H locs hpo hP hS _ _ => ?_)
    obtain ⟨hMe, rfl⟩ := hpo
    rw [hMe] at hP
    refine lv_astore_n (lv' := [(2, .ref (ad k)), (0, .ref (ad 0)), (1, .int (nI q))]) hx hb dX6_deliver_5 rfl hl (by decide) rfl (fun ls hl => ?_)
    refine lv_aload_n hx hb dX6_deliver_6 rfl (lv_at hl 0 rfl) ?_
    refine lv_ifnonnull (tgt := 12) hx hb dX6_deliver_7 (by decide) ?_
    refine lv_aload_n hx hb dX6_deliver_12 rfl (lv_at hl 0 rfl) ?_
    refine m_get hx hb hts inX3 hown hK hP (ci := 3) rfl (k := k) (by omega) h1 2 (by decide) (hts (.fieldLink RX6 38 "RollbackPair$Peer" "arriving" "LRollbackPair$Row;") (by decide +kernel)) rfl dX6_deliver_13 ?_
    refine k_Vq (As := []) (rest := []) (k := r1) (ci := 4) ⟨hx, hb, hml, hown, hts⟩ hK hP hS Ad_le (c_tf l D cs ad 146 hJ M r1 sg9 r pk (by omega) hsg hA (by omega) hrl) (cwV 0 hts gX6_deliver_X4_takeFirst rfl rfl rfl (by decide +kernel) ⟨Nat.le_of_ble_eq_true rfl, Nat.le_of_ble_eq_true rfl⟩) (by omega) hA1 rfl rfl rfl hl.1 (Nat.le_of_ble_eq_true rfl) dX6_deliver_16 ⟨Nat.le_of_ble_eq_true rfl, Nat.le_of_ble_eq_true rfl⟩ (fun r_2 N1 H locs hpo hP hS _ _ => ?_)
    obtain ⟨rfl, t1, t2⟩ := hpo
    have hs0 := hsg 0 (by decide)
    have hU1 : RwS ad cs r1 N1 (mTake S q) q := RwS_take hq t1 hr0 hrl (by omega) hsg hinj hpk
    have hU2 : RwS ad cs r2 N1 (mTake S q) (1 - q) := RwS_take2 hq (hRw2.kept (fun j z1 z2 => t2 j (by omega))) hr0 hrl
    have hUa : ∀ x, Ag S (mTake S q) x := fun x => Ag.of (fun j hj => mTake_k (by omega)) (mTake_F S q)
    have hUI : Iq dd ww (mTake S q) q a nt := (hUa q).toI hq hdd (by omega) hI
    have hUP : PeS ad cs k r1 r2 q ww (mTake S q) N1 a (a + dd) nt := (hUa q).toP hq (by omega) (by omega) (by omega) hPe0 (fun j z1 z2 => t2 j (by omega))
    have hUs := mTake_sh (q := q) hs20
    have hU8 : (mTake S q).1 8 = S.1 8 := mTake_k (by decide)
    have hU7 : (mTake S q).1 7 = S.1 7 := mTake_k (by decide)
    have hpp : N1 (r1 + 2 + sg9 0) = oT (spk (mTake S q) 24) := by rw [t1.2.2 _ hs0, hpk 0 (by omega), spk_take hq hr0 hrl, if_neg (by omega), if_pos rfl]; rfl
    have hz0 : ¬ S.1 19 q = 0 := by rw [hr0]; exact nI_ne0 (by omega) (by omega)
    have eR : rDel S q = rDel2 (mTake S q) q := by unfold rDel; rw [if_neg hz0]
    have eM : mDel S q = mDel2 (mTake S q) q := by unfold mDel; rw [if_neg hz0]
    rw [eR, eM]
    generalize mTake S q = V9 at *
    refine lv_astore_n (lv' := [(3, .ref (ad (r1 + 2 + sg9 0))), (2, .ref (ad k)), (0, .ref (ad 0)), (1, .int (nI q))]) hx hb dX6_deliver_19 rfl hl (by decide) rfl (fun ls hl => ?_)
    refine lv_aload_n hx hb dX6_deliver_20 rfl (lv_at hl 0 rfl) ?_
    refine lv_ifnonnull (tgt := 26) hx hb dX6_deliver_21 (by decide) ?_
    refine lv_aload_n hx hb dX6_deliver_26 rfl (lv_at hl 1 rfl) ?_
    refine lv_aload_n hx hb dX6_deliver_27 rfl (lv_at hl 0 rfl) ?_
    refine k_Vi (As := [.ref (ad (r1 + 2 + sg9 0))]) (rest := []) (k := k) (ci := 3) ⟨hx, hb, hml, hown, hts⟩ hK hP hS Ad_le (c_receive l D cs ad 146 hJ N1 k r1 r2 q ww a dd nt V9 (by omega) hq hdd hw1 hw2 (by omega) hUI (r1 + 2 + sg9 0) (by omega) (hUs 24) hUP hpp) (cwV 1 hts gX6_deliver_X3_receive rfl rfl rfl (by decide +kernel) ⟨Nat.le_of_ble_eq_true rfl, Nat.le_of_ble_eq_true rfl⟩) (by omega) ((t2 _ (by omega)).trans h1) rfl rfl rfl hl.1 (Nat.le_of_ble_eq_true rfl) dX6_deliver_28 ⟨Nat.le_of_ble_eq_true rfl, Nat.le_of_ble_eq_true rfl⟩ (fun r_3 N2 H locs hpo hP hS _ _ => ?_)
    obtain ⟨rfl, ⟨nt2, u1, u2⟩, u3⟩ := hpo
    obtain ⟨w1, w2, w3⟩ := del2_k hq hdd (by omega) hUI
    have w4 := del2_spk hq hdd (by omega) hUI
    have hW1 : RwS ad cs r1 N2 (mDel2 V9 q) q := RwS_c (hU1.kept (fun j z1 z2 => u3 j (by omega))) (by rw [w1 19 (by decide)]) (fun j _ _ => w4 j)
    have hW2 : RwS ad cs r2 N2 (mDel2 V9 q) (1 - q) := RwS_c (hU2.kept (fun j z1 z2 => u3 j (by omega))) (by rw [w1 19 (by decide)]) (fun j _ _ => w4 j)
    have hAg : Ag S (mDel2 V9 q) (1 - q) := (hUa (1 - q)).tr (Ag.del2 (p := 1 - q) (by omega) hq (by omega) hdd (by omega) hUI)
    exact r_i hx hb hr hlocks hK hP hS dX6_deliver_31 ⟨rfl, CR_step hC hdd hN hq (by omega) u1 (by rw [← ek, ← er1, ← er2]; exact u2) hAg (by rw [← er1]; exact hW1) (by rw [← er2]; exact hW2) (fun j hj => (u3 j (by omega)).trans (t2 j (by omega))) (fun i => by rw [w1 20 (by decide)]; exact hUs i) (fun x hx => ⟨by rw [w1 8 (by decide), hU8]; exact (hs87 x hx).1, (w3 x).elim (fun z => by rw [z, hU7]; exact (hs87 x hx).2) (fun z => by rw [z]; exact hUs 24)⟩)⟩
