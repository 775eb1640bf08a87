set_option maxHeartbeats 4000000 in
set_option maxRecDepth 100000 in
/-- alter, refused -/
theorem c6_alter_no (l : Launch) (D : va_G) (cs : Nat → ClassId) (ad : Nat → Nat) (hJ : Inj ad 146) (M : Nat → va_E) (dd ww N : Nat) (S : SS) (hdd : dd ≤ 4) (hw1 : 1 ≤ ww) (hw2 : ww ≤ 8) (hN : N ≤ 550) (hC : CR dd ww N ad cs M S) (pe how : Int32) (hz : noAl S pe how) : CTi l yX6_alter wsX6_alter ({ frames := 3, cells := 0, slots := 0, locals := 66 }) D cs ad 146 M [.ref (ad 0), .int pe, .int how] (fun r M2 => M2 = M ∧ r = nI 0) := by
  refine Met.ofW (cc := cX6_alter) (maxL := 4) (ret := (some .boolean)) (by decide) rfl ?_
  intro p e s m args below meth c s₁ B hml hv
  obtain ⟨rfl, hP, hK⟩ := hv
  have hx := B.exec
  have hb := B.bytes
  have hr := B.returns
  have hts := atoms_spec (ws := wsX6_alter) B.pre
  have hown : s.vm.findClass RX6 = some m.cls := findClass_of_methodNamed B.named
  have hlocks := B.notSynchronized
  have hS : va_S (Ad ad 146) s.heap s.heap [] := va_S.rf
  have hl := lv_entry ([.ref (ad 0), .int pe, .int how]) (n := 4) (Nat.le_of_ble_eq_true rfl)
  rw [lg_entry_eq]
  generalize (lg_sl ([.ref (ad 0), .int pe, .int how]) ++ List.replicate (4 - (lg_sl ([.ref (ad 0), .int pe, .int how])).length) Slot.unset).toArray = ls at hl ⊢
  have hl : lv_has ls 4 [(0, .ref (ad 0)), (1, .int pe), (2, .int how)] := hl
  have inX6 : ∀ w ∈ u_ws RX6 TX6 1, w ∈ wsX6_alter := fun w h => List.mem_cons_of_mem _ (List.mem_append_left _ (List.mem_append_left _ (List.mem_append_right _ h)))
  have inX3 : ∀ w ∈ u_ws RX3 TX3 14, w ∈ wsX6_alter := fun w h => List.mem_cons_of_mem _ (List.mem_append_left _ (List.mem_append_left _ (List.mem_append_left _ (List.mem_append_right _ h))))
  by_cases hpe : two pe
  · obtain ⟨q, hq, rfl⟩ := two_q hpe
    obtain ⟨k, r1, r2, a, nt, ek, er1, er2, haN, hI, hPe, hRw, hRw2⟩ := hC.get q hq
    obtain ⟨h0, ⟨g, hg1, hg2⟩, -, -, hs20, hs87⟩ := id hC
    have hgk : g q = some (ad k) := by rw [ek]; exact hg2 q hq
    have hPe0 := hPe
    obtain ⟨X, V, hh, wk, U, gO, gT, h1, hH, hR, h2, h3, hOw, h4, h5, hOt⟩ := hPe
    obtain ⟨I1, I2, I3, I4, I5, I6, ⟨tt, I7, I8⟩, I9, I10, I11, I12, I13⟩ := id hI
    obtain ⟨sg9, pk, r, hA, hr0, hrl, hsg, hinj, hpk⟩ := id hRw
    have hA1 := hA.1
    obtain ⟨s1, s2, s3⟩ := hH.2.2.2.2.2 (a % 16) (by omega)
    have hR1 := hR.1 a (by omega) (Nat.le_refl a)
    have hao := aOf_eq hq (by omega) I1
    have htq : tn (nI q) = q := tn_nI (by omega)
    rcases wh_c how 2 (by decide) with ⟨j, hj, rfl⟩ | hout
    · have hz2 : r = 0 ∨ (j = 1 ∧ r = 12) := by
        rcases hz with z | z | z | z | z
        · exact absurd (two_in hq) z
        · exact absurd z (nI_pos (by omega))
        · exact absurd z (nI_nlt hj (by decide))
        · rw [htq, hr0] at z; exact Or.inl ((nI_eq (by omega) (by decide)).mp (z.trans nI_0.symm))
        · rw [htq, hr0] at z; exact Or.inr ⟨(nI_eq (by omega) (by decide)).mp z.1, (nI_eq (by omega) (by decide)).mp z.2⟩
      rcases (show j = 0 ∨ j = 1 ∨ j = 2 by omega) with rfl | rfl | rfl
      · have hrz : r = 0 := hz2.elim id (fun z => absurd z.1 (by decide))
        refine lv_aload_n hx hb dX6_alter_0 rfl (lv_at hl 0 rfl) ?_
        refine lv_iload_n hx hb dX6_alter_1 rfl (lv_at hl 1 rfl) ?_
        refine k_Vq (As := [.int (nI q)]) (rest := []) (k := 0) (ci := 6) ⟨hx, hb, hml, hown, hts⟩ hK hP hS Ad_le (c6_find l D cs ad hJ M g q hq h0 hg1 k hgk) (cwV 1 hts gX6_alter_X6_find rfl rfl rfl (by decide +kernel) ⟨Nat.le_of_ble_eq_true rfl, Nat.le_of_ble_eq_true rfl⟩) (by omega) h0 rfl rfl rfl hl.1 (Nat.le_of_ble_eq_true rfl) dX6_alter_2 ⟨Nat.le_of_ble_eq_true rfl, Nat.le_of_ble_eq_true rfl⟩ (fun r_1 M1 H locs hpo hP hS _ _ => ?_)
        obtain ⟨hMe, rfl⟩ := hpo
        rw [hMe] at hP
        refine lv_astore_n (lv' := [(3, .ref (ad k)), (0, .ref (ad 0)), (1, .int (nI q)), (2, .int (nI 0))]) hx hb dX6_alter_5 rfl hl (by decide) rfl (fun ls hl => ?_)
        refine lv_aload_n hx hb dX6_alter_6 rfl (lv_at hl 0 rfl) ?_
        refine lv_ifnonnull (tgt := 12) hx hb dX6_alter_7 (by decide) ?_
        refine lv_iload_n hx hb dX6_alter_12 rfl (lv_at hl 3 rfl) ?_
        refine lv_tableIn (off := 27) (tgt := 40) hx hb dX6_alter_13 (by decide) (by decide) (by decide) (by decide) ?_
        refine lv_aload_n hx hb dX6_alter_40 rfl (lv_at hl 0 rfl) ?_
        refine m_get hx hb hts inX3 hown hK hP (ci := 3) rfl (k := k) (by omega) h1 2 (by decide) (hts (.fieldLink RX6 38 "RollbackPair$Peer" "arriving" "LRollbackPair$Row;") (by decide +kernel)) rfl dX6_alter_41 ?_
        refine k_Vq (As := []) (rest := []) (k := r1) (ci := 4) ⟨hx, hb, hml, hown, hts⟩ hK hP hS Ad_le (c_tf0 l D cs ad 146 hJ M r1 sg9 r pk (by omega) hsg hA hrz) (cwV 0 hts gX6_alter_X4_takeFirst rfl rfl rfl (by decide +kernel) ⟨Nat.le_of_ble_eq_true rfl, Nat.le_of_ble_eq_true rfl⟩) (by omega) hA1 rfl rfl rfl hl.1 (Nat.le_of_ble_eq_true rfl) dX6_alter_44 ⟨Nat.le_of_ble_eq_true rfl, Nat.le_of_ble_eq_true rfl⟩ (fun r_2 M1 H locs hpo hP hS _ _ => ?_)
        obtain ⟨hMe, rfl⟩ := hpo
        rw [hMe] at hP
        refine lv_ifnullN (tgt := 54) hx hb dX6_alter_47 (by decide) ?_
        refine lv_iconst (v := nI 0) hx hb dX6_alter_54 (by decide) ?_
        exact r_z hx hb hr hlocks hK hP hS dX6_alter_55 (by first | rfl | decide) ⟨rfl, rfl⟩
      · have hrz : r = 0 ∨ r = 12 := hz2.imp id (fun z => z.2)
        refine lv_aload_n hx hb dX6_alter_0 rfl (lv_at hl 0 rfl) ?_
        refine lv_iload_n hx hb dX6_alter_1 rfl (lv_at hl 1 rfl) ?_
        refine k_Vq (As := [.int (nI q)]) (rest := []) (k := 0) (ci := 6) ⟨hx, hb, hml, hown, hts⟩ hK hP hS Ad_le (c6_find l D cs ad hJ M g q hq h0 hg1 k hgk) (cwV 1 hts gX6_alter_X6_find rfl rfl rfl (by decide +kernel) ⟨Nat.le_of_ble_eq_true rfl, Nat.le_of_ble_eq_true rfl⟩) (by omega) h0 rfl rfl rfl hl.1 (Nat.le_of_ble_eq_true rfl) dX6_alter_2 ⟨Nat.le_of_ble_eq_true rfl, Nat.le_of_ble_eq_true rfl⟩ (fun r_1 M1 H locs hpo hP hS _ _ => ?_)
        obtain ⟨hMe, rfl⟩ := hpo
        rw [hMe] at hP
        refine lv_astore_n (lv' := [(3, .ref (ad k)), (0, .ref (ad 0)), (1, .int (nI q)), (2, .int (nI 1))]) hx hb dX6_alter_5 rfl hl (by decide) rfl (fun ls hl => ?_)
        refine lv_aload_n hx hb dX6_alter_6 rfl (lv_at hl 0 rfl) ?_
        refine lv_ifnonnull (tgt := 12) hx hb dX6_alter_7 (by decide) ?_
        refine lv_iload_n hx hb dX6_alter_12 rfl (lv_at hl 3 rfl) ?_
        refine lv_tableIn (off := 43) (tgt := 56) hx hb dX6_alter_13 (by decide) (by decide) (by decide) (by decide) ?_
        refine lv_aload_n hx hb dX6_alter_56 rfl (lv_at hl 0 rfl) ?_
        refine m_get hx hb hts inX3 hown hK hP (ci := 3) rfl (k := k) (by omega) h1 2 (by decide) (hts (.fieldLink RX6 38 "RollbackPair$Peer" "arriving" "LRollbackPair$Row;") (by decide +kernel)) rfl dX6_alter_57 ?_
        refine k_Vi (As := []) (rest := []) (k := r1) (ci := 4) ⟨hx, hb, hml, hown, hts⟩ hK hP hS Ad_le (c_df_no l D cs ad 146 hJ M r1 sg9 r pk (by omega) hsg hA hrz) (cwV 0 hts gX6_alter_X4_doubleFirst rfl rfl rfl (by decide +kernel) ⟨Nat.le_of_ble_eq_true rfl, Nat.le_of_ble_eq_true rfl⟩) (by omega) hA1 rfl rfl rfl hl.1 (Nat.le_of_ble_eq_true rfl) dX6_alter_60 ⟨Nat.le_of_ble_eq_true rfl, Nat.le_of_ble_eq_true rfl⟩ (fun r_2 M1 H locs hpo hP hS _ _ => ?_)
        obtain ⟨hMe, rfl⟩ := hpo
        rw [hMe] at hP
        exact r_z hx hb hr hlocks hK hP hS dX6_alter_63 (by first | rfl | decide) ⟨rfl, rfl⟩
      · have hrz : r = 0 := hz2.elim id (fun z => absurd z.1 (by decide))
        refine lv_aload_n hx hb dX6_alter_0 rfl (lv_at hl 0 rfl) ?_
        refine lv_iload_n hx hb dX6_alter_1 rfl (lv_at hl 1 rfl) ?_
        refine k_Vq (As := [.int (nI q)]) (rest := []) (k := 0) (ci := 6) ⟨hx, hb, hml, hown, hts⟩ hK hP hS Ad_le (c6_find l D cs ad hJ M g q hq h0 hg1 k hgk) (cwV 1 hts gX6_alter_X6_find rfl rfl rfl (by decide +kernel) ⟨Nat.le_of_ble_eq_true rfl, Nat.le_of_ble_eq_true rfl⟩) (by omega) h0 rfl rfl rfl hl.1 (Nat.le_of_ble_eq_true rfl) dX6_alter_2 ⟨Nat.le_of_ble_eq_true rfl, Nat.le_of_ble_eq_true rfl⟩ (fun r_1 M1 H locs hpo hP hS _ _ => ?_)
        obtain ⟨hMe, rfl⟩ := hpo
        rw [hMe] at hP
        refine lv_astore_n (lv' := [(3, .ref (ad k)), (0, .ref (ad 0)), (1, .int (nI q)), (2, .int (nI 2))]) hx hb dX6_alter_5 rfl hl (by decide) rfl (fun ls hl => ?_)
        refine lv_aload_n hx hb dX6_alter_6 rfl (lv_at hl 0 rfl) ?_
        refine lv_ifnonnull (tgt := 12) hx hb dX6_alter_7 (by decide) ?_
        refine lv_iload_n hx hb dX6_alter_12 rfl (lv_at hl 3 rfl) ?_
        refine lv_tableIn (off := 51) (tgt := 64) hx hb dX6_alter_13 (by decide) (by decide) (by decide) (by decide) ?_
        refine lv_aload_n hx hb dX6_alter_64 rfl (lv_at hl 0 rfl) ?_
        refine m_get hx hb hts inX3 hown hK hP (ci := 3) rfl (k := k) (by omega) h1 2 (by decide) (hts (.fieldLink RX6 38 "RollbackPair$Peer" "arriving" "LRollbackPair$Row;") (by decide +kernel)) rfl dX6_alter_65 ?_
        refine k_Vi (As := []) (rest := []) (k := r1) (ci := 4) ⟨hx, hb, hml, hown, hts⟩ hK hP hS Ad_le (c_sfe0 l D cs ad 146 hJ M r1 sg9 r pk (by omega) hsg hA hrz) (cwV 0 hts gX6_alter_X4_sendFirstToEnd rfl rfl rfl (by decide +kernel) ⟨Nat.le_of_ble_eq_true rfl, Nat.le_of_ble_eq_true rfl⟩) (by omega) hA1 rfl rfl rfl hl.1 (Nat.le_of_ble_eq_true rfl) dX6_alter_68 ⟨Nat.le_of_ble_eq_true rfl, Nat.le_of_ble_eq_true rfl⟩ (fun r_2 M1 H locs hpo hP hS _ _ => ?_)
        obtain ⟨hMe, rfl⟩ := hpo
        rw [hMe] at hP
        exact r_z hx hb hr hlocks hK hP hS dX6_alter_71 (by first | rfl | decide) ⟨rfl, rfl⟩
    · refine lv_aload_n hx hb dX6_alter_0 rfl (lv_at hl 0 rfl) ?_
      refine lv_iload_n hx hb dX6_alter_1 rfl (lv_at hl 1 rfl) ?_
      refine k_Vq (As := [.int (nI q)]) (rest := []) (k := 0) (ci := 6) ⟨hx, hb, hml, hown, hts⟩ hK hP hS Ad_le (c6_find l D cs ad hJ M g q hq h0 hg1 k hgk) (cwV 1 hts gX6_alter_X6_find rfl rfl rfl (by decide +kernel) ⟨Nat.le_of_ble_eq_true rfl, Nat.le_of_ble_eq_true rfl⟩) (by omega) h0 rfl rfl rfl hl.1 (Nat.le_of_ble_eq_true rfl) dX6_alter_2 ⟨Nat.le_of_ble_eq_true rfl, Nat.le_of_ble_eq_true rfl⟩ (fun r_1 M1 H locs hpo hP hS _ _ => ?_)
      obtain ⟨hMe, rfl⟩ := hpo
      rw [hMe] at hP
      refine lv_astore_n (lv' := [(3, .ref (ad k)), (0, .ref (ad 0)), (1, .int (nI q)), (2, .int how)]) hx hb dX6_alter_5 rfl hl (by decide) rfl (fun ls hl => ?_)
      refine lv_aload_n hx hb dX6_alter_6 rfl (lv_at hl 0 rfl) ?_
      refine lv_ifnonnull (tgt := 12) hx hb dX6_alter_7 (by decide) ?_
      refine lv_iload_n hx hb dX6_alter_12 rfl (lv_at hl 3 rfl) ?_
      refine lv_tableOut (tgt := 72) hx hb dX6_alter_13 (hout.elim (fun z => Or.inl (Int32.lt_iff_toInt_lt.mp z)) (fun z => Or.inr (Int32.lt_iff_toInt_lt.mp z))) (by decide) ?_
      refine lv_iconst (v := nI 0) hx hb dX6_alter_72 (by decide) ?_
      exact r_z hx hb hr hlocks hK hP hS dX6_alter_73 (by first | rfl | decide) ⟨rfl, rfl⟩
  · obtain ⟨h0, ⟨g, hg1, hg2⟩, -⟩ := id hC
    refine lv_aload_n hx hb dX6_alter_0 rfl (lv_at hl 0 rfl) ?_
    refine lv_iload_n hx hb dX6_alter_1 rfl (lv_at hl 1 rfl) ?_
    refine k_Vq (As := [.int pe]) (rest := []) (k := 0) (ci := 6) ⟨hx, hb, hml, hown, hts⟩ hK hP hS Ad_le (c6_find0 l D cs ad hJ M pe hpe) (cwV 1 hts gX6_alter_X6_find rfl rfl rfl (by decide +kernel) ⟨Nat.le_of_ble_eq_true rfl, Nat.le_of_ble_eq_true rfl⟩) (by omega) h0 rfl rfl rfl hl.1 (Nat.le_of_ble_eq_true rfl) dX6_alter_2 ⟨Nat.le_of_ble_eq_true rfl, Nat.le_of_ble_eq_true rfl⟩ (fun r_1 M1 H locs hpo hP hS _ _ => ?_)
    obtain ⟨hMe, rfl⟩ := hpo
    rw [hMe] at hP
    refine lv_astore_nN (lv' := [(3, .null), (0, .ref (ad 0)), (1, .int pe), (2, .int how)]) hx hb dX6_alter_5 rfl hl (by decide) rfl (fun ls hl => ?_)
    refine lv_aload_nN hx hb dX6_alter_6 rfl (lv_at hl 0 rfl) ?_
    refine lv_ifnonnullN hx hb dX6_alter_7 ?_
    refine lv_iconst (v := nI 0) hx hb dX6_alter_10 (by decide) ?_
    exact r_z hx hb hr hlocks hK hP hS dX6_alter_11 (by first | rfl | decide) ⟨rfl, rfl⟩
set_option maxHeartbeats 4000000 in
set_option maxRecDepth 100000 in
/-- alter(q, how) -/
theorem c6_alter (l : Launch) (D : va_G) (cs : Nat → ClassId) (ad : Nat → Nat) (hJ : Inj ad 146) (M : Nat → va_E) (dd ww N : Nat) (S : SS) (hdd : dd ≤ 4) (hw1 : 1 ≤ ww) (hw2 : ww ≤ 8) (hN : N ≤ 550) (hC : CR dd ww N ad cs M S) (q how r0 : Nat) (hq : q < 2) (hh9 : how ≤ 2) (hr9 : S.1 19 q = nI r0) (hr1 : 1 ≤ r0) (hr2 : r0 ≤ 12) (hr3 : how = 1 → r0 ≠ 12) : CTi l yX6_alter wsX6_alter ({ frames := 3, cells := 0, slots := 0, locals := 66 }) D cs ad 146 M [.ref (ad 0), .int (nI q), .int (nI how)] (fun r M2 => r = nI 1 ∧ CR dd ww (N + 1) ad cs M2 (mAl S q how)) := by
  refine Met.ofW (cc := cX6_alter) (maxL := 4) (ret := (some .boolean)) (by decide) rfl ?_
  intro p e s m args below meth c s₁ B hml hv
  obtain ⟨rfl, hP, hK⟩ := hv
  have hx := B.exec
  have hb := B.bytes
  have hr := B.returns
  have hts := atoms_spec (ws := wsX6_alter) B.pre
  have hown : s.vm.findClass RX6 = some m.cls := findClass_of_methodNamed B.named
  have hlocks := B.notSynchronized
  have hS : va_S (Ad ad 146) s.heap s.heap [] := va_S.rf
  have hl := lv_entry ([.ref (ad 0), .int (nI q), .int (nI how)]) (n := 4) (Nat.le_of_ble_eq_true rfl)
  rw [lg_entry_eq]
  generalize (lg_sl ([.ref (ad 0), .int (nI q), .int (nI how)]) ++ List.replicate (4 - (lg_sl ([.ref (ad 0), .int (nI q), .int (nI how)])).length) Slot.unset).toArray = ls at hl ⊢
  have hl : lv_has ls 4 [(0, .ref (ad 0)), (1, .int (nI q)), (2, .int (nI how))] := hl
  have inX6 : ∀ w ∈ u_ws RX6 TX6 1, w ∈ wsX6_alter := fun w h => List.mem_cons_of_mem _ (List.mem_append_left _ (List.mem_append_left _ (List.mem_append_right _ h)))
  have inX3 : ∀ w ∈ u_ws RX3 TX3 14, w ∈ wsX6_alter := fun w h => List.mem_cons_of_mem _ (List.mem_append_left _ (List.mem_append_left _ (List.mem_append_left _ (List.mem_append_right _ h))))
  obtain ⟨k, r1, r2, a, nt, ek, er1, er2, haN, hI, hPe, hRw, hRw2⟩ := hC.get q hq
  obtain ⟨h0, ⟨g, hg1, hg2⟩, -, -, hs20, hs87⟩ := id hC
  have hgk : g q = some (ad k) := by rw [ek]; exact hg2 q hq
  have hPe0 := hPe
  obtain ⟨X, V, hh, wk, U, gO, gT, h1, hH, hR, h2, h3, hOw, h4, h5, hOt⟩ := hPe
  obtain ⟨I1, I2, I3, I4, I5, I6, ⟨tt, I7, I8⟩, I9, I10, I11, I12, I13⟩ := id hI
  obtain ⟨sg9, pk, r, hA, hr0, hrl, hsg, hinj, hpk⟩ := id hRw
  have hA1 := hA.1
  obtain ⟨s1, s2, s3⟩ := hH.2.2.2.2.2 (a % 16) (by omega)
  have hR1 := hR.1 a (by omega) (Nat.le_refl a)
  have hao := aOf_eq hq (by omega) I1
  have htq : tn (nI q) = q := tn_nI (by omega)
  have hrr : r = r0 := (nI_eq (by omega) (by omega)).mp (hr0.symm.trans hr9)
  subst hrr
  have hAl : ∀ x, Ag S (mAl S q how) x := fun x => Ag.of (fun j hj => mAl_k hj) (mAl_F S q how)
  have hAs := mAl_sh (q := q) (how := how) hs20
  have hA8 : (mAl S q how).1 8 = S.1 8 := mAl_k (by decide)
  have hA7 : (mAl S q how).1 7 = S.1 7 := mAl_k (by decide)
  have fin : ∀ N1, RwS ad cs r1 N1 (mAl S q how) q → RwS ad cs r2 N1 (mAl S q how) (1 - q) → (∀ j, (j < r1 ∨ r1 + 14 ≤ j) → N1 j = M j) → CR dd ww (N + 1) ad cs N1 (mAl S q how) := fun N1 w1 w2 w3 => CR_step hC hdd hN hq (by omega) ((hAl q).toI hq hdd (by omega) hI) (by rw [← ek, ← er1, ← er2]; exact (hAl q).toP hq (by omega) (by omega) (by omega) hPe0 (fun j z1 z2 => w3 j (by omega))) (hAl (1 - q)) (by rw [← er1]; exact w1) (by rw [← er2]; exact w2) (fun j hj => w3 j (by omega)) hAs (fun x hx => ⟨by rw [hA8]; exact (hs87 x hx).1, by rw [hA7]; exact (hs87 x hx).2⟩)
  rcases (show how = 0 ∨ how = 1 ∨ how = 2 by omega) with rfl | rfl | rfl
  · refine lv_aload_n hx hb dX6_alter_0 rfl (lv_at hl 0 rfl) ?_
    refine lv_iload_n hx hb dX6_alter_1 rfl (lv_at hl 1 rfl) ?_
    refine k_Vq (As := [.int (nI q)]) (rest := []) (k := 0) (ci := 6) ⟨hx, hb, hml, hown, hts⟩ hK hP hS Ad_le (c6_find l D cs ad hJ M g q hq h0 hg1 k hgk) (cwV 1 hts gX6_alter_X6_find rfl rfl rfl (by decide +kernel) ⟨Nat.le_of_ble_eq_true rfl, Nat.le_of_ble_eq_true rfl⟩) (by omega) h0 rfl rfl rfl hl.1 (Nat.le_of_ble_eq_true rfl) dX6_alter_2 ⟨Nat.le_of_ble_eq_true rfl, Nat.le_of_ble_eq_true rfl⟩ (fun r_1 M1 H locs hpo hP hS _ _ => ?_)
    obtain ⟨hMe, rfl⟩ := hpo
    rw [hMe] at hP
    refine lv_astore_n (lv' := [(3, .ref (ad k)), (0, .ref (ad 0)), (1, .int (nI q)), (2, .int (nI 0))]) hx hb dX6_alter_5 rfl hl (by decide) rfl (fun ls hl => ?_)
    refine lv_aload_n hx hb dX6_alter_6 rfl (lv_at hl 0 rfl) ?_
    refine lv_ifnonnull (tgt := 12) hx hb dX6_alter_7 (by decide) ?_
    refine lv_iload_n hx hb dX6_alter_12 rfl (lv_at hl 3 rfl) ?_
    refine lv_tableIn (off := 27) (tgt := 40) hx hb dX6_alter_13 (by decide) (by decide) (by decide) (by decide) ?_
    refine lv_aload_n hx hb dX6_alter_40 rfl (lv_at hl 0 rfl) ?_
    refine m_get hx hb hts inX3 hown hK hP (ci := 3) rfl (k := k) (by omega) h1 2 (by decide) (hts (.fieldLink RX6 38 "RollbackPair$Peer" "arriving" "LRollbackPair$Row;") (by decide +kernel)) rfl dX6_alter_41 ?_
    refine k_Vq (As := []) (rest := []) (k := r1) (ci := 4) ⟨hx, hb, hml, hown, hts⟩ hK hP hS Ad_le (c_tf l D cs ad 146 hJ M r1 sg9 r pk (by omega) hsg hA (by omega) hrl) (cwV 0 hts gX6_alter_X4_takeFirst rfl rfl rfl (by decide +kernel) ⟨Nat.le_of_ble_eq_true rfl, Nat.le_of_ble_eq_true rfl⟩) (by omega) hA1 rfl rfl rfl hl.1 (Nat.le_of_ble_eq_true rfl) dX6_alter_44 ⟨Nat.le_of_ble_eq_true rfl, Nat.le_of_ble_eq_true rfl⟩ (fun r_2 N1 H locs hpo hP hS _ _ => ?_)
    obtain ⟨rfl, t1, t2⟩ := hpo
    refine lv_ifnull hx hb dX6_alter_47 ?_
    refine lv_iconst (v := nI 1) hx hb dX6_alter_50 (by decide) ?_
    refine lv_goto (tgt := 55) hx hb dX6_alter_51 (by decide) ?_
    exact r_z hx hb hr hlocks hK hP hS dX6_alter_55 (by first | rfl | decide) ⟨rfl, fin N1 (RwS_take hq t1 hr0 hrl (by omega) hsg hinj hpk) (RwS_take2 hq (hRw2.kept (fun j z1 z2 => t2 j (by omega))) hr0 hrl) t2⟩
  · refine lv_aload_n hx hb dX6_alter_0 rfl (lv_at hl 0 rfl) ?_
    refine lv_iload_n hx hb dX6_alter_1 rfl (lv_at hl 1 rfl) ?_
    refine k_Vq (As := [.int (nI q)]) (rest := []) (k := 0) (ci := 6) ⟨hx, hb, hml, hown, hts⟩ hK hP hS Ad_le (c6_find l D cs ad hJ M g q hq h0 hg1 k hgk) (cwV 1 hts gX6_alter_X6_find rfl rfl rfl (by decide +kernel) ⟨Nat.le_of_ble_eq_true rfl, Nat.le_of_ble_eq_true rfl⟩) (by omega) h0 rfl rfl rfl hl.1 (Nat.le_of_ble_eq_true rfl) dX6_alter_2 ⟨Nat.le_of_ble_eq_true rfl, Nat.le_of_ble_eq_true rfl⟩ (fun r_1 M1 H locs hpo hP hS _ _ => ?_)
    obtain ⟨hMe, rfl⟩ := hpo
    rw [hMe] at hP
    refine lv_astore_n (lv' := [(3, .ref (ad k)), (0, .ref (ad 0)), (1, .int (nI q)), (2, .int (nI 1))]) hx hb dX6_alter_5 rfl hl (by decide) rfl (fun ls hl => ?_)
    refine lv_aload_n hx hb dX6_alter_6 rfl (lv_at hl 0 rfl) ?_
    refine lv_ifnonnull (tgt := 12) hx hb dX6_alter_7 (by decide) ?_
    refine lv_iload_n hx hb dX6_alter_12 rfl (lv_at hl 3 rfl) ?_
    refine lv_tableIn (off := 43) (tgt := 56) hx hb dX6_alter_13 (by decide) (by decide) (by decide) (by decide) ?_
    refine lv_aload_n hx hb dX6_alter_56 rfl (lv_at hl 0 rfl) ?_
    refine m_get hx hb hts inX3 hown hK hP (ci := 3) rfl (k := k) (by omega) h1 2 (by decide) (hts (.fieldLink RX6 38 "RollbackPair$Peer" "arriving" "LRollbackPair$Row;") (by decide +kernel)) rfl dX6_alter_57 ?_
    have hne : r ≠ 12 := hr3 rfl
    refine k_Vi (As := []) (rest := []) (k := r1) (ci := 4) ⟨hx, hb, hml, hown, hts⟩ hK hP hS Ad_le (c_df l D cs ad 146 hJ M r1 sg9 r pk (by omega) hsg hA (by omega) (by omega) (fun z => absurd (hinj r 0 (by omega) (by decide) z) (by omega)) (by rw [hpk 0 (by omega)]; exact hs20 _)) (cwV 0 hts gX6_alter_X4_doubleFirst rfl rfl rfl (by decide +kernel) ⟨Nat.le_of_ble_eq_true rfl, Nat.le_of_ble_eq_true rfl⟩) (by omega) hA1 rfl rfl rfl hl.1 (Nat.le_of_ble_eq_true rfl) dX6_alter_60 ⟨Nat.le_of_ble_eq_true rfl, Nat.le_of_ble_eq_true rfl⟩ (fun r_2 N1 H locs hpo hP hS _ _ => ?_)
    obtain ⟨rfl, t1, t2⟩ := hpo
    exact r_z hx hb hr hlocks hK hP hS dX6_alter_63 (by first | rfl | decide) ⟨rfl, fin N1 (RwS_dbl hq t1 hr0 (by omega) (by omega) hsg hinj hpk) (RwS_dbl2 hq (hRw2.kept (fun j z1 z2 => t2 j (by omega))) hr0 (by omega)) t2⟩
  · refine lv_aload_n hx hb dX6_alter_0 rfl (lv_at hl 0 rfl) ?_
    refine lv_iload_n hx hb dX6_alter_1 rfl (lv_at hl 1 rfl) ?_
    refine k_Vq (As := [.int (nI q)]) (rest := []) (k := 0) (ci := 6) ⟨hx, hb, hml, hown, hts⟩ hK hP hS Ad_le (c6_find l D cs ad hJ M g q hq h0 hg1 k hgk) (cwV 1 hts gX6_alter_X6_find rfl rfl rfl (by decide +kernel) ⟨Nat.le_of_ble_eq_true rfl, Nat.le_of_ble_eq_true rfl⟩) (by omega) h0 rfl rfl rfl hl.1 (Nat.le_of_ble_eq_true rfl) dX6_alter_2 ⟨Nat.le_of_ble_eq_true rfl, Nat.le_of_ble_eq_true rfl⟩ (fun r_1 M1 H locs hpo hP hS _ _ => ?_)
    obtain ⟨hMe, rfl⟩ := hpo
    rw [hMe] at hP
    refine lv_astore_n (lv' := [(3, .ref (ad k)), (0, .ref (ad 0)), (1, .int (nI q)), (2, .int (nI 2))]) hx hb dX6_alter_5 rfl hl (by decide) rfl (fun ls hl => ?_)
    refine lv_aload_n hx hb dX6_alter_6 rfl (lv_at hl 0 rfl) ?_
    refine lv_ifnonnull (tgt := 12) hx hb dX6_alter_7 (by decide) ?_
    refine lv_iload_n hx hb dX6_alter_12 rfl (lv_at hl 3 rfl) ?_
    refine lv_tableIn (off := 51) (tgt := 64) hx hb dX6_alter_13 (by decide) (by decide) (by decide) (by decide) ?_
    refine lv_aload_n hx hb dX6_alter_64 rfl (lv_at hl 0 rfl) ?_
    refine m_get hx hb hts inX3 hown hK hP (ci := 3) rfl (k := k) (by omega) h1 2 (by decide) (hts (.fieldLink RX6 38 "RollbackPair$Peer" "arriving" "LRollbackPair$Row;") (by decide +kernel)) rfl dX6_alter_65 ?_
    refine k_Vi (As := []) (rest := []) (k := r1) (ci := 4) ⟨hx, hb, hml, hown, hts⟩ hK hP hS Ad_le (c_sfe l D cs ad 146 hJ M r1 sg9 r pk (by omega) hsg hA (by omega) hrl) (cwV 0 hts gX6_alter_X4_sendFirstToEnd rfl rfl rfl (by decide +kernel) ⟨Nat.le_of_ble_eq_true rfl, Nat.le_of_ble_eq_true rfl⟩) (by omega) hA1 rfl rfl rfl hl.1 (Nat.le_of_ble_eq_true rfl) dX6_alter_68 ⟨Nat.le_of_ble_eq_true rfl, Nat.le_of_ble_eq_true rfl⟩ (fun r_2 N1 H locs hpo hP hS _ _ => ?_)
    obtain ⟨rfl, ⟨g2, t1, t3⟩, t4⟩ := hpo
    have t2 : ∀ j, (j < r1 ∨ r1 + 14 ≤ j) → N1 j = M j := fun j hj => t4 j (by omega)
    have t5 : RwA ad cs r1 N1 (rot sg9 r) r pk := ⟨(t4 _ (by omega)).trans hA.1, ⟨g2, t1, t3⟩, fun i hi => (t4 _ (by omega)).trans (hA.2.2 i hi)⟩
    exact r_z hx hb hr hlocks hK hP hS dX6_alter_71 (by first | rfl | decide) ⟨rfl, fin N1 (RwS_end hq t5 hr0 hrl (by omega) hsg hinj hpk) (RwS_end2 hq (hRw2.kept (fun j z1 z2 => t2 j (by omega))) hr0 hrl (by omega)) t2⟩
set_option maxHeartbeats 4000000 in
set_option maxRecDepth 100000 in
/-- spoil, refused -/
theorem c6_spoil_no (l : Launch) (D : va_G) (cs : Nat → ClassId) (ad : Nat → Nat) (hJ : Inj ad 146) (M : Nat → va_E) (dd ww N : Nat) (S : SS) (hdd : dd ≤ 4) (hw1 : 1 ≤ ww) (hw2 : ww ≤ 8) (hN : N ≤ 550) (hC : CR dd ww N ad cs M S) (pe part bits : Int32) (hz : noSl S pe part) : CTi l yX6_spoil wsX6_spoil ({ frames := 3, cells := 0, slots := 0, locals := 66 }) D cs ad 146 M [.ref (ad 0), .int pe, .int part, .int bits] (fun r M2 => M2 = M ∧ r = nI 0) := by
  refine Met.ofW (cc := cX6_spoil) (maxL := 6) (ret := (some .boolean)) (by decide) rfl ?_
  intro p e s m args below meth c s₁ B hml hv
  obtain ⟨rfl, hP, hK⟩ := hv
  have hx := B.exec
  have hb := B.bytes
  have hr := B.returns
  have hts := atoms_spec (ws := wsX6_spoil) B.pre
  have hown : s.vm.findClass RX6 = some m.cls := findClass_of_methodNamed B.named
  have hlocks := B.notSynchronized
  have hS : va_S (Ad ad 146) s.heap s.heap [] := va_S.rf
  have hl := lv_entry ([.ref (ad 0), .int pe, .int part, .int bits]) (n := 6) (Nat.le_of_ble_eq_true rfl)
  rw [lg_entry_eq]
  generalize (lg_sl ([.ref (ad 0), .int pe, .int part, .int bits]) ++ List.replicate (6 - (lg_sl ([.ref (ad 0), .int pe, .int part, .int bits])).length) Slot.unset).toArray = ls at hl ⊢
  have hl : lv_has ls 6 [(0, .ref (ad 0)), (1, .int pe), (2, .int part), (3, .int bits)] := hl
  have inX6 : ∀ w ∈ u_ws RX6 TX6 1, w ∈ wsX6_spoil := fun w h => List.mem_cons_of_mem _ (List.mem_append_left _ (List.mem_append_left _ (List.mem_append_right _ h)))
  have inX3 : ∀ w ∈ u_ws RX3 TX3 14, w ∈ wsX6_spoil := fun w h => List.mem_cons_of_mem _ (List.mem_append_left _ (List.mem_append_left _ (List.mem_append_left _ (List.mem_append_right _ h))))
  by_cases hpe : two pe
  · obtain ⟨q, hq, rfl⟩ := two_q hpe
    obtain ⟨k, r1, r2, a, nt, ek, er1, er2, haN, hI, hPe, hRw, hRw2⟩ := hC.get q hq
    obtain ⟨h0, ⟨g, hg1, hg2⟩, -, -, hs20, hs87⟩ := id hC
    have hgk : g q = some (ad k) := by rw [ek]; exact hg2 q hq
    have hPe0 := hPe
    obtain ⟨X, V, hh, wk, U, gO, gT, h1, hH, hR, h2, h3, hOw, h4, h5, hOt⟩ := hPe
    obtain ⟨I1, I2, I3, I4, I5, I6, ⟨tt, I7, I8⟩, I9, I10, I11, I12, I13⟩ := id hI
    obtain ⟨sg9, pk, r, hA, hr0, hrl, hsg, hinj, hpk⟩ := id hRw
    have hA1 := hA.1
    obtain ⟨s1, s2, s3⟩ := hH.2.2.2.2.2 (a % 16) (by omega)
    have hR1 := hR.1 a (by omega) (Nat.le_refl a)
    have hao := aOf_eq hq (by omega) I1
    have htq : tn (nI q) = q := tn_nI (by omega)
    by_cases hrz : r = 0
    · refine lv_aload_n hx hb dX6_spoil_0 rfl (lv_at hl 0 rfl) ?_
      refine lv_iload_n hx hb dX6_spoil_1 rfl (lv_at hl 1 rfl) ?_
      refine k_Vq (As := [.int (nI q)]) (rest := []) (k := 0) (ci := 6) ⟨hx, hb, hml, hown, hts⟩ hK hP hS Ad_le (c6_find l D cs ad hJ M g q hq h0 hg1 k hgk) (cwV 1 hts gX6_spoil_X6_find rfl rfl rfl (by decide +kernel) ⟨Nat.le_of_ble_eq_true rfl, Nat.le_of_ble_eq_true rfl⟩) (by omega) h0 rfl rfl rfl hl.1 (Nat.le_of_ble_eq_true rfl) dX6_spoil_2 ⟨Nat.le_of_ble_eq_true rfl, Nat.le_of_ble_eq_true rfl⟩ (fun r_1 M1 H locs hpo hP hS _ _ => ?_)
      obtain ⟨hMe, rfl⟩ := hpo
      rw [hMe] at hP
      refine lv_astore (lv' := [(4, .ref (ad k)), (0, .ref (ad 0)), (1, .int (nI q)), (2, .int part), (3, .int bits)]) hx hb dX6_spoil_5 hl (by decide) rfl (fun ls hl => ?_)
      refine lv_aload hx hb dX6_spoil_7 (lv_at hl 0 rfl) ?_
      refine lv_ifnonnull (tgt := 14) hx hb dX6_spoil_9 (by decide) ?_
      refine lv_aload hx hb dX6_spoil_14 (lv_at hl 0 rfl) ?_
      refine m_get hx hb hts inX3 hown hK hP (ci := 3) rfl (k := k) (by omega) h1 2 (by decide) (hts (.fieldLink RX6 38 "RollbackPair$Peer" "arriving" "LRollbackPair$Row;") (by decide +kernel)) rfl dX6_spoil_16 ?_
      refine k_Vq (As := []) (rest := []) (k := r1) (ci := 4) ⟨hx, hb, hml, hown, hts⟩ hK hP hS Ad_le (c_first0 l D cs ad 146 hJ M r1 sg9 r pk (by omega) hsg hA hrz) (cwV 0 hts gX6_spoil_X4_first rfl rfl rfl (by decide +kernel) ⟨Nat.le_of_ble_eq_true rfl, Nat.le_of_ble_eq_true rfl⟩) (by omega) hA1 rfl rfl rfl hl.1 (Nat.le_of_ble_eq_true rfl) dX6_spoil_19 ⟨Nat.le_of_ble_eq_true rfl, Nat.le_of_ble_eq_true rfl⟩ (fun r_2 M1 H locs hpo hP hS _ _ => ?_)
      obtain ⟨hMe, rfl⟩ := hpo
      rw [hMe] at hP
      refine lv_astoreN (lv' := [(5, .null), (4, .ref (ad k)), (0, .ref (ad 0)), (1, .int (nI q)), (2, .int part), (3, .int bits)]) hx hb dX6_spoil_22 hl (by decide) rfl (fun ls hl => ?_)
      refine lv_aloadN hx hb dX6_spoil_24 (lv_at hl 0 rfl) ?_
      refine lv_ifnullN (tgt := 43) hx hb dX6_spoil_26 (by decide) ?_
      refine lv_iconst (v := nI 0) hx hb dX6_spoil_43 (by decide) ?_
      exact r_z hx hb hr hlocks hK hP hS dX6_spoil_44 (by first | rfl | decide) ⟨rfl, rfl⟩
    · have hs0 := hsg 0 (by decide)
      have hpl : part < 0 ∨ nI 6 < part := by
        rcases hz with z | z | z | z
        · exact absurd (two_in hq) z
        · exact Or.inl z
        · exact Or.inr z
        · rw [htq, hr0] at z; exact absurd ((nI_eq (by omega) (by decide)).mp (z.trans nI_0.symm)) hrz
      have hpp : M (r1 + 2 + sg9 0) = oT (pk (sg9 0)) := hA.2.2 _ hs0
      refine lv_aload_n hx hb dX6_spoil_0 rfl (lv_at hl 0 rfl) ?_
      refine lv_iload_n hx hb dX6_spoil_1 rfl (lv_at hl 1 rfl) ?_
      refine k_Vq (As := [.int (nI q)]) (rest := []) (k := 0) (ci := 6) ⟨hx, hb, hml, hown, hts⟩ hK hP hS Ad_le (c6_find l D cs ad hJ M g q hq h0 hg1 k hgk) (cwV 1 hts gX6_spoil_X6_find rfl rfl rfl (by decide +kernel) ⟨Nat.le_of_ble_eq_true rfl, Nat.le_of_ble_eq_true rfl⟩) (by omega) h0 rfl rfl rfl hl.1 (Nat.le_of_ble_eq_true rfl) dX6_spoil_2 ⟨Nat.le_of_ble_eq_true rfl, Nat.le_of_ble_eq_true rfl⟩ (fun r_1 M1 H locs hpo hP hS _ _ => ?_)
      obtain ⟨hMe, rfl⟩ := hpo
      rw [hMe] at hP
      refine lv_astore (lv' := [(4, .ref (ad k)), (0, .ref (ad 0)), (1, .int (nI q)), (2, .int part), (3, .int bits)]) hx hb dX6_spoil_5 hl (by decide) rfl (fun ls hl => ?_)
      refine lv_aload hx hb dX6_spoil_7 (lv_at hl 0 rfl) ?_
      refine lv_ifnonnull (tgt := 14) hx hb dX6_spoil_9 (by decide) ?_
      refine lv_aload hx hb dX6_spoil_14 (lv_at hl 0 rfl) ?_
      refine m_get hx hb hts inX3 hown hK hP (ci := 3) rfl (k := k) (by omega) h1 2 (by decide) (hts (.fieldLink RX6 38 "RollbackPair$Peer" "arriving" "LRollbackPair$Row;") (by decide +kernel)) rfl dX6_spoil_16 ?_
      refine k_Vq (As := []) (rest := []) (k := r1) (ci := 4) ⟨hx, hb, hml, hown, hts⟩ hK hP hS Ad_le (c_first1 l D cs ad 146 hJ M r1 sg9 r pk (by omega) hsg hA (by omega) hrl) (cwV 0 hts gX6_spoil_X4_first rfl rfl rfl (by decide +kernel) ⟨Nat.le_of_ble_eq_true rfl, Nat.le_of_ble_eq_true rfl⟩) (by omega) hA1 rfl rfl rfl hl.1 (Nat.le_of_ble_eq_true rfl) dX6_spoil_19 ⟨Nat.le_of_ble_eq_true rfl, Nat.le_of_ble_eq_true rfl⟩ (fun r_2 M1 H locs hpo hP hS _ _ => ?_)
      obtain ⟨hMe, rfl⟩ := hpo
      rw [hMe] at hP
      refine lv_astore (lv' := [(5, .ref (ad (r1 + 2 + sg9 0))), (4, .ref (ad k)), (0, .ref (ad 0)), (1, .int (nI q)), (2, .int part), (3, .int bits)]) hx hb dX6_spoil_22 hl (by decide) rfl (fun ls hl => ?_)
      refine lv_aload hx hb dX6_spoil_24 (lv_at hl 0 rfl) ?_
      refine lv_ifnull hx hb dX6_spoil_26 ?_
      refine lv_aload hx hb dX6_spoil_29 (lv_at hl 0 rfl) ?_
      refine lv_iload_n hx hb dX6_spoil_31 rfl (lv_at hl 4 rfl) ?_
      refine lv_iload_n hx hb dX6_spoil_32 rfl (lv_at hl 5 rfl) ?_
      refine k_Vi (As := [.int part, .int bits]) (rest := []) (k := (r1 + 2 + sg9 0)) (ci := 2) ⟨hx, hb, hml, hown, hts⟩ hK hP hS Ad_le (c_flip_no l D cs ad 146 hJ M (r1 + 2 + sg9 0) part bits hpl) (cwV 2 hts gX6_spoil_X2_flip rfl rfl rfl (by decide +kernel) ⟨Nat.le_of_ble_eq_true rfl, Nat.le_of_ble_eq_true rfl⟩) (by omega) hpp rfl rfl rfl hl.1 (Nat.le_of_ble_eq_true rfl) dX6_spoil_33 ⟨Nat.le_of_ble_eq_true rfl, Nat.le_of_ble_eq_true rfl⟩ (fun r_3 M1 H locs hpo hP hS _ _ => ?_)
      obtain ⟨hMe, rfl⟩ := hpo
      rw [hMe] at hP
      refine n_if_eq (tgt := 43) hx hb dX6_spoil_36 (by decide) (by omega) (fun c_4 => ?_) (fun c_4 => absurd c_4 (by decide))
      refine lv_iconst (v := nI 0) hx hb dX6_spoil_43 (by decide) ?_
      exact r_z hx hb hr hlocks hK hP hS dX6_spoil_44 (by first | rfl | decide) ⟨rfl, rfl⟩
  · obtain ⟨h0, ⟨g, hg1, hg2⟩, -⟩ := id hC
    refine lv_aload_n hx hb dX6_spoil_0 rfl (lv_at hl 0 rfl) ?_
    refine lv_iload_n hx hb dX6_spoil_1 rfl (lv_at hl 1 rfl) ?_
    refine k_Vq (As := [.int pe]) (rest := []) (k := 0) (ci := 6) ⟨hx, hb, hml, hown, hts⟩ hK hP hS Ad_le (c6_find0 l D cs ad hJ M pe hpe) (cwV 1 hts gX6_spoil_X6_find rfl rfl rfl (by decide +kernel) ⟨Nat.le_of_ble_eq_true rfl, Nat.le_of_ble_eq_true rfl⟩) (by omega) h0 rfl rfl rfl hl.1 (Nat.le_of_ble_eq_true rfl) dX6_spoil_2 ⟨Nat.le_of_ble_eq_true rfl, Nat.le_of_ble_eq_true rfl⟩ (fun r_1 M1 H locs hpo hP hS _ _ => ?_)
    obtain ⟨hMe, rfl⟩ := hpo
    rw [hMe] at hP
    refine lv_astoreN (lv' := [(4, .null), (0, .ref (ad 0)), (1, .int pe), (2, .int part), (3, .int bits)]) hx hb dX6_spoil_5 hl (by decide) rfl (fun ls hl => ?_)
    refine lv_aloadN hx hb dX6_spoil_7 (lv_at hl 0 rfl) ?_
    refine lv_ifnonnullN hx hb dX6_spoil_9 ?_
    refine lv_iconst (v := nI 0) hx hb dX6_spoil_12 (by decide) ?_
    exact r_z hx hb hr hlocks hK hP hS dX6_spoil_13 (by first | rfl | decide) ⟨rfl, rfl⟩
set_option maxHeartbeats 4000000 in
set_option maxRecDepth 100000 in
/-- spoil(q, j, bits) -/
theorem c6_spoil (l : Launch) (D : va_G) (cs : Nat → ClassId) (ad : Nat → Nat) (hJ : Inj ad 146) (M : Nat → va_E) (dd ww N : Nat) (S : SS) (hdd : dd ≤ 4) (hw1 : 1 ≤ ww) (hw2 : ww ≤ 8) (hN : N ≤ 550) (hC : CR dd ww N ad cs M S) (q j r0 : Nat) (bits : Int32) (hq : q < 2) (hj : j ≤ 6) (hr9 : S.1 19 q = nI r0) (hr1 : 1 ≤ r0) (hr2 : r0 ≤ 12) : CTi l yX6_spoil wsX6_spoil ({ frames := 3, cells := 0, slots := 0, locals := 66 }) D cs ad 146 M [.ref (ad 0), .int (nI q), .int (nI j), .int bits] (fun r M2 => r = nI 1 ∧ CR dd ww (N + 1) ad cs M2 (mSpl S (12 * q) j bits)) := by
  refine Met.ofW (cc := cX6_spoil) (maxL := 6) (ret := (some .boolean)) (by decide) rfl ?_
  intro p e s m args below meth c s₁ B hml hv
  obtain ⟨rfl, hP, hK⟩ := hv
  have hx := B.exec
  have hb := B.bytes
  have hr := B.returns
  have hts := atoms_spec (ws := wsX6_spoil) B.pre
  have hown : s.vm.findClass RX6 = some m.cls := findClass_of_methodNamed B.named
  have hlocks := B.notSynchronized
  have hS : va_S (Ad ad 146) s.heap s.heap [] := va_S.rf
  have hl := lv_entry ([.ref (ad 0), .int (nI q), .int (nI j), .int bits]) (n := 6) (Nat.le_of_ble_eq_true rfl)
  rw [lg_entry_eq]
  generalize (lg_sl ([.ref (ad 0), .int (nI q), .int (nI j), .int bits]) ++ List.replicate (6 - (lg_sl ([.ref (ad 0), .int (nI q), .int (nI j), .int bits])).length) Slot.unset).toArray = ls at hl ⊢
  have hl : lv_has ls 6 [(0, .ref (ad 0)), (1, .int (nI q)), (2, .int (nI j)), (3, .int bits)] := hl
  have inX6 : ∀ w ∈ u_ws RX6 TX6 1, w ∈ wsX6_spoil := fun w h => List.mem_cons_of_mem _ (List.mem_append_left _ (List.mem_append_left _ (List.mem_append_right _ h)))
  have inX3 : ∀ w ∈ u_ws RX3 TX3 14, w ∈ wsX6_spoil := fun w h => List.mem_cons_of_mem _ (List.mem_append_left _ (List.mem_append_left _ (List.mem_append_left _ (List.mem_append_right _ h))))
  obtain ⟨k, r1, r2, a, nt, ek, er1, er2, haN, hI, hPe, hRw, hRw2⟩ := hC.get q hq
  obtain ⟨h0, ⟨g, hg1, hg2⟩, -, -, hs20, hs87⟩ := id hC
  have hgk : g q = some (ad k) := by rw [ek]; exact hg2 q hq
  have hPe0 := hPe
  obtain ⟨X, V, hh, wk, U, gO, gT, h1, hH, hR, h2, h3, hOw, h4, h5, hOt⟩ := hPe
  obtain ⟨I1, I2, I3, I4, I5, I6, ⟨tt, I7, I8⟩, I9, I10, I11, I12, I13⟩ := id hI
  obtain ⟨sg9, pk, r, hA, hr0, hrl, hsg, hinj, hpk⟩ := id hRw
  have hA1 := hA.1
  obtain ⟨s1, s2, s3⟩ := hH.2.2.2.2.2 (a % 16) (by omega)
  have hR1 := hR.1 a (by omega) (Nat.le_refl a)
  have hao := aOf_eq hq (by omega) I1
  have htq : tn (nI q) = q := tn_nI (by omega)
  have hrr : r = r0 := (nI_eq (by omega) (by omega)).mp (hr0.symm.trans hr9)
  subst hrr
  have hs0 := hsg 0 (by decide)
  have hpp : M (r1 + 2 + sg9 0) = oT (pk (sg9 0)) := hA.2.2 _ hs0
  refine lv_aload_n hx hb dX6_spoil_0 rfl (lv_at hl 0 rfl) ?_
  refine lv_iload_n hx hb dX6_spoil_1 rfl (lv_at hl 1 rfl) ?_
  refine k_Vq (As := [.int (nI q)]) (rest := []) (k := 0) (ci := 6) ⟨hx, hb, hml, hown, hts⟩ hK hP hS Ad_le (c6_find l D cs ad hJ M g q hq h0 hg1 k hgk) (cwV 1 hts gX6_spoil_X6_find rfl rfl rfl (by decide +kernel) ⟨Nat.le_of_ble_eq_true rfl, Nat.le_of_ble_eq_true rfl⟩) (by omega) h0 rfl rfl rfl hl.1 (Nat.le_of_ble_eq_true rfl) dX6_spoil_2 ⟨Nat.le_of_ble_eq_true rfl, Nat.le_of_ble_eq_true rfl⟩ (fun r_1 M1 H locs hpo hP hS _ _ => ?_)
  obtain ⟨hMe, rfl⟩ := hpo
  rw [hMe] at hP
  refine lv_astore (lv' := [(4, .ref (ad k)), (0, .ref (ad 0)), (1, .int (nI q)), (2, .int (nI j)), (3, .int bits)]) hx hb dX6_spoil_5 hl (by decide) rfl (fun ls hl => ?_)
  refine lv_aload hx hb dX6_spoil_7 (lv_at hl 0 rfl) ?_
  refine lv_ifnonnull (tgt := 14) hx hb dX6_spoil_9 (by decide) ?_
  refine lv_aload hx hb dX6_spoil_14 (lv_at hl 0 rfl) ?_
  refine m_get hx hb hts inX3 hown hK hP (ci := 3) rfl (k := k) (by omega) h1 2 (by decide) (hts (.fieldLink RX6 38 "RollbackPair$Peer" "arriving" "LRollbackPair$Row;") (by decide +kernel)) rfl dX6_spoil_16 ?_
  refine k_Vq (As := []) (rest := []) (k := r1) (ci := 4) ⟨hx, hb, hml, hown, hts⟩ hK hP hS Ad_le (c_first1 l D cs ad 146 hJ M r1 sg9 r pk (by omega) hsg hA (by omega) hrl) (cwV 0 hts gX6_spoil_X4_first rfl rfl rfl (by decide +kernel) ⟨Nat.le_of_ble_eq_true rfl, Nat.le_of_ble_eq_true rfl⟩) (by omega) hA1 rfl rfl rfl hl.1 (Nat.le_of_ble_eq_true rfl) dX6_spoil_19 ⟨Nat.le_of_ble_eq_true rfl, Nat.le_of_ble_eq_true rfl⟩ (fun r_2 M1 H locs hpo hP hS _ _ => ?_)
  obtain ⟨hMe, rfl⟩ := hpo
  rw [hMe] at hP
  refine lv_astore (lv' := [(5, .ref (ad (r1 + 2 + sg9 0))), (4, .ref (ad k)), (0, .ref (ad 0)), (1, .int (nI q)), (2, .int (nI j)), (3, .int bits)]) hx hb dX6_spoil_22 hl (by decide) rfl (fun ls hl => ?_)
  refine lv_aload hx hb dX6_spoil_24 (lv_at hl 0 rfl) ?_
  refine lv_ifnull hx hb dX6_spoil_26 ?_
  refine lv_aload hx hb dX6_spoil_29 (lv_at hl 0 rfl) ?_
  refine lv_iload_n hx hb dX6_spoil_31 rfl (lv_at hl 4 rfl) ?_
  refine lv_iload_n hx hb dX6_spoil_32 rfl (lv_at hl 5 rfl) ?_
  refine k_Vi (As := [.int (nI j), .int bits]) (rest := []) (k := (r1 + 2 + sg9 0)) (ci := 2) ⟨hx, hb, hml, hown, hts⟩ hK hP hS Ad_le (c_flip l D cs ad 146 hJ M (r1 + 2 + sg9 0) (pk (sg9 0)).1 (pk (sg9 0)).2.1 (pk (sg9 0)).2.2.1 (pk (sg9 0)).2.2.2.1 (pk (sg9 0)).2.2.2.2.1 (pk (sg9 0)).2.2.2.2.2.1 (pk (sg9 0)).2.2.2.2.2.2 (by omega) hpp j bits hj) (cwV 2 hts gX6_spoil_X2_flip rfl rfl rfl (by decide +kernel) ⟨Nat.le_of_ble_eq_true rfl, Nat.le_of_ble_eq_true rfl⟩) (by omega) hpp rfl rfl rfl hl.1 (Nat.le_of_ble_eq_true rfl) dX6_spoil_33 ⟨Nat.le_of_ble_eq_true rfl, Nat.le_of_ble_eq_true rfl⟩ (fun r_3 N1 H locs hpo hP hS _ _ => ?_)
  obtain ⟨rfl, t1, t2⟩ := hpo
  refine n_if_eq (tgt := 43) hx hb dX6_spoil_36 (by decide) (by omega) (fun c_4 => absurd c_4 (by decide)) (fun c_4 => ?_)
  refine lv_iconst (v := nI 1) hx hb dX6_spoil_39 (by decide) ?_
  refine lv_goto (tgt := 44) hx hb dX6_spoil_40 (by decide) ?_
  have hAl : ∀ x, Ag S (mSpl S (12 * q) j bits) x := fun x => Ag.of (fun i hi => spl_k (by omega)) spl_F
  have w1 : RwS ad cs r1 N1 (mSpl S (12 * q) j bits) q := by
    refine ⟨sg9, va_up pk (sg9 0) (flP (pk (sg9 0)) j bits), r, ⟨(t2 _ (by omega)).trans hA.1, ?_, fun i hi => ?_⟩, by rw [spl_k (by decide)]; exact hr0, hrl, hsg, hinj, fun i hi => ?_⟩
    · obtain ⟨g2, y1, y2⟩ := hA.2.1
      exact ⟨g2, (t2 _ (by omega)).trans y1, y2⟩
    · by_cases h9 : i = sg9 0
      · subst h9; rw [va_up_self]; exact t1
      · rw [va_up_ne _ _ h9]; exact (t2 _ (by omega)).trans (hA.2.2 i hi)
    · rw [spk_spl]
      by_cases h9 : i = 0
      · subst h9; rw [va_up_self, if_pos (show 12 * q + 0 = 12 * q by omega), hpk 0 (by omega)]; rfl
      · rw [va_up_ne _ _ (fun z => h9 (hinj i 0 (by omega) (by decide) z)), if_neg (by omega)]; exact hpk i hi
  have w2 : RwS ad cs r2 N1 (mSpl S (12 * q) j bits) (1 - q) := RwS_c (hRw2.kept (fun x z1 z2 => t2 x (by omega))) (by rw [spl_k (by decide)]) (fun x z1 z2 => by rw [spk_spl, if_neg (by omega)])
  have hA8 : (mSpl S (12 * q) j bits).1 8 = S.1 8 := spl_k (by decide)
  have hA7 : (mSpl S (12 * q) j bits).1 7 = S.1 7 := spl_k (by decide)
  have hf : CR dd ww (N + 1) ad cs N1 (mSpl S (12 * q) j bits) := CR_step hC hdd hN hq (by omega) ((hAl q).toI hq hdd (by omega) hI) (by rw [← ek, ← er1, ← er2]; exact (hAl q).toP hq (by omega) (by omega) (by omega) hPe0 (fun x z1 z2 => t2 x (by omega))) (hAl (1 - q)) (by rw [← er1]; exact w1) (by rw [← er2]; exact w2) (fun x hx9 => t2 x (by omega)) (spl_sh hs20) (fun x hx9 => ⟨by rw [hA8]; exact (hs87 x hx9).1, by rw [hA7]; exact (hs87 x hx9).2⟩)
  exact r_z hx hb hr hlocks hK hP hS dX6_spoil_44 (by first | rfl | decide) ⟨rfl, hf⟩
