theorem cf_eq {dd ww : Nat} {S : SS} {q a nt : Nat} (hq : q < 2) (hdd : dd ≤ 4) (ha : a ≤ 560) (hI : Iq dd ww S q a nt) : nI (min a (min (a + dd) (if edOf S q = 0 then nt else a))) = if ¬ 0 ≤ S.1 4 q ∧ ¬ S.1 2 q ≤ S.1 12 (2 * q + 1 - q) then S.1 12 (2 * q + 1 - q) else S.1 2 q := by
  obtain ⟨I1, I2, I3, I4, -⟩ := hI
  have hed : ¬ edOf S q = 0 ↔ 0 ≤ S.1 4 q := (edOf_0 S q).trans Int32.not_lt
  rw [show 2 * q + 1 - q = 2 * q + (1 - q) by omega, I1, I3]
  by_cases h1 : 0 ≤ S.1 4 q
  · rw [if_neg (hed.mpr h1), if_neg (fun z => z.1 h1)]
    congr 1; omega
  · have h2 : edOf S q = 0 := Decidable.byContradiction (fun z => h1 (hed.mp z))
    rw [if_pos h2]
    by_cases h3 : a ≤ nt
    · rw [if_neg (fun z => z.2 (Int32.not_lt.mp (nI_nlt h3 (by omega))))]
      congr 1; omega
    · rw [if_pos ⟨h1, Int32.not_le.mpr (nI_lt (by omega) (by omega))⟩]
      congr 1; omega
set_option maxHeartbeats 4000000 in
set_option maxRecDepth 100000 in
/-- about(pe, wh) -/
theorem c6_about (l : Launch) (D : va_G) (cs : Nat → ClassId) (ad : Nat → Nat) (hJ : Inj ad 146) (M : Nat → va_E) (dd ww N : Nat) (S : SS) (hdd : dd ≤ 4) (hw1 : 1 ≤ ww) (hw2 : ww ≤ 8) (hN : N ≤ 550) (hC : CR dd ww N ad cs M S) (pe wh : Int32) : CTi l yX6_about wsX6_about ({ frames := 2, cells := 0, slots := 0, locals := 44 }) D cs ad 146 M [.ref (ad 0), .int pe, .int wh] (fun r M2 => M2 = M ∧ r = rAb S pe wh) := by
  refine Met.ofW (cc := cX6_about) (maxL := 4) (ret := (some .int)) (by decide) rfl ?_
  intro p e s m args below meth c s₁ B hml hv
  obtain ⟨rfl, hP, hK⟩ := hv
  have hx := B.exec
  have hb := B.bytes
  have hr := B.returns
  have hts := atoms_spec (ws := wsX6_about) B.pre
  have hown : s.vm.findClass RX6 = some m.cls := findClass_of_methodNamed B.named
  have hlocks := B.notSynchronized
  have hS : va_S (Ad ad 146) s.heap s.heap [] := va_S.rf
  have hl := lv_entry ([.ref (ad 0), .int pe, .int wh]) (n := 4) (Nat.le_of_ble_eq_true rfl)
  rw [lg_entry_eq]
  generalize (lg_sl ([.ref (ad 0), .int pe, .int wh]) ++ List.replicate (4 - (lg_sl ([.ref (ad 0), .int pe, .int wh])).length) Slot.unset).toArray = ls at hl ⊢
  have hl : lv_has ls 4 [(0, .ref (ad 0)), (1, .int pe), (2, .int wh)] := hl
  have inX6 : ∀ w ∈ u_ws RX6 TX6 1, w ∈ wsX6_about := fun w h => List.mem_cons_of_mem _ (List.mem_append_right _ h)
  have inX3 : ∀ w ∈ u_ws RX3 TX3 14, w ∈ wsX6_about := fun w h => List.mem_cons_of_mem _ (List.mem_append_left _ (List.mem_append_left _ (List.mem_append_left _ (List.mem_append_right _ h))))
  have inX1 : ∀ w ∈ u_ws RX1 TX1 3, w ∈ wsX6_about := fun w h => List.mem_cons_of_mem _ (List.mem_append_left _ (List.mem_append_left _ (List.mem_append_right _ h)))
  have inX4 : ∀ w ∈ u_ws RX4 TX4 2, w ∈ wsX6_about := fun w h => List.mem_cons_of_mem _ (List.mem_append_left _ (List.mem_append_right _ h))
  by_cases hpe : two pe
  · obtain ⟨q, hq, rfl⟩ := two_q hpe
    obtain ⟨k, r1, r2, a, nt, ek, er1, er2, haN, hI, hPe, hRw, hRw2⟩ := hC.get q hq
    obtain ⟨h0, ⟨g, hg1, hg2⟩, -, -, hs20, hs87⟩ := id hC
    have hgk : g q = some (ad k) := by rw [ek]; exact hg2 q hq
    have hPe0 := hPe
    obtain ⟨X, V, hh, wk, U, gO, gT, h1, hH, hR, h2, h3, hOw, h4, h5, hOt⟩ := hPe
    obtain ⟨I1, I2, I3, I4, I5, I6, ⟨tt, I7, I8⟩, I9, I10, I11, I12, I13⟩ := id hI
    obtain ⟨sg9, pk, r, hA, hr0, hrl, hsg, hinj, hpk⟩ := id hRw
    have hA1 := hA.1
    obtain ⟨s1, s2, s3⟩ := hH.2.2.2.2.2 (a % 16) (by omega)
    have hR1 := hR.1 a (by omega) (Nat.le_refl a)
    have hao := aOf_eq hq (by omega) I1
    have htq : tn (nI q) = q := tn_nI (by omega)
    have hrab : ∀ x, rAb S (nI q) x = abQ S q x := fun x => by unfold rAb; rw [if_pos (two_in hq), htq]
    have hed : ¬ edOf S q = 0 ↔ 0 ≤ S.1 4 q := (edOf_0 S q).trans Int32.not_lt
    rcases wh_c wh 5 (by decide) with ⟨j, hj, rfl⟩ | hout
    · rcases (show j = 0 ∨ j = 1 ∨ j = 2 ∨ j = 3 ∨ j = 4 ∨ j = 5 by omega) with rfl | rfl | rfl | rfl | rfl | rfl
      · refine lv_aload_n hx hb dX6_about_0 rfl (lv_at hl 0 rfl) ?_
        refine lv_iload_n hx hb dX6_about_1 rfl (lv_at hl 1 rfl) ?_
        refine k_Vq (As := [.int (nI q)]) (rest := []) (k := 0) (ci := 6) ⟨hx, hb, hml, hown, hts⟩ hK hP hS Ad_le (c6_find l D cs ad hJ M g q hq h0 hg1 k hgk) (cwV 1 hts gX6_about_X6_find rfl rfl rfl (by decide +kernel) ⟨Nat.le_of_ble_eq_true rfl, Nat.le_of_ble_eq_true rfl⟩) (by omega) h0 rfl rfl rfl hl.1 (Nat.le_of_ble_eq_true rfl) dX6_about_2 ⟨Nat.le_of_ble_eq_true rfl, Nat.le_of_ble_eq_true rfl⟩ (fun r_1 M1 H locs hpo hP hS _ _ => ?_)
        obtain ⟨hMe, rfl⟩ := hpo
        rw [hMe] at hP
        refine lv_astore_n (lv' := [(3, .ref (ad k)), (0, .ref (ad 0)), (1, .int (nI q)), (2, .int (nI 0))]) hx hb dX6_about_5 rfl hl (by decide) rfl (fun ls hl => ?_)
        refine lv_aload_n hx hb dX6_about_6 rfl (lv_at hl 0 rfl) ?_
        refine lv_ifnonnull (tgt := 12) hx hb dX6_about_7 (by decide) ?_
        refine lv_iload_n hx hb dX6_about_12 rfl (lv_at hl 3 rfl) ?_
        refine lv_tableIn (off := 39) (tgt := 52) hx hb dX6_about_13 (by decide) (by decide) (by decide) (by decide) ?_
        refine lv_aload_n hx hb dX6_about_52 rfl (lv_at hl 0 rfl) ?_
        refine m_get hx hb hts inX3 hown hK hP (ci := 3) rfl (k := k) (by omega) h1 7 (by decide) (hts (.fieldLink RX6 66 "RollbackPair$Peer" "at" "I") (by decide +kernel)) rfl dX6_about_53 ?_
        have hV : abQ S q (nI 0) = S.1 2 q := by unfold abQ; rw [if_pos rfl]
        exact r_i hx hb hr hlocks hK hP hS dX6_about_56 ⟨rfl, by rw [hrab, hV]; exact I1.symm⟩
      · refine lv_aload_n hx hb dX6_about_0 rfl (lv_at hl 0 rfl) ?_
        refine lv_iload_n hx hb dX6_about_1 rfl (lv_at hl 1 rfl) ?_
        refine k_Vq (As := [.int (nI q)]) (rest := []) (k := 0) (ci := 6) ⟨hx, hb, hml, hown, hts⟩ hK hP hS Ad_le (c6_find l D cs ad hJ M g q hq h0 hg1 k hgk) (cwV 1 hts gX6_about_X6_find rfl rfl rfl (by decide +kernel) ⟨Nat.le_of_ble_eq_true rfl, Nat.le_of_ble_eq_true rfl⟩) (by omega) h0 rfl rfl rfl hl.1 (Nat.le_of_ble_eq_true rfl) dX6_about_2 ⟨Nat.le_of_ble_eq_true rfl, Nat.le_of_ble_eq_true rfl⟩ (fun r_1 M1 H locs hpo hP hS _ _ => ?_)
        obtain ⟨hMe, rfl⟩ := hpo
        rw [hMe] at hP
        refine lv_astore_n (lv' := [(3, .ref (ad k)), (0, .ref (ad 0)), (1, .int (nI q)), (2, .int (nI 1))]) hx hb dX6_about_5 rfl hl (by decide) rfl (fun ls hl => ?_)
        refine lv_aload_n hx hb dX6_about_6 rfl (lv_at hl 0 rfl) ?_
        refine lv_ifnonnull (tgt := 12) hx hb dX6_about_7 (by decide) ?_
        refine lv_iload_n hx hb dX6_about_12 rfl (lv_at hl 3 rfl) ?_
        refine lv_tableIn (off := 44) (tgt := 57) hx hb dX6_about_13 (by decide) (by decide) (by decide) (by decide) ?_
        refine lv_aload_n hx hb dX6_about_57 rfl (lv_at hl 0 rfl) ?_
        refine k_Vi (As := []) (rest := []) (k := k) (ci := 3) ⟨hx, hb, hml, hown, hts⟩ hK hP hS Ad_le (c_confirmed l D cs ad 146 hJ M k r1 r2 q ww a (S.1 3 q) (S.1 5 q) (S.1 8 q) (S.1 7 q) (S.1 6 q) (S.2.1 9 q) (by omega) hq (by omega) h1 (a + dd) nt (edOf S q) gO gT (by omega) (by omega) h2 h3 h4 h5) (cwV 0 hts gX6_about_X3_confirmed rfl rfl rfl (by decide +kernel) ⟨Nat.le_of_ble_eq_true rfl, Nat.le_of_ble_eq_true rfl⟩) (by omega) h1 rfl rfl rfl hl.1 (Nat.le_of_ble_eq_true rfl) dX6_about_58 ⟨Nat.le_of_ble_eq_true rfl, Nat.le_of_ble_eq_true rfl⟩ (fun r_2 M1 H locs hpo hP hS _ _ => ?_)
        obtain ⟨hMe, rfl⟩ := hpo
        rw [hMe] at hP
        refine n_val (cf_eq (ww := ww) hq hdd (by omega) hI) ?_
        have hV : abQ S q (nI 1) = (if ¬ 0 ≤ S.1 4 q ∧ ¬ S.1 2 q ≤ S.1 12 (2 * q + 1 - q) then S.1 12 (2 * q + 1 - q) else S.1 2 q) := by unfold abQ; rw [if_neg (show ¬ nI 1 = nI 0 by decide), if_pos rfl]
        exact r_i hx hb hr hlocks hK hP hS dX6_about_61 ⟨rfl, by rw [hrab, hV]⟩
      · refine lv_aload_n hx hb dX6_about_0 rfl (lv_at hl 0 rfl) ?_
        refine lv_iload_n hx hb dX6_about_1 rfl (lv_at hl 1 rfl) ?_
        refine k_Vq (As := [.int (nI q)]) (rest := []) (k := 0) (ci := 6) ⟨hx, hb, hml, hown, hts⟩ hK hP hS Ad_le (c6_find l D cs ad hJ M g q hq h0 hg1 k hgk) (cwV 1 hts gX6_about_X6_find rfl rfl rfl (by decide +kernel) ⟨Nat.le_of_ble_eq_true rfl, Nat.le_of_ble_eq_true rfl⟩) (by omega) h0 rfl rfl rfl hl.1 (Nat.le_of_ble_eq_true rfl) dX6_about_2 ⟨Nat.le_of_ble_eq_true rfl, Nat.le_of_ble_eq_true rfl⟩ (fun r_1 M1 H locs hpo hP hS _ _ => ?_)
        obtain ⟨hMe, rfl⟩ := hpo
        rw [hMe] at hP
        refine lv_astore_n (lv' := [(3, .ref (ad k)), (0, .ref (ad 0)), (1, .int (nI q)), (2, .int (nI 2))]) hx hb dX6_about_5 rfl hl (by decide) rfl (fun ls hl => ?_)
        refine lv_aload_n hx hb dX6_about_6 rfl (lv_at hl 0 rfl) ?_
        refine lv_ifnonnull (tgt := 12) hx hb dX6_about_7 (by decide) ?_
        refine lv_iload_n hx hb dX6_about_12 rfl (lv_at hl 3 rfl) ?_
        refine lv_tableIn (off := 49) (tgt := 62) hx hb dX6_about_13 (by decide) (by decide) (by decide) (by decide) ?_
        refine lv_aload_n hx hb dX6_about_62 rfl (lv_at hl 0 rfl) ?_
        refine m_get hx hb hts inX3 hown hK hP (ci := 3) rfl (k := k) (by omega) h1 8 (by decide) (hts (.fieldLink RX6 74 "RollbackPair$Peer" "stalls" "I") (by decide +kernel)) rfl dX6_about_63 ?_
        have hV : abQ S q (nI 2) = S.1 3 q := by unfold abQ; rw [if_neg (show ¬ nI 2 = nI 0 by decide), if_neg (show ¬ nI 2 = nI 1 by decide), if_pos rfl]
        exact r_i hx hb hr hlocks hK hP hS dX6_about_66 ⟨rfl, by rw [hrab, hV]⟩
      · refine lv_aload_n hx hb dX6_about_0 rfl (lv_at hl 0 rfl) ?_
        refine lv_iload_n hx hb dX6_about_1 rfl (lv_at hl 1 rfl) ?_
        refine k_Vq (As := [.int (nI q)]) (rest := []) (k := 0) (ci := 6) ⟨hx, hb, hml, hown, hts⟩ hK hP hS Ad_le (c6_find l D cs ad hJ M g q hq h0 hg1 k hgk) (cwV 1 hts gX6_about_X6_find rfl rfl rfl (by decide +kernel) ⟨Nat.le_of_ble_eq_true rfl, Nat.le_of_ble_eq_true rfl⟩) (by omega) h0 rfl rfl rfl hl.1 (Nat.le_of_ble_eq_true rfl) dX6_about_2 ⟨Nat.le_of_ble_eq_true rfl, Nat.le_of_ble_eq_true rfl⟩ (fun r_1 M1 H locs hpo hP hS _ _ => ?_)
        obtain ⟨hMe, rfl⟩ := hpo
        rw [hMe] at hP
        refine lv_astore_n (lv' := [(3, .ref (ad k)), (0, .ref (ad 0)), (1, .int (nI q)), (2, .int (nI 3))]) hx hb dX6_about_5 rfl hl (by decide) rfl (fun ls hl => ?_)
        refine lv_aload_n hx hb dX6_about_6 rfl (lv_at hl 0 rfl) ?_
        refine lv_ifnonnull (tgt := 12) hx hb dX6_about_7 (by decide) ?_
        refine lv_iload_n hx hb dX6_about_12 rfl (lv_at hl 3 rfl) ?_
        refine lv_tableIn (off := 54) (tgt := 67) hx hb dX6_about_13 (by decide) (by decide) (by decide) (by decide) ?_
        refine lv_aload_n hx hb dX6_about_67 rfl (lv_at hl 0 rfl) ?_
        refine m_get hx hb hts inX3 hown hK hP (ci := 3) rfl (k := k) (by omega) h1 5 (by decide) (hts (.fieldLink RX6 77 "RollbackPair$Peer" "others" "LRollbackPair$Inputs;") (by decide +kernel)) rfl dX6_about_68 ?_
        refine m_get hx hb hts inX1 hown hK hP (ci := 1) rfl (k := (k + 56)) (by omega) h4 2 (by decide) (hts (.fieldLink RX6 81 "RollbackPair$Inputs" "ended" "Z") (by decide +kernel)) rfl dX6_about_71 ?_
        refine lv_if_eq (tgt := 87) hx hb dX6_about_74 (by decide) (fun c1 => ?_) (fun c1 => ?_)
        · refine lv_iconst (v := (-1)) hx hb dX6_about_87 (by decide) ?_
          have hV : abQ S q (nI 3) = S.1 4 q := by unfold abQ; rw [if_neg (show ¬ nI 3 = nI 0 by decide), if_neg (show ¬ nI 3 = nI 1 by decide), if_neg (show ¬ nI 3 = nI 2 by decide), if_pos rfl]
          exact r_i hx hb hr hlocks hK hP hS dX6_about_88 ⟨rfl, by rw [hrab, hV]; exact (I6.resolve_right (fun z => hed.mpr (by rw [z.1]; exact nI_pos' (by omega)) c1)).symm⟩
        · refine lv_aload_n hx hb dX6_about_77 rfl (lv_at hl 0 rfl) ?_
          refine m_get hx hb hts inX3 hown hK hP (ci := 3) rfl (k := k) (by omega) h1 5 (by decide) (hts (.fieldLink RX6 77 "RollbackPair$Peer" "others" "LRollbackPair$Inputs;") (by decide +kernel)) rfl dX6_about_78 ?_
          refine m_get hx hb hts inX1 hown hK hP (ci := 1) rfl (k := (k + 56)) (by omega) h4 1 (by decide) (hts (.fieldLink RX6 87 "RollbackPair$Inputs" "count" "I") (by decide +kernel)) rfl dX6_about_81 ?_
          refine lv_goto (tgt := 88) hx hb dX6_about_84 (by decide) ?_
          have hV : abQ S q (nI 3) = S.1 4 q := by unfold abQ; rw [if_neg (show ¬ nI 3 = nI 0 by decide), if_neg (show ¬ nI 3 = nI 1 by decide), if_neg (show ¬ nI 3 = nI 2 by decide), if_pos rfl]
          exact r_i hx hb hr hlocks hK hP hS dX6_about_88 ⟨rfl, by rw [hrab, hV]; exact ((I6.resolve_left (fun z => absurd (hed.mp c1) (by rw [z]; decide))).1).symm⟩
      · refine lv_aload_n hx hb dX6_about_0 rfl (lv_at hl 0 rfl) ?_
        refine lv_iload_n hx hb dX6_about_1 rfl (lv_at hl 1 rfl) ?_
        refine k_Vq (As := [.int (nI q)]) (rest := []) (k := 0) (ci := 6) ⟨hx, hb, hml, hown, hts⟩ hK hP hS Ad_le (c6_find l D cs ad hJ M g q hq h0 hg1 k hgk) (cwV 1 hts gX6_about_X6_find rfl rfl rfl (by decide +kernel) ⟨Nat.le_of_ble_eq_true rfl, Nat.le_of_ble_eq_true rfl⟩) (by omega) h0 rfl rfl rfl hl.1 (Nat.le_of_ble_eq_true rfl) dX6_about_2 ⟨Nat.le_of_ble_eq_true rfl, Nat.le_of_ble_eq_true rfl⟩ (fun r_1 M1 H locs hpo hP hS _ _ => ?_)
        obtain ⟨hMe, rfl⟩ := hpo
        rw [hMe] at hP
        refine lv_astore_n (lv' := [(3, .ref (ad k)), (0, .ref (ad 0)), (1, .int (nI q)), (2, .int (nI 4))]) hx hb dX6_about_5 rfl hl (by decide) rfl (fun ls hl => ?_)
        refine lv_aload_n hx hb dX6_about_6 rfl (lv_at hl 0 rfl) ?_
        refine lv_ifnonnull (tgt := 12) hx hb dX6_about_7 (by decide) ?_
        refine lv_iload_n hx hb dX6_about_12 rfl (lv_at hl 3 rfl) ?_
        refine lv_tableIn (off := 76) (tgt := 89) hx hb dX6_about_13 (by decide) (by decide) (by decide) (by decide) ?_
        refine lv_aload_n hx hb dX6_about_89 rfl (lv_at hl 0 rfl) ?_
        refine m_get hx hb hts inX3 hown hK hP (ci := 3) rfl (k := k) (by omega) h1 2 (by decide) (hts (.fieldLink RX6 38 "RollbackPair$Peer" "arriving" "LRollbackPair$Row;") (by decide +kernel)) rfl dX6_about_90 ?_
        refine m_get hx hb hts inX4 hown hK hP (ci := 4) rfl (k := r1) (by omega) hA1 1 (by decide) (hts (.fieldLink RX6 90 "RollbackPair$Row" "size" "I") (by decide +kernel)) rfl dX6_about_93 ?_
        have hV : abQ S q (nI 4) = S.1 19 q := by unfold abQ; rw [if_neg (show ¬ nI 4 = nI 0 by decide), if_neg (show ¬ nI 4 = nI 1 by decide), if_neg (show ¬ nI 4 = nI 2 by decide), if_neg (show ¬ nI 4 = nI 3 by decide), if_pos rfl]
        exact r_i hx hb hr hlocks hK hP hS dX6_about_96 ⟨rfl, by rw [hrab, hV]; exact hr0.symm⟩
      · refine lv_aload_n hx hb dX6_about_0 rfl (lv_at hl 0 rfl) ?_
        refine lv_iload_n hx hb dX6_about_1 rfl (lv_at hl 1 rfl) ?_
        refine k_Vq (As := [.int (nI q)]) (rest := []) (k := 0) (ci := 6) ⟨hx, hb, hml, hown, hts⟩ hK hP hS Ad_le (c6_find l D cs ad hJ M g q hq h0 hg1 k hgk) (cwV 1 hts gX6_about_X6_find rfl rfl rfl (by decide +kernel) ⟨Nat.le_of_ble_eq_true rfl, Nat.le_of_ble_eq_true rfl⟩) (by omega) h0 rfl rfl rfl hl.1 (Nat.le_of_ble_eq_true rfl) dX6_about_2 ⟨Nat.le_of_ble_eq_true rfl, Nat.le_of_ble_eq_true rfl⟩ (fun r_1 M1 H locs hpo hP hS _ _ => ?_)
        obtain ⟨hMe, rfl⟩ := hpo
        rw [hMe] at hP
        refine lv_astore_n (lv' := [(3, .ref (ad k)), (0, .ref (ad 0)), (1, .int (nI q)), (2, .int (nI 5))]) hx hb dX6_about_5 rfl hl (by decide) rfl (fun ls hl => ?_)
        refine lv_aload_n hx hb dX6_about_6 rfl (lv_at hl 0 rfl) ?_
        refine lv_ifnonnull (tgt := 12) hx hb dX6_about_7 (by decide) ?_
        refine lv_iload_n hx hb dX6_about_12 rfl (lv_at hl 3 rfl) ?_
        refine lv_tableIn (off := 84) (tgt := 97) hx hb dX6_about_13 (by decide) (by decide) (by decide) (by decide) ?_
        refine lv_aload_n hx hb dX6_about_97 rfl (lv_at hl 0 rfl) ?_
        refine m_get hx hb hts inX3 hown hK hP (ci := 3) rfl (k := k) (by omega) h1 9 (by decide) (hts (.fieldLink RX6 93 "RollbackPair$Peer" "told" "I") (by decide +kernel)) rfl dX6_about_98 ?_
        have hV : abQ S q (nI 5) = S.1 5 q := by unfold abQ; rw [if_neg (show ¬ nI 5 = nI 0 by decide), if_neg (show ¬ nI 5 = nI 1 by decide), if_neg (show ¬ nI 5 = nI 2 by decide), if_neg (show ¬ nI 5 = nI 3 by decide), if_neg (show ¬ nI 5 = nI 4 by decide), if_pos rfl]
        exact r_i hx hb hr hlocks hK hP hS dX6_about_101 ⟨rfl, by rw [hrab, hV]⟩
    · refine lv_aload_n hx hb dX6_about_0 rfl (lv_at hl 0 rfl) ?_
      refine lv_iload_n hx hb dX6_about_1 rfl (lv_at hl 1 rfl) ?_
      refine k_Vq (As := [.int (nI q)]) (rest := []) (k := 0) (ci := 6) ⟨hx, hb, hml, hown, hts⟩ hK hP hS Ad_le (c6_find l D cs ad hJ M g q hq h0 hg1 k hgk) (cwV 1 hts gX6_about_X6_find rfl rfl rfl (by decide +kernel) ⟨Nat.le_of_ble_eq_true rfl, Nat.le_of_ble_eq_true rfl⟩) (by omega) h0 rfl rfl rfl hl.1 (Nat.le_of_ble_eq_true rfl) dX6_about_2 ⟨Nat.le_of_ble_eq_true rfl, Nat.le_of_ble_eq_true rfl⟩ (fun r_1 M1 H locs hpo hP hS _ _ => ?_)
      obtain ⟨hMe, rfl⟩ := hpo
      rw [hMe] at hP
      refine lv_astore_n (lv' := [(3, .ref (ad k)), (0, .ref (ad 0)), (1, .int (nI q)), (2, .int wh)]) hx hb dX6_about_5 rfl hl (by decide) rfl (fun ls hl => ?_)
      refine lv_aload_n hx hb dX6_about_6 rfl (lv_at hl 0 rfl) ?_
      refine lv_ifnonnull (tgt := 12) hx hb dX6_about_7 (by decide) ?_
      refine lv_iload_n hx hb dX6_about_12 rfl (lv_at hl 3 rfl) ?_
      refine lv_tableOut (tgt := 102) hx hb dX6_about_13 (hout.elim (fun z => Or.inl (Int32.lt_iff_toInt_lt.mp z)) (fun z => Or.inr (Int32.lt_iff_toInt_lt.mp z))) (by decide) ?_
      refine lv_iconst (v := (-1)) hx hb dX6_about_102 (by decide) ?_
      exact r_i hx hb hr hlocks hK hP hS dX6_about_103 ⟨rfl, by rw [hrab, abQ_out hout]⟩
  · obtain ⟨h0, ⟨g, hg1, hg2⟩, -⟩ := id hC
    refine lv_aload_n hx hb dX6_about_0 rfl (lv_at hl 0 rfl) ?_
    refine lv_iload_n hx hb dX6_about_1 rfl (lv_at hl 1 rfl) ?_
    refine k_Vq (As := [.int pe]) (rest := []) (k := 0) (ci := 6) ⟨hx, hb, hml, hown, hts⟩ hK hP hS Ad_le (c6_find0 l D cs ad hJ M pe hpe) (cwV 1 hts gX6_about_X6_find rfl rfl rfl (by decide +kernel) ⟨Nat.le_of_ble_eq_true rfl, Nat.le_of_ble_eq_true rfl⟩) (by omega) h0 rfl rfl rfl hl.1 (Nat.le_of_ble_eq_true rfl) dX6_about_2 ⟨Nat.le_of_ble_eq_true rfl, Nat.le_of_ble_eq_true rfl⟩ (fun r_1 M1 H locs hpo hP hS _ _ => ?_)
    obtain ⟨hMe, rfl⟩ := hpo
    rw [hMe] at hP
    refine lv_astore_nN (lv' := [(3, .null), (0, .ref (ad 0)), (1, .int pe), (2, .int wh)]) hx hb dX6_about_5 rfl hl (by decide) rfl (fun ls hl => ?_)
    refine lv_aload_nN hx hb dX6_about_6 rfl (lv_at hl 0 rfl) ?_
    refine lv_ifnonnullN hx hb dX6_about_7 ?_
    refine lv_iconst (v := (-1)) hx hb dX6_about_10 (by decide) ?_
    exact r_i hx hb hr hlocks hK hP hS dX6_about_11 ⟨rfl, by unfold rAb; rw [if_neg hpe]⟩
