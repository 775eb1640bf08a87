/-- the cells of the class against the state S: the object, its peers, their rows -/
def CR (dd ww N : Nat) (ad : Nat → Nat) (cs : Nat → ClassId) (M : Nat → va_E) (S : SS) : Prop :=
  M 0 = .inr (6, [.ref (ad 1)]) ∧ (∃ g, M 1 = eQ cs 9 2 g ∧ ∀ q, q < 2 → g q = some (ad (30 + 58 * q))) ∧ (∀ q, q < 2 → ∃ a nt, a ≤ N ∧ Iq dd ww S q a nt ∧ PeS ad cs (30 + 58 * q) (2 + 14 * q) (2 + 14 * (1 - q)) q ww S M a (a + dd) nt) ∧ (∀ q, q < 2 → RwS ad cs (2 + 14 * q) M S q) ∧ (∀ i, sh (S.1 20 i)) ∧ (∀ q, q < 2 → sh (S.1 8 q) ∧ sh (S.1 7 q))
theorem CR.get {dd ww N : Nat} {ad : Nat → Nat} {cs : Nat → ClassId} {M : Nat → va_E} {S : SS} (h : CR dd ww N ad cs M S) (q : Nat) (hq : q < 2) : ∃ k r1 r2 a nt, k = 30 + 58 * q ∧ r1 = 2 + 14 * q ∧ r2 = 2 + 14 * (1 - q) ∧ a ≤ N ∧ Iq dd ww S q a nt ∧ PeS ad cs k r1 r2 q ww S M a (a + dd) nt ∧ RwS ad cs r1 M S q ∧ RwS ad cs r2 M S (1 - q) := by
  obtain ⟨h1, h2, h3, h4, h5⟩ := h
  obtain ⟨a, nt, p1, p2, p3⟩ := h3 q hq
  exact ⟨30 + 58 * q, 2 + 14 * q, 2 + 14 * (1 - q), a, nt, rfl, rfl, rfl, p1, p2, p3, h4 q hq, h4 (1 - q) (by omega)⟩
theorem two_q {x : Int32} (h : two x) : ∃ q : Nat, q < 2 ∧ x = nI q := by
  rcases h with rfl | rfl
  · exact ⟨0, by decide, rfl⟩
  · exact ⟨1, by decide, rfl⟩
set_option maxHeartbeats 4000000 in
set_option maxRecDepth 100000 in
/-- isPlayer(x) -/
theorem c6_isPlayer (l : Launch) (D : va_G) (cs : Nat → ClassId) (ad : Nat → Nat) (n : Nat) (M : Nat → va_E) (x : Int32) : CTi l yX6_isPlayer wsX6_isPlayer ({ frames := 0, cells := 0, slots := 0, locals := 0 }) D cs ad n M [.int x] (fun r M2 => M2 = M ∧ r = if two x then nI 1 else nI 0) := by
  refine Met.ofW (cc := cX6_isPlayer) (maxL := 1) (ret := (some .boolean)) (by decide) rfl ?_
  intro p e s m args below meth c s₁ B hml hv
  obtain ⟨rfl, hP, hK⟩ := hv
  have hx := B.exec
  have hb := B.bytes
  have hr := B.returns
  have hts := atoms_spec (ws := wsX6_isPlayer) B.pre
  have hown : s.vm.findClass RX6 = some m.cls := findClass_of_methodNamed B.named
  have hlocks := B.notSynchronized
  have hS : va_S (Ad ad n) s.heap s.heap [] := va_S.rf
  have hl := lv_entry ([.int x]) (n := 1) (Nat.le_of_ble_eq_true rfl)
  rw [lg_entry_eq]
  generalize (lg_sl ([.int x]) ++ List.replicate (1 - (lg_sl ([.int x])).length) Slot.unset).toArray = ls at hl ⊢
  have hl : lv_has ls 1 [(0, .int x)] := hl
  refine lv_iload_n hx hb dX6_isPlayer_0 rfl (lv_at hl 0 rfl) ?_
  refine lv_if_eq (tgt := 9) hx hb dX6_isPlayer_1 (by decide) (fun c1 => ?_) (fun c1 => ?_)
  · refine lv_iconst (v := nI 1) hx hb dX6_isPlayer_9 (by decide) ?_
    refine lv_goto (tgt := 14) hx hb dX6_isPlayer_10 (by decide) ?_
    exact r_z hx hb hr hlocks hK hP hS dX6_isPlayer_14 (by first | rfl | decide) ⟨rfl, (if_pos (Or.inl c1)).symm⟩
  · refine lv_iload_n hx hb dX6_isPlayer_4 rfl (lv_at hl 0 rfl) ?_
    refine lv_iconst (v := nI 1) hx hb dX6_isPlayer_5 (by decide) ?_
    refine lv_icmp_ne (tgt := 13) hx hb dX6_isPlayer_6 (by decide) (fun c2 => ?_) (fun c2 => ?_)
    · refine lv_iconst (v := nI 0) hx hb dX6_isPlayer_13 (by decide) ?_
      exact r_z hx hb hr hlocks hK hP hS dX6_isPlayer_14 (by first | rfl | decide) ⟨rfl, (if_neg (fun z => z.elim c1 c2)).symm⟩
    · refine lv_iconst (v := nI 1) hx hb dX6_isPlayer_9 (by decide) ?_
      refine lv_goto (tgt := 14) hx hb dX6_isPlayer_10 (by decide) ?_
      exact r_z hx hb hr hlocks hK hP hS dX6_isPlayer_14 (by first | rfl | decide) ⟨rfl, (if_pos (Or.inr c2)).symm⟩
set_option maxHeartbeats 4000000 in
set_option maxRecDepth 100000 in
/-- find(pe), no such -/
theorem c6_find0 (l : Launch) (D : va_G) (cs : Nat → ClassId) (ad : Nat → Nat) (hJ : Inj ad 146) (M : Nat → va_E) (pe : Int32) (hpe : ¬ two pe) : CTq l yX6_find wsX6_find ({ frames := 1, cells := 0, slots := 0, locals := 20 }) D cs ad 146 M [.ref (ad 0), .int pe] (fun r M2 => M2 = M ∧ r = none) := by
  refine Met.ofW (cc := cX6_find) (maxL := 2) (ret := (some (.object "RollbackPair$Peer"))) (by decide) rfl ?_
  intro p e s m args below meth c s₁ B hml hv
  obtain ⟨rfl, hP, hK⟩ := hv
  have hx := B.exec
  have hb := B.bytes
  have hr := B.returns
  have hts := atoms_spec (ws := wsX6_find) B.pre
  have hown : s.vm.findClass RX6 = some m.cls := findClass_of_methodNamed B.named
  have hlocks := B.notSynchronized
  have hS : va_S (Ad ad 146) s.heap s.heap [] := va_S.rf
  have hl := lv_entry ([.ref (ad 0), .int pe]) (n := 2) (Nat.le_of_ble_eq_true rfl)
  rw [lg_entry_eq]
  generalize (lg_sl ([.ref (ad 0), .int pe]) ++ List.replicate (2 - (lg_sl ([.ref (ad 0), .int pe])).length) Slot.unset).toArray = ls at hl ⊢
  have hl : lv_has ls 2 [(0, .ref (ad 0)), (1, .int pe)] := hl
  have inX6 : ∀ w ∈ u_ws RX6 TX6 1, w ∈ wsX6_find := fun w h => List.mem_cons_of_mem _ (List.mem_append_right _ h)
  refine lv_iload_n hx hb dX6_find_0 rfl (lv_at hl 1 rfl) ?_
  refine k_Si (As := [.int pe]) (rest := []) ⟨hx, hb, hml, hown, hts⟩ hK hP hS Ad_le (c6_isPlayer l D cs ad 146 M pe) (va_cwS 1 hts gX6_find_X6_isPlayer rfl rfl rfl (by decide +kernel) ⟨Nat.le_of_ble_eq_true rfl, Nat.le_of_ble_eq_true rfl⟩) rfl rfl hl.1 (Nat.le_of_ble_eq_true rfl) dX6_find_1 ⟨Nat.le_of_ble_eq_true rfl, Nat.le_of_ble_eq_true rfl⟩ (fun r_1 M1 H locs hpo hP hS _ _ => ?_)
  obtain ⟨hMe, rfl⟩ := hpo
  rw [hMe] at hP
  refine n_val (if_neg hpe) ?_
  refine n_if_eq (tgt := 16) hx hb dX6_find_4 (by decide) (by omega) (fun c_2 => ?_) (fun c_2 => absurd c_2 (by decide))
  refine lv_null hx hb dX6_find_16 ?_
  exact r_q hx hb hr hlocks hK hP hS dX6_find_17 (v := none) ⟨rfl, rfl⟩
set_option maxHeartbeats 4000000 in
set_option maxRecDepth 100000 in
/-- find(q) -/
theorem c6_find (l : Launch) (D : va_G) (cs : Nat → ClassId) (ad : Nat → Nat) (hJ : Inj ad 146) (M : Nat → va_E) (g : Nat → Option Nat) (q : Nat) (hq : q < 2) (h0 : M 0 = .inr (6, [.ref (ad 1)])) (hg1 : M 1 = eQ cs 9 2 g) (k : Nat) (hg2 : g q = some (ad k)) : CTq l yX6_find wsX6_find ({ frames := 1, cells := 0, slots := 0, locals := 20 }) D cs ad 146 M [.ref (ad 0), .int (nI q)] (fun r M2 => M2 = M ∧ r = some (ad k)) := by
  refine Met.ofW (cc := cX6_find) (maxL := 2) (ret := (some (.object "RollbackPair$Peer"))) (by decide) rfl ?_
  intro p e s m args below meth c s₁ B hml hv
  obtain ⟨rfl, hP, hK⟩ := hv
  have hx := B.exec
  have hb := B.bytes
  have hr := B.returns
  have hts := atoms_spec (ws := wsX6_find) B.pre
  have hown : s.vm.findClass RX6 = some m.cls := findClass_of_methodNamed B.named
  have hlocks := B.notSynchronized
  have hS : va_S (Ad ad 146) s.heap s.heap [] := va_S.rf
  have hl := lv_entry ([.ref (ad 0), .int (nI q)]) (n := 2) (Nat.le_of_ble_eq_true rfl)
  rw [lg_entry_eq]
  generalize (lg_sl ([.ref (ad 0), .int (nI q)]) ++ List.replicate (2 - (lg_sl ([.ref (ad 0), .int (nI q)])).length) Slot.unset).toArray = ls at hl ⊢
  have hl : lv_has ls 2 [(0, .ref (ad 0)), (1, .int (nI q))] := hl
  have inX6 : ∀ w ∈ u_ws RX6 TX6 1, w ∈ wsX6_find := fun w h => List.mem_cons_of_mem _ (List.mem_append_right _ h)
  refine lv_iload_n hx hb dX6_find_0 rfl (lv_at hl 1 rfl) ?_
  refine k_Si (As := [.int (nI q)]) (rest := []) ⟨hx, hb, hml, hown, hts⟩ hK hP hS Ad_le (c6_isPlayer l D cs ad 146 M (nI q)) (va_cwS 1 hts gX6_find_X6_isPlayer rfl rfl rfl (by decide +kernel) ⟨Nat.le_of_ble_eq_true rfl, Nat.le_of_ble_eq_true rfl⟩) rfl rfl hl.1 (Nat.le_of_ble_eq_true rfl) dX6_find_1 ⟨Nat.le_of_ble_eq_true rfl, Nat.le_of_ble_eq_true rfl⟩ (fun r_1 M1 H locs hpo hP hS _ _ => ?_)
  obtain ⟨hMe, rfl⟩ := hpo
  rw [hMe] at hP
  refine n_val (if_pos (two_in hq)) ?_
  refine n_if_eq (tgt := 16) hx hb dX6_find_4 (by decide) (by omega) (fun c_2 => absurd c_2 (by decide)) (fun c_2 => ?_)
  refine lv_aload_n hx hb dX6_find_7 rfl (lv_at hl 0 rfl) ?_
  refine m_get hx hb hts inX6 hown hK hP (ci := 6) rfl (k := 0) (by omega) h0 0 (by decide) (hts (.fieldLink RX6 9 "RollbackPair" "peers" "[LRollbackPair$Peer;") (by decide +kernel)) rfl dX6_find_8 ?_
  refine lv_iload_n hx hb dX6_find_11 rfl (lv_at hl 1 rfl) ?_
  refine m_aald hx hb hK hP 9 rfl (k := 1) (by omega) hg1 (i := q) (by omega) (by decide) (r := some (ad k)) hg2 dX6_find_12 ?_
  refine lv_goto (tgt := 17) hx hb dX6_find_13 (by decide) ?_
  exact r_q hx hb hr hlocks hK hP hS dX6_find_17 (v := some (ad k)) ⟨rfl, rfl⟩
set_option maxHeartbeats 4000000 in
set_option maxRecDepth 100000 in
/-- X6_known -/
theorem c6_known (l : Launch) (D : va_G) (cs : Nat → ClassId) (ad : Nat → Nat) (hJ : Inj ad 146) (M : Nat → va_E) (dd ww N : Nat) (S : SS) (hdd : dd ≤ 4) (hw1 : 1 ≤ ww) (hw2 : ww ≤ 8) (hN : N ≤ 550) (hC : CR dd ww N ad cs M S) (pe pl : Int32) : CTi l yX6_known wsX6_known ({ frames := 2, cells := 0, slots := 0, locals := 44 }) D cs ad 146 M [.ref (ad 0), .int pe, .int pl] (fun r M2 => M2 = M ∧ r = rKn S pe pl) := by
  refine Met.ofW (cc := cX6_known) (maxL := 4) (ret := (some .int)) (by decide) rfl ?_
  intro p e s m args below meth c s₁ B hml hv
  obtain ⟨rfl, hP, hK⟩ := hv
  have hx := B.exec
  have hb := B.bytes
  have hr := B.returns
  have hts := atoms_spec (ws := wsX6_known) B.pre
  have hown : s.vm.findClass RX6 = some m.cls := findClass_of_methodNamed B.named
  have hlocks := B.notSynchronized
  have hS : va_S (Ad ad 146) s.heap s.heap [] := va_S.rf
  have hl := lv_entry ([.ref (ad 0), .int pe, .int pl]) (n := 4) (Nat.le_of_ble_eq_true rfl)
  rw [lg_entry_eq]
  generalize (lg_sl ([.ref (ad 0), .int pe, .int pl]) ++ List.replicate (4 - (lg_sl ([.ref (ad 0), .int pe, .int pl])).length) Slot.unset).toArray = ls at hl ⊢
  have hl : lv_has ls 4 [(0, .ref (ad 0)), (1, .int pe), (2, .int pl)] := hl
  have inX6 : ∀ w ∈ u_ws RX6 TX6 1, w ∈ wsX6_known := fun w h => List.mem_cons_of_mem _ (List.mem_append_left _ (List.mem_append_right _ h))
  have inX3 : ∀ w ∈ u_ws RX3 TX3 14, w ∈ wsX6_known := fun w h => List.mem_cons_of_mem _ (List.mem_append_right _ h)
  have inX1 : ∀ w ∈ u_ws RX1 TX1 3, w ∈ wsX6_known := fun w h => List.mem_cons_of_mem _ (List.mem_append_left _ (List.mem_append_left _ (List.mem_append_right _ h)))
  by_cases hpe : two pe
  · obtain ⟨q, hq, rfl⟩ := two_q hpe
    obtain ⟨k, r1, r2, a, nt, ek, er1, er2, haN, hI, hPe, hRw, hRw2⟩ := hC.get q hq
    obtain ⟨h0, ⟨g, hg1, hg2⟩, -, -, hs20, hs87⟩ := id hC
    have hgk : g q = some (ad k) := by rw [ek]; exact hg2 q hq
    have hPe0 := hPe
    obtain ⟨X, V, hh, wk, U, gO, gT, h1, hH, hR, h2, h3, hOw, h4, h5, hOt⟩ := hPe
    obtain ⟨I1, I2, I3, I4, I5, I6, ⟨tt, I7, I8⟩, I9, I10, I11, I12, I13⟩ := id hI
    obtain ⟨sg9, pk, r, hA, hr0, hrl, hsg, hinj, hpk⟩ := id hRw
    have hA1 := hA.1
    obtain ⟨s1, s2, s3⟩ := hH.2.2.2.2.2 (a % 16) (by omega)
    have hR1 := hR.1 a (by omega) (Nat.le_refl a)
    have hao := aOf_eq hq (by omega) I1
    have htq : tn (nI q) = q := tn_nI (by omega)
    by_cases hpl : two pl
    · obtain ⟨pl, hp, rfl⟩ := two_q hpl
      have htp : tn (nI pl) = pl := tn_nI (by omega)
      refine lv_aload_n hx hb dX6_known_0 rfl (lv_at hl 0 rfl) ?_
      refine lv_iload_n hx hb dX6_known_1 rfl (lv_at hl 1 rfl) ?_
      refine k_Vq (As := [.int (nI q)]) (rest := []) (k := 0) (ci := 6) ⟨hx, hb, hml, hown, hts⟩ hK hP hS Ad_le (c6_find l D cs ad hJ M g q hq h0 hg1 k hgk) (cwV 1 hts gX6_known_X6_find rfl rfl rfl (by decide +kernel) ⟨Nat.le_of_ble_eq_true rfl, Nat.le_of_ble_eq_true rfl⟩) (by omega) h0 rfl rfl rfl hl.1 (Nat.le_of_ble_eq_true rfl) dX6_known_2 ⟨Nat.le_of_ble_eq_true rfl, Nat.le_of_ble_eq_true rfl⟩ (fun r_1 M1 H locs hpo hP hS _ _ => ?_)
      obtain ⟨hMe, rfl⟩ := hpo
      rw [hMe] at hP
      refine lv_astore_n (lv' := [(3, .ref (ad k)), (0, .ref (ad 0)), (1, .int (nI q)), (2, .int (nI pl))]) hx hb dX6_known_5 rfl hl (by decide) rfl (fun ls hl => ?_)
      refine lv_aload_n hx hb dX6_known_6 rfl (lv_at hl 0 rfl) ?_
      refine lv_ifnull hx hb dX6_known_7 ?_
      refine lv_iload_n hx hb dX6_known_10 rfl (lv_at hl 3 rfl) ?_
      refine k_Si (As := [.int (nI pl)]) (rest := []) ⟨hx, hb, hml, hown, hts⟩ hK hP hS Ad_le (c6_isPlayer l D cs ad 146 M (nI pl)) (va_cwS 1 hts gX6_known_X6_isPlayer rfl rfl rfl (by decide +kernel) ⟨Nat.le_of_ble_eq_true rfl, Nat.le_of_ble_eq_true rfl⟩) rfl rfl hl.1 (Nat.le_of_ble_eq_true rfl) dX6_known_11 ⟨Nat.le_of_ble_eq_true rfl, Nat.le_of_ble_eq_true rfl⟩ (fun r_2 M1 H locs hpo hP hS _ _ => ?_)
      obtain ⟨hMe, rfl⟩ := hpo
      rw [hMe] at hP
      refine n_val (if_pos (two_in hp)) ?_
      refine n_if_ne (tgt := 19) hx hb dX6_known_14 (by decide) (by omega) (fun c_3 => ?_) (fun c_3 => absurd c_3 (by decide))
      refine lv_aload_n hx hb dX6_known_19 rfl (lv_at hl 0 rfl) ?_
      refine lv_iload_n hx hb dX6_known_20 rfl (lv_at hl 3 rfl) ?_
      refine k_Vq (As := [.int (nI pl)]) (rest := []) (k := k) (ci := 3) ⟨hx, hb, hml, hown, hts⟩ hK hP hS Ad_le (c_inputsOf l D cs ad 146 hJ M k r1 r2 q ww a (S.1 3 q) (S.1 5 q) (S.1 8 q) (S.1 7 q) (S.1 6 q) (S.2.1 9 q) (by omega) hq (by omega) h1 pl hp) (cwV 1 hts gX6_known_X3_inputsOf rfl rfl rfl (by decide +kernel) ⟨Nat.le_of_ble_eq_true rfl, Nat.le_of_ble_eq_true rfl⟩) (by omega) h1 rfl rfl rfl hl.1 (Nat.le_of_ble_eq_true rfl) dX6_known_21 ⟨Nat.le_of_ble_eq_true rfl, Nat.le_of_ble_eq_true rfl⟩ (fun r_4 M1 H locs hpo hP hS _ _ => ?_)
      obtain ⟨hMe, rfl⟩ := hpo
      rw [hMe] at hP
      rcases (show pl = q ∨ pl = 1 - q by omega) with rfl | rfl
      · rw [if_pos rfl]
        refine m_get hx hb hts inX1 hown hK hP (ci := 1) rfl (k := (k + 54)) (by omega) h2 1 (by decide) (hts (.fieldLink RX6 87 "RollbackPair$Inputs" "count" "I") (by decide +kernel)) rfl dX6_known_24 ?_
        exact r_i hx hb hr hlocks hK hP hS dX6_known_27 ⟨rfl, by unfold rKn; rw [if_pos ⟨two_in hq, two_in hp⟩, htq, I2]⟩
      · rw [if_neg (show ¬ 1 - q = q by omega)]
        refine m_get hx hb hts inX1 hown hK hP (ci := 1) rfl (k := (k + 56)) (by omega) h4 1 (by decide) (hts (.fieldLink RX6 87 "RollbackPair$Inputs" "count" "I") (by decide +kernel)) rfl dX6_known_24 ?_
        exact r_i hx hb hr hlocks hK hP hS dX6_known_27 ⟨rfl, by unfold rKn; rw [if_pos ⟨two_in hq, two_in hp⟩, htq, htp, I3]⟩
    · refine lv_aload_n hx hb dX6_known_0 rfl (lv_at hl 0 rfl) ?_
      refine lv_iload_n hx hb dX6_known_1 rfl (lv_at hl 1 rfl) ?_
      refine k_Vq (As := [.int (nI q)]) (rest := []) (k := 0) (ci := 6) ⟨hx, hb, hml, hown, hts⟩ hK hP hS Ad_le (c6_find l D cs ad hJ M g q hq h0 hg1 k hgk) (cwV 1 hts gX6_known_X6_find rfl rfl rfl (by decide +kernel) ⟨Nat.le_of_ble_eq_true rfl, Nat.le_of_ble_eq_true rfl⟩) (by omega) h0 rfl rfl rfl hl.1 (Nat.le_of_ble_eq_true rfl) dX6_known_2 ⟨Nat.le_of_ble_eq_true rfl, Nat.le_of_ble_eq_true rfl⟩ (fun r_1 M1 H locs hpo hP hS _ _ => ?_)
      obtain ⟨hMe, rfl⟩ := hpo
      rw [hMe] at hP
      refine lv_astore_n (lv' := [(3, .ref (ad k)), (0, .ref (ad 0)), (1, .int (nI q)), (2, .int pl)]) hx hb dX6_known_5 rfl hl (by decide) rfl (fun ls hl => ?_)
      refine lv_aload_n hx hb dX6_known_6 rfl (lv_at hl 0 rfl) ?_
      refine lv_ifnull hx hb dX6_known_7 ?_
      refine lv_iload_n hx hb dX6_known_10 rfl (lv_at hl 3 rfl) ?_
      refine k_Si (As := [.int pl]) (rest := []) ⟨hx, hb, hml, hown, hts⟩ hK hP hS Ad_le (c6_isPlayer l D cs ad 146 M pl) (va_cwS 1 hts gX6_known_X6_isPlayer rfl rfl rfl (by decide +kernel) ⟨Nat.le_of_ble_eq_true rfl, Nat.le_of_ble_eq_true rfl⟩) rfl rfl hl.1 (Nat.le_of_ble_eq_true rfl) dX6_known_11 ⟨Nat.le_of_ble_eq_true rfl, Nat.le_of_ble_eq_true rfl⟩ (fun r_2 M1 H locs hpo hP hS _ _ => ?_)
      obtain ⟨hMe, rfl⟩ := hpo
      rw [hMe] at hP
      refine n_val (if_neg hpl) ?_
      refine n_if_ne (tgt := 19) hx hb dX6_known_14 (by decide) (by omega) (fun c_3 => absurd c_3 (by decide)) (fun c_3 => ?_)
      refine lv_iconst (v := (-1)) hx hb dX6_known_17 (by decide) ?_
      exact r_i hx hb hr hlocks hK hP hS dX6_known_18 ⟨rfl, by unfold rKn; rw [if_neg (fun z => hpl z.2)]⟩
  · obtain ⟨h0, ⟨g, hg1, hg2⟩, -⟩ := id hC
    refine lv_aload_n hx hb dX6_known_0 rfl (lv_at hl 0 rfl) ?_
    refine lv_iload_n hx hb dX6_known_1 rfl (lv_at hl 1 rfl) ?_
    refine k_Vq (As := [.int pe]) (rest := []) (k := 0) (ci := 6) ⟨hx, hb, hml, hown, hts⟩ hK hP hS Ad_le (c6_find0 l D cs ad hJ M pe hpe) (cwV 1 hts gX6_known_X6_find rfl rfl rfl (by decide +kernel) ⟨Nat.le_of_ble_eq_true rfl, Nat.le_of_ble_eq_true rfl⟩) (by omega) h0 rfl rfl rfl hl.1 (Nat.le_of_ble_eq_true rfl) dX6_known_2 ⟨Nat.le_of_ble_eq_true rfl, Nat.le_of_ble_eq_true rfl⟩ (fun r_1 M1 H locs hpo hP hS _ _ => ?_)
    obtain ⟨hMe, rfl⟩ := hpo
    rw [hMe] at hP
    refine lv_astore_nN (lv' := [(3, .null), (0, .ref (ad 0)), (1, .int pe), (2, .int pl)]) hx hb dX6_known_5 rfl hl (by decide) rfl (fun ls hl => ?_)
    refine lv_aload_nN hx hb dX6_known_6 rfl (lv_at hl 0 rfl) ?_
    refine lv_ifnullN (tgt := 17) hx hb dX6_known_7 (by decide) ?_
    refine lv_iconst (v := (-1)) hx hb dX6_known_17 (by decide) ?_
    exact r_i hx hb hr hlocks hK hP hS dX6_known_18 ⟨rfl, by unfold rKn; rw [if_neg (fun z => hpe z.1)]⟩
set_option maxHeartbeats 4000000 in
set_option maxRecDepth 100000 in
/-- X6_used -/
theorem c6_used (l : Launch) (D : va_G) (cs : Nat → ClassId) (ad : Nat → Nat) (hJ : Inj ad 146) (M : Nat → va_E) (dd ww N : Nat) (S : SS) (hdd : dd ≤ 4) (hw1 : 1 ≤ ww) (hw2 : ww ≤ 8) (hN : N ≤ 550) (hC : CR dd ww N ad cs M S) (pe pl fr : Int32) : CTi l yX6_used wsX6_used ({ frames := 2, cells := 0, slots := 0, locals := 44 }) D cs ad 146 M [.ref (ad 0), .int pe, .int pl, .int fr] (fun r M2 => M2 = M ∧ r = rUs S pe pl fr) := by
  refine Met.ofW (cc := cX6_used) (maxL := 5) (ret := (some .int)) (by decide) rfl ?_
  intro p e s m args below meth c s₁ B hml hv
  obtain ⟨rfl, hP, hK⟩ := hv
  have hx := B.exec
  have hb := B.bytes
  have hr := B.returns
  have hts := atoms_spec (ws := wsX6_used) B.pre
  have hown : s.vm.findClass RX6 = some m.cls := findClass_of_methodNamed B.named
  have hlocks := B.notSynchronized
  have hS : va_S (Ad ad 146) s.heap s.heap [] := va_S.rf
  have hl := lv_entry ([.ref (ad 0), .int pe, .int pl, .int fr]) (n := 5) (Nat.le_of_ble_eq_true rfl)
  rw [lg_entry_eq]
  generalize (lg_sl ([.ref (ad 0), .int pe, .int pl, .int fr]) ++ List.replicate (5 - (lg_sl ([.ref (ad 0), .int pe, .int pl, .int fr])).length) Slot.unset).toArray = ls at hl ⊢
  have hl : lv_has ls 5 [(0, .ref (ad 0)), (1, .int pe), (2, .int pl), (3, .int fr)] := hl
  have inX6 : ∀ w ∈ u_ws RX6 TX6 1, w ∈ wsX6_used := fun w h => List.mem_cons_of_mem _ (List.mem_append_left _ (List.mem_append_right _ h))
  have inX3 : ∀ w ∈ u_ws RX3 TX3 14, w ∈ wsX6_used := fun w h => List.mem_cons_of_mem _ (List.mem_append_left _ (List.mem_append_left _ (List.mem_append_right _ h)))
  by_cases hpe : two pe
  · obtain ⟨q, hq, rfl⟩ := two_q hpe
    obtain ⟨k, r1, r2, a, nt, ek, er1, er2, haN, hI, hPe, hRw, hRw2⟩ := hC.get q hq
    obtain ⟨h0, ⟨g, hg1, hg2⟩, -, -, hs20, hs87⟩ := id hC
    have hgk : g q = some (ad k) := by rw [ek]; exact hg2 q hq
    have hPe0 := hPe
    obtain ⟨X, V, hh, wk, U, gO, gT, h1, hH, hR, h2, h3, hOw, h4, h5, hOt⟩ := hPe
    obtain ⟨I1, I2, I3, I4, I5, I6, ⟨tt, I7, I8⟩, I9, I10, I11, I12, I13⟩ := id hI
    obtain ⟨sg9, pk, r, hA, hr0, hrl, hsg, hinj, hpk⟩ := id hRw
    have hA1 := hA.1
    obtain ⟨s1, s2, s3⟩ := hH.2.2.2.2.2 (a % 16) (by omega)
    have hR1 := hR.1 a (by omega) (Nat.le_refl a)
    have hao := aOf_eq hq (by omega) I1
    have htq : tn (nI q) = q := tn_nI (by omega)
    by_cases hpl : two pl
    · obtain ⟨pl, hp, rfl⟩ := two_q hpl
      have htp : tn (nI pl) = pl := tn_nI (by omega)
      refine lv_aload_n hx hb dX6_used_0 rfl (lv_at hl 0 rfl) ?_
      refine lv_iload_n hx hb dX6_used_1 rfl (lv_at hl 1 rfl) ?_
      refine k_Vq (As := [.int (nI q)]) (rest := []) (k := 0) (ci := 6) ⟨hx, hb, hml, hown, hts⟩ hK hP hS Ad_le (c6_find l D cs ad hJ M g q hq h0 hg1 k hgk) (cwV 1 hts gX6_used_X6_find rfl rfl rfl (by decide +kernel) ⟨Nat.le_of_ble_eq_true rfl, Nat.le_of_ble_eq_true rfl⟩) (by omega) h0 rfl rfl rfl hl.1 (Nat.le_of_ble_eq_true rfl) dX6_used_2 ⟨Nat.le_of_ble_eq_true rfl, Nat.le_of_ble_eq_true rfl⟩ (fun r_1 M1 H locs hpo hP hS _ _ => ?_)
      obtain ⟨hMe, rfl⟩ := hpo
      rw [hMe] at hP
      refine lv_astore (lv' := [(4, .ref (ad k)), (0, .ref (ad 0)), (1, .int (nI q)), (2, .int (nI pl)), (3, .int fr)]) hx hb dX6_used_5 hl (by decide) rfl (fun ls hl => ?_)
      refine lv_aload hx hb dX6_used_7 (lv_at hl 0 rfl) ?_
      refine lv_ifnull hx hb dX6_used_9 ?_
      refine lv_iload_n hx hb dX6_used_12 rfl (lv_at hl 3 rfl) ?_
      refine k_Si (As := [.int (nI pl)]) (rest := []) ⟨hx, hb, hml, hown, hts⟩ hK hP hS Ad_le (c6_isPlayer l D cs ad 146 M (nI pl)) (va_cwS 1 hts gX6_used_X6_isPlayer rfl rfl rfl (by decide +kernel) ⟨Nat.le_of_ble_eq_true rfl, Nat.le_of_ble_eq_true rfl⟩) rfl rfl hl.1 (Nat.le_of_ble_eq_true rfl) dX6_used_13 ⟨Nat.le_of_ble_eq_true rfl, Nat.le_of_ble_eq_true rfl⟩ (fun r_2 M1 H locs hpo hP hS _ _ => ?_)
      obtain ⟨hMe, rfl⟩ := hpo
      rw [hMe] at hP
      refine n_val (if_pos (two_in hp)) ?_
      refine n_if_ne (tgt := 21) hx hb dX6_used_16 (by decide) (by omega) (fun c_3 => ?_) (fun c_3 => absurd c_3 (by decide))
      refine lv_aload hx hb dX6_used_21 (lv_at hl 0 rfl) ?_
      refine m_get hx hb hts inX3 hown hK hP (ci := 3) rfl (k := k) (by omega) h1 6 (by decide) (hts (.fieldLink RX6 104 "RollbackPair$Peer" "history" "LRollbackPair$History;") (by decide +kernel)) rfl dX6_used_23 ?_
      refine lv_iload_n hx hb dX6_used_26 rfl (lv_at hl 3 rfl) ?_
      refine lv_iload_n hx hb dX6_used_27 rfl (lv_at hl 4 rfl) ?_
      refine lv_aload hx hb dX6_used_28 (lv_at hl 0 rfl) ?_
      refine m_get hx hb hts inX3 hown hK hP (ci := 3) rfl (k := k) (by omega) h1 7 (by decide) (hts (.fieldLink RX6 66 "RollbackPair$Peer" "at" "I") (by decide +kernel)) rfl dX6_used_30 ?_
      refine k_Vi (As := [.int (nI pl), .int fr, .int (nI a)]) (rest := []) (k := (k + 1)) (ci := 0) ⟨hx, hb, hml, hown, hts⟩ hK hP hS Ad_le (c_inputPlayed l D cs ad 146 hJ M (k + 1) X V hh wk U (by omega) hH pl a fr hp (by omega)) (cwV 3 hts gX6_used_X0_inputPlayed rfl rfl rfl (by decide +kernel) ⟨Nat.le_of_ble_eq_true rfl, Nat.le_of_ble_eq_true rfl⟩) (by omega) hH.1 rfl rfl rfl hl.1 (Nat.le_of_ble_eq_true rfl) dX6_used_33 ⟨Nat.le_of_ble_eq_true rfl, Nat.le_of_ble_eq_true rfl⟩ (fun r_4 M1 H locs hpo hP hS _ _ => ?_)
      obtain ⟨hMe, rfl⟩ := hpo
      rw [hMe] at hP
      have hE : hiU U pl fr a = rUs S (nI q) (nI pl) fr := by
        unfold hiU rUs
        rw [hao, htq, htp]
        by_cases hz : ¬ fr < 0 ∧ tn fr < a ∧ a ≤ tn fr + 15
        · rw [if_pos hz, if_pos ⟨two_in hq, two_in hp, hz⟩, hR.2 pl (tn fr) hp (by omega) (by omega)]
        · rw [if_neg hz, if_neg (fun z => hz z.2.2)]
      exact r_i hx hb hr hlocks hK hP hS dX6_used_36 ⟨rfl, hE⟩
    · refine lv_aload_n hx hb dX6_used_0 rfl (lv_at hl 0 rfl) ?_
      refine lv_iload_n hx hb dX6_used_1 rfl (lv_at hl 1 rfl) ?_
      refine k_Vq (As := [.int (nI q)]) (rest := []) (k := 0) (ci := 6) ⟨hx, hb, hml, hown, hts⟩ hK hP hS Ad_le (c6_find l D cs ad hJ M g q hq h0 hg1 k hgk) (cwV 1 hts gX6_used_X6_find rfl rfl rfl (by decide +kernel) ⟨Nat.le_of_ble_eq_true rfl, Nat.le_of_ble_eq_true rfl⟩) (by omega) h0 rfl rfl rfl hl.1 (Nat.le_of_ble_eq_true rfl) dX6_used_2 ⟨Nat.le_of_ble_eq_true rfl, Nat.le_of_ble_eq_true rfl⟩ (fun r_1 M1 H locs hpo hP hS _ _ => ?_)
      obtain ⟨hMe, rfl⟩ := hpo
      rw [hMe] at hP
      refine lv_astore (lv' := [(4, .ref (ad k)), (0, .ref (ad 0)), (1, .int (nI q)), (2, .int pl), (3, .int fr)]) hx hb dX6_used_5 hl (by decide) rfl (fun ls hl => ?_)
      refine lv_aload hx hb dX6_used_7 (lv_at hl 0 rfl) ?_
      refine lv_ifnull hx hb dX6_used_9 ?_
      refine lv_iload_n hx hb dX6_used_12 rfl (lv_at hl 3 rfl) ?_
      refine k_Si (As := [.int pl]) (rest := []) ⟨hx, hb, hml, hown, hts⟩ hK hP hS Ad_le (c6_isPlayer l D cs ad 146 M pl) (va_cwS 1 hts gX6_used_X6_isPlayer rfl rfl rfl (by decide +kernel) ⟨Nat.le_of_ble_eq_true rfl, Nat.le_of_ble_eq_true rfl⟩) rfl rfl hl.1 (Nat.le_of_ble_eq_true rfl) dX6_used_13 ⟨Nat.le_of_ble_eq_true rfl, Nat.le_of_ble_eq_true rfl⟩ (fun r_2 M1 H locs hpo hP hS _ _ => ?_)
      obtain ⟨hMe, rfl⟩ := hpo
      rw [hMe] at hP
      refine n_val (if_neg hpl) ?_
      refine n_if_ne (tgt := 21) hx hb dX6_used_16 (by decide) (by omega) (fun c_3 => absurd c_3 (by decide)) (fun c_3 => ?_)
      refine lv_iconst (v := (-1)) hx hb dX6_used_19 (by decide) ?_
      exact r_i hx hb hr hlocks hK hP hS dX6_used_20 ⟨rfl, by unfold rUs; rw [if_neg (fun z => hpl z.2.1)]⟩
  · obtain ⟨h0, ⟨g, hg1, hg2⟩, -⟩ := id hC
    refine lv_aload_n hx hb dX6_used_0 rfl (lv_at hl 0 rfl) ?_
    refine lv_iload_n hx hb dX6_used_1 rfl (lv_at hl 1 rfl) ?_
    refine k_Vq (As := [.int pe]) (rest := []) (k := 0) (ci := 6) ⟨hx, hb, hml, hown, hts⟩ hK hP hS Ad_le (c6_find0 l D cs ad hJ M pe hpe) (cwV 1 hts gX6_used_X6_find rfl rfl rfl (by decide +kernel) ⟨Nat.le_of_ble_eq_true rfl, Nat.le_of_ble_eq_true rfl⟩) (by omega) h0 rfl rfl rfl hl.1 (Nat.le_of_ble_eq_true rfl) dX6_used_2 ⟨Nat.le_of_ble_eq_true rfl, Nat.le_of_ble_eq_true rfl⟩ (fun r_1 M1 H locs hpo hP hS _ _ => ?_)
    obtain ⟨hMe, rfl⟩ := hpo
    rw [hMe] at hP
    refine lv_astoreN (lv' := [(4, .null), (0, .ref (ad 0)), (1, .int pe), (2, .int pl), (3, .int fr)]) hx hb dX6_used_5 hl (by decide) rfl (fun ls hl => ?_)
    refine lv_aloadN hx hb dX6_used_7 (lv_at hl 0 rfl) ?_
    refine lv_ifnullN (tgt := 19) hx hb dX6_used_9 (by decide) ?_
    refine lv_iconst (v := (-1)) hx hb dX6_used_19 (by decide) ?_
    exact r_i hx hb hr hlocks hK hP hS dX6_used_20 ⟨rfl, by unfold rUs; rw [if_neg (fun z => hpe z.1)]⟩
set_option maxHeartbeats 4000000 in
set_option maxRecDepth 100000 in
/-- X6_sum -/
theorem c6_sum (l : Launch) (D : va_G) (cs : Nat → ClassId) (ad : Nat → Nat) (hJ : Inj ad 146) (M : Nat → va_E) (dd ww N : Nat) (S : SS) (hdd : dd ≤ 4) (hw1 : 1 ≤ ww) (hw2 : ww ≤ 8) (hN : N ≤ 550) (hC : CR dd ww N ad cs M S) (pe fr : Int32) : CTi l yX6_sum wsX6_sum ({ frames := 2, cells := 0, slots := 0, locals := 44 }) D cs ad 146 M [.ref (ad 0), .int pe, .int fr] (fun r M2 => M2 = M ∧ r = rSu S pe fr) := by
  refine Met.ofW (cc := cX6_sum) (maxL := 4) (ret := (some .int)) (by decide) rfl ?_
  intro p e s m args below meth c s₁ B hml hv
  obtain ⟨rfl, hP, hK⟩ := hv
  have hx := B.exec
  have hb := B.bytes
  have hr := B.returns
  have hts := atoms_spec (ws := wsX6_sum) B.pre
  have hown : s.vm.findClass RX6 = some m.cls := findClass_of_methodNamed B.named
  have hlocks := B.notSynchronized
  have hS : va_S (Ad ad 146) s.heap s.heap [] := va_S.rf
  have hl := lv_entry ([.ref (ad 0), .int pe, .int fr]) (n := 4) (Nat.le_of_ble_eq_true rfl)
  rw [lg_entry_eq]
  generalize (lg_sl ([.ref (ad 0), .int pe, .int fr]) ++ List.replicate (4 - (lg_sl ([.ref (ad 0), .int pe, .int fr])).length) Slot.unset).toArray = ls at hl ⊢
  have hl : lv_has ls 4 [(0, .ref (ad 0)), (1, .int pe), (2, .int fr)] := hl
  have inX6 : ∀ w ∈ u_ws RX6 TX6 1, w ∈ wsX6_sum := fun w h => List.mem_cons_of_mem _ (List.mem_append_left _ (List.mem_append_left _ (List.mem_append_right _ h)))
  have inX3 : ∀ w ∈ u_ws RX3 TX3 14, w ∈ wsX6_sum := fun w h => List.mem_cons_of_mem _ (List.mem_append_left _ (List.mem_append_left _ (List.mem_append_left _ (List.mem_append_right _ h))))
  by_cases hpe : two pe
  · obtain ⟨q, hq, rfl⟩ := two_q hpe
    obtain ⟨k, r1, r2, a, nt, ek, er1, er2, haN, hI, hPe, hRw, hRw2⟩ := hC.get q hq
    obtain ⟨h0, ⟨g, hg1, hg2⟩, -, -, hs20, hs87⟩ := id hC
    have hgk : g q = some (ad k) := by rw [ek]; exact hg2 q hq
    have hPe0 := hPe
    obtain ⟨X, V, hh, wk, U, gO, gT, h1, hH, hR, h2, h3, hOw, h4, h5, hOt⟩ := hPe
    obtain ⟨I1, I2, I3, I4, I5, I6, ⟨tt, I7, I8⟩, I9, I10, I11, I12, I13⟩ := id hI
    obtain ⟨sg9, pk, r, hA, hr0, hrl, hsg, hinj, hpk⟩ := id hRw
    have hA1 := hA.1
    obtain ⟨s1, s2, s3⟩ := hH.2.2.2.2.2 (a % 16) (by omega)
    have hR1 := hR.1 a (by omega) (Nat.le_refl a)
    have hao := aOf_eq hq (by omega) I1
    have htq : tn (nI q) = q := tn_nI (by omega)
    refine lv_aload_n hx hb dX6_sum_0 rfl (lv_at hl 0 rfl) ?_
    refine lv_iload_n hx hb dX6_sum_1 rfl (lv_at hl 1 rfl) ?_
    refine k_Vq (As := [.int (nI q)]) (rest := []) (k := 0) (ci := 6) ⟨hx, hb, hml, hown, hts⟩ hK hP hS Ad_le (c6_find l D cs ad hJ M g q hq h0 hg1 k hgk) (cwV 1 hts gX6_sum_X6_find rfl rfl rfl (by decide +kernel) ⟨Nat.le_of_ble_eq_true rfl, Nat.le_of_ble_eq_true rfl⟩) (by omega) h0 rfl rfl rfl hl.1 (Nat.le_of_ble_eq_true rfl) dX6_sum_2 ⟨Nat.le_of_ble_eq_true rfl, Nat.le_of_ble_eq_true rfl⟩ (fun r_1 M1 H locs hpo hP hS _ _ => ?_)
    obtain ⟨hMe, rfl⟩ := hpo
    rw [hMe] at hP
    refine lv_astore_n (lv' := [(3, .ref (ad k)), (0, .ref (ad 0)), (1, .int (nI q)), (2, .int fr)]) hx hb dX6_sum_5 rfl hl (by decide) rfl (fun ls hl => ?_)
    refine lv_aload_n hx hb dX6_sum_6 rfl (lv_at hl 0 rfl) ?_
    refine lv_ifnonnull (tgt := 14) hx hb dX6_sum_7 (by decide) ?_
    refine lv_aload_n hx hb dX6_sum_14 rfl (lv_at hl 0 rfl) ?_
    refine m_get hx hb hts inX3 hown hK hP (ci := 3) rfl (k := k) (by omega) h1 6 (by decide) (hts (.fieldLink RX6 104 "RollbackPair$Peer" "history" "LRollbackPair$History;") (by decide +kernel)) rfl dX6_sum_15 ?_
    refine lv_iload_n hx hb dX6_sum_18 rfl (lv_at hl 3 rfl) ?_
    refine lv_aload_n hx hb dX6_sum_19 rfl (lv_at hl 0 rfl) ?_
    refine m_get hx hb hts inX3 hown hK hP (ci := 3) rfl (k := k) (by omega) h1 7 (by decide) (hts (.fieldLink RX6 66 "RollbackPair$Peer" "at" "I") (by decide +kernel)) rfl dX6_sum_20 ?_
    have hBs : ∀ f, f ≤ a → a ≤ f + 15 → Bd (X (f % 16) 0) (V (f % 16) 0) (X (f % 16) 1) (V (f % 16) 1) (wk (f % 16)) f := fun f z1 z2 => by obtain ⟨y1, y2, y3, y4, y5, y6⟩ := hR.1 f (by omega) z1; rw [y1, y2, y3, y4, y6]; exact I12 f z1
    refine k_Vi (As := [.int fr, .int (nI a)]) (rest := []) (k := (k + 1)) (ci := 0) ⟨hx, hb, hml, hown, hts⟩ hK hP hS Ad_le (c_sumBefore l D cs ad 146 hJ M (k + 1) X V hh wk U (by omega) hH a fr (by omega) hBs) (cwV 2 hts gX6_sum_X0_sumBefore rfl rfl rfl (by decide +kernel) ⟨Nat.le_of_ble_eq_true rfl, Nat.le_of_ble_eq_true rfl⟩) (by omega) hH.1 rfl rfl rfl hl.1 (Nat.le_of_ble_eq_true rfl) dX6_sum_23 ⟨Nat.le_of_ble_eq_true rfl, Nat.le_of_ble_eq_true rfl⟩ (fun r_2 M1 H locs hpo hP hS _ _ => ?_)
    obtain ⟨hMe, rfl⟩ := hpo
    rw [hMe] at hP
    have hE : hiS X V hh wk fr a = rSu S (nI q) fr := by
      unfold hiS rSu
      rw [hao, htq]
      by_cases hz : ¬ fr < 0 ∧ tn fr ≤ a ∧ a ≤ tn fr + 15
      · obtain ⟨y1, y2, y3, y4, y5, y6⟩ := hR.1 (tn fr) (by omega) (by omega)
        rw [if_pos hz, if_pos ⟨two_in hq, hz⟩, y1, y2, y3, y4, y5, y6]
      · rw [if_neg hz, if_neg (fun z => hz z.2)]
    exact r_i hx hb hr hlocks hK hP hS dX6_sum_26 ⟨rfl, hE⟩
  · obtain ⟨h0, ⟨g, hg1, hg2⟩, -⟩ := id hC
    refine lv_aload_n hx hb dX6_sum_0 rfl (lv_at hl 0 rfl) ?_
    refine lv_iload_n hx hb dX6_sum_1 rfl (lv_at hl 1 rfl) ?_
    refine k_Vq (As := [.int pe]) (rest := []) (k := 0) (ci := 6) ⟨hx, hb, hml, hown, hts⟩ hK hP hS Ad_le (c6_find0 l D cs ad hJ M pe hpe) (cwV 1 hts gX6_sum_X6_find rfl rfl rfl (by decide +kernel) ⟨Nat.le_of_ble_eq_true rfl, Nat.le_of_ble_eq_true rfl⟩) (by omega) h0 rfl rfl rfl hl.1 (Nat.le_of_ble_eq_true rfl) dX6_sum_2 ⟨Nat.le_of_ble_eq_true rfl, Nat.le_of_ble_eq_true rfl⟩ (fun r_1 M1 H locs hpo hP hS _ _ => ?_)
    obtain ⟨hMe, rfl⟩ := hpo
    rw [hMe] at hP
    refine lv_astore_nN (lv' := [(3, .null), (0, .ref (ad 0)), (1, .int pe), (2, .int fr)]) hx hb dX6_sum_5 rfl hl (by decide) rfl (fun ls hl => ?_)
    refine lv_aload_nN hx hb dX6_sum_6 rfl (lv_at hl 0 rfl) ?_
    refine lv_ifnonnullN hx hb dX6_sum_7 ?_
    refine lv_iconst (v := nI 0) hx hb dX6_sum_10 (by decide) ?_
    refine lv_goto (tgt := 26) hx hb dX6_sum_11 (by decide) ?_
    exact r_i hx hb hr hlocks hK hP hS dX6_sum_26 ⟨rfl, by unfold rSu; rw [if_neg (fun z => hpe z.1)]⟩
set_option maxHeartbeats 4000000 in
set_option maxRecDepth 100000 in
/-- X6_place -/
theorem c6_place (l : Launch) (D : va_G) (cs : Nat → ClassId) (ad : Nat → Nat) (hJ : Inj ad 146) (M : Nat → va_E) (dd ww N : Nat) (S : SS) (hdd : dd ≤ 4) (hw1 : 1 ≤ ww) (hw2 : ww ≤ 8) (hN : N ≤ 550) (hC : CR dd ww N ad cs M S) (pe pl : Int32) : CTf l yX6_place wsX6_place ({ frames := 2, cells := 0, slots := 0, locals := 44 }) D cs ad 146 M [.ref (ad 0), .int pe, .int pl] (fun r M2 => M2 = M ∧ r = rPl S pe pl) := by
  refine Met.ofW (cc := cX6_place) (maxL := 4) (ret := (some .float)) (by decide) rfl ?_
  intro p e s m args below meth c s₁ B hml hv
  obtain ⟨rfl, hP, hK⟩ := hv
  have hx := B.exec
  have hb := B.bytes
  have hr := B.returns
  have hts := atoms_spec (ws := wsX6_place) B.pre
  have hown : s.vm.findClass RX6 = some m.cls := findClass_of_methodNamed B.named
  have hlocks := B.notSynchronized
  have hS : va_S (Ad ad 146) s.heap s.heap [] := va_S.rf
  have hl := lv_entry ([.ref (ad 0), .int pe, .int pl]) (n := 4) (Nat.le_of_ble_eq_true rfl)
  rw [lg_entry_eq]
  generalize (lg_sl ([.ref (ad 0), .int pe, .int pl]) ++ List.replicate (4 - (lg_sl ([.ref (ad 0), .int pe, .int pl])).length) Slot.unset).toArray = ls at hl ⊢
  have hl : lv_has ls 4 [(0, .ref (ad 0)), (1, .int pe), (2, .int pl)] := hl
  have inX6 : ∀ w ∈ u_ws RX6 TX6 1, w ∈ wsX6_place := fun w h => List.mem_cons_of_mem _ (List.mem_append_left _ (List.mem_append_left _ (List.mem_append_right _ h)))
  have inX3 : ∀ w ∈ u_ws RX3 TX3 14, w ∈ wsX6_place := fun w h => List.mem_cons_of_mem _ (List.mem_append_left _ (List.mem_append_right _ h))
  have inX5 : ∀ w ∈ u_ws RX5 TX5 4, w ∈ wsX6_place := fun w h => List.mem_cons_of_mem _ (List.mem_append_left _ (List.mem_append_left _ (List.mem_append_left _ (List.mem_append_right _ h))))
  by_cases hpe : two pe
  · obtain ⟨q, hq, rfl⟩ := two_q hpe
    obtain ⟨k, r1, r2, a, nt, ek, er1, er2, haN, hI, hPe, hRw, hRw2⟩ := hC.get q hq
    obtain ⟨h0, ⟨g, hg1, hg2⟩, -, -, hs20, hs87⟩ := id hC
    have hgk : g q = some (ad k) := by rw [ek]; exact hg2 q hq
    have hPe0 := hPe
    obtain ⟨X, V, hh, wk, U, gO, gT, h1, hH, hR, h2, h3, hOw, h4, h5, hOt⟩ := hPe
    obtain ⟨I1, I2, I3, I4, I5, I6, ⟨tt, I7, I8⟩, I9, I10, I11, I12, I13⟩ := id hI
    obtain ⟨sg9, pk, r, hA, hr0, hrl, hsg, hinj, hpk⟩ := id hRw
    have hA1 := hA.1
    obtain ⟨s1, s2, s3⟩ := hH.2.2.2.2.2 (a % 16) (by omega)
    have hR1 := hR.1 a (by omega) (Nat.le_refl a)
    have hao := aOf_eq hq (by omega) I1
    have htq : tn (nI q) = q := tn_nI (by omega)
    by_cases hpl : two pl
    · obtain ⟨pl, hp, rfl⟩ := two_q hpl
      have htp : tn (nI pl) = pl := tn_nI (by omega)
      refine lv_aload_n hx hb dX6_place_0 rfl (lv_at hl 0 rfl) ?_
      refine lv_iload_n hx hb dX6_place_1 rfl (lv_at hl 1 rfl) ?_
      refine k_Vq (As := [.int (nI q)]) (rest := []) (k := 0) (ci := 6) ⟨hx, hb, hml, hown, hts⟩ hK hP hS Ad_le (c6_find l D cs ad hJ M g q hq h0 hg1 k hgk) (cwV 1 hts gX6_place_X6_find rfl rfl rfl (by decide +kernel) ⟨Nat.le_of_ble_eq_true rfl, Nat.le_of_ble_eq_true rfl⟩) (by omega) h0 rfl rfl rfl hl.1 (Nat.le_of_ble_eq_true rfl) dX6_place_2 ⟨Nat.le_of_ble_eq_true rfl, Nat.le_of_ble_eq_true rfl⟩ (fun r_1 M1 H locs hpo hP hS _ _ => ?_)
      obtain ⟨hMe, rfl⟩ := hpo
      rw [hMe] at hP
      refine lv_astore_n (lv' := [(3, .ref (ad k)), (0, .ref (ad 0)), (1, .int (nI q)), (2, .int (nI pl))]) hx hb dX6_place_5 rfl hl (by decide) rfl (fun ls hl => ?_)
      refine lv_aload_n hx hb dX6_place_6 rfl (lv_at hl 0 rfl) ?_
      refine lv_ifnull hx hb dX6_place_7 ?_
      refine lv_iload_n hx hb dX6_place_10 rfl (lv_at hl 3 rfl) ?_
      refine k_Si (As := [.int (nI pl)]) (rest := []) ⟨hx, hb, hml, hown, hts⟩ hK hP hS Ad_le (c6_isPlayer l D cs ad 146 M (nI pl)) (va_cwS 1 hts gX6_place_X6_isPlayer rfl rfl rfl (by decide +kernel) ⟨Nat.le_of_ble_eq_true rfl, Nat.le_of_ble_eq_true rfl⟩) rfl rfl hl.1 (Nat.le_of_ble_eq_true rfl) dX6_place_11 ⟨Nat.le_of_ble_eq_true rfl, Nat.le_of_ble_eq_true rfl⟩ (fun r_2 M1 H locs hpo hP hS _ _ => ?_)
      obtain ⟨hMe, rfl⟩ := hpo
      rw [hMe] at hP
      refine n_val (if_pos (two_in hp)) ?_
      refine n_if_ne (tgt := 20) hx hb dX6_place_14 (by decide) (by omega) (fun c_3 => ?_) (fun c_3 => absurd c_3 (by decide))
      refine lv_aload_n hx hb dX6_place_20 rfl (lv_at hl 0 rfl) ?_
      refine k_Vq (As := []) (rest := []) (k := k) (ci := 3) ⟨hx, hb, hml, hown, hts⟩ hK hP hS Ad_le (c_pstate l D cs ad 146 hJ M k r1 r2 q ww a (S.1 3 q) (S.1 5 q) (S.1 8 q) (S.1 7 q) (S.1 6 q) (S.2.1 9 q) (by omega) hq (by omega) h1 X V hh wk U hH) (cwV 0 hts gX6_place_X3_state rfl rfl rfl (by decide +kernel) ⟨Nat.le_of_ble_eq_true rfl, Nat.le_of_ble_eq_true rfl⟩) (by omega) h1 rfl rfl rfl hl.1 (Nat.le_of_ble_eq_true rfl) dX6_place_21 ⟨Nat.le_of_ble_eq_true rfl, Nat.le_of_ble_eq_true rfl⟩ (fun r_4 M1 H locs hpo hP hS _ _ => ?_)
      obtain ⟨hMe, rfl⟩ := hpo
      rw [hMe] at hP
      refine m_get hx hb hts inX5 hown hK hP (ci := 5) rfl (k := (k + 1 + 5 + 3 * (a % 16))) (by omega) s1 0 (by decide) (hts (.fieldLink RX6 122 "RollbackPair$State" "places" "[F") (by decide +kernel)) rfl dX6_place_24 ?_
      refine lv_iload_n hx hb dX6_place_27 rfl (lv_at hl 3 rfl) ?_
      refine m_fald hx hb hK hP (k := (k + 1 + 5 + 3 * (a % 16) + 1)) (by omega) (f := (X (a % 16))) s2 (i := pl) (by omega) (by decide) dX6_place_28 ?_
      have hE : (X (a % 16)) pl = rPl S (nI q) (nI pl) := by
        unfold rPl
        rw [hao, htq, htp, if_pos ⟨two_in hq, two_in hp⟩]
        rcases (show pl = 0 ∨ pl = 1 by omega) with rfl | rfl
        · rw [if_pos rfl]; exact hR1.1
        · rw [if_neg (by decide)]; exact hR1.2.2.1
      exact r_f hx hb hr hlocks hK hP hS dX6_place_29 ⟨rfl, hE⟩
    · refine lv_aload_n hx hb dX6_place_0 rfl (lv_at hl 0 rfl) ?_
      refine lv_iload_n hx hb dX6_place_1 rfl (lv_at hl 1 rfl) ?_
      refine k_Vq (As := [.int (nI q)]) (rest := []) (k := 0) (ci := 6) ⟨hx, hb, hml, hown, hts⟩ hK hP hS Ad_le (c6_find l D cs ad hJ M g q hq h0 hg1 k hgk) (cwV 1 hts gX6_place_X6_find rfl rfl rfl (by decide +kernel) ⟨Nat.le_of_ble_eq_true rfl, Nat.le_of_ble_eq_true rfl⟩) (by omega) h0 rfl rfl rfl hl.1 (Nat.le_of_ble_eq_true rfl) dX6_place_2 ⟨Nat.le_of_ble_eq_true rfl, Nat.le_of_ble_eq_true rfl⟩ (fun r_1 M1 H locs hpo hP hS _ _ => ?_)
      obtain ⟨hMe, rfl⟩ := hpo
      rw [hMe] at hP
      refine lv_astore_n (lv' := [(3, .ref (ad k)), (0, .ref (ad 0)), (1, .int (nI q)), (2, .int pl)]) hx hb dX6_place_5 rfl hl (by decide) rfl (fun ls hl => ?_)
      refine lv_aload_n hx hb dX6_place_6 rfl (lv_at hl 0 rfl) ?_
      refine lv_ifnull hx hb dX6_place_7 ?_
      refine lv_iload_n hx hb dX6_place_10 rfl (lv_at hl 3 rfl) ?_
      refine k_Si (As := [.int pl]) (rest := []) ⟨hx, hb, hml, hown, hts⟩ hK hP hS Ad_le (c6_isPlayer l D cs ad 146 M pl) (va_cwS 1 hts gX6_place_X6_isPlayer rfl rfl rfl (by decide +kernel) ⟨Nat.le_of_ble_eq_true rfl, Nat.le_of_ble_eq_true rfl⟩) rfl rfl hl.1 (Nat.le_of_ble_eq_true rfl) dX6_place_11 ⟨Nat.le_of_ble_eq_true rfl, Nat.le_of_ble_eq_true rfl⟩ (fun r_2 M1 H locs hpo hP hS _ _ => ?_)
      obtain ⟨hMe, rfl⟩ := hpo
      rw [hMe] at hP
      refine n_val (if_neg hpl) ?_
      refine n_if_ne (tgt := 20) hx hb dX6_place_14 (by decide) (by omega) (fun c_3 => absurd c_3 (by decide)) (fun c_3 => ?_)
      refine lv_ldcf hx hb hown (hts (.constantFloat RX6 117 (3267887104)) (by decide +kernel)) dX6_place_17 ?_
      exact r_f hx hb hr hlocks hK hP hS dX6_place_19 ⟨rfl, by unfold rPl; rw [if_neg (fun z => hpl z.2)]⟩
  · obtain ⟨h0, ⟨g, hg1, hg2⟩, -⟩ := id hC
    refine lv_aload_n hx hb dX6_place_0 rfl (lv_at hl 0 rfl) ?_
    refine lv_iload_n hx hb dX6_place_1 rfl (lv_at hl 1 rfl) ?_
    refine k_Vq (As := [.int pe]) (rest := []) (k := 0) (ci := 6) ⟨hx, hb, hml, hown, hts⟩ hK hP hS Ad_le (c6_find0 l D cs ad hJ M pe hpe) (cwV 1 hts gX6_place_X6_find rfl rfl rfl (by decide +kernel) ⟨Nat.le_of_ble_eq_true rfl, Nat.le_of_ble_eq_true rfl⟩) (by omega) h0 rfl rfl rfl hl.1 (Nat.le_of_ble_eq_true rfl) dX6_place_2 ⟨Nat.le_of_ble_eq_true rfl, Nat.le_of_ble_eq_true rfl⟩ (fun r_1 M1 H locs hpo hP hS _ _ => ?_)
    obtain ⟨hMe, rfl⟩ := hpo
    rw [hMe] at hP
    refine lv_astore_nN (lv' := [(3, .null), (0, .ref (ad 0)), (1, .int pe), (2, .int pl)]) hx hb dX6_place_5 rfl hl (by decide) rfl (fun ls hl => ?_)
    refine lv_aload_nN hx hb dX6_place_6 rfl (lv_at hl 0 rfl) ?_
    refine lv_ifnullN (tgt := 17) hx hb dX6_place_7 (by decide) ?_
    refine lv_ldcf hx hb hown (hts (.constantFloat RX6 117 (3267887104)) (by decide +kernel)) dX6_place_17 ?_
    exact r_f hx hb hr hlocks hK hP hS dX6_place_19 ⟨rfl, by unfold rPl; rw [if_neg (fun z => hpe z.1)]⟩
set_option maxHeartbeats 4000000 in
set_option maxRecDepth 100000 in
/-- X6_speed -/
theorem c6_speed (l : Launch) (D : va_G) (cs : Nat → ClassId) (ad : Nat → Nat) (hJ : Inj ad 146) (M : Nat → va_E) (dd ww N : Nat) (S : SS) (hdd : dd ≤ 4) (hw1 : 1 ≤ ww) (hw2 : ww ≤ 8) (hN : N ≤ 550) (hC : CR dd ww N ad cs M S) (pe pl : Int32) : CTf l yX6_speed wsX6_speed ({ frames := 2, cells := 0, slots := 0, locals := 44 }) D cs ad 146 M [.ref (ad 0), .int pe, .int pl] (fun r M2 => M2 = M ∧ r = rSp S pe pl) := by
  refine Met.ofW (cc := cX6_speed) (maxL := 4) (ret := (some .float)) (by decide) rfl ?_
  intro p e s m args below meth c s₁ B hml hv
  obtain ⟨rfl, hP, hK⟩ := hv
  have hx := B.exec
  have hb := B.bytes
  have hr := B.returns
  have hts := atoms_spec (ws := wsX6_speed) B.pre
  have hown : s.vm.findClass RX6 = some m.cls := findClass_of_methodNamed B.named
  have hlocks := B.notSynchronized
  have hS : va_S (Ad ad 146) s.heap s.heap [] := va_S.rf
  have hl := lv_entry ([.ref (ad 0), .int pe, .int pl]) (n := 4) (Nat.le_of_ble_eq_true rfl)
  rw [lg_entry_eq]
  generalize (lg_sl ([.ref (ad 0), .int pe, .int pl]) ++ List.replicate (4 - (lg_sl ([.ref (ad 0), .int pe, .int pl])).length) Slot.unset).toArray = ls at hl ⊢
  have hl : lv_has ls 4 [(0, .ref (ad 0)), (1, .int pe), (2, .int pl)] := hl
  have inX6 : ∀ w ∈ u_ws RX6 TX6 1, w ∈ wsX6_speed := fun w h => List.mem_cons_of_mem _ (List.mem_append_left _ (List.mem_append_left _ (List.mem_append_right _ h)))
  have inX3 : ∀ w ∈ u_ws RX3 TX3 14, w ∈ wsX6_speed := fun w h => List.mem_cons_of_mem _ (List.mem_append_left _ (List.mem_append_right _ h))
  have inX5 : ∀ w ∈ u_ws RX5 TX5 4, w ∈ wsX6_speed := fun w h => List.mem_cons_of_mem _ (List.mem_append_left _ (List.mem_append_left _ (List.mem_append_left _ (List.mem_append_right _ h))))
  by_cases hpe : two pe
  · obtain ⟨q, hq, rfl⟩ := two_q hpe
    obtain ⟨k, r1, r2, a, nt, ek, er1, er2, haN, hI, hPe, hRw, hRw2⟩ := hC.get q hq
    obtain ⟨h0, ⟨g, hg1, hg2⟩, -, -, hs20, hs87⟩ := id hC
    have hgk : g q = some (ad k) := by rw [ek]; exact hg2 q hq
    have hPe0 := hPe
    obtain ⟨X, V, hh, wk, U, gO, gT, h1, hH, hR, h2, h3, hOw, h4, h5, hOt⟩ := hPe
    obtain ⟨I1, I2, I3, I4, I5, I6, ⟨tt, I7, I8⟩, I9, I10, I11, I12, I13⟩ := id hI
    obtain ⟨sg9, pk, r, hA, hr0, hrl, hsg, hinj, hpk⟩ := id hRw
    have hA1 := hA.1
    obtain ⟨s1, s2, s3⟩ := hH.2.2.2.2.2 (a % 16) (by omega)
    have hR1 := hR.1 a (by omega) (Nat.le_refl a)
    have hao := aOf_eq hq (by omega) I1
    have htq : tn (nI q) = q := tn_nI (by omega)
    by_cases hpl : two pl
    · obtain ⟨pl, hp, rfl⟩ := two_q hpl
      have htp : tn (nI pl) = pl := tn_nI (by omega)
      refine lv_aload_n hx hb dX6_speed_0 rfl (lv_at hl 0 rfl) ?_
      refine lv_iload_n hx hb dX6_speed_1 rfl (lv_at hl 1 rfl) ?_
      refine k_Vq (As := [.int (nI q)]) (rest := []) (k := 0) (ci := 6) ⟨hx, hb, hml, hown, hts⟩ hK hP hS Ad_le (c6_find l D cs ad hJ M g q hq h0 hg1 k hgk) (cwV 1 hts gX6_speed_X6_find rfl rfl rfl (by decide +kernel) ⟨Nat.le_of_ble_eq_true rfl, Nat.le_of_ble_eq_true rfl⟩) (by omega) h0 rfl rfl rfl hl.1 (Nat.le_of_ble_eq_true rfl) dX6_speed_2 ⟨Nat.le_of_ble_eq_true rfl, Nat.le_of_ble_eq_true rfl⟩ (fun r_1 M1 H locs hpo hP hS _ _ => ?_)
      obtain ⟨hMe, rfl⟩ := hpo
      rw [hMe] at hP
      refine lv_astore_n (lv' := [(3, .ref (ad k)), (0, .ref (ad 0)), (1, .int (nI q)), (2, .int (nI pl))]) hx hb dX6_speed_5 rfl hl (by decide) rfl (fun ls hl => ?_)
      refine lv_aload_n hx hb dX6_speed_6 rfl (lv_at hl 0 rfl) ?_
      refine lv_ifnull hx hb dX6_speed_7 ?_
      refine lv_iload_n hx hb dX6_speed_10 rfl (lv_at hl 3 rfl) ?_
      refine k_Si (As := [.int (nI pl)]) (rest := []) ⟨hx, hb, hml, hown, hts⟩ hK hP hS Ad_le (c6_isPlayer l D cs ad 146 M (nI pl)) (va_cwS 1 hts gX6_speed_X6_isPlayer rfl rfl rfl (by decide +kernel) ⟨Nat.le_of_ble_eq_true rfl, Nat.le_of_ble_eq_true rfl⟩) rfl rfl hl.1 (Nat.le_of_ble_eq_true rfl) dX6_speed_11 ⟨Nat.le_of_ble_eq_true rfl, Nat.le_of_ble_eq_true rfl⟩ (fun r_2 M1 H locs hpo hP hS _ _ => ?_)
      obtain ⟨hMe, rfl⟩ := hpo
      rw [hMe] at hP
      refine n_val (if_pos (two_in hp)) ?_
      refine n_if_ne (tgt := 19) hx hb dX6_speed_14 (by decide) (by omega) (fun c_3 => ?_) (fun c_3 => absurd c_3 (by decide))
      refine lv_aload_n hx hb dX6_speed_19 rfl (lv_at hl 0 rfl) ?_
      refine k_Vq (As := []) (rest := []) (k := k) (ci := 3) ⟨hx, hb, hml, hown, hts⟩ hK hP hS Ad_le (c_pstate l D cs ad 146 hJ M k r1 r2 q ww a (S.1 3 q) (S.1 5 q) (S.1 8 q) (S.1 7 q) (S.1 6 q) (S.2.1 9 q) (by omega) hq (by omega) h1 X V hh wk U hH) (cwV 0 hts gX6_speed_X3_state rfl rfl rfl (by decide +kernel) ⟨Nat.le_of_ble_eq_true rfl, Nat.le_of_ble_eq_true rfl⟩) (by omega) h1 rfl rfl rfl hl.1 (Nat.le_of_ble_eq_true rfl) dX6_speed_20 ⟨Nat.le_of_ble_eq_true rfl, Nat.le_of_ble_eq_true rfl⟩ (fun r_4 M1 H locs hpo hP hS _ _ => ?_)
      obtain ⟨hMe, rfl⟩ := hpo
      rw [hMe] at hP
      refine m_get hx hb hts inX5 hown hK hP (ci := 5) rfl (k := (k + 1 + 5 + 3 * (a % 16))) (by omega) s1 1 (by decide) (hts (.fieldLink RX6 128 "RollbackPair$State" "speeds" "[F") (by decide +kernel)) rfl dX6_speed_23 ?_
      refine lv_iload_n hx hb dX6_speed_26 rfl (lv_at hl 3 rfl) ?_
      refine m_fald hx hb hK hP (k := (k + 1 + 5 + 3 * (a % 16) + 2)) (by omega) (f := (V (a % 16))) s3 (i := pl) (by omega) (by decide) dX6_speed_27 ?_
      have hE : (V (a % 16)) pl = rSp S (nI q) (nI pl) := by
        unfold rSp
        rw [hao, htq, htp, if_pos ⟨two_in hq, two_in hp⟩]
        rcases (show pl = 0 ∨ pl = 1 by omega) with rfl | rfl
        · rw [if_pos rfl]; exact hR1.2.1
        · rw [if_neg (by decide)]; exact hR1.2.2.2.1
      exact r_f hx hb hr hlocks hK hP hS dX6_speed_28 ⟨rfl, hE⟩
    · refine lv_aload_n hx hb dX6_speed_0 rfl (lv_at hl 0 rfl) ?_
      refine lv_iload_n hx hb dX6_speed_1 rfl (lv_at hl 1 rfl) ?_
      refine k_Vq (As := [.int (nI q)]) (rest := []) (k := 0) (ci := 6) ⟨hx, hb, hml, hown, hts⟩ hK hP hS Ad_le (c6_find l D cs ad hJ M g q hq h0 hg1 k hgk) (cwV 1 hts gX6_speed_X6_find rfl rfl rfl (by decide +kernel) ⟨Nat.le_of_ble_eq_true rfl, Nat.le_of_ble_eq_true rfl⟩) (by omega) h0 rfl rfl rfl hl.1 (Nat.le_of_ble_eq_true rfl) dX6_speed_2 ⟨Nat.le_of_ble_eq_true rfl, Nat.le_of_ble_eq_true rfl⟩ (fun r_1 M1 H locs hpo hP hS _ _ => ?_)
      obtain ⟨hMe, rfl⟩ := hpo
      rw [hMe] at hP
      refine lv_astore_n (lv' := [(3, .ref (ad k)), (0, .ref (ad 0)), (1, .int (nI q)), (2, .int pl)]) hx hb dX6_speed_5 rfl hl (by decide) rfl (fun ls hl => ?_)
      refine lv_aload_n hx hb dX6_speed_6 rfl (lv_at hl 0 rfl) ?_
      refine lv_ifnull hx hb dX6_speed_7 ?_
      refine lv_iload_n hx hb dX6_speed_10 rfl (lv_at hl 3 rfl) ?_
      refine k_Si (As := [.int pl]) (rest := []) ⟨hx, hb, hml, hown, hts⟩ hK hP hS Ad_le (c6_isPlayer l D cs ad 146 M pl) (va_cwS 1 hts gX6_speed_X6_isPlayer rfl rfl rfl (by decide +kernel) ⟨Nat.le_of_ble_eq_true rfl, Nat.le_of_ble_eq_true rfl⟩) rfl rfl hl.1 (Nat.le_of_ble_eq_true rfl) dX6_speed_11 ⟨Nat.le_of_ble_eq_true rfl, Nat.le_of_ble_eq_true rfl⟩ (fun r_2 M1 H locs hpo hP hS _ _ => ?_)
      obtain ⟨hMe, rfl⟩ := hpo
      rw [hMe] at hP
      refine n_val (if_neg hpl) ?_
      refine n_if_ne (tgt := 19) hx hb dX6_speed_14 (by decide) (by omega) (fun c_3 => absurd c_3 (by decide)) (fun c_3 => ?_)
      refine lv_fconst0 hx hb dX6_speed_17 ?_
      exact r_f hx hb hr hlocks hK hP hS dX6_speed_18 ⟨rfl, by unfold rSp; rw [if_neg (fun z => hpl z.2)]⟩
  · obtain ⟨h0, ⟨g, hg1, hg2⟩, -⟩ := id hC
    refine lv_aload_n hx hb dX6_speed_0 rfl (lv_at hl 0 rfl) ?_
    refine lv_iload_n hx hb dX6_speed_1 rfl (lv_at hl 1 rfl) ?_
    refine k_Vq (As := [.int pe]) (rest := []) (k := 0) (ci := 6) ⟨hx, hb, hml, hown, hts⟩ hK hP hS Ad_le (c6_find0 l D cs ad hJ M pe hpe) (cwV 1 hts gX6_speed_X6_find rfl rfl rfl (by decide +kernel) ⟨Nat.le_of_ble_eq_true rfl, Nat.le_of_ble_eq_true rfl⟩) (by omega) h0 rfl rfl rfl hl.1 (Nat.le_of_ble_eq_true rfl) dX6_speed_2 ⟨Nat.le_of_ble_eq_true rfl, Nat.le_of_ble_eq_true rfl⟩ (fun r_1 M1 H locs hpo hP hS _ _ => ?_)
    obtain ⟨hMe, rfl⟩ := hpo
    rw [hMe] at hP
    refine lv_astore_nN (lv' := [(3, .null), (0, .ref (ad 0)), (1, .int pe), (2, .int pl)]) hx hb dX6_speed_5 rfl hl (by decide) rfl (fun ls hl => ?_)
    refine lv_aload_nN hx hb dX6_speed_6 rfl (lv_at hl 0 rfl) ?_
    refine lv_ifnullN (tgt := 17) hx hb dX6_speed_7 (by decide) ?_
    refine lv_fconst0 hx hb dX6_speed_17 ?_
    exact r_f hx hb hr hlocks hK hP hS dX6_speed_18 ⟨rfl, by unfold rSp; rw [if_neg (fun z => hpe z.1)]⟩
set_option maxHeartbeats 4000000 in
set_option maxRecDepth 100000 in
/-- X6_hits -/
theorem c6_hits (l : Launch) (D : va_G) (cs : Nat → ClassId) (ad : Nat → Nat) (hJ : Inj ad 146) (M : Nat → va_E) (dd ww N : Nat) (S : SS) (hdd : dd ≤ 4) (hw1 : 1 ≤ ww) (hw2 : ww ≤ 8) (hN : N ≤ 550) (hC : CR dd ww N ad cs M S) (pe : Int32) : CTi l yX6_hits wsX6_hits ({ frames := 2, cells := 0, slots := 0, locals := 44 }) D cs ad 146 M [.ref (ad 0), .int pe] (fun r M2 => M2 = M ∧ r = rHi S pe) := by
  refine Met.ofW (cc := cX6_hits) (maxL := 3) (ret := (some .int)) (by decide) rfl ?_
  intro p e s m args below meth c s₁ B hml hv
  obtain ⟨rfl, hP, hK⟩ := hv
  have hx := B.exec
  have hb := B.bytes
  have hr := B.returns
  have hts := atoms_spec (ws := wsX6_hits) B.pre
  have hown : s.vm.findClass RX6 = some m.cls := findClass_of_methodNamed B.named
  have hlocks := B.notSynchronized
  have hS : va_S (Ad ad 146) s.heap s.heap [] := va_S.rf
  have hl := lv_entry ([.ref (ad 0), .int pe]) (n := 3) (Nat.le_of_ble_eq_true rfl)
  rw [lg_entry_eq]
  generalize (lg_sl ([.ref (ad 0), .int pe]) ++ List.replicate (3 - (lg_sl ([.ref (ad 0), .int pe])).length) Slot.unset).toArray = ls at hl ⊢
  have hl : lv_has ls 3 [(0, .ref (ad 0)), (1, .int pe)] := hl
  have inX6 : ∀ w ∈ u_ws RX6 TX6 1, w ∈ wsX6_hits := fun w h => List.mem_cons_of_mem _ (List.mem_append_left _ (List.mem_append_left _ (List.mem_append_right _ h)))
  have inX3 : ∀ w ∈ u_ws RX3 TX3 14, w ∈ wsX6_hits := fun w h => List.mem_cons_of_mem _ (List.mem_append_left _ (List.mem_append_right _ h))
  have inX5 : ∀ w ∈ u_ws RX5 TX5 4, w ∈ wsX6_hits := fun w h => List.mem_cons_of_mem _ (List.mem_append_left _ (List.mem_append_left _ (List.mem_append_left _ (List.mem_append_right _ h))))
  by_cases hpe : two pe
  · obtain ⟨q, hq, rfl⟩ := two_q hpe
    obtain ⟨k, r1, r2, a, nt, ek, er1, er2, haN, hI, hPe, hRw, hRw2⟩ := hC.get q hq
    obtain ⟨h0, ⟨g, hg1, hg2⟩, -, -, hs20, hs87⟩ := id hC
    have hgk : g q = some (ad k) := by rw [ek]; exact hg2 q hq
    have hPe0 := hPe
    obtain ⟨X, V, hh, wk, U, gO, gT, h1, hH, hR, h2, h3, hOw, h4, h5, hOt⟩ := hPe
    obtain ⟨I1, I2, I3, I4, I5, I6, ⟨tt, I7, I8⟩, I9, I10, I11, I12, I13⟩ := id hI
    obtain ⟨sg9, pk, r, hA, hr0, hrl, hsg, hinj, hpk⟩ := id hRw
    have hA1 := hA.1
    obtain ⟨s1, s2, s3⟩ := hH.2.2.2.2.2 (a % 16) (by omega)
    have hR1 := hR.1 a (by omega) (Nat.le_refl a)
    have hao := aOf_eq hq (by omega) I1
    have htq : tn (nI q) = q := tn_nI (by omega)
    refine lv_aload_n hx hb dX6_hits_0 rfl (lv_at hl 0 rfl) ?_
    refine lv_iload_n hx hb dX6_hits_1 rfl (lv_at hl 1 rfl) ?_
    refine k_Vq (As := [.int (nI q)]) (rest := []) (k := 0) (ci := 6) ⟨hx, hb, hml, hown, hts⟩ hK hP hS Ad_le (c6_find l D cs ad hJ M g q hq h0 hg1 k hgk) (cwV 1 hts gX6_hits_X6_find rfl rfl rfl (by decide +kernel) ⟨Nat.le_of_ble_eq_true rfl, Nat.le_of_ble_eq_true rfl⟩) (by omega) h0 rfl rfl rfl hl.1 (Nat.le_of_ble_eq_true rfl) dX6_hits_2 ⟨Nat.le_of_ble_eq_true rfl, Nat.le_of_ble_eq_true rfl⟩ (fun r_1 M1 H locs hpo hP hS _ _ => ?_)
    obtain ⟨hMe, rfl⟩ := hpo
    rw [hMe] at hP
    refine lv_astore_n (lv' := [(2, .ref (ad k)), (0, .ref (ad 0)), (1, .int (nI q))]) hx hb dX6_hits_5 rfl hl (by decide) rfl (fun ls hl => ?_)
    refine lv_aload_n hx hb dX6_hits_6 rfl (lv_at hl 0 rfl) ?_
    refine lv_ifnonnull (tgt := 14) hx hb dX6_hits_7 (by decide) ?_
    refine lv_aload_n hx hb dX6_hits_14 rfl (lv_at hl 0 rfl) ?_
    refine k_Vq (As := []) (rest := []) (k := k) (ci := 3) ⟨hx, hb, hml, hown, hts⟩ hK hP hS Ad_le (c_pstate l D cs ad 146 hJ M k r1 r2 q ww a (S.1 3 q) (S.1 5 q) (S.1 8 q) (S.1 7 q) (S.1 6 q) (S.2.1 9 q) (by omega) hq (by omega) h1 X V hh wk U hH) (cwV 0 hts gX6_hits_X3_state rfl rfl rfl (by decide +kernel) ⟨Nat.le_of_ble_eq_true rfl, Nat.le_of_ble_eq_true rfl⟩) (by omega) h1 rfl rfl rfl hl.1 (Nat.le_of_ble_eq_true rfl) dX6_hits_15 ⟨Nat.le_of_ble_eq_true rfl, Nat.le_of_ble_eq_true rfl⟩ (fun r_2 M1 H locs hpo hP hS _ _ => ?_)
    obtain ⟨hMe, rfl⟩ := hpo
    rw [hMe] at hP
    refine m_get hx hb hts inX5 hown hK hP (ci := 5) rfl (k := (k + 1 + 5 + 3 * (a % 16))) (by omega) s1 2 (by decide) (hts (.fieldLink RX6 131 "RollbackPair$State" "hitCount" "I") (by decide +kernel)) rfl dX6_hits_18 ?_
    exact r_i hx hb hr hlocks hK hP hS dX6_hits_21 ⟨rfl, by unfold rHi; rw [hao, htq, if_pos (two_in hq)]; exact hR1.2.2.2.2.1⟩
  · obtain ⟨h0, ⟨g, hg1, hg2⟩, -⟩ := id hC
    refine lv_aload_n hx hb dX6_hits_0 rfl (lv_at hl 0 rfl) ?_
    refine lv_iload_n hx hb dX6_hits_1 rfl (lv_at hl 1 rfl) ?_
    refine k_Vq (As := [.int pe]) (rest := []) (k := 0) (ci := 6) ⟨hx, hb, hml, hown, hts⟩ hK hP hS Ad_le (c6_find0 l D cs ad hJ M pe hpe) (cwV 1 hts gX6_hits_X6_find rfl rfl rfl (by decide +kernel) ⟨Nat.le_of_ble_eq_true rfl, Nat.le_of_ble_eq_true rfl⟩) (by omega) h0 rfl rfl rfl hl.1 (Nat.le_of_ble_eq_true rfl) dX6_hits_2 ⟨Nat.le_of_ble_eq_true rfl, Nat.le_of_ble_eq_true rfl⟩ (fun r_1 M1 H locs hpo hP hS _ _ => ?_)
    obtain ⟨hMe, rfl⟩ := hpo
    rw [hMe] at hP
    refine lv_astore_nN (lv' := [(2, .null), (0, .ref (ad 0)), (1, .int pe)]) hx hb dX6_hits_5 rfl hl (by decide) rfl (fun ls hl => ?_)
    refine lv_aload_nN hx hb dX6_hits_6 rfl (lv_at hl 0 rfl) ?_
    refine lv_ifnonnullN hx hb dX6_hits_7 ?_
    refine lv_iconst (v := (-1)) hx hb dX6_hits_10 (by decide) ?_
    refine lv_goto (tgt := 21) hx hb dX6_hits_11 (by decide) ?_
    exact r_i hx hb hr hlocks hK hP hS dX6_hits_21 ⟨rfl, by unfold rHi; rw [if_neg (fun z => hpe z)]⟩
set_option maxHeartbeats 4000000 in
set_option maxRecDepth 100000 in
/-- X6_work -/
theorem c6_work (l : Launch) (D : va_G) (cs : Nat → ClassId) (ad : Nat → Nat) (hJ : Inj ad 146) (M : Nat → va_E) (dd ww N : Nat) (S : SS) (hdd : dd ≤ 4) (hw1 : 1 ≤ ww) (hw2 : ww ≤ 8) (hN : N ≤ 550) (hC : CR dd ww N ad cs M S) (pe : Int32) : CTd l yX6_work wsX6_work ({ frames := 2, cells := 0, slots := 0, locals := 44 }) D cs ad 146 M [.ref (ad 0), .int pe] (fun r M2 => M2 = M ∧ r = rWo S pe) := by
  refine Met.ofW (cc := cX6_work) (maxL := 3) (ret := (some .double)) (by decide) rfl ?_
  intro p e s m args below meth c s₁ B hml hv
  obtain ⟨rfl, hP, hK⟩ := hv
  have hx := B.exec
  have hb := B.bytes
  have hr := B.returns
  have hts := atoms_spec (ws := wsX6_work) B.pre
  have hown : s.vm.findClass RX6 = some m.cls := findClass_of_methodNamed B.named
  have hlocks := B.notSynchronized
  have hS : va_S (Ad ad 146) s.heap s.heap [] := va_S.rf
  have hl := lv_entry ([.ref (ad 0), .int pe]) (n := 3) (Nat.le_of_ble_eq_true rfl)
  rw [lg_entry_eq]
  generalize (lg_sl ([.ref (ad 0), .int pe]) ++ List.replicate (3 - (lg_sl ([.ref (ad 0), .int pe])).length) Slot.unset).toArray = ls at hl ⊢
  have hl : lv_has ls 3 [(0, .ref (ad 0)), (1, .int pe)] := hl
  have inX6 : ∀ w ∈ u_ws RX6 TX6 1, w ∈ wsX6_work := fun w h => List.mem_cons_of_mem _ (List.mem_append_left _ (List.mem_append_left _ (List.mem_append_right _ h)))
  have inX3 : ∀ w ∈ u_ws RX3 TX3 14, w ∈ wsX6_work := fun w h => List.mem_cons_of_mem _ (List.mem_append_left _ (List.mem_append_right _ h))
  have inX5 : ∀ w ∈ u_ws RX5 TX5 4, w ∈ wsX6_work := fun w h => List.mem_cons_of_mem _ (List.mem_append_left _ (List.mem_append_left _ (List.mem_append_left _ (List.mem_append_right _ h))))
  by_cases hpe : two pe
  · obtain ⟨q, hq, rfl⟩ := two_q hpe
    obtain ⟨k, r1, r2, a, nt, ek, er1, er2, haN, hI, hPe, hRw, hRw2⟩ := hC.get q hq
    obtain ⟨h0, ⟨g, hg1, hg2⟩, -, -, hs20, hs87⟩ := id hC
    have hgk : g q = some (ad k) := by rw [ek]; exact hg2 q hq
    have hPe0 := hPe
    obtain ⟨X, V, hh, wk, U, gO, gT, h1, hH, hR, h2, h3, hOw, h4, h5, hOt⟩ := hPe
    obtain ⟨I1, I2, I3, I4, I5, I6, ⟨tt, I7, I8⟩, I9, I10, I11, I12, I13⟩ := id hI
    obtain ⟨sg9, pk, r, hA, hr0, hrl, hsg, hinj, hpk⟩ := id hRw
    have hA1 := hA.1
    obtain ⟨s1, s2, s3⟩ := hH.2.2.2.2.2 (a % 16) (by omega)
    have hR1 := hR.1 a (by omega) (Nat.le_refl a)
    have hao := aOf_eq hq (by omega) I1
    have htq : tn (nI q) = q := tn_nI (by omega)
    refine lv_aload_n hx hb dX6_work_0 rfl (lv_at hl 0 rfl) ?_
    refine lv_iload_n hx hb dX6_work_1 rfl (lv_at hl 1 rfl) ?_
    refine k_Vq (As := [.int (nI q)]) (rest := []) (k := 0) (ci := 6) ⟨hx, hb, hml, hown, hts⟩ hK hP hS Ad_le (c6_find l D cs ad hJ M g q hq h0 hg1 k hgk) (cwV 1 hts gX6_work_X6_find rfl rfl rfl (by decide +kernel) ⟨Nat.le_of_ble_eq_true rfl, Nat.le_of_ble_eq_true rfl⟩) (by omega) h0 rfl rfl rfl hl.1 (Nat.le_of_ble_eq_true rfl) dX6_work_2 ⟨Nat.le_of_ble_eq_true rfl, Nat.le_of_ble_eq_true rfl⟩ (fun r_1 M1 H locs hpo hP hS _ _ => ?_)
    obtain ⟨hMe, rfl⟩ := hpo
    rw [hMe] at hP
    refine lv_astore_n (lv' := [(2, .ref (ad k)), (0, .ref (ad 0)), (1, .int (nI q))]) hx hb dX6_work_5 rfl hl (by decide) rfl (fun ls hl => ?_)
    refine lv_aload_n hx hb dX6_work_6 rfl (lv_at hl 0 rfl) ?_
    refine lv_ifnonnull (tgt := 16) hx hb dX6_work_7 (by decide) ?_
    refine lv_aload_n hx hb dX6_work_16 rfl (lv_at hl 0 rfl) ?_
    refine k_Vq (As := []) (rest := []) (k := k) (ci := 3) ⟨hx, hb, hml, hown, hts⟩ hK hP hS Ad_le (c_pstate l D cs ad 146 hJ M k r1 r2 q ww a (S.1 3 q) (S.1 5 q) (S.1 8 q) (S.1 7 q) (S.1 6 q) (S.2.1 9 q) (by omega) hq (by omega) h1 X V hh wk U hH) (cwV 0 hts gX6_work_X3_state rfl rfl rfl (by decide +kernel) ⟨Nat.le_of_ble_eq_true rfl, Nat.le_of_ble_eq_true rfl⟩) (by omega) h1 rfl rfl rfl hl.1 (Nat.le_of_ble_eq_true rfl) dX6_work_17 ⟨Nat.le_of_ble_eq_true rfl, Nat.le_of_ble_eq_true rfl⟩ (fun r_2 M1 H locs hpo hP hS _ _ => ?_)
    obtain ⟨hMe, rfl⟩ := hpo
    rw [hMe] at hP
    refine m_get hx hb hts inX5 hown hK hP (ci := 5) rfl (k := (k + 1 + 5 + 3 * (a % 16))) (by omega) s1 3 (by decide) (hts (.fieldLink RX6 136 "RollbackPair$State" "workDone" "D") (by decide +kernel)) rfl dX6_work_20 ?_
    exact r_d hx hb hr hlocks hK hP hS dX6_work_23 ⟨rfl, by unfold rWo; rw [hao, htq, if_pos (two_in hq)]; exact hR1.2.2.2.2.2⟩
  · obtain ⟨h0, ⟨g, hg1, hg2⟩, -⟩ := id hC
    refine lv_aload_n hx hb dX6_work_0 rfl (lv_at hl 0 rfl) ?_
    refine lv_iload_n hx hb dX6_work_1 rfl (lv_at hl 1 rfl) ?_
    refine k_Vq (As := [.int pe]) (rest := []) (k := 0) (ci := 6) ⟨hx, hb, hml, hown, hts⟩ hK hP hS Ad_le (c6_find0 l D cs ad hJ M pe hpe) (cwV 1 hts gX6_work_X6_find rfl rfl rfl (by decide +kernel) ⟨Nat.le_of_ble_eq_true rfl, Nat.le_of_ble_eq_true rfl⟩) (by omega) h0 rfl rfl rfl hl.1 (Nat.le_of_ble_eq_true rfl) dX6_work_2 ⟨Nat.le_of_ble_eq_true rfl, Nat.le_of_ble_eq_true rfl⟩ (fun r_1 M1 H locs hpo hP hS _ _ => ?_)
    obtain ⟨hMe, rfl⟩ := hpo
    rw [hMe] at hP
    refine lv_astore_nN (lv' := [(2, .null), (0, .ref (ad 0)), (1, .int pe)]) hx hb dX6_work_5 rfl hl (by decide) rfl (fun ls hl => ?_)
    refine lv_aload_nN hx hb dX6_work_6 rfl (lv_at hl 0 rfl) ?_
    refine lv_ifnonnullN hx hb dX6_work_7 ?_
    refine lv_ldc2d hx hb hown (hts (.constantDouble RX6 134 (13830554455654793216)) (by decide +kernel)) dX6_work_10 ?_
    refine lv_goto (tgt := 23) hx hb dX6_work_13 (by decide) ?_
    exact r_d hx hb hr hlocks hK hP hS dX6_work_23 ⟨rfl, by unfold rWo; rw [if_neg (fun z => hpe z)]⟩
set_option maxHeartbeats 4000000 in
set_option maxRecDepth 100000 in
/-- X6_advice -/
theorem c6_advice (l : Launch) (D : va_G) (cs : Nat → ClassId) (ad : Nat → Nat) (hJ : Inj ad 146) (M : Nat → va_E) (dd ww N : Nat) (S : SS) (hdd : dd ≤ 4) (hw1 : 1 ≤ ww) (hw2 : ww ≤ 8) (hN : N ≤ 550) (hC : CR dd ww N ad cs M S) (pe : Int32) : CTf l yX6_advice wsX6_advice ({ frames := 2, cells := 0, slots := 0, locals := 44 }) D cs ad 146 M [.ref (ad 0), .int pe] (fun r M2 => M2 = M ∧ r = rAv S pe) := by
  refine Met.ofW (cc := cX6_advice) (maxL := 3) (ret := (some .float)) (by decide) rfl ?_
  intro p e s m args below meth c s₁ B hml hv
  obtain ⟨rfl, hP, hK⟩ := hv
  have hx := B.exec
  have hb := B.bytes
  have hr := B.returns
  have hts := atoms_spec (ws := wsX6_advice) B.pre
  have hown : s.vm.findClass RX6 = some m.cls := findClass_of_methodNamed B.named
  have hlocks := B.notSynchronized
  have hS : va_S (Ad ad 146) s.heap s.heap [] := va_S.rf
  have hl := lv_entry ([.ref (ad 0), .int pe]) (n := 3) (Nat.le_of_ble_eq_true rfl)
  rw [lg_entry_eq]
  generalize (lg_sl ([.ref (ad 0), .int pe]) ++ List.replicate (3 - (lg_sl ([.ref (ad 0), .int pe])).length) Slot.unset).toArray = ls at hl ⊢
  have hl : lv_has ls 3 [(0, .ref (ad 0)), (1, .int pe)] := hl
  have inX6 : ∀ w ∈ u_ws RX6 TX6 1, w ∈ wsX6_advice := fun w h => List.mem_cons_of_mem _ (List.mem_append_right _ h)
  have inX3 : ∀ w ∈ u_ws RX3 TX3 14, w ∈ wsX6_advice := fun w h => List.mem_cons_of_mem _ (List.mem_append_left _ (List.mem_append_right _ h))
  by_cases hpe : two pe
  · obtain ⟨q, hq, rfl⟩ := two_q hpe
    obtain ⟨k, r1, r2, a, nt, ek, er1, er2, haN, hI, hPe, hRw, hRw2⟩ := hC.get q hq
    obtain ⟨h0, ⟨g, hg1, hg2⟩, -, -, hs20, hs87⟩ := id hC
    have hgk : g q = some (ad k) := by rw [ek]; exact hg2 q hq
    have hPe0 := hPe
    obtain ⟨X, V, hh, wk, U, gO, gT, h1, hH, hR, h2, h3, hOw, h4, h5, hOt⟩ := hPe
    obtain ⟨I1, I2, I3, I4, I5, I6, ⟨tt, I7, I8⟩, I9, I10, I11, I12, I13⟩ := id hI
    obtain ⟨sg9, pk, r, hA, hr0, hrl, hsg, hinj, hpk⟩ := id hRw
    have hA1 := hA.1
    obtain ⟨s1, s2, s3⟩ := hH.2.2.2.2.2 (a % 16) (by omega)
    have hR1 := hR.1 a (by omega) (Nat.le_refl a)
    have hao := aOf_eq hq (by omega) I1
    have htq : tn (nI q) = q := tn_nI (by omega)
    refine lv_aload_n hx hb dX6_advice_0 rfl (lv_at hl 0 rfl) ?_
    refine lv_iload_n hx hb dX6_advice_1 rfl (lv_at hl 1 rfl) ?_
    refine k_Vq (As := [.int (nI q)]) (rest := []) (k := 0) (ci := 6) ⟨hx, hb, hml, hown, hts⟩ hK hP hS Ad_le (c6_find l D cs ad hJ M g q hq h0 hg1 k hgk) (cwV 1 hts gX6_advice_X6_find rfl rfl rfl (by decide +kernel) ⟨Nat.le_of_ble_eq_true rfl, Nat.le_of_ble_eq_true rfl⟩) (by omega) h0 rfl rfl rfl hl.1 (Nat.le_of_ble_eq_true rfl) dX6_advice_2 ⟨Nat.le_of_ble_eq_true rfl, Nat.le_of_ble_eq_true rfl⟩ (fun r_1 M1 H locs hpo hP hS _ _ => ?_)
    obtain ⟨hMe, rfl⟩ := hpo
    rw [hMe] at hP
    refine lv_astore_n (lv' := [(2, .ref (ad k)), (0, .ref (ad 0)), (1, .int (nI q))]) hx hb dX6_advice_5 rfl hl (by decide) rfl (fun ls hl => ?_)
    refine lv_aload_n hx hb dX6_advice_6 rfl (lv_at hl 0 rfl) ?_
    refine lv_ifnonnull (tgt := 14) hx hb dX6_advice_7 (by decide) ?_
    refine lv_aload_n hx hb dX6_advice_14 rfl (lv_at hl 0 rfl) ?_
    refine m_get hx hb hts inX3 hown hK hP (ci := 3) rfl (k := k) (by omega) h1 13 (by decide) (hts (.fieldLink RX6 140 "RollbackPair$Peer" "lead" "F") (by decide +kernel)) rfl dX6_advice_15 ?_
    exact r_f hx hb hr hlocks hK hP hS dX6_advice_18 ⟨rfl, by unfold rAv; rw [htq, if_pos (two_in hq)]⟩
  · obtain ⟨h0, ⟨g, hg1, hg2⟩, -⟩ := id hC
    refine lv_aload_n hx hb dX6_advice_0 rfl (lv_at hl 0 rfl) ?_
    refine lv_iload_n hx hb dX6_advice_1 rfl (lv_at hl 1 rfl) ?_
    refine k_Vq (As := [.int pe]) (rest := []) (k := 0) (ci := 6) ⟨hx, hb, hml, hown, hts⟩ hK hP hS Ad_le (c6_find0 l D cs ad hJ M pe hpe) (cwV 1 hts gX6_advice_X6_find rfl rfl rfl (by decide +kernel) ⟨Nat.le_of_ble_eq_true rfl, Nat.le_of_ble_eq_true rfl⟩) (by omega) h0 rfl rfl rfl hl.1 (Nat.le_of_ble_eq_true rfl) dX6_advice_2 ⟨Nat.le_of_ble_eq_true rfl, Nat.le_of_ble_eq_true rfl⟩ (fun r_1 M1 H locs hpo hP hS _ _ => ?_)
    obtain ⟨hMe, rfl⟩ := hpo
    rw [hMe] at hP
    refine lv_astore_nN (lv' := [(2, .null), (0, .ref (ad 0)), (1, .int pe)]) hx hb dX6_advice_5 rfl hl (by decide) rfl (fun ls hl => ?_)
    refine lv_aload_nN hx hb dX6_advice_6 rfl (lv_at hl 0 rfl) ?_
    refine lv_ifnonnullN hx hb dX6_advice_7 ?_
    refine lv_fconst0 hx hb dX6_advice_10 ?_
    refine lv_goto (tgt := 18) hx hb dX6_advice_11 (by decide) ?_
    exact r_f hx hb hr hlocks hK hP hS dX6_advice_18 ⟨rfl, by unfold rAv; rw [if_neg (fun z => hpe z)]⟩
