/-! rows of packets -/
abbrev PK : Type := Int32 × Int32 × Int32 × Int32 × Int32 × Int64 × Int32
abbrev oT (x : PK) : va_E := oPk x.1 x.2.1 x.2.2.1 x.2.2.2.1 x.2.2.2.2.1 x.2.2.2.2.2.1 x.2.2.2.2.2.2
abbrev oRw (ad : Nat → Nat) (k sz : Nat) : va_E := .inr (4, [.ref (ad (k + 1)), .int (nI sz)])
/-- a Row in the place k: its slots, and twelve packets behind them -/
def RwA (ad : Nat → Nat) (cs : Nat → ClassId) (k : Nat) (M : Nat → va_E) (sg9 : Nat → Nat) (sz : Nat) (pk : Nat → PK) : Prop :=
  M k = oRw ad k sz ∧ (∃ g, M (k + 1) = eQ cs 7 12 g ∧ ∀ i, i < 12 → g i = some (ad (k + 2 + sg9 i))) ∧ ∀ i, i < 12 → M (k + 2 + i) = oT (pk i)
/-- the first of sz places goes to the end -/
def rot (sg9 : Nat → Nat) (sz : Nat) : Nat → Nat := fun i => if i + 1 < sz then sg9 (i + 1) else if i + 1 = sz then sg9 0 else sg9 i
theorem RwA.kept {ad : Nat → Nat} {cs : Nat → ClassId} {k : Nat} {M M2 : Nat → va_E} {sg9 : Nat → Nat} {sz : Nat} {pk : Nat → PK} (h : RwA ad cs k M sg9 sz pk) (hf : ∀ j, k ≤ j → j < k + 14 → M2 j = M j) : RwA ad cs k M2 sg9 sz pk := by
  obtain ⟨h1, ⟨g, h2, h3⟩, h4⟩ := h
  exact ⟨(hf _ (by omega) (by omega)).trans h1, ⟨g, (hf _ (by omega) (by omega)).trans h2, h3⟩, fun i hi => (hf _ (by omega) (by omega)).trans (h4 i hi)⟩
set_option maxHeartbeats 4000000 in
set_option maxRecDepth 100000 in
/-- Row.first(), none -/
theorem c_first0 (l : Launch) (D : va_G) (cs : Nat → ClassId) (ad : Nat → Nat) (n : Nat) (hJ : Inj ad n) (M : Nat → va_E) (k : Nat) (sg9 : Nat → Nat) (sz : Nat) (pk : Nat → PK) (hk : k + 14 ≤ n) (hsg : ∀ i, i < 12 → sg9 i < 12) (hR : RwA ad cs k M sg9 sz pk) (hz : sz = 0) : CTq l yX4_first wsX4_first ({ frames := 0, cells := 0, slots := 0, locals := 0 }) D cs ad n M [.ref (ad k)] (fun r M2 => M2 = M ∧ r = none) := by
  refine Met.ofW (cc := cX4_first) (maxL := 1) (ret := (some (.object "RollbackPair$Packet"))) (by decide) rfl ?_
  intro p e s m args below meth c s₁ B hml hv
  obtain ⟨rfl, hP, hK⟩ := hv
  have hx := B.exec
  have hb := B.bytes
  have hr := B.returns
  have hts := atoms_spec (ws := wsX4_first) B.pre
  have hown : s.vm.findClass RX4 = some m.cls := findClass_of_methodNamed B.named
  have hlocks := B.notSynchronized
  have hS : va_S (Ad ad n) s.heap s.heap [] := va_S.rf
  have hl := lv_entry ([.ref (ad k)]) (n := 1) (Nat.le_of_ble_eq_true rfl)
  rw [lg_entry_eq]
  generalize (lg_sl ([.ref (ad k)]) ++ List.replicate (1 - (lg_sl ([.ref (ad k)])).length) Slot.unset).toArray = ls at hl ⊢
  have hl : lv_has ls 1 [(0, .ref (ad k))] := hl
  have inX4 : ∀ w ∈ u_ws RX4 TX4 2, w ∈ wsX4_first := fun w h => List.mem_cons_of_mem _ (List.mem_append_right _ h)
  obtain ⟨h1, ⟨g, h2, hg⟩, h3⟩ := id hR
  refine lv_aload_n hx hb dX4_first_0 rfl (lv_at hl 0 rfl) ?_
  refine m_get hx hb hts inX4 hown hK hP (ci := 4) rfl (k := k) (by omega) h1 1 (by decide) (hts (.fieldLink RX4 16 "RollbackPair$Row" "size" "I") (by decide +kernel)) rfl dX4_first_1 ?_
  refine n_if_ne (tgt := 11) hx hb dX4_first_4 (by decide) (by omega) (fun c1 => absurd c1 (by omega)) (fun c1 => ?_)
  refine lv_null hx hb dX4_first_7 ?_
  refine lv_goto (tgt := 17) hx hb dX4_first_8 (by decide) ?_
  exact r_q hx hb hr hlocks hK hP hS dX4_first_17 (v := none) ⟨rfl, rfl⟩
set_option maxHeartbeats 4000000 in
set_option maxRecDepth 100000 in
/-- Row.first() -/
theorem c_first1 (l : Launch) (D : va_G) (cs : Nat → ClassId) (ad : Nat → Nat) (n : Nat) (hJ : Inj ad n) (M : Nat → va_E) (k : Nat) (sg9 : Nat → Nat) (sz : Nat) (pk : Nat → PK) (hk : k + 14 ≤ n) (hsg : ∀ i, i < 12 → sg9 i < 12) (hR : RwA ad cs k M sg9 sz pk) (hz : 0 < sz) (hz2 : sz ≤ 12) : CTq l yX4_first wsX4_first ({ frames := 0, cells := 0, slots := 0, locals := 0 }) D cs ad n M [.ref (ad k)] (fun r M2 => M2 = M ∧ r = some (ad (k + 2 + sg9 0))) := by
  refine Met.ofW (cc := cX4_first) (maxL := 1) (ret := (some (.object "RollbackPair$Packet"))) (by decide) rfl ?_
  intro p e s m args below meth c s₁ B hml hv
  obtain ⟨rfl, hP, hK⟩ := hv
  have hx := B.exec
  have hb := B.bytes
  have hr := B.returns
  have hts := atoms_spec (ws := wsX4_first) B.pre
  have hown : s.vm.findClass RX4 = some m.cls := findClass_of_methodNamed B.named
  have hlocks := B.notSynchronized
  have hS : va_S (Ad ad n) s.heap s.heap [] := va_S.rf
  have hl := lv_entry ([.ref (ad k)]) (n := 1) (Nat.le_of_ble_eq_true rfl)
  rw [lg_entry_eq]
  generalize (lg_sl ([.ref (ad k)]) ++ List.replicate (1 - (lg_sl ([.ref (ad k)])).length) Slot.unset).toArray = ls at hl ⊢
  have hl : lv_has ls 1 [(0, .ref (ad k))] := hl
  have inX4 : ∀ w ∈ u_ws RX4 TX4 2, w ∈ wsX4_first := fun w h => List.mem_cons_of_mem _ (List.mem_append_right _ h)
  obtain ⟨h1, ⟨g, h2, hg⟩, h3⟩ := id hR
  refine lv_aload_n hx hb dX4_first_0 rfl (lv_at hl 0 rfl) ?_
  refine m_get hx hb hts inX4 hown hK hP (ci := 4) rfl (k := k) (by omega) h1 1 (by decide) (hts (.fieldLink RX4 16 "RollbackPair$Row" "size" "I") (by decide +kernel)) rfl dX4_first_1 ?_
  refine n_if_ne (tgt := 11) hx hb dX4_first_4 (by decide) (by omega) (fun c1 => ?_) (fun c1 => absurd c1 (by omega))
  refine lv_aload_n hx hb dX4_first_11 rfl (lv_at hl 0 rfl) ?_
  refine m_get hx hb hts inX4 hown hK hP (ci := 4) rfl (k := k) (by omega) h1 0 (by decide) (hts (.fieldLink RX4 11 "RollbackPair$Row" "slots" "[LRollbackPair$Packet;") (by decide +kernel)) rfl dX4_first_12 ?_
  refine lv_iconst (v := nI 0) hx hb dX4_first_15 (by decide) ?_
  refine m_aald hx hb hK hP 7 rfl (k := (k + 1)) (by omega) h2 (i := 0) (by decide) (by decide) (r := some (ad (k + 2 + sg9 0))) (hg 0 (by decide)) dX4_first_16 ?_
  exact r_q hx hb hr hlocks hK hP hS dX4_first_17 (v := some (ad (k + 2 + sg9 0))) ⟨rfl, rfl⟩
set_option maxHeartbeats 4000000 in
set_option maxRecDepth 100000 in
/-- Row.addLast(), full -/
theorem c_addLast_no (l : Launch) (D : va_G) (cs : Nat → ClassId) (ad : Nat → Nat) (n : Nat) (hJ : Inj ad n) (M : Nat → va_E) (k : Nat) (sg9 : Nat → Nat) (sz : Nat) (pk : Nat → PK) (hk : k + 14 ≤ n) (hsg : ∀ i, i < 12 → sg9 i < 12) (hR : RwA ad cs k M sg9 sz pk) (hz : sz = 12) : CTq l yX4_addLast wsX4_addLast ({ frames := 0, cells := 0, slots := 0, locals := 0 }) D cs ad n M [.ref (ad k)] (fun r M2 => M2 = M ∧ r = none) := by
  refine Met.ofW (cc := cX4_addLast) (maxL := 1) (ret := (some (.object "RollbackPair$Packet"))) (by decide) rfl ?_
  intro p e s m args below meth c s₁ B hml hv
  obtain ⟨rfl, hP, hK⟩ := hv
  have hx := B.exec
  have hb := B.bytes
  have hr := B.returns
  have hts := atoms_spec (ws := wsX4_addLast) B.pre
  have hown : s.vm.findClass RX4 = some m.cls := findClass_of_methodNamed B.named
  have hlocks := B.notSynchronized
  have hS : va_S (Ad ad n) s.heap s.heap [] := va_S.rf
  have hl := lv_entry ([.ref (ad k)]) (n := 1) (Nat.le_of_ble_eq_true rfl)
  rw [lg_entry_eq]
  generalize (lg_sl ([.ref (ad k)]) ++ List.replicate (1 - (lg_sl ([.ref (ad k)])).length) Slot.unset).toArray = ls at hl ⊢
  have hl : lv_has ls 1 [(0, .ref (ad k))] := hl
  have inX4 : ∀ w ∈ u_ws RX4 TX4 2, w ∈ wsX4_addLast := fun w h => List.mem_cons_of_mem _ (List.mem_append_right _ h)
  obtain ⟨h1, ⟨g, h2, hg⟩, h3⟩ := id hR
  refine lv_aload_n hx hb dX4_addLast_0 rfl (lv_at hl 0 rfl) ?_
  refine m_get hx hb hts inX4 hown hK hP (ci := 4) rfl (k := k) (by omega) h1 1 (by decide) (hts (.fieldLink RX4 16 "RollbackPair$Row" "size" "I") (by decide +kernel)) rfl dX4_addLast_1 ?_
  refine lv_bipush (v := nI 12) hx hb dX4_addLast_4 (by decide) ?_
  refine n_cmp_ne (tgt := 11) hx hb dX4_addLast_6 (by decide) (by omega) (by omega) (fun c1 => absurd c1 (by omega)) (fun c1 => ?_)
  refine lv_null hx hb dX4_addLast_9 ?_
  exact r_q hx hb hr hlocks hK hP hS dX4_addLast_10 (v := none) ⟨rfl, rfl⟩
set_option maxHeartbeats 4000000 in
set_option maxRecDepth 100000 in
/-- Row.addLast() -/
theorem c_addLast (l : Launch) (D : va_G) (cs : Nat → ClassId) (ad : Nat → Nat) (n : Nat) (hJ : Inj ad n) (M : Nat → va_E) (k : Nat) (sg9 : Nat → Nat) (sz : Nat) (pk : Nat → PK) (hk : k + 14 ≤ n) (hsg : ∀ i, i < 12 → sg9 i < 12) (hR : RwA ad cs k M sg9 sz pk) (hz : sz < 12) : CTq l yX4_addLast wsX4_addLast ({ frames := 0, cells := 0, slots := 0, locals := 0 }) D cs ad n M [.ref (ad k)] (fun r M2 => r = some (ad (k + 2 + sg9 sz)) ∧ M2 k = oRw ad k (sz + 1) ∧ ∀ i, i ≠ k → M2 i = M i) := by
  refine Met.ofW (cc := cX4_addLast) (maxL := 1) (ret := (some (.object "RollbackPair$Packet"))) (by decide) rfl ?_
  intro p e s m args below meth c s₁ B hml hv
  obtain ⟨rfl, hP, hK⟩ := hv
  have hx := B.exec
  have hb := B.bytes
  have hr := B.returns
  have hts := atoms_spec (ws := wsX4_addLast) B.pre
  have hown : s.vm.findClass RX4 = some m.cls := findClass_of_methodNamed B.named
  have hlocks := B.notSynchronized
  have hS : va_S (Ad ad n) s.heap s.heap [] := va_S.rf
  have hl := lv_entry ([.ref (ad k)]) (n := 1) (Nat.le_of_ble_eq_true rfl)
  rw [lg_entry_eq]
  generalize (lg_sl ([.ref (ad k)]) ++ List.replicate (1 - (lg_sl ([.ref (ad k)])).length) Slot.unset).toArray = ls at hl ⊢
  have hl : lv_has ls 1 [(0, .ref (ad k))] := hl
  have inX4 : ∀ w ∈ u_ws RX4 TX4 2, w ∈ wsX4_addLast := fun w h => List.mem_cons_of_mem _ (List.mem_append_right _ h)
  obtain ⟨h1, ⟨g, h2, hg⟩, h3⟩ := id hR
  refine lv_aload_n hx hb dX4_addLast_0 rfl (lv_at hl 0 rfl) ?_
  refine m_get hx hb hts inX4 hown hK hP (ci := 4) rfl (k := k) (by omega) h1 1 (by decide) (hts (.fieldLink RX4 16 "RollbackPair$Row" "size" "I") (by decide +kernel)) rfl dX4_addLast_1 ?_
  refine lv_bipush (v := nI 12) hx hb dX4_addLast_4 (by decide) ?_
  refine n_cmp_ne (tgt := 11) hx hb dX4_addLast_6 (by decide) (by omega) (by omega) (fun c1 => ?_) (fun c1 => absurd c1 (by omega))
  refine lv_aload_n hx hb dX4_addLast_11 rfl (lv_at hl 0 rfl) ?_
  refine lv_dup hx hb dX4_addLast_12 rfl ?_
  refine m_get hx hb hts inX4 hown hK hP (ci := 4) rfl (k := k) (by omega) h1 1 (by decide) (hts (.fieldLink RX4 16 "RollbackPair$Row" "size" "I") (by decide +kernel)) rfl dX4_addLast_13 ?_
  refine lv_iconst (v := nI 1) hx hb dX4_addLast_16 (by decide) ?_
  refine n_add hx hb dX4_addLast_17 ?_
  refine m_put hx hb hts inX4 tyX4 tyX4_ok nmX4 hown hK hP hJ hS (ci := 4) rfl (k := k) (by omega) h1 1 (by decide) (hts (.fieldLink RX4 16 "RollbackPair$Row" "size" "I") (by decide +kernel)) rfl rfl rfl (Nat.le_of_ble_eq_true rfl) (fs' := [.ref (ad (k + 1)), .int (nI (sz + 1))]) rfl dX4_addLast_18 (fun H locs hP hS => ?_)
  obtain ⟨M_1, eM_1⟩ : ∃ z, z = va_up M k (.inr (4, [.ref (ad (k + 1)), .int (nI (sz + 1))])) := ⟨_, rfl⟩
  rw [← eM_1] at hP
  have h1_1 : M_1 k = .inr (4, [.ref (ad (k + 1)), .int (nI (sz + 1))]) := by rw [eM_1]; exact va_up_self _ _ _
  have h1_2 : M_1 (k + 1) = eQ cs 7 12 g := by rw [eM_1]; exact (va_up_ne _ _ (by omega)).trans h2
  refine lv_aload_n hx hb dX4_addLast_21 rfl (lv_at hl 0 rfl) ?_
  refine m_get hx hb hts inX4 hown hK hP (ci := 4) rfl (k := k) (by omega) h1_1 0 (by decide) (hts (.fieldLink RX4 11 "RollbackPair$Row" "slots" "[LRollbackPair$Packet;") (by decide +kernel)) rfl dX4_addLast_22 ?_
  refine lv_aload_n hx hb dX4_addLast_25 rfl (lv_at hl 0 rfl) ?_
  refine m_get hx hb hts inX4 hown hK hP (ci := 4) rfl (k := k) (by omega) h1_1 1 (by decide) (hts (.fieldLink RX4 16 "RollbackPair$Row" "size" "I") (by decide +kernel)) rfl dX4_addLast_26 ?_
  refine lv_iconst (v := nI 1) hx hb dX4_addLast_29 (by decide) ?_
  refine n_sub hx hb (by omega) dX4_addLast_30 ?_
  refine m_aald hx hb hK hP 7 rfl (k := (k + 1)) (by omega) h1_2 (i := sz + 1 - 1) (by omega) (by decide) (r := some (ad (k + 2 + sg9 sz))) (hg sz hz) dX4_addLast_31 ?_
  exact r_q hx hb hr hlocks hK hP hS dX4_addLast_32 (v := some (ad (k + 2 + sg9 sz))) ⟨rfl, h1_1, fun i hi => by rw [eM_1, va_up_ne _ _ hi]⟩
set_option maxHeartbeats 4000000 in
set_option maxRecDepth 100000 in
/-- Row.sendFirstToEnd(), none -/
theorem c_sfe0 (l : Launch) (D : va_G) (cs : Nat → ClassId) (ad : Nat → Nat) (n : Nat) (hJ : Inj ad n) (M : Nat → va_E) (k : Nat) (sg9 : Nat → Nat) (sz : Nat) (pk : Nat → PK) (hk : k + 14 ≤ n) (hsg : ∀ i, i < 12 → sg9 i < 12) (hR : RwA ad cs k M sg9 sz pk) (hz : sz = 0) : CTi l yX4_sendFirstToEnd wsX4_sendFirstToEnd ({ frames := 1, cells := 0, slots := 0, locals := 20 }) D cs ad n M [.ref (ad k)] (fun r M2 => M2 = M ∧ r = nI 0) := by
  refine Met.ofW (cc := cX4_sendFirstToEnd) (maxL := 3) (ret := (some .boolean)) (by decide) rfl ?_
  intro p e s m args below meth c s₁ B hml hv
  obtain ⟨rfl, hP, hK⟩ := hv
  have hx := B.exec
  have hb := B.bytes
  have hr := B.returns
  have hts := atoms_spec (ws := wsX4_sendFirstToEnd) B.pre
  have hown : s.vm.findClass RX4 = some m.cls := findClass_of_methodNamed B.named
  have hlocks := B.notSynchronized
  have hS : va_S (Ad ad n) s.heap s.heap [] := va_S.rf
  have hl := lv_entry ([.ref (ad k)]) (n := 3) (Nat.le_of_ble_eq_true rfl)
  rw [lg_entry_eq]
  generalize (lg_sl ([.ref (ad k)]) ++ List.replicate (3 - (lg_sl ([.ref (ad k)])).length) Slot.unset).toArray = ls at hl ⊢
  have hl : lv_has ls 3 [(0, .ref (ad k))] := hl
  have inX4 : ∀ w ∈ u_ws RX4 TX4 2, w ∈ wsX4_sendFirstToEnd := fun w h => List.mem_cons_of_mem _ (List.mem_append_right _ h)
  obtain ⟨h1, ⟨g, h2, hg⟩, h3⟩ := id hR
  refine lv_aload_n hx hb dX4_sendFirstToEnd_0 rfl (lv_at hl 0 rfl) ?_
  refine k_Vq (As := []) (rest := []) (k := k) (ci := 4) ⟨hx, hb, hml, hown, hts⟩ hK hP hS Ad_le (c_first0 l D cs ad n hJ M k sg9 sz pk hk hsg hR hz) (cwV 0 hts gX4_sendFirstToEnd_X4_first rfl rfl rfl (by decide +kernel) ⟨Nat.le_of_ble_eq_true rfl, Nat.le_of_ble_eq_true rfl⟩) (by omega) h1 rfl rfl rfl hl.1 (Nat.le_of_ble_eq_true rfl) dX4_sendFirstToEnd_1 ⟨Nat.le_of_ble_eq_true rfl, Nat.le_of_ble_eq_true rfl⟩ (fun r_1 M1 H locs hpo hP hS _ _ => ?_)
  obtain ⟨hMe, rfl⟩ := hpo
  rw [hMe] at hP
  refine lv_astore_nN (lv' := [(1, .null), (0, .ref (ad k))]) hx hb dX4_sendFirstToEnd_4 rfl hl (by decide) rfl (fun ls hl => ?_)
  refine lv_aload_nN hx hb dX4_sendFirstToEnd_5 rfl (lv_at hl 0 rfl) ?_
  refine lv_ifnonnullN hx hb dX4_sendFirstToEnd_6 ?_
  refine lv_iconst (v := nI 0) hx hb dX4_sendFirstToEnd_9 (by decide) ?_
  exact r_z hx hb hr hlocks hK hP hS dX4_sendFirstToEnd_10 (by first | rfl | decide) ⟨rfl, rfl⟩
set_option maxHeartbeats 4000000 in
set_option maxRecDepth 100000 in
/-- Row.sendFirstToEnd() -/
theorem c_sfe (l : Launch) (D : va_G) (cs : Nat → ClassId) (ad : Nat → Nat) (n : Nat) (hJ : Inj ad n) (M : Nat → va_E) (k : Nat) (sg9 : Nat → Nat) (sz : Nat) (pk : Nat → PK) (hk : k + 14 ≤ n) (hsg : ∀ i, i < 12 → sg9 i < 12) (hR : RwA ad cs k M sg9 sz pk) (hz : 0 < sz) (hz2 : sz ≤ 12) : CTi l yX4_sendFirstToEnd wsX4_sendFirstToEnd ({ frames := 1, cells := 0, slots := 0, locals := 20 }) D cs ad n M [.ref (ad k)] (fun r M2 => r = nI 1 ∧ (∃ g2, M2 (k + 1) = eQ cs 7 12 g2 ∧ ∀ i, i < 12 → g2 i = some (ad (k + 2 + rot sg9 sz i))) ∧ ∀ i, i ≠ k + 1 → M2 i = M i) := by
  refine Met.ofW (cc := cX4_sendFirstToEnd) (maxL := 3) (ret := (some .boolean)) (by decide) rfl ?_
  intro p e s m args below meth c s₁ B hml hv
  obtain ⟨rfl, hP, hK⟩ := hv
  have hx := B.exec
  have hb := B.bytes
  have hr := B.returns
  have hts := atoms_spec (ws := wsX4_sendFirstToEnd) B.pre
  have hown : s.vm.findClass RX4 = some m.cls := findClass_of_methodNamed B.named
  have hlocks := B.notSynchronized
  have hS : va_S (Ad ad n) s.heap s.heap [] := va_S.rf
  have hl := lv_entry ([.ref (ad k)]) (n := 3) (Nat.le_of_ble_eq_true rfl)
  rw [lg_entry_eq]
  generalize (lg_sl ([.ref (ad k)]) ++ List.replicate (3 - (lg_sl ([.ref (ad k)])).length) Slot.unset).toArray = ls at hl ⊢
  have hl : lv_has ls 3 [(0, .ref (ad k))] := hl
  have inX4 : ∀ w ∈ u_ws RX4 TX4 2, w ∈ wsX4_sendFirstToEnd := fun w h => List.mem_cons_of_mem _ (List.mem_append_right _ h)
  obtain ⟨h1, ⟨g, h2, hg⟩, h3⟩ := id hR
  refine lv_aload_n hx hb dX4_sendFirstToEnd_0 rfl (lv_at hl 0 rfl) ?_
  refine k_Vq (As := []) (rest := []) (k := k) (ci := 4) ⟨hx, hb, hml, hown, hts⟩ hK hP hS Ad_le (c_first1 l D cs ad n hJ M k sg9 sz pk hk hsg hR hz hz2) (cwV 0 hts gX4_sendFirstToEnd_X4_first rfl rfl rfl (by decide +kernel) ⟨Nat.le_of_ble_eq_true rfl, Nat.le_of_ble_eq_true rfl⟩) (by omega) h1 rfl rfl rfl hl.1 (Nat.le_of_ble_eq_true rfl) dX4_sendFirstToEnd_1 ⟨Nat.le_of_ble_eq_true rfl, Nat.le_of_ble_eq_true rfl⟩ (fun r_1 M1 H locs hpo hP hS _ _ => ?_)
  obtain ⟨hMe, rfl⟩ := hpo
  rw [hMe] at hP
  refine lv_astore_n (lv' := [(1, .ref (ad (k + 2 + sg9 0))), (0, .ref (ad k))]) hx hb dX4_sendFirstToEnd_4 rfl hl (by decide) rfl (fun ls hl => ?_)
  refine lv_aload_n hx hb dX4_sendFirstToEnd_5 rfl (lv_at hl 0 rfl) ?_
  refine lv_ifnonnull (tgt := 11) hx hb dX4_sendFirstToEnd_6 (by decide) ?_
  refine lv_iconst (v := nI 1) hx hb dX4_sendFirstToEnd_11 (by decide) ?_
  refine lv_istore_n (lv' := [(2, .int (nI 1)), (1, .ref (ad (k + 2 + sg9 0))), (0, .ref (ad k))]) hx hb dX4_sendFirstToEnd_12 rfl hl (by decide) rfl (fun ls hl => ?_)
  refine lpW (fun y (x : Nat × (Nat → va_E) × (Nat → Option Nat)) ls H locs => 1 ≤ x.1 ∧ x.1 ≤ sz ∧ y = sz - x.1 ∧ x.2.1 (k + 1) = eQ cs 7 12 x.2.2 ∧ (∀ j, j < 12 → x.2.2 j = some (ad (k + 2 + (if j + 1 < x.1 then sg9 (j + 1) else sg9 j)))) ∧ (∀ i, i ≠ k + 1 → x.2.1 i = M i) ∧ lv_has ls 3 [(2, .int (nI x.1)), (1, .ref (ad (k + 2 + sg9 0))), (0, .ref (ad k))] ∧ va_P D vwCl (sg ad n x.2.1) H ∧ va_S (Ad ad n) s.heap H locs) 13 (fun _ => []) (fun y x ls H locs hC ih => ?_) (sz - 1) (1, M, g) ls _ _ ⟨Nat.le_refl _, hz, rfl, h2, fun j hj => by rw [if_neg (by omega)]; exact hg j hj, fun _ _ => rfl, lv_sub hl [0, 1, 2] rfl, hP, hS⟩
  obtain ⟨i, Mj, gj⟩ := x
  obtain ⟨i1, i2, i3, i4, i5, i6, hl, hP, hS⟩ := hC
  dsimp only at i1 i2 i3 i4 i5 i6 hl hP hS ih ⊢
  have f1 : Mj k = oRw ad k sz := (i6 _ (by omega)).trans h1
  have f3 : Mj (k + 2 + sg9 0) = oT (pk (sg9 0)) := (i6 _ (by omega)).trans (h3 _ (hsg 0 (by decide)))
  have s0 := hsg 0 (by decide)
  refine lv_iload_n hx hb dX4_sendFirstToEnd_13 rfl (lv_at hl 0 rfl) ?_
  refine lv_aload_n hx hb dX4_sendFirstToEnd_14 rfl (lv_at hl 2 rfl) ?_
  refine m_get hx hb hts inX4 hown hK hP (ci := 4) rfl (k := k) (by omega) f1 1 (by decide) (hts (.fieldLink RX4 16 "RollbackPair$Row" "size" "I") (by decide +kernel)) rfl dX4_sendFirstToEnd_15 ?_
  refine n_cmp_ge (tgt := 41) hx hb dX4_sendFirstToEnd_18 (by decide) (by omega) (by omega) (fun c1 => ?_) (fun c1 => ?_)
  · refine lv_aload_n hx hb dX4_sendFirstToEnd_41 rfl (lv_at hl 2 rfl) ?_
    refine m_get hx hb hts inX4 hown hK hP (ci := 4) rfl (k := k) (by omega) f1 0 (by decide) (hts (.fieldLink RX4 11 "RollbackPair$Row" "slots" "[LRollbackPair$Packet;") (by decide +kernel)) rfl dX4_sendFirstToEnd_42 ?_
    refine lv_aload_n hx hb dX4_sendFirstToEnd_45 rfl (lv_at hl 2 rfl) ?_
    refine m_get hx hb hts inX4 hown hK hP (ci := 4) rfl (k := k) (by omega) f1 1 (by decide) (hts (.fieldLink RX4 16 "RollbackPair$Row" "size" "I") (by decide +kernel)) rfl dX4_sendFirstToEnd_46 ?_
    refine lv_iconst (v := nI 1) hx hb dX4_sendFirstToEnd_49 (by decide) ?_
    refine n_sub hx hb (by omega) dX4_sendFirstToEnd_50 ?_
    refine lv_aload_n hx hb dX4_sendFirstToEnd_51 rfl (lv_at hl 1 rfl) ?_
    refine m_aast hx hb hK hP hJ hS 7 2 rfl rfl (k := (k + 1)) (k2 := (k + 2 + sg9 0)) (by omega) (by omega) (f := gj) i4 f3 (i := sz - 1) (by omega) (by decide) dX4_sendFirstToEnd_52 (fun H locs hP hS => ?_)
    obtain ⟨M_51, eM_51⟩ : ∃ z, z = va_up Mj (k + 1) (eQ cs 7 12 (va_up gj (sz - 1) (some (ad (k + 2 + sg9 0))))) := ⟨_, rfl⟩
    rw [← eM_51] at hP
    have h51_1 : M_51 k = .inr (4, [.ref (ad (k + 1)), .int (nI sz)]) := by rw [eM_51]; exact (va_up_ne _ _ (by omega)).trans f1
    have h51_2 : M_51 (k + 1) = eQ cs 7 12 (va_up gj (sz - 1) (some (ad (k + 2 + sg9 0)))) := by rw [eM_51]; exact va_up_self _ _ _
    have h51_3 : M_51 (k + 2 + sg9 0) = .inr (2, [.int ((pk (sg9 0)).1), .int ((pk (sg9 0)).2.1), .int ((pk (sg9 0)).2.2.1), .int ((pk (sg9 0)).2.2.2.1), .int ((pk (sg9 0)).2.2.2.2.1), .long ((pk (sg9 0)).2.2.2.2.2.1), .int ((pk (sg9 0)).2.2.2.2.2.2)]) := by rw [eM_51]; exact (va_up_ne _ _ (by omega)).trans f3
    refine lv_iconst (v := nI 1) hx hb dX4_sendFirstToEnd_53 (by decide) ?_
    refine r_z hx hb hr hlocks hK hP hS dX4_sendFirstToEnd_54 (by first | rfl | decide) ⟨rfl, ⟨_, h51_2, fun j hj => ?_⟩, fun j hj => (show M_51 j = Mj j from by rw [eM_51, va_up_ne _ _ hj]).trans (i6 j hj)⟩
    unfold rot
    by_cases hji : j = sz - 1
    · subst hji; rw [va_up_self, if_neg (by omega), if_pos (by omega)]
    · rw [va_up_ne _ _ hji, i5 j hj]
      by_cases h9 : j + 1 < sz
      · rw [if_pos (by omega), if_pos h9]
      · rw [if_neg (by omega), if_neg h9, if_neg (by omega)]
  · have s1 := hsg i (by omega)
    have f4 : Mj (k + 2 + sg9 i) = oT (pk (sg9 i)) := (i6 _ (by omega)).trans (h3 _ s1)
    refine lv_aload_n hx hb dX4_sendFirstToEnd_21 rfl (lv_at hl 2 rfl) ?_
    refine m_get hx hb hts inX4 hown hK hP (ci := 4) rfl (k := k) (by omega) f1 0 (by decide) (hts (.fieldLink RX4 11 "RollbackPair$Row" "slots" "[LRollbackPair$Packet;") (by decide +kernel)) rfl dX4_sendFirstToEnd_22 ?_
    refine lv_iload_n hx hb dX4_sendFirstToEnd_25 rfl (lv_at hl 0 rfl) ?_
    refine lv_iconst (v := nI 1) hx hb dX4_sendFirstToEnd_26 (by decide) ?_
    refine n_sub hx hb (by omega) dX4_sendFirstToEnd_27 ?_
    refine lv_aload_n hx hb dX4_sendFirstToEnd_28 rfl (lv_at hl 2 rfl) ?_
    refine m_get hx hb hts inX4 hown hK hP (ci := 4) rfl (k := k) (by omega) f1 0 (by decide) (hts (.fieldLink RX4 11 "RollbackPair$Row" "slots" "[LRollbackPair$Packet;") (by decide +kernel)) rfl dX4_sendFirstToEnd_29 ?_
    refine lv_iload_n hx hb dX4_sendFirstToEnd_32 rfl (lv_at hl 0 rfl) ?_
    refine m_aald hx hb hK hP 7 rfl (k := (k + 1)) (by omega) i4 (i := i) (by omega) (by decide) (r := some (ad (k + 2 + sg9 i))) ((i5 i (by omega)).trans (by rw [if_neg (by omega)])) dX4_sendFirstToEnd_33 ?_
    refine m_aast hx hb hK hP hJ hS 7 2 rfl rfl (k := (k + 1)) (k2 := (k + 2 + sg9 i)) (by omega) (by omega) (f := gj) i4 f4 (i := i - 1) (by omega) (by decide) dX4_sendFirstToEnd_34 (fun H locs hP hS => ?_)
    obtain ⟨M_52, eM_52⟩ : ∃ z, z = va_up Mj (k + 1) (eQ cs 7 12 (va_up gj (i - 1) (some (ad (k + 2 + sg9 i))))) := ⟨_, rfl⟩
    rw [← eM_52] at hP
    have h52_1 : M_52 k = .inr (4, [.ref (ad (k + 1)), .int (nI sz)]) := by rw [eM_52]; exact (va_up_ne _ _ (by omega)).trans f1
    have h52_2 : M_52 (k + 1) = eQ cs 7 12 (va_up gj (i - 1) (some (ad (k + 2 + sg9 i)))) := by rw [eM_52]; exact va_up_self _ _ _
    have h52_3 : M_52 (k + 2 + sg9 0) = .inr (2, [.int ((pk (sg9 0)).1), .int ((pk (sg9 0)).2.1), .int ((pk (sg9 0)).2.2.1), .int ((pk (sg9 0)).2.2.2.1), .int ((pk (sg9 0)).2.2.2.2.1), .long ((pk (sg9 0)).2.2.2.2.2.1), .int ((pk (sg9 0)).2.2.2.2.2.2)]) := by rw [eM_52]; exact (va_up_ne _ _ (by omega)).trans f3
    have h52_4 : M_52 (k + 2 + sg9 i) = .inr (2, [.int ((pk (sg9 i)).1), .int ((pk (sg9 i)).2.1), .int ((pk (sg9 i)).2.2.1), .int ((pk (sg9 i)).2.2.2.1), .int ((pk (sg9 i)).2.2.2.2.1), .long ((pk (sg9 i)).2.2.2.2.2.1), .int ((pk (sg9 i)).2.2.2.2.2.2)]) := by rw [eM_52]; exact (va_up_ne _ _ (by omega)).trans f4
    refine lv_iinc (v := nI (i + 1)) (lv' := [(2, .int (nI (i + 1))), (1, .ref (ad (k + 2 + sg9 0))), (0, .ref (ad k))]) hx hb dX4_sendFirstToEnd_35 hl (k := 0) rfl (nI_1 _) (by decide) rfl (fun ls hl => ?_)
    refine lv_goto (tgt := 13) hx hb dX4_sendFirstToEnd_38 (by decide) ?_
    refine ih (sz - (i + 1)) (by omega) (i + 1, M_52, (va_up gj (i - 1) (some (ad (k + 2 + sg9 i))))) ls H locs ⟨by omega, by omega, rfl, h52_2, fun j hj => ?_, fun j hj => (show M_52 j = Mj j from by rw [eM_52, va_up_ne _ _ hj]).trans (i6 j hj), lv_sub hl [0, 1, 2] rfl, hP, hS⟩
    dsimp only
    by_cases hji : j = i - 1
    · subst hji; rw [va_up_self, if_pos (by omega), show i - 1 + 1 = i by omega]
    · rw [va_up_ne _ _ hji, i5 j hj]
      by_cases h9 : j + 1 < i
      · rw [if_pos h9, if_pos (by omega)]
      · rw [if_neg h9, if_neg (by omega)]
set_option maxHeartbeats 4000000 in
set_option maxRecDepth 100000 in
/-- Row.takeFirst(), none -/
theorem c_tf0 (l : Launch) (D : va_G) (cs : Nat → ClassId) (ad : Nat → Nat) (n : Nat) (hJ : Inj ad n) (M : Nat → va_E) (k : Nat) (sg9 : Nat → Nat) (sz : Nat) (pk : Nat → PK) (hk : k + 14 ≤ n) (hsg : ∀ i, i < 12 → sg9 i < 12) (hR : RwA ad cs k M sg9 sz pk) (hz : sz = 0) : CTq l yX4_takeFirst wsX4_takeFirst ({ frames := 2, cells := 0, slots := 0, locals := 42 }) D cs ad n M [.ref (ad k)] (fun r M2 => M2 = M ∧ r = none) := by
  refine Met.ofW (cc := cX4_takeFirst) (maxL := 2) (ret := (some (.object "RollbackPair$Packet"))) (by decide) rfl ?_
  intro p e s m args below meth c s₁ B hml hv
  obtain ⟨rfl, hP, hK⟩ := hv
  have hx := B.exec
  have hb := B.bytes
  have hr := B.returns
  have hts := atoms_spec (ws := wsX4_takeFirst) B.pre
  have hown : s.vm.findClass RX4 = some m.cls := findClass_of_methodNamed B.named
  have hlocks := B.notSynchronized
  have hS : va_S (Ad ad n) s.heap s.heap [] := va_S.rf
  have hl := lv_entry ([.ref (ad k)]) (n := 2) (Nat.le_of_ble_eq_true rfl)
  rw [lg_entry_eq]
  generalize (lg_sl ([.ref (ad k)]) ++ List.replicate (2 - (lg_sl ([.ref (ad k)])).length) Slot.unset).toArray = ls at hl ⊢
  have hl : lv_has ls 2 [(0, .ref (ad k))] := hl
  have inX4 : ∀ w ∈ u_ws RX4 TX4 2, w ∈ wsX4_takeFirst := fun w h => List.mem_cons_of_mem _ (List.mem_append_right _ h)
  obtain ⟨h1, ⟨g, h2, hg⟩, h3⟩ := id hR
  refine lv_aload_n hx hb dX4_takeFirst_0 rfl (lv_at hl 0 rfl) ?_
  refine k_Vq (As := []) (rest := []) (k := k) (ci := 4) ⟨hx, hb, hml, hown, hts⟩ hK hP hS Ad_le (c_first0 l D cs ad n hJ M k sg9 sz pk hk hsg hR hz) (cwV 0 hts gX4_takeFirst_X4_first rfl rfl rfl (by decide +kernel) ⟨Nat.le_of_ble_eq_true rfl, Nat.le_of_ble_eq_true rfl⟩) (by omega) h1 rfl rfl rfl hl.1 (Nat.le_of_ble_eq_true rfl) dX4_takeFirst_1 ⟨Nat.le_of_ble_eq_true rfl, Nat.le_of_ble_eq_true rfl⟩ (fun r_1 M1 H locs hpo hP hS _ _ => ?_)
  obtain ⟨hMe, rfl⟩ := hpo
  rw [hMe] at hP
  refine lv_astore_nN (lv' := [(1, .null), (0, .ref (ad k))]) hx hb dX4_takeFirst_4 rfl hl (by decide) rfl (fun ls hl => ?_)
  refine lv_aload_n hx hb dX4_takeFirst_5 rfl (lv_at hl 1 rfl) ?_
  refine k_Vi (As := []) (rest := []) (k := k) (ci := 4) ⟨hx, hb, hml, hown, hts⟩ hK hP hS Ad_le (c_sfe0 l D cs ad n hJ M k sg9 sz pk hk hsg hR hz) (cwV 0 hts gX4_takeFirst_X4_sendFirstToEnd rfl rfl rfl (by decide +kernel) ⟨Nat.le_of_ble_eq_true rfl, Nat.le_of_ble_eq_true rfl⟩) (by omega) h1 rfl rfl rfl hl.1 (Nat.le_of_ble_eq_true rfl) dX4_takeFirst_6 ⟨Nat.le_of_ble_eq_true rfl, Nat.le_of_ble_eq_true rfl⟩ (fun r_2 M1 H locs hpo hP hS _ _ => ?_)
  obtain ⟨hMe, rfl⟩ := hpo
  rw [hMe] at hP
  refine n_if_eq (tgt := 22) hx hb dX4_takeFirst_9 (by decide) (by omega) (fun c_3 => ?_) (fun c_3 => absurd c_3 (by decide))
  refine lv_aload_nN hx hb dX4_takeFirst_22 rfl (lv_at hl 0 rfl) ?_
  exact r_q hx hb hr hlocks hK hP hS dX4_takeFirst_23 (v := none) ⟨rfl, rfl⟩
set_option maxHeartbeats 4000000 in
set_option maxRecDepth 100000 in
/-- Row.takeFirst() -/
theorem c_tf (l : Launch) (D : va_G) (cs : Nat → ClassId) (ad : Nat → Nat) (n : Nat) (hJ : Inj ad n) (M : Nat → va_E) (k : Nat) (sg9 : Nat → Nat) (sz : Nat) (pk : Nat → PK) (hk : k + 14 ≤ n) (hsg : ∀ i, i < 12 → sg9 i < 12) (hR : RwA ad cs k M sg9 sz pk) (hz : 0 < sz) (hz2 : sz ≤ 12) : CTq l yX4_takeFirst wsX4_takeFirst ({ frames := 2, cells := 0, slots := 0, locals := 42 }) D cs ad n M [.ref (ad k)] (fun r M2 => r = some (ad (k + 2 + sg9 0)) ∧ RwA ad cs k M2 (rot sg9 sz) (sz - 1) pk ∧ ∀ i, (i < k ∨ k + 14 ≤ i) → M2 i = M i) := by
  refine Met.ofW (cc := cX4_takeFirst) (maxL := 2) (ret := (some (.object "RollbackPair$Packet"))) (by decide) rfl ?_
  intro p e s m args below meth c s₁ B hml hv
  obtain ⟨rfl, hP, hK⟩ := hv
  have hx := B.exec
  have hb := B.bytes
  have hr := B.returns
  have hts := atoms_spec (ws := wsX4_takeFirst) B.pre
  have hown : s.vm.findClass RX4 = some m.cls := findClass_of_methodNamed B.named
  have hlocks := B.notSynchronized
  have hS : va_S (Ad ad n) s.heap s.heap [] := va_S.rf
  have hl := lv_entry ([.ref (ad k)]) (n := 2) (Nat.le_of_ble_eq_true rfl)
  rw [lg_entry_eq]
  generalize (lg_sl ([.ref (ad k)]) ++ List.replicate (2 - (lg_sl ([.ref (ad k)])).length) Slot.unset).toArray = ls at hl ⊢
  have hl : lv_has ls 2 [(0, .ref (ad k))] := hl
  have inX4 : ∀ w ∈ u_ws RX4 TX4 2, w ∈ wsX4_takeFirst := fun w h => List.mem_cons_of_mem _ (List.mem_append_right _ h)
  obtain ⟨h1, ⟨g, h2, hg⟩, h3⟩ := id hR
  refine lv_aload_n hx hb dX4_takeFirst_0 rfl (lv_at hl 0 rfl) ?_
  refine k_Vq (As := []) (rest := []) (k := k) (ci := 4) ⟨hx, hb, hml, hown, hts⟩ hK hP hS Ad_le (c_first1 l D cs ad n hJ M k sg9 sz pk hk hsg hR hz hz2) (cwV 0 hts gX4_takeFirst_X4_first rfl rfl rfl (by decide +kernel) ⟨Nat.le_of_ble_eq_true rfl, Nat.le_of_ble_eq_true rfl⟩) (by omega) h1 rfl rfl rfl hl.1 (Nat.le_of_ble_eq_true rfl) dX4_takeFirst_1 ⟨Nat.le_of_ble_eq_true rfl, Nat.le_of_ble_eq_true rfl⟩ (fun r_1 M1 H locs hpo hP hS _ _ => ?_)
  obtain ⟨hMe, rfl⟩ := hpo
  rw [hMe] at hP
  refine lv_astore_n (lv' := [(1, .ref (ad (k + 2 + sg9 0))), (0, .ref (ad k))]) hx hb dX4_takeFirst_4 rfl hl (by decide) rfl (fun ls hl => ?_)
  refine lv_aload_n hx hb dX4_takeFirst_5 rfl (lv_at hl 1 rfl) ?_
  refine k_Vi (As := []) (rest := []) (k := k) (ci := 4) ⟨hx, hb, hml, hown, hts⟩ hK hP hS Ad_le (c_sfe l D cs ad n hJ M k sg9 sz pk hk hsg hR hz hz2) (cwV 0 hts gX4_takeFirst_X4_sendFirstToEnd rfl rfl rfl (by decide +kernel) ⟨Nat.le_of_ble_eq_true rfl, Nat.le_of_ble_eq_true rfl⟩) (by omega) h1 rfl rfl rfl hl.1 (Nat.le_of_ble_eq_true rfl) dX4_takeFirst_6 ⟨Nat.le_of_ble_eq_true rfl, Nat.le_of_ble_eq_true rfl⟩ (fun r_2 N1 H locs hpo hP hS _ _ => ?_)
  obtain ⟨rfl, ⟨g2, q1, q2⟩, qf⟩ := hpo
  have h1_1 : N1 k = .inr (4, [.ref (ad (k + 1)), .int (nI sz)]) := (qf _ (by omega)).trans h1
  refine n_if_eq (tgt := 22) hx hb dX4_takeFirst_9 (by decide) (by omega) (fun c_3 => absurd c_3 (by decide)) (fun c_3 => ?_)
  refine lv_aload_n hx hb dX4_takeFirst_12 rfl (lv_at hl 1 rfl) ?_
  refine lv_dup hx hb dX4_takeFirst_13 rfl ?_
  refine m_get hx hb hts inX4 hown hK hP (ci := 4) rfl (k := k) (by omega) h1_1 1 (by decide) (hts (.fieldLink RX4 16 "RollbackPair$Row" "size" "I") (by decide +kernel)) rfl dX4_takeFirst_14 ?_
  refine lv_iconst (v := nI 1) hx hb dX4_takeFirst_17 (by decide) ?_
  refine n_sub hx hb (by omega) dX4_takeFirst_18 ?_
  refine m_put hx hb hts inX4 tyX4 tyX4_ok nmX4 hown hK hP hJ hS (ci := 4) rfl (k := k) (by omega) h1_1 1 (by decide) (hts (.fieldLink RX4 16 "RollbackPair$Row" "size" "I") (by decide +kernel)) rfl rfl rfl (Nat.le_of_ble_eq_true rfl) (fs' := [.ref (ad (k + 1)), .int (nI (sz - 1))]) rfl dX4_takeFirst_19 (fun H locs hP hS => ?_)
  obtain ⟨M_2, eM_2⟩ : ∃ z, z = va_up N1 k (.inr (4, [.ref (ad (k + 1)), .int (nI (sz - 1))])) := ⟨_, rfl⟩
  rw [← eM_2] at hP
  have h2_1 : M_2 k = .inr (4, [.ref (ad (k + 1)), .int (nI (sz - 1))]) := by rw [eM_2]; exact va_up_self _ _ _
  have h2_2 : M_2 (k + 1) = eQ cs 7 12 g2 := by rw [eM_2]; exact (va_up_ne _ _ (by omega)).trans q1
  refine lv_aload_n hx hb dX4_takeFirst_22 rfl (lv_at hl 0 rfl) ?_
  exact r_q hx hb hr hlocks hK hP hS dX4_takeFirst_23 (v := some (ad (k + 2 + sg9 0))) ⟨rfl, ⟨h2_1, ⟨g2, h2_2, q2⟩, fun i hi => by rw [eM_2, va_up_ne _ _ (by omega), qf _ (by omega)]; exact h3 i hi⟩, fun i hi => by rw [eM_2, va_up_ne _ _ (by omega), qf _ (by omega)]⟩
set_option maxHeartbeats 4000000 in
set_option maxRecDepth 100000 in
/-- Row.doubleFirst(), refused -/
theorem c_df_no (l : Launch) (D : va_G) (cs : Nat → ClassId) (ad : Nat → Nat) (n : Nat) (hJ : Inj ad n) (M : Nat → va_E) (k : Nat) (sg9 : Nat → Nat) (sz : Nat) (pk : Nat → PK) (hk : k + 14 ≤ n) (hsg : ∀ i, i < 12 → sg9 i < 12) (hR : RwA ad cs k M sg9 sz pk) (hz : sz = 0 ∨ sz = 12) : CTi l yX4_doubleFirst wsX4_doubleFirst ({ frames := 1, cells := 0, slots := 0, locals := 22 }) D cs ad n M [.ref (ad k)] (fun r M2 => M2 = M ∧ r = nI 0) := by
  refine Met.ofW (cc := cX4_doubleFirst) (maxL := 3) (ret := (some .boolean)) (by decide) rfl ?_
  intro p e s m args below meth c s₁ B hml hv
  obtain ⟨rfl, hP, hK⟩ := hv
  have hx := B.exec
  have hb := B.bytes
  have hr := B.returns
  have hts := atoms_spec (ws := wsX4_doubleFirst) B.pre
  have hown : s.vm.findClass RX4 = some m.cls := findClass_of_methodNamed B.named
  have hlocks := B.notSynchronized
  have hS : va_S (Ad ad n) s.heap s.heap [] := va_S.rf
  have hl := lv_entry ([.ref (ad k)]) (n := 3) (Nat.le_of_ble_eq_true rfl)
  rw [lg_entry_eq]
  generalize (lg_sl ([.ref (ad k)]) ++ List.replicate (3 - (lg_sl ([.ref (ad k)])).length) Slot.unset).toArray = ls at hl ⊢
  have hl : lv_has ls 3 [(0, .ref (ad k))] := hl
  have inX4 : ∀ w ∈ u_ws RX4 TX4 2, w ∈ wsX4_doubleFirst := fun w h => List.mem_cons_of_mem _ (List.mem_append_left _ (List.mem_append_right _ h))
  have inX2 : ∀ w ∈ u_ws RX2 TX2 7, w ∈ wsX4_doubleFirst := fun w h => List.mem_cons_of_mem _ (List.mem_append_right _ h)
  obtain ⟨h1, ⟨g, h2, hg⟩, h3⟩ := id hR
  rcases hz with hz | hz
  · refine lv_aload_n hx hb dX4_doubleFirst_0 rfl (lv_at hl 0 rfl) ?_
    refine k_Vq (As := []) (rest := []) (k := k) (ci := 4) ⟨hx, hb, hml, hown, hts⟩ hK hP hS Ad_le (c_first0 l D cs ad n hJ M k sg9 sz pk hk hsg hR hz) (cwV 0 hts gX4_doubleFirst_X4_first rfl rfl rfl (by decide +kernel) ⟨Nat.le_of_ble_eq_true rfl, Nat.le_of_ble_eq_true rfl⟩) (by omega) h1 rfl rfl rfl hl.1 (Nat.le_of_ble_eq_true rfl) dX4_doubleFirst_1 ⟨Nat.le_of_ble_eq_true rfl, Nat.le_of_ble_eq_true rfl⟩ (fun r_1 M1 H locs hpo hP hS _ _ => ?_)
    obtain ⟨hMe, rfl⟩ := hpo
    rw [hMe] at hP
    refine lv_astore_nN (lv' := [(1, .null), (0, .ref (ad k))]) hx hb dX4_doubleFirst_4 rfl hl (by decide) rfl (fun ls hl => ?_)
    refine lv_aload_nN hx hb dX4_doubleFirst_5 rfl (lv_at hl 0 rfl) ?_
    refine lv_ifnonnullN hx hb dX4_doubleFirst_6 ?_
    refine lv_iconst (v := nI 0) hx hb dX4_doubleFirst_9 (by decide) ?_
    exact r_z hx hb hr hlocks hK hP hS dX4_doubleFirst_10 (by first | rfl | decide) ⟨rfl, rfl⟩
  · refine lv_aload_n hx hb dX4_doubleFirst_0 rfl (lv_at hl 0 rfl) ?_
    refine k_Vq (As := []) (rest := []) (k := k) (ci := 4) ⟨hx, hb, hml, hown, hts⟩ hK hP hS Ad_le (c_first1 l D cs ad n hJ M k sg9 sz pk hk hsg hR (by omega) (by omega)) (cwV 0 hts gX4_doubleFirst_X4_first rfl rfl rfl (by decide +kernel) ⟨Nat.le_of_ble_eq_true rfl, Nat.le_of_ble_eq_true rfl⟩) (by omega) h1 rfl rfl rfl hl.1 (Nat.le_of_ble_eq_true rfl) dX4_doubleFirst_1 ⟨Nat.le_of_ble_eq_true rfl, Nat.le_of_ble_eq_true rfl⟩ (fun r_1 M1 H locs hpo hP hS _ _ => ?_)
    obtain ⟨hMe, rfl⟩ := hpo
    rw [hMe] at hP
    refine lv_astore_n (lv' := [(1, .ref (ad (k + 2 + sg9 0))), (0, .ref (ad k))]) hx hb dX4_doubleFirst_4 rfl hl (by decide) rfl (fun ls hl => ?_)
    refine lv_aload_n hx hb dX4_doubleFirst_5 rfl (lv_at hl 0 rfl) ?_
    refine lv_ifnonnull (tgt := 11) hx hb dX4_doubleFirst_6 (by decide) ?_
    refine lv_aload_n hx hb dX4_doubleFirst_11 rfl (lv_at hl 1 rfl) ?_
    refine k_Vq (As := []) (rest := []) (k := k) (ci := 4) ⟨hx, hb, hml, hown, hts⟩ hK hP hS Ad_le (c_addLast_no l D cs ad n hJ M k sg9 sz pk hk hsg hR hz) (cwV 0 hts gX4_doubleFirst_X4_addLast rfl rfl rfl (by decide +kernel) ⟨Nat.le_of_ble_eq_true rfl, Nat.le_of_ble_eq_true rfl⟩) (by omega) h1 rfl rfl rfl hl.1 (Nat.le_of_ble_eq_true rfl) dX4_doubleFirst_12 ⟨Nat.le_of_ble_eq_true rfl, Nat.le_of_ble_eq_true rfl⟩ (fun r_2 M1 H locs hpo hP hS _ _ => ?_)
    obtain ⟨hMe, rfl⟩ := hpo
    rw [hMe] at hP
    refine lv_astore_nN (lv' := [(2, .null), (1, .ref (ad (k + 2 + sg9 0))), (0, .ref (ad k))]) hx hb dX4_doubleFirst_15 rfl hl (by decide) rfl (fun ls hl => ?_)
    refine lv_aload_nN hx hb dX4_doubleFirst_16 rfl (lv_at hl 0 rfl) ?_
    refine lv_ifnonnullN hx hb dX4_doubleFirst_17 ?_
    refine lv_iconst (v := nI 0) hx hb dX4_doubleFirst_20 (by decide) ?_
    exact r_z hx hb hr hlocks hK hP hS dX4_doubleFirst_21 (by first | rfl | decide) ⟨rfl, rfl⟩
set_option maxHeartbeats 4000000 in
set_option maxRecDepth 100000 in
/-- Row.doubleFirst() -/
theorem c_df (l : Launch) (D : va_G) (cs : Nat → ClassId) (ad : Nat → Nat) (n : Nat) (hJ : Inj ad n) (M : Nat → va_E) (k : Nat) (sg9 : Nat → Nat) (sz : Nat) (pk : Nat → PK) (hk : k + 14 ≤ n) (hsg : ∀ i, i < 12 → sg9 i < 12) (hR : RwA ad cs k M sg9 sz pk) (hz : 0 < sz) (hz2 : sz < 12) (hin : sg9 sz ≠ sg9 0) (hsh : sh (pk (sg9 0)).1) : CTi l yX4_doubleFirst wsX4_doubleFirst ({ frames := 1, cells := 0, slots := 0, locals := 22 }) D cs ad n M [.ref (ad k)] (fun r M2 => r = nI 1 ∧ RwA ad cs k M2 sg9 (sz + 1) (va_up pk (sg9 sz) (pk (sg9 0))) ∧ ∀ i, (i < k ∨ k + 14 ≤ i) → M2 i = M i) := by
  refine Met.ofW (cc := cX4_doubleFirst) (maxL := 3) (ret := (some .boolean)) (by decide) rfl ?_
  intro p e s m args below meth c s₁ B hml hv
  obtain ⟨rfl, hP, hK⟩ := hv
  have hx := B.exec
  have hb := B.bytes
  have hr := B.returns
  have hts := atoms_spec (ws := wsX4_doubleFirst) B.pre
  have hown : s.vm.findClass RX4 = some m.cls := findClass_of_methodNamed B.named
  have hlocks := B.notSynchronized
  have hS : va_S (Ad ad n) s.heap s.heap [] := va_S.rf
  have hl := lv_entry ([.ref (ad k)]) (n := 3) (Nat.le_of_ble_eq_true rfl)
  rw [lg_entry_eq]
  generalize (lg_sl ([.ref (ad k)]) ++ List.replicate (3 - (lg_sl ([.ref (ad k)])).length) Slot.unset).toArray = ls at hl ⊢
  have hl : lv_has ls 3 [(0, .ref (ad k))] := hl
  have inX4 : ∀ w ∈ u_ws RX4 TX4 2, w ∈ wsX4_doubleFirst := fun w h => List.mem_cons_of_mem _ (List.mem_append_left _ (List.mem_append_right _ h))
  have inX2 : ∀ w ∈ u_ws RX2 TX2 7, w ∈ wsX4_doubleFirst := fun w h => List.mem_cons_of_mem _ (List.mem_append_right _ h)
  obtain ⟨h1, ⟨g, h2, hg⟩, h3⟩ := id hR
  have s0 := hsg 0 (by decide)
  have s1 := hsg sz hz2
  refine lv_aload_n hx hb dX4_doubleFirst_0 rfl (lv_at hl 0 rfl) ?_
  refine k_Vq (As := []) (rest := []) (k := k) (ci := 4) ⟨hx, hb, hml, hown, hts⟩ hK hP hS Ad_le (c_first1 l D cs ad n hJ M k sg9 sz pk hk hsg hR hz (by omega)) (cwV 0 hts gX4_doubleFirst_X4_first rfl rfl rfl (by decide +kernel) ⟨Nat.le_of_ble_eq_true rfl, Nat.le_of_ble_eq_true rfl⟩) (by omega) h1 rfl rfl rfl hl.1 (Nat.le_of_ble_eq_true rfl) dX4_doubleFirst_1 ⟨Nat.le_of_ble_eq_true rfl, Nat.le_of_ble_eq_true rfl⟩ (fun r_1 M1 H locs hpo hP hS _ _ => ?_)
  obtain ⟨hMe, rfl⟩ := hpo
  rw [hMe] at hP
  refine lv_astore_n (lv' := [(1, .ref (ad (k + 2 + sg9 0))), (0, .ref (ad k))]) hx hb dX4_doubleFirst_4 rfl hl (by decide) rfl (fun ls hl => ?_)
  refine lv_aload_n hx hb dX4_doubleFirst_5 rfl (lv_at hl 0 rfl) ?_
  refine lv_ifnonnull (tgt := 11) hx hb dX4_doubleFirst_6 (by decide) ?_
  refine lv_aload_n hx hb dX4_doubleFirst_11 rfl (lv_at hl 1 rfl) ?_
  refine k_Vq (As := []) (rest := []) (k := k) (ci := 4) ⟨hx, hb, hml, hown, hts⟩ hK hP hS Ad_le (c_addLast l D cs ad n hJ M k sg9 sz pk hk hsg hR hz2) (cwV 0 hts gX4_doubleFirst_X4_addLast rfl rfl rfl (by decide +kernel) ⟨Nat.le_of_ble_eq_true rfl, Nat.le_of_ble_eq_true rfl⟩) (by omega) h1 rfl rfl rfl hl.1 (Nat.le_of_ble_eq_true rfl) dX4_doubleFirst_12 ⟨Nat.le_of_ble_eq_true rfl, Nat.le_of_ble_eq_true rfl⟩ (fun r_2 N1 H locs hpo hP hS _ _ => ?_)
  obtain ⟨rfl, q1, qf⟩ := hpo
  have h1_2 : N1 (k + 1) = eQ cs 7 12 g := (qf _ (by omega)).trans h2
  have f3 : N1 (k + 2 + sg9 0) = oT (pk (sg9 0)) := (qf _ (by omega)).trans (h3 _ s0)
  have f4 : N1 (k + 2 + sg9 sz) = oT (pk (sg9 sz)) := (qf _ (by omega)).trans (h3 _ s1)
  refine lv_astore_n (lv' := [(2, .ref (ad (k + 2 + sg9 sz))), (1, .ref (ad (k + 2 + sg9 0))), (0, .ref (ad k))]) hx hb dX4_doubleFirst_15 rfl hl (by decide) rfl (fun ls hl => ?_)
  refine lv_aload_n hx hb dX4_doubleFirst_16 rfl (lv_at hl 0 rfl) ?_
  refine lv_ifnonnull (tgt := 22) hx hb dX4_doubleFirst_17 (by decide) ?_
  refine lv_aload_n hx hb dX4_doubleFirst_22 rfl (lv_at hl 0 rfl) ?_
  refine lv_aload_n hx hb dX4_doubleFirst_23 rfl (lv_at hl 1 rfl) ?_
  refine k_Vv (As := [.ref (ad (k + 2 + sg9 0))]) (rest := []) (k := (k + 2 + sg9 sz)) (ci := 2) ⟨hx, hb, hml, hown, hts⟩ hK hP hS Ad_le (c_copyOf l D cs ad n hJ N1 (k + 2 + sg9 sz) (pk (sg9 sz)).1 (pk (sg9 sz)).2.1 (pk (sg9 sz)).2.2.1 (pk (sg9 sz)).2.2.2.1 (pk (sg9 sz)).2.2.2.2.1 (pk (sg9 sz)).2.2.2.2.2.1 (pk (sg9 sz)).2.2.2.2.2.2 (by omega) f4 (k + 2 + sg9 0) (pk (sg9 0)).1 (pk (sg9 0)).2.1 (pk (sg9 0)).2.2.1 (pk (sg9 0)).2.2.2.1 (pk (sg9 0)).2.2.2.2.1 (pk (sg9 0)).2.2.2.2.2.1 (pk (sg9 0)).2.2.2.2.2.2 (by omega) (by omega) f3 hsh) (cwV 1 hts gX4_doubleFirst_X2_copyOf rfl rfl rfl (by decide +kernel) ⟨Nat.le_of_ble_eq_true rfl, Nat.le_of_ble_eq_true rfl⟩) (by omega) f4 rfl rfl rfl hl.1 (Nat.le_of_ble_eq_true rfl) dX4_doubleFirst_24 ⟨Nat.le_of_ble_eq_true rfl, Nat.le_of_ble_eq_true rfl⟩ (fun N2 H locs hpo hP hS _ _ => ?_)
  obtain ⟨r1, rf⟩ := hpo
  refine lv_iconst (v := nI 1) hx hb dX4_doubleFirst_27 (by decide) ?_
  refine r_z hx hb hr hlocks hK hP hS dX4_doubleFirst_28 (by first | rfl | decide) ⟨rfl, ⟨(rf _ (by omega)).trans q1, ⟨g, (rf _ (by omega)).trans ((qf _ (by omega)).trans h2), hg⟩, fun i hi => ?_⟩, fun i hi => (rf _ (by omega)).trans (qf _ (by omega))⟩
  by_cases h9 : i = sg9 sz
  · subst h9; rw [va_up_self]; exact r1
  · rw [va_up_ne _ _ h9]; exact (rf _ (by omega)).trans ((qf _ (by omega)).trans (h3 i hi))
