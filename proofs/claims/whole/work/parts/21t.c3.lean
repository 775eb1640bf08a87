/-- a History in the place k: the rows of states and inputs, and the sixteen states behind them -/
def HiA (ad : Nat → Nat) (cs : Nat → ClassId) (k : Nat) (M : Nat → va_E) (X V : Nat → Nat → UInt32) (hh : Nat → Int32) (ww : Nat → UInt64) (U : Nat → Nat → Int32) : Prop :=
  M k = .inr (0, [.ref (ad (k + 1)), .ref (ad (k + 2))]) ∧ (∃ g, M (k + 1) = eQ cs 8 16 g ∧ ∀ i, i < 16 → g i = some (ad (k + 5 + 3 * i))) ∧ (∃ g, M (k + 2) = eQ cs 10 2 g ∧ g 0 = some (ad (k + 3)) ∧ g 1 = some (ad (k + 4))) ∧ M (k + 3) = eB cs 16 (U 0) ∧ M (k + 4) = eB cs 16 (U 1) ∧
  ∀ i, i < 16 → M (k + 5 + 3 * i) = oSt ad (k + 5 + 3 * i) (hh i) (ww i) ∧ M (k + 5 + 3 * i + 1) = eF cs 2 (X i) ∧ M (k + 5 + 3 * i + 2) = eF cs 2 (V i)
theorem HiA.kept {ad : Nat → Nat} {cs : Nat → ClassId} {k : Nat} {M M2 : Nat → va_E} {X V : Nat → Nat → UInt32} {hh : Nat → Int32} {ww : Nat → UInt64} {U : Nat → Nat → Int32} (h : HiA ad cs k M X V hh ww U) (hf : ∀ j, k ≤ j → j < k + 53 → M2 j = M j) : HiA ad cs k M2 X V hh ww U := by
  obtain ⟨h1, ⟨g, h2, h3⟩, ⟨g2, h4, h5⟩, h6, h7, h8⟩ := h
  refine ⟨(hf _ (by omega) (by omega)).trans h1, ⟨g, (hf _ (by omega) (by omega)).trans h2, h3⟩, ⟨g2, (hf _ (by omega) (by omega)).trans h4, h5⟩, (hf _ (by omega) (by omega)).trans h6, (hf _ (by omega) (by omega)).trans h7, fun i hi => ?_⟩
  obtain ⟨a, b, c⟩ := h8 i hi
  exact ⟨(hf _ (by omega) (by omega)).trans a, (hf _ (by omega) (by omega)).trans b, (hf _ (by omega) (by omega)).trans c⟩
set_option maxHeartbeats 4000000 in
set_option maxRecDepth 100000 in
/-- History.before(f) -/
theorem c_before (l : Launch) (D : va_G) (cs : Nat → ClassId) (ad : Nat → Nat) (n : Nat) (hJ : Inj ad n) (M : Nat → va_E) (k : Nat) (g : Nat → Option Nat) (hk : k + 53 ≤ n) (h1 : M k = .inr (0, [.ref (ad (k + 1)), .ref (ad (k + 2))])) (h2 : M (k + 1) = eQ cs 8 16 g) (hg : ∀ i, i < 16 → g i = some (ad (k + 5 + 3 * i))) (f : Nat) (hf : f < 2 ^ 30) : CTq l yX0_before wsX0_before ({ frames := 0, cells := 0, slots := 0, locals := 0 }) D cs ad n M [.ref (ad k), .int (nI f)] (fun r M2 => M2 = M ∧ r = some (ad (k + 5 + 3 * (f % 16)))) := by
  refine Met.ofW (cc := cX0_before) (maxL := 2) (ret := (some (.object "RollbackPair$State"))) (by decide) rfl ?_
  intro p e s m args below meth c s₁ B hml hv
  obtain ⟨rfl, hP, hK⟩ := hv
  have hx := B.exec
  have hb := B.bytes
  have hr := B.returns
  have hts := atoms_spec (ws := wsX0_before) B.pre
  have hown : s.vm.findClass RX0 = some m.cls := findClass_of_methodNamed B.named
  have hlocks := B.notSynchronized
  have hS : va_S (Ad ad n) s.heap s.heap [] := va_S.rf
  have hl := lv_entry ([.ref (ad k), .int (nI f)]) (n := 2) (Nat.le_of_ble_eq_true rfl)
  rw [lg_entry_eq]
  generalize (lg_sl ([.ref (ad k), .int (nI f)]) ++ List.replicate (2 - (lg_sl ([.ref (ad k), .int (nI f)])).length) Slot.unset).toArray = ls at hl ⊢
  have hl : lv_has ls 2 [(0, .ref (ad k)), (1, .int (nI f))] := hl
  have inX0 : ∀ w ∈ u_ws RX0 TX0 2, w ∈ wsX0_before := fun w h => List.mem_cons_of_mem _ (List.mem_append_right _ h)
  refine lv_aload_n hx hb dX0_before_0 rfl (lv_at hl 0 rfl) ?_
  refine m_get hx hb hts inX0 hown hK hP (ci := 0) rfl (k := k) (by omega) h1 0 (by decide) (hts (.fieldLink RX0 13 "RollbackPair$History" "states" "[LRollbackPair$State;") (by decide +kernel)) rfl dX0_before_1 ?_
  refine lv_iload_n hx hb dX0_before_4 rfl (lv_at hl 1 rfl) ?_
  refine lv_bipush (v := nI 15) hx hb dX0_before_5 (by decide) ?_
  refine n_and (d := f % 16) hx hb (and_mod (b := 4) rfl (by decide) (by omega)) dX0_before_7 ?_
  refine m_aald hx hb hK hP 8 rfl (k := (k + 1)) (by omega) h2 (i := f % 16) (by omega) (by decide) (r := some (ad (k + 5 + 3 * (f % 16)))) (hg _ (by omega)) dX0_before_8 ?_
  exact r_q hx hb hr hlocks hK hP hS dX0_before_9 (v := some (ad (k + 5 + 3 * (f % 16)))) ⟨rfl, rfl⟩
/-- what a frame does to the states and inputs that are kept -/
def HiP (X V : Nat → Nat → UInt32) (hh : Nat → Int32) (ww : Nat → UInt64) (U : Nat → Nat → Int32) (f a1 a2 : Nat) (X2 V2 : Nat → Nat → UInt32) (hh2 : Nat → Int32) (ww2 : Nat → UInt64) (U2 : Nat → Nat → Int32) : Prop :=
  X2 ((f + 1) % 16) 0 = st_x (mv (X (f % 16) 0) (V (f % 16) 0) (nI a1)) (mv (X (f % 16) 1) (V (f % 16) 1) (nI a2)) ∧ X2 ((f + 1) % 16) 1 = st_y (mv (X (f % 16) 0) (V (f % 16) 0) (nI a1)) (mv (X (f % 16) 1) (V (f % 16) 1) (nI a2)) ∧ V2 ((f + 1) % 16) 0 = st_s (mv (X (f % 16) 0) (V (f % 16) 0) (nI a1)) (mv (X (f % 16) 1) (V (f % 16) 1) (nI a2)) ∧ V2 ((f + 1) % 16) 1 = st_t (mv (X (f % 16) 0) (V (f % 16) 0) (nI a1)) (mv (X (f % 16) 1) (V (f % 16) 1) (nI a2)) ∧ hh2 ((f + 1) % 16) = hh (f % 16) + st_m (mv (X (f % 16) 0) (V (f % 16) 0) (nI a1)) (mv (X (f % 16) 1) (V (f % 16) 1) (nI a2)) ∧ ww2 ((f + 1) % 16) = st_w (mv (X (f % 16) 0) (V (f % 16) 0) (nI a1)) (mv (X (f % 16) 1) (V (f % 16) 1) (nI a2)) (ww (f % 16)) ∧
  (∀ i, i ≠ (f + 1) % 16 → X2 i = X i ∧ V2 i = V i ∧ hh2 i = hh i ∧ ww2 i = ww i) ∧ U2 0 = upd (U 0) (f % 16) (nI a1) ∧ U2 1 = upd (U 1) (f % 16) (nI a2)
set_option maxHeartbeats 4000000 in
set_option maxRecDepth 100000 in
/-- History.play(f, a1, a2) -/
theorem c_hplay (l : Launch) (D : va_G) (cs : Nat → ClassId) (ad : Nat → Nat) (n : Nat) (hJ : Inj ad n) (M : Nat → va_E) (k : Nat) (X V : Nat → Nat → UInt32) (hh : Nat → Int32) (ww : Nat → UInt64) (U : Nat → Nat → Int32) (hk : k + 53 ≤ n) (hH : HiA ad cs k M X V hh ww U) (f a1 a2 fc : Nat) (hf : f < 2 ^ 29) (ha1 : a1 < 8) (ha2 : a2 < 8) (hfc : fc ≤ 1000000) (hB : Bd (X (f % 16) 0) (V (f % 16) 0) (X (f % 16) 1) (V (f % 16) 1) (ww (f % 16)) fc) : CTv l yX0_play wsX0_play ({ frames := 2, cells := 0, slots := 0, locals := 53 }) D cs ad n M [.ref (ad k), .int (nI f), .int (nI a1), .int (nI a2)] (fun M2 => ∃ X2 V2 hh2 ww2 U2, HiA ad cs k M2 X2 V2 hh2 ww2 U2 ∧ HiP X V hh ww U f a1 a2 X2 V2 hh2 ww2 U2 ∧ ∀ j, (j < k ∨ k + 53 ≤ j) → M2 j = M j) := by
  refine Met.ofW (cc := cX0_play) (maxL := 4) (ret := none) (by decide) rfl ?_
  intro p e s m args below meth c s₁ B hml hv
  obtain ⟨rfl, hP, hK⟩ := hv
  have hx := B.exec
  have hb := B.bytes
  have hr := B.returns
  have hts := atoms_spec (ws := wsX0_play) B.pre
  have hown : s.vm.findClass RX0 = some m.cls := findClass_of_methodNamed B.named
  have hlocks := B.notSynchronized
  have hS : va_S (Ad ad n) s.heap s.heap [] := va_S.rf
  have hl := lv_entry ([.ref (ad k), .int (nI f), .int (nI a1), .int (nI a2)]) (n := 4) (Nat.le_of_ble_eq_true rfl)
  rw [lg_entry_eq]
  generalize (lg_sl ([.ref (ad k), .int (nI f), .int (nI a1), .int (nI a2)]) ++ List.replicate (4 - (lg_sl ([.ref (ad k), .int (nI f), .int (nI a1), .int (nI a2)])).length) Slot.unset).toArray = ls at hl ⊢
  have hl : lv_has ls 4 [(0, .ref (ad k)), (1, .int (nI f)), (2, .int (nI a1)), (3, .int (nI a2))] := hl
  have inX0 : ∀ w ∈ u_ws RX0 TX0 2, w ∈ wsX0_play := fun w h => List.mem_cons_of_mem _ (List.mem_append_left _ (List.mem_append_right _ h))
  have inX5 : ∀ w ∈ u_ws RX5 TX5 4, w ∈ wsX0_play := fun w h => List.mem_cons_of_mem _ (List.mem_append_right _ h)
  obtain ⟨h1, ⟨g, h2, hg⟩, ⟨g2, h3, hg0, hg1⟩, h4, h5, hst⟩ := id hH
  obtain ⟨s1, s2, s3⟩ := hst ((f + 1) % 16) (by omega)
  obtain ⟨t1, t2, t3⟩ := hst (f % 16) (by omega)
  refine lv_aload_n hx hb dX0_play_0 rfl (lv_at hl 0 rfl) ?_
  refine m_get hx hb hts inX0 hown hK hP (ci := 0) rfl (k := k) (by omega) h1 1 (by decide) (hts (.fieldLink RX0 19 "RollbackPair$History" "inputs" "[[B") (by decide +kernel)) rfl dX0_play_1 ?_
  refine lv_iconst (v := nI 0) hx hb dX0_play_4 (by decide) ?_
  refine m_aaldA hx hb hK hP 10 rfl (k := (k + 2)) (by omega) h3 (i := 0) (by decide) (by decide) (r := some (ad (k + 3))) hg0 dX0_play_5 ?_
  refine lv_iload_n hx hb dX0_play_6 rfl (lv_at hl 1 rfl) ?_
  refine lv_bipush (v := nI 15) hx hb dX0_play_7 (by decide) ?_
  refine n_and (d := f % 16) hx hb (and_mod (b := 4) rfl (by decide) (by omega)) dX0_play_9 ?_
  refine lv_iload_n hx hb dX0_play_10 rfl (lv_at hl 2 rfl) ?_
  refine lv_i2b hx hb dX0_play_11 rfl ?_
  refine n_val (b8 a1 ha1) ?_
  refine m_bast hx hb hK hP hJ hS (k := (k + 3)) (by omega) (f := (U 0)) h4 (i := f % 16) (y := nI a1) (by omega) (by decide) (b8 a1 ha1) dX0_play_12 (fun H locs hP hS => ?_)
  obtain ⟨M_1, eM_1⟩ : ∃ z, z = va_up M (k + 3) (eB cs 16 (upd (U 0) (f % 16) (nI a1))) := ⟨_, rfl⟩
  rw [← eM_1] at hP
  have h1_1 : M_1 k = .inr (0, [.ref (ad (k + 1)), .ref (ad (k + 2))]) := by rw [eM_1]; exact (va_up_ne _ _ (by omega)).trans h1
  have h1_2 : M_1 (k + 1) = eQ cs 8 16 g := by rw [eM_1]; exact (va_up_ne _ _ (by omega)).trans h2
  have h1_3 : M_1 (k + 2) = eQ cs 10 2 g2 := by rw [eM_1]; exact (va_up_ne _ _ (by omega)).trans h3
  have h1_4 : M_1 (k + 3) = eB cs 16 (upd (U 0) (f % 16) (nI a1)) := by rw [eM_1]; exact va_up_self _ _ _
  have h1_5 : M_1 (k + 4) = eB cs 16 (U 1) := by rw [eM_1]; exact (va_up_ne _ _ (by omega)).trans h5
  have h1_6 : M_1 (k + 5 + 3 * ((f + 1) % 16)) = .inr (5, [.ref (ad (k + 5 + 3 * ((f + 1) % 16) + 1)), .ref (ad (k + 5 + 3 * ((f + 1) % 16) + 2)), .int (hh ((f + 1) % 16)), .double (ww ((f + 1) % 16))]) := by rw [eM_1]; exact (va_up_ne _ _ (by omega)).trans s1
  have h1_7 : M_1 (k + 5 + 3 * ((f + 1) % 16) + 1) = eF cs 2 (X ((f + 1) % 16)) := by rw [eM_1]; exact (va_up_ne _ _ (by omega)).trans s2
  have h1_8 : M_1 (k + 5 + 3 * ((f + 1) % 16) + 2) = eF cs 2 (V ((f + 1) % 16)) := by rw [eM_1]; exact (va_up_ne _ _ (by omega)).trans s3
  have h1_9 : M_1 (k + 5 + 3 * (f % 16)) = .inr (5, [.ref (ad (k + 5 + 3 * (f % 16) + 1)), .ref (ad (k + 5 + 3 * (f % 16) + 2)), .int (hh (f % 16)), .double (ww (f % 16))]) := by rw [eM_1]; exact (va_up_ne _ _ (by omega)).trans t1
  have h1_10 : M_1 (k + 5 + 3 * (f % 16) + 1) = eF cs 2 (X (f % 16)) := by rw [eM_1]; exact (va_up_ne _ _ (by omega)).trans t2
  have h1_11 : M_1 (k + 5 + 3 * (f % 16) + 2) = eF cs 2 (V (f % 16)) := by rw [eM_1]; exact (va_up_ne _ _ (by omega)).trans t3
  refine lv_aload_n hx hb dX0_play_13 rfl (lv_at hl 0 rfl) ?_
  refine m_get hx hb hts inX0 hown hK hP (ci := 0) rfl (k := k) (by omega) h1_1 1 (by decide) (hts (.fieldLink RX0 19 "RollbackPair$History" "inputs" "[[B") (by decide +kernel)) rfl dX0_play_14 ?_
  refine lv_iconst (v := nI 1) hx hb dX0_play_17 (by decide) ?_
  refine m_aaldA hx hb hK hP 10 rfl (k := (k + 2)) (by omega) h1_3 (i := 1) (by decide) (by decide) (r := some (ad (k + 4))) hg1 dX0_play_18 ?_
  refine lv_iload_n hx hb dX0_play_19 rfl (lv_at hl 1 rfl) ?_
  refine lv_bipush (v := nI 15) hx hb dX0_play_20 (by decide) ?_
  refine n_and (d := f % 16) hx hb (and_mod (b := 4) rfl (by decide) (by omega)) dX0_play_22 ?_
  refine lv_iload_n hx hb dX0_play_23 rfl (lv_at hl 3 rfl) ?_
  refine lv_i2b hx hb dX0_play_24 rfl ?_
  refine n_val (b8 a2 ha2) ?_
  refine m_bast hx hb hK hP hJ hS (k := (k + 4)) (by omega) (f := (U 1)) h1_5 (i := f % 16) (y := nI a2) (by omega) (by decide) (b8 a2 ha2) dX0_play_25 (fun H locs hP hS => ?_)
  obtain ⟨M_2, eM_2⟩ : ∃ z, z = va_up M_1 (k + 4) (eB cs 16 (upd (U 1) (f % 16) (nI a2))) := ⟨_, rfl⟩
  rw [← eM_2] at hP
  have h2_1 : M_2 k = .inr (0, [.ref (ad (k + 1)), .ref (ad (k + 2))]) := by rw [eM_2]; exact (va_up_ne _ _ (by omega)).trans h1_1
  have h2_2 : M_2 (k + 1) = eQ cs 8 16 g := by rw [eM_2]; exact (va_up_ne _ _ (by omega)).trans h1_2
  have h2_3 : M_2 (k + 2) = eQ cs 10 2 g2 := by rw [eM_2]; exact (va_up_ne _ _ (by omega)).trans h1_3
  have h2_4 : M_2 (k + 3) = eB cs 16 (upd (U 0) (f % 16) (nI a1)) := by rw [eM_2]; exact (va_up_ne _ _ (by omega)).trans h1_4
  have h2_5 : M_2 (k + 4) = eB cs 16 (upd (U 1) (f % 16) (nI a2)) := by rw [eM_2]; exact va_up_self _ _ _
  have h2_6 : M_2 (k + 5 + 3 * ((f + 1) % 16)) = .inr (5, [.ref (ad (k + 5 + 3 * ((f + 1) % 16) + 1)), .ref (ad (k + 5 + 3 * ((f + 1) % 16) + 2)), .int (hh ((f + 1) % 16)), .double (ww ((f + 1) % 16))]) := by rw [eM_2]; exact (va_up_ne _ _ (by omega)).trans h1_6
  have h2_7 : M_2 (k + 5 + 3 * ((f + 1) % 16) + 1) = eF cs 2 (X ((f + 1) % 16)) := by rw [eM_2]; exact (va_up_ne _ _ (by omega)).trans h1_7
  have h2_8 : M_2 (k + 5 + 3 * ((f + 1) % 16) + 2) = eF cs 2 (V ((f + 1) % 16)) := by rw [eM_2]; exact (va_up_ne _ _ (by omega)).trans h1_8
  have h2_9 : M_2 (k + 5 + 3 * (f % 16)) = .inr (5, [.ref (ad (k + 5 + 3 * (f % 16) + 1)), .ref (ad (k + 5 + 3 * (f % 16) + 2)), .int (hh (f % 16)), .double (ww (f % 16))]) := by rw [eM_2]; exact (va_up_ne _ _ (by omega)).trans h1_9
  have h2_10 : M_2 (k + 5 + 3 * (f % 16) + 1) = eF cs 2 (X (f % 16)) := by rw [eM_2]; exact (va_up_ne _ _ (by omega)).trans h1_10
  have h2_11 : M_2 (k + 5 + 3 * (f % 16) + 2) = eF cs 2 (V (f % 16)) := by rw [eM_2]; exact (va_up_ne _ _ (by omega)).trans h1_11
  refine lv_aload_n hx hb dX0_play_26 rfl (lv_at hl 0 rfl) ?_
  refine lv_iload_n hx hb dX0_play_27 rfl (lv_at hl 1 rfl) ?_
  refine lv_iconst (v := nI 1) hx hb dX0_play_28 (by decide) ?_
  refine n_add hx hb dX0_play_29 ?_
  refine k_Vq (As := [.int (nI (f + 1))]) (rest := []) (k := k) (ci := 0) ⟨hx, hb, hml, hown, hts⟩ hK hP hS Ad_le (c_before l D cs ad n hJ M_2 k g hk h2_1 h2_2 hg (f + 1) (by omega)) (cwV 1 hts gX0_play_X0_before rfl rfl rfl (by decide +kernel) ⟨Nat.le_of_ble_eq_true rfl, Nat.le_of_ble_eq_true rfl⟩) (by omega) h2_1 rfl rfl rfl hl.1 (Nat.le_of_ble_eq_true rfl) dX0_play_30 ⟨Nat.le_of_ble_eq_true rfl, Nat.le_of_ble_eq_true rfl⟩ (fun r_1 M1 H locs hpo hP hS _ _ => ?_)
  obtain ⟨hMe, rfl⟩ := hpo
  rw [hMe] at hP
  refine lv_aload_n hx hb dX0_play_33 rfl (lv_at hl 0 rfl) ?_
  refine lv_iload_n hx hb dX0_play_34 rfl (lv_at hl 1 rfl) ?_
  refine k_Vq (As := [.int (nI f)]) (rest := [.ref (ad (k + 5 + 3 * ((f + 1) % 16)))]) (k := k) (ci := 0) ⟨hx, hb, hml, hown, hts⟩ hK hP hS Ad_le (c_before l D cs ad n hJ M_2 k g hk h2_1 h2_2 hg f (by omega)) (cwV 1 hts gX0_play_X0_before rfl rfl rfl (by decide +kernel) ⟨Nat.le_of_ble_eq_true rfl, Nat.le_of_ble_eq_true rfl⟩) (by omega) h2_1 rfl rfl rfl hl.1 (Nat.le_of_ble_eq_true rfl) dX0_play_35 ⟨Nat.le_of_ble_eq_true rfl, Nat.le_of_ble_eq_true rfl⟩ (fun r_2 M1 H locs hpo hP hS _ _ => ?_)
  obtain ⟨hMe, rfl⟩ := hpo
  rw [hMe] at hP
  refine lv_iload_n hx hb dX0_play_38 rfl (lv_at hl 2 rfl) ?_
  refine lv_iload_n hx hb dX0_play_39 rfl (lv_at hl 3 rfl) ?_
  refine k_Vv (As := [.ref (ad (k + 5 + 3 * (f % 16))), .int (nI a1), .int (nI a2)]) (rest := []) (k := (k + 5 + 3 * ((f + 1) % 16))) (ci := 5) ⟨hx, hb, hml, hown, hts⟩ hK hP hS Ad_le (c_follow l D cs ad n hJ M_2 (k + 5 + 3 * ((f + 1) % 16)) (X ((f + 1) % 16)) (V ((f + 1) % 16)) (hh ((f + 1) % 16)) (ww ((f + 1) % 16)) (by omega) h2_6 h2_7 h2_8 (k + 5 + 3 * (f % 16)) (X (f % 16)) (V (f % 16)) (hh (f % 16)) (ww (f % 16)) (by omega) (by omega) h2_9 h2_10 h2_11 a1 a2 fc ha1 ha2 hfc hB) (cwV 3 hts gX0_play_X5_follow rfl rfl rfl (by decide +kernel) ⟨Nat.le_of_ble_eq_true rfl, Nat.le_of_ble_eq_true rfl⟩) (by omega) h2_6 rfl rfl rfl hl.1 (Nat.le_of_ble_eq_true rfl) dX0_play_40 ⟨Nat.le_of_ble_eq_true rfl, Nat.le_of_ble_eq_true rfl⟩ (fun N1 H locs hpo hP hS _ _ => ?_)
  obtain ⟨r1, ⟨X9, r2, r3, r4⟩, ⟨V9, r5, r6, r7⟩, rf⟩ := hpo
  have fr : ∀ j, j ≠ k + 3 → j ≠ k + 4 → (j < k + 5 + 3 * ((f + 1) % 16) ∨ k + 5 + 3 * ((f + 1) % 16) + 3 ≤ j) → N1 j = M j := fun j z1 z2 z3 => by rw [rf j z3, eM_2, va_up_ne _ _ z2, eM_1, va_up_ne _ _ z1]
  refine r_v hx hb hr hlocks hK hP hS dX0_play_43 ⟨va_up X ((f + 1) % 16) X9, va_up V ((f + 1) % 16) V9, va_up hh ((f + 1) % 16) (hh (f % 16) + st_m (mv (X (f % 16) 0) (V (f % 16) 0) (nI a1)) (mv (X (f % 16) 1) (V (f % 16) 1) (nI a2))), va_up ww ((f + 1) % 16) (st_w (mv (X (f % 16) 0) (V (f % 16) 0) (nI a1)) (mv (X (f % 16) 1) (V (f % 16) 1) (nI a2)) (ww (f % 16))), fun u => if u = 0 then upd (U 0) (f % 16) (nI a1) else upd (U 1) (f % 16) (nI a2), ⟨(fr _ (by omega) (by omega) (by omega)).trans h1, ⟨g, (fr _ (by omega) (by omega) (by omega)).trans h2, hg⟩, ⟨g2, (fr _ (by omega) (by omega) (by omega)).trans h3, hg0, hg1⟩, ?_, ?_, fun i hi => ?_⟩, ⟨?_, ?_, ?_, ?_, va_up_self _ _ _, va_up_self _ _ _, fun i hi => ⟨va_up_ne _ _ hi, va_up_ne _ _ hi, va_up_ne _ _ hi, va_up_ne _ _ hi⟩, rfl, rfl⟩, fun j hj => fr j (by omega) (by omega) (by omega)⟩
  · exact (rf _ (by omega)).trans h2_4
  · exact (rf _ (by omega)).trans h2_5
  · by_cases hi2 : i = (f + 1) % 16
    · subst hi2
      rw [va_up_self, va_up_self, va_up_self, va_up_self]
      exact ⟨r1, r2, r5⟩
    · obtain ⟨u1, u2, u3⟩ := hst i hi
      rw [va_up_ne _ _ hi2, va_up_ne _ _ hi2, va_up_ne _ _ hi2, va_up_ne _ _ hi2]
      exact ⟨(fr _ (by omega) (by omega) (by omega)).trans u1, (fr _ (by omega) (by omega) (by omega)).trans u2, (fr _ (by omega) (by omega) (by omega)).trans u3⟩
  · rw [va_up_self]; exact r3
  · rw [va_up_self]; exact r4
  · rw [va_up_self]; exact r6
  · rw [va_up_self]; exact r7
def hiU (U : Nat → Nat → Int32) (pl : Nat) (fr : Int32) (a : Nat) : Int32 := if ¬ fr < 0 ∧ tn fr < a ∧ a ≤ tn fr + 15 then U pl (tn fr % 16) else -1
def hiS (X V : Nat → Nat → UInt32) (hh : Nat → Int32) (ww : Nat → UInt64) (fr : Int32) (a : Nat) : Int32 := if ¬ fr < 0 ∧ tn fr ≤ a ∧ a ≤ tn fr + 15 then sumS (X (tn fr % 16) 0) (V (tn fr % 16) 0) (X (tn fr % 16) 1) (V (tn fr % 16) 1) (hh (tn fr % 16)) (ww (tn fr % 16)) else nI 0
set_option maxHeartbeats 4000000 in
set_option maxRecDepth 100000 in
/-- History.inputPlayed(pl, fr, a) -/
theorem c_inputPlayed (l : Launch) (D : va_G) (cs : Nat → ClassId) (ad : Nat → Nat) (n : Nat) (hJ : Inj ad n) (M : Nat → va_E) (k : Nat) (X V : Nat → Nat → UInt32) (hh : Nat → Int32) (ww : Nat → UInt64) (U : Nat → Nat → Int32) (hk : k + 53 ≤ n) (hH : HiA ad cs k M X V hh ww U) (pl a : Nat) (fr : Int32) (hpl : pl < 2) (ha : a < 2 ^ 20) : CTi l yX0_inputPlayed wsX0_inputPlayed ({ frames := 0, cells := 0, slots := 0, locals := 0 }) D cs ad n M [.ref (ad k), .int (nI pl), .int fr, .int (nI a)] (fun r M2 => M2 = M ∧ r = hiU U pl fr a) := by
  refine Met.ofW (cc := cX0_inputPlayed) (maxL := 4) (ret := (some .int)) (by decide) rfl ?_
  intro p e s m args below meth c s₁ B hml hv
  obtain ⟨rfl, hP, hK⟩ := hv
  have hx := B.exec
  have hb := B.bytes
  have hr := B.returns
  have hts := atoms_spec (ws := wsX0_inputPlayed) B.pre
  have hown : s.vm.findClass RX0 = some m.cls := findClass_of_methodNamed B.named
  have hlocks := B.notSynchronized
  have hS : va_S (Ad ad n) s.heap s.heap [] := va_S.rf
  have hl := lv_entry ([.ref (ad k), .int (nI pl), .int fr, .int (nI a)]) (n := 4) (Nat.le_of_ble_eq_true rfl)
  rw [lg_entry_eq]
  generalize (lg_sl ([.ref (ad k), .int (nI pl), .int fr, .int (nI a)]) ++ List.replicate (4 - (lg_sl ([.ref (ad k), .int (nI pl), .int fr, .int (nI a)])).length) Slot.unset).toArray = ls at hl ⊢
  have hl : lv_has ls 4 [(0, .ref (ad k)), (1, .int (nI pl)), (2, .int fr), (3, .int (nI a))] := hl
  have inX0 : ∀ w ∈ u_ws RX0 TX0 2, w ∈ wsX0_inputPlayed := fun w h => List.mem_cons_of_mem _ (List.mem_append_right _ h)
  obtain ⟨h1, ⟨g, h2, hg⟩, ⟨g2, h3, hg0, hg1⟩, h4, h5, hst⟩ := id hH
  have hU : M (k + 3 + pl) = eB cs 16 (U pl) := by
    rcases (show pl = 0 ∨ pl = 1 by omega) with rfl | rfl
    · exact h4
    · exact h5
  have hgp : g2 pl = some (ad (k + 3 + pl)) := by
    rcases (show pl = 0 ∨ pl = 1 by omega) with rfl | rfl
    · exact hg0
    · exact hg1
  refine lv_iload_n hx hb dX0_inputPlayed_0 rfl (lv_at hl 2 rfl) ?_
  refine lv_if_lt (tgt := 17) hx hb dX0_inputPlayed_1 (by decide) (fun c1 => ?_) (fun c1 => ?_)
  · refine lv_iconst (v := (-1)) hx hb dX0_inputPlayed_17 (by decide) ?_
    exact r_i hx hb hr hlocks hK hP hS dX0_inputPlayed_18 ⟨rfl, by unfold hiU; rw [if_neg (fun z => z.1 c1)]⟩
  · obtain ⟨f, hf, rfl⟩ := nI_of c1
    refine lv_iload_n hx hb dX0_inputPlayed_4 rfl (lv_at hl 2 rfl) ?_
    refine lv_iload_n hx hb dX0_inputPlayed_5 rfl (lv_at hl 3 rfl) ?_
    refine n_cmp_ge (tgt := 17) hx hb dX0_inputPlayed_6 (by decide) (by omega) (by omega) (fun c2 => ?_) (fun c2 => ?_)
    · refine lv_iconst (v := (-1)) hx hb dX0_inputPlayed_17 (by decide) ?_
      exact r_i hx hb hr hlocks hK hP hS dX0_inputPlayed_18 ⟨rfl, by unfold hiU; rw [if_neg (fun z => by have h9 := z.2.1; rw [tn_nI hf] at h9; omega)]⟩
    · refine lv_iload_n hx hb dX0_inputPlayed_9 rfl (lv_at hl 3 rfl) ?_
      refine lv_iload_n hx hb dX0_inputPlayed_10 rfl (lv_at hl 2 rfl) ?_
      refine n_sub hx hb (by omega) dX0_inputPlayed_11 ?_
      refine lv_bipush (v := nI 15) hx hb dX0_inputPlayed_12 (by decide) ?_
      refine n_cmp_le (tgt := 19) hx hb dX0_inputPlayed_14 (by decide) (by omega) (by omega) (fun c3 => ?_) (fun c3 => ?_)
      · refine lv_aload_n hx hb dX0_inputPlayed_19 rfl (lv_at hl 0 rfl) ?_
        refine m_get hx hb hts inX0 hown hK hP (ci := 0) rfl (k := k) (by omega) h1 1 (by decide) (hts (.fieldLink RX0 19 "RollbackPair$History" "inputs" "[[B") (by decide +kernel)) rfl dX0_inputPlayed_20 ?_
        refine lv_iload_n hx hb dX0_inputPlayed_23 rfl (lv_at hl 1 rfl) ?_
        refine m_aaldA hx hb hK hP 10 rfl (k := (k + 2)) (by omega) h3 (i := pl) (by omega) (by decide) (r := some (ad (k + 3 + pl))) hgp dX0_inputPlayed_24 ?_
        refine lv_iload_n hx hb dX0_inputPlayed_25 rfl (lv_at hl 2 rfl) ?_
        refine lv_bipush (v := nI 15) hx hb dX0_inputPlayed_26 (by decide) ?_
        refine n_and (d := f % 16) hx hb (and_mod (b := 4) rfl (by decide) (by omega)) dX0_inputPlayed_28 ?_
        refine m_bald hx hb hK hP (k := (k + 3 + pl)) (by omega) (f := (U pl)) hU (i := f % 16) (by omega) (by decide) dX0_inputPlayed_29 ?_
        exact r_i hx hb hr hlocks hK hP hS dX0_inputPlayed_30 ⟨rfl, by unfold hiU; rw [tn_nI hf, if_pos ⟨nI_pos hf, c2, by omega⟩]⟩
      · refine lv_iconst (v := (-1)) hx hb dX0_inputPlayed_17 (by decide) ?_
        exact r_i hx hb hr hlocks hK hP hS dX0_inputPlayed_18 ⟨rfl, by unfold hiU; rw [if_neg (fun z => by have h9 := z.2.2; rw [tn_nI hf] at h9; omega)]⟩
set_option maxHeartbeats 4000000 in
set_option maxRecDepth 100000 in
/-- History.sumBefore(fr, a) -/
theorem c_sumBefore (l : Launch) (D : va_G) (cs : Nat → ClassId) (ad : Nat → Nat) (n : Nat) (hJ : Inj ad n) (M : Nat → va_E) (k : Nat) (X V : Nat → Nat → UInt32) (hh : Nat → Int32) (ww : Nat → UInt64) (U : Nat → Nat → Int32) (hk : k + 53 ≤ n) (hH : HiA ad cs k M X V hh ww U) (a : Nat) (fr : Int32) (ha : a < 2 ^ 20) (hB : ∀ f, f ≤ a → a ≤ f + 15 → Bd (X (f % 16) 0) (V (f % 16) 0) (X (f % 16) 1) (V (f % 16) 1) (ww (f % 16)) f) : CTi l yX0_sumBefore wsX0_sumBefore ({ frames := 1, cells := 0, slots := 0, locals := 22 }) D cs ad n M [.ref (ad k), .int fr, .int (nI a)] (fun r M2 => M2 = M ∧ r = hiS X V hh ww fr a) := by
  refine Met.ofW (cc := cX0_sumBefore) (maxL := 3) (ret := (some .int)) (by decide) rfl ?_
  intro p e s m args below meth c s₁ B hml hv
  obtain ⟨rfl, hP, hK⟩ := hv
  have hx := B.exec
  have hb := B.bytes
  have hr := B.returns
  have hts := atoms_spec (ws := wsX0_sumBefore) B.pre
  have hown : s.vm.findClass RX0 = some m.cls := findClass_of_methodNamed B.named
  have hlocks := B.notSynchronized
  have hS : va_S (Ad ad n) s.heap s.heap [] := va_S.rf
  have hl := lv_entry ([.ref (ad k), .int fr, .int (nI a)]) (n := 3) (Nat.le_of_ble_eq_true rfl)
  rw [lg_entry_eq]
  generalize (lg_sl ([.ref (ad k), .int fr, .int (nI a)]) ++ List.replicate (3 - (lg_sl ([.ref (ad k), .int fr, .int (nI a)])).length) Slot.unset).toArray = ls at hl ⊢
  have hl : lv_has ls 3 [(0, .ref (ad k)), (1, .int fr), (2, .int (nI a))] := hl
  have inX0 : ∀ w ∈ u_ws RX0 TX0 2, w ∈ wsX0_sumBefore := fun w h => List.mem_cons_of_mem _ (List.mem_append_left _ (List.mem_append_right _ h))
  have inX5 : ∀ w ∈ u_ws RX5 TX5 4, w ∈ wsX0_sumBefore := fun w h => List.mem_cons_of_mem _ (List.mem_append_right _ h)
  obtain ⟨h1, ⟨g, h2, hg⟩, ⟨g2, h3, hg0, hg1⟩, h4, h5, hst⟩ := id hH
  refine lv_iload_n hx hb dX0_sumBefore_0 rfl (lv_at hl 1 rfl) ?_
  refine lv_if_lt (tgt := 17) hx hb dX0_sumBefore_1 (by decide) (fun c1 => ?_) (fun c1 => ?_)
  · refine lv_iconst (v := nI 0) hx hb dX0_sumBefore_17 (by decide) ?_
    exact r_i hx hb hr hlocks hK hP hS dX0_sumBefore_18 ⟨rfl, by unfold hiS; rw [if_neg (fun z => z.1 c1)]⟩
  · obtain ⟨f, hf, rfl⟩ := nI_of c1
    refine lv_iload_n hx hb dX0_sumBefore_4 rfl (lv_at hl 1 rfl) ?_
    refine lv_iload_n hx hb dX0_sumBefore_5 rfl (lv_at hl 2 rfl) ?_
    refine n_cmp_gt (tgt := 17) hx hb dX0_sumBefore_6 (by decide) (by omega) (by omega) (fun c2 => ?_) (fun c2 => ?_)
    · refine lv_iconst (v := nI 0) hx hb dX0_sumBefore_17 (by decide) ?_
      exact r_i hx hb hr hlocks hK hP hS dX0_sumBefore_18 ⟨rfl, by unfold hiS; rw [if_neg (fun z => by have h9 := z.2.1; rw [tn_nI hf] at h9; omega)]⟩
    · refine lv_iload_n hx hb dX0_sumBefore_9 rfl (lv_at hl 2 rfl) ?_
      refine lv_iload_n hx hb dX0_sumBefore_10 rfl (lv_at hl 1 rfl) ?_
      refine n_sub hx hb (by omega) dX0_sumBefore_11 ?_
      refine lv_bipush (v := nI 15) hx hb dX0_sumBefore_12 (by decide) ?_
      refine n_cmp_le (tgt := 19) hx hb dX0_sumBefore_14 (by decide) (by omega) (by omega) (fun c3 => ?_) (fun c3 => ?_)
      · refine lv_aload_n hx hb dX0_sumBefore_19 rfl (lv_at hl 0 rfl) ?_
        refine lv_iload_n hx hb dX0_sumBefore_20 rfl (lv_at hl 1 rfl) ?_
        refine k_Vq (As := [.int (nI f)]) (rest := []) (k := k) (ci := 0) ⟨hx, hb, hml, hown, hts⟩ hK hP hS Ad_le (c_before l D cs ad n hJ M k g hk h1 h2 hg f (by omega)) (cwV 1 hts gX0_sumBefore_X0_before rfl rfl rfl (by decide +kernel) ⟨Nat.le_of_ble_eq_true rfl, Nat.le_of_ble_eq_true rfl⟩) (by omega) h1 rfl rfl rfl hl.1 (Nat.le_of_ble_eq_true rfl) dX0_sumBefore_21 ⟨Nat.le_of_ble_eq_true rfl, Nat.le_of_ble_eq_true rfl⟩ (fun r_1 M1 H locs hpo hP hS _ _ => ?_)
        obtain ⟨hMe, rfl⟩ := hpo
        rw [hMe] at hP
        obtain ⟨t1, t2, t3⟩ := hst (f % 16) (by omega)
        refine k_Vi (As := []) (rest := []) (k := (k + 5 + 3 * (f % 16))) (ci := 5) ⟨hx, hb, hml, hown, hts⟩ hK hP hS Ad_le (c_total l D cs ad n hJ M (k + 5 + 3 * (f % 16)) (X (f % 16)) (V (f % 16)) (hh (f % 16)) (ww (f % 16)) (by omega) t1 t2 t3 f (hB f (by omega) (by omega))) (cwV 0 hts gX0_sumBefore_X5_total rfl rfl rfl (by decide +kernel) ⟨Nat.le_of_ble_eq_true rfl, Nat.le_of_ble_eq_true rfl⟩) (by omega) t1 rfl rfl rfl hl.1 (Nat.le_of_ble_eq_true rfl) dX0_sumBefore_24 ⟨Nat.le_of_ble_eq_true rfl, Nat.le_of_ble_eq_true rfl⟩ (fun r_2 M1 H locs hpo hP hS _ _ => ?_)
        obtain ⟨hMe, rfl⟩ := hpo
        rw [hMe] at hP
        exact r_i hx hb hr hlocks hK hP hS dX0_sumBefore_27 ⟨rfl, by unfold hiS; rw [tn_nI hf, if_pos ⟨nI_pos hf, by omega, by omega⟩]⟩
      · refine lv_iconst (v := nI 0) hx hb dX0_sumBefore_17 (by decide) ?_
        exact r_i hx hb hr hlocks hK hP hS dX0_sumBefore_18 ⟨rfl, by unfold hiS; rw [if_neg (fun z => by have h9 := z.2.2; rw [tn_nI hf] at h9; omega)]⟩
