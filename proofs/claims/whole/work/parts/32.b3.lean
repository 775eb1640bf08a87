set_option maxHeartbeats 4000000 in
set_option maxRecDepth 100000 in
/-- Packet() -/
theorem i_X2 (l : Launch) (D : va_G) (cs : Nat → ClassId) (ad : Nat → Nat) (b : Nat) (hab : ∀ k, ad k = b + k) (M : Nat → va_E) (k : Nat) (fs : List Value) (h1 : M k = .inr (2, fs)) : CB l yX2_init wsX2_init ({ frames := 1, cells := 0, slots := 0, locals := 12 }) D cs ad b (k + 1) (k + 1) M [.ref (ad k)] (fun M2 => M2 = M) 0 0 := by
  refine Met.ofW (cc := cX2_init) (maxL := 1) (ret := none) (by decide) rfl ?_
  intro p e s m args below meth c s₁ B hml hv
  obtain ⟨rfl, hz, ⟨hP, hK⟩, hX⟩ := hv
  have hin : meth.name = "<init>" := (name_of_methodNamed B.named B.method).1
  have hx := B.exec
  have hb := B.bytes
  have hr := B.returns
  have hts := atoms_spec (ws := wsX2_init) B.pre
  have hown : s.vm.findClass RX2 = some m.cls := findClass_of_methodNamed B.named
  have hlocks := B.notSynchronized
  have hS : va_S (Ge b) s.heap s.heap [] := va_S.rf
  have hl := lv_entry ([.ref (ad k)]) (n := 1) (Nat.le_of_ble_eq_true rfl)
  rw [lg_entry_eq]
  generalize (lg_sl ([.ref (ad k)]) ++ List.replicate (1 - (lg_sl ([.ref (ad k)])).length) Slot.unset).toArray = ls at hl ⊢
  have hl : lv_has ls 1 [(0, .ref (ad k))] := hl
  refine lv_aload_n hx hb dX2_init_0 rfl (lv_at hl 0 rfl) ?_
  refine W.objInit hx hb hown (hts (.methodLink RX2 3 objectInit) (by decide +kernel)) (hts (.instanceMethod objectInit) (by decide +kernel)) (hts (.code objectInit ⟨#[0xb1]⟩ 1 none) (by decide +kernel)) rfl (by rw [hml]; exact hl.1) rfl dX2_init_1 (Nat.le_of_ble_eq_true rfl) (Nat.le_of_ble_eq_true rfl) ?_
  refine W.eq (g2 := F0 m 4 ls []) rfl ?_
  exact b_ret hx hb hr hlocks hK hX hP hz hS dX2_init_4 rfl
def stX : Nat → UInt32 := vf_upd (vf_upd (fun _ => 0) 0 1090519040) 1 1103101952
set_option maxHeartbeats 4000000 in
set_option maxRecDepth 100000 in
/-- State() -/
theorem i_X5 (l : Launch) (D : va_G) (cs : Nat → ClassId) (ad : Nat → Nat) (b : Nat) (hab : ∀ k, ad k = b + k) (M : Nat → va_E) (k : Nat) (h1 : M k = .inr (5, [.null, .null, .int 0, .double 0])) : CB l yX5_init wsX5_init ({ frames := 1, cells := 2, slots := 4, locals := 12 }) D cs ad b (k + 1) (k + 3) M [.ref (ad k)] (fun M2 => M2 k = oSt ad k 0 0 ∧ M2 (k + 1) = eF cs 2 stX ∧ M2 (k + 2) = eF cs 2 (fun _ => 0) ∧ ∀ j, j < k → M2 j = M j) 2 4 := by
  refine Met.ofW (cc := cX5_init) (maxL := 1) (ret := none) (by decide) rfl ?_
  intro p e s m args below meth c s₁ B hml hv
  obtain ⟨rfl, hz, ⟨hP, hK⟩, hX⟩ := hv
  have hin : meth.name = "<init>" := (name_of_methodNamed B.named B.method).1
  have hx := B.exec
  have hb := B.bytes
  have hr := B.returns
  have hts := atoms_spec (ws := wsX5_init) B.pre
  have hown : s.vm.findClass RX5 = some m.cls := findClass_of_methodNamed B.named
  have hlocks := B.notSynchronized
  have hS : va_S (Ge b) s.heap s.heap [] := va_S.rf
  have hl := lv_entry ([.ref (ad k)]) (n := 1) (Nat.le_of_ble_eq_true rfl)
  rw [lg_entry_eq]
  generalize (lg_sl ([.ref (ad k)]) ++ List.replicate (1 - (lg_sl ([.ref (ad k)])).length) Slot.unset).toArray = ls at hl ⊢
  have hl : lv_has ls 1 [(0, .ref (ad k))] := hl
  have inX5 : ∀ w ∈ u_ws RX5 TX5 4, w ∈ wsX5_init := fun w h => List.mem_cons_of_mem _ (List.mem_append_right _ h)
  refine lv_aload_n hx hb dX5_init_0 rfl (lv_at hl 0 rfl) ?_
  refine W.objInit hx hb hown (hts (.methodLink RX5 1 objectInit) (by decide +kernel)) (hts (.instanceMethod objectInit) (by decide +kernel)) (hts (.code objectInit ⟨#[0xb1]⟩ 1 none) (by decide +kernel)) rfl (by rw [hml]; exact hl.1) rfl dX5_init_1 (Nat.le_of_ble_eq_true rfl) (Nat.le_of_ble_eq_true rfl) ?_
  refine W.eq (g2 := F0 m 4 ls []) rfl ?_
  refine lv_aload_n hx hb dX5_init_4 rfl (lv_at hl 0 rfl) ?_
  refine lv_iconst (v := nI 2) hx hb dX5_init_5 (by decide) ?_
  refine b_newa hx hb (atype := .float) (hts (.arrayClass .float) (by decide +kernel)) hab hK hP hz hS 4 rfl rfl (a0 := (2, .inr (.inr (.inl (fun _ => 0))))) (fun cA => vp_cell_f cA _ _) (by decide) (by decide) (Nat.le_of_ble_eq_true rfl) (Nat.le_of_ble_eq_true rfl) dX5_init_6 (fun H hP hS hz => ?_)
  obtain ⟨M_1, eM_1⟩ : ∃ z, z = va_up M (k + 1) (eF cs 2 (fun _ => 0)) := ⟨_, rfl⟩
  rw [← eM_1] at hP
  have h1_1 : M_1 k = .inr (5, [.null, .null, .int 0, .double 0]) := by rw [eM_1]; exact (va_up_ne _ _ (by omega)).trans h1
  have h1_2 : M_1 (k + 1) = eF cs 2 (fun _ => 0) := by rw [eM_1]; exact va_up_self _ _ _
  refine b_putF hx hb hts inX5 tyX5 tyX5_ok nmX5 hown hab hK hP hS (ci := 5) rfl (k := k) (by omega) h1_1 0 (by decide) (hts (.fieldLink RX5 7 "RollbackPair$State" "places" "[F") (by decide +kernel)) rfl hin rfl rfl rfl (Nat.le_of_ble_eq_true rfl) (fs' := [.ref (ad (k + 1)), .null, .int 0, .double 0]) rfl dX5_init_8 (fun H locs hP hS hq => ?_)
  replace hz := hq.trans hz
  obtain ⟨M_2, eM_2⟩ : ∃ z, z = va_up M_1 k (.inr (5, [.ref (ad (k + 1)), .null, .int 0, .double 0])) := ⟨_, rfl⟩
  rw [← eM_2] at hP
  have h2_1 : M_2 k = .inr (5, [.ref (ad (k + 1)), .null, .int 0, .double 0]) := by rw [eM_2]; exact va_up_self _ _ _
  have h2_2 : M_2 (k + 1) = eF cs 2 (fun _ => 0) := by rw [eM_2]; exact (va_up_ne _ _ (by omega)).trans h1_2
  refine lv_aload_n hx hb dX5_init_11 rfl (lv_at hl 0 rfl) ?_
  refine lv_iconst (v := nI 2) hx hb dX5_init_12 (by decide) ?_
  refine b_newa hx hb (atype := .float) (hts (.arrayClass .float) (by decide +kernel)) hab hK hP hz hS 4 rfl rfl (a0 := (2, .inr (.inr (.inl (fun _ => 0))))) (fun cA => vp_cell_f cA _ _) (by decide) (by decide) (Nat.le_of_ble_eq_true rfl) (Nat.le_of_ble_eq_true rfl) dX5_init_13 (fun H hP hS hz => ?_)
  obtain ⟨M_3, eM_3⟩ : ∃ z, z = va_up M_2 (k + 2) (eF cs 2 (fun _ => 0)) := ⟨_, rfl⟩
  rw [← eM_3] at hP
  have h3_1 : M_3 k = .inr (5, [.ref (ad (k + 1)), .null, .int 0, .double 0]) := by rw [eM_3]; exact (va_up_ne _ _ (by omega)).trans h2_1
  have h3_2 : M_3 (k + 1) = eF cs 2 (fun _ => 0) := by rw [eM_3]; exact (va_up_ne _ _ (by omega)).trans h2_2
  have h3_3 : M_3 (k + 2) = eF cs 2 (fun _ => 0) := by rw [eM_3]; exact va_up_self _ _ _
  refine b_putF hx hb hts inX5 tyX5 tyX5_ok nmX5 hown hab hK hP hS (ci := 5) rfl (k := k) (by omega) h3_1 1 (by decide) (hts (.fieldLink RX5 13 "RollbackPair$State" "speeds" "[F") (by decide +kernel)) rfl hin rfl rfl rfl (Nat.le_of_ble_eq_true rfl) (fs' := [.ref (ad (k + 1)), .ref (ad (k + 2)), .int 0, .double 0]) rfl dX5_init_15 (fun H locs hP hS hq => ?_)
  replace hz := hq.trans hz
  obtain ⟨M_4, eM_4⟩ : ∃ z, z = va_up M_3 k (.inr (5, [.ref (ad (k + 1)), .ref (ad (k + 2)), .int 0, .double 0])) := ⟨_, rfl⟩
  rw [← eM_4] at hP
  have h4_1 : M_4 k = .inr (5, [.ref (ad (k + 1)), .ref (ad (k + 2)), .int 0, .double 0]) := by rw [eM_4]; exact va_up_self _ _ _
  have h4_2 : M_4 (k + 1) = eF cs 2 (fun _ => 0) := by rw [eM_4]; exact (va_up_ne _ _ (by omega)).trans h3_2
  have h4_3 : M_4 (k + 2) = eF cs 2 (fun _ => 0) := by rw [eM_4]; exact (va_up_ne _ _ (by omega)).trans h3_3
  refine lv_aload_n hx hb dX5_init_18 rfl (lv_at hl 0 rfl) ?_
  refine m_get hx hb hts inX5 hown hK hP (ci := 5) rfl (k := k) (by omega) h4_1 0 (by decide) (hts (.fieldLink RX5 7 "RollbackPair$State" "places" "[F") (by decide +kernel)) rfl dX5_init_19 ?_
  refine lv_iconst (v := nI 0) hx hb dX5_init_22 (by decide) ?_
  refine lv_ldcf hx hb hown (hts (.constantFloat RX5 16 (1090519040)) (by decide +kernel)) dX5_init_23 ?_
  refine b_fast hx hb hab hK hP hS (k := (k + 1)) (by omega) (f := (fun _ => 0)) h4_2 (i := 0) (by omega) (by decide) dX5_init_25 (fun H locs hP hS hq => ?_)
  replace hz := hq.trans hz
  obtain ⟨M_5, eM_5⟩ : ∃ z, z = va_up M_4 (k + 1) (eF cs 2 (vf_upd (fun _ => 0) 0 1090519040)) := ⟨_, rfl⟩
  rw [← eM_5] at hP
  have h5_1 : M_5 k = .inr (5, [.ref (ad (k + 1)), .ref (ad (k + 2)), .int 0, .double 0]) := by rw [eM_5]; exact (va_up_ne _ _ (by omega)).trans h4_1
  have h5_2 : M_5 (k + 1) = eF cs 2 (vf_upd (fun _ => 0) 0 1090519040) := by rw [eM_5]; exact va_up_self _ _ _
  have h5_3 : M_5 (k + 2) = eF cs 2 (fun _ => 0) := by rw [eM_5]; exact (va_up_ne _ _ (by omega)).trans h4_3
  refine lv_aload_n hx hb dX5_init_26 rfl (lv_at hl 0 rfl) ?_
  refine m_get hx hb hts inX5 hown hK hP (ci := 5) rfl (k := k) (by omega) h5_1 0 (by decide) (hts (.fieldLink RX5 7 "RollbackPair$State" "places" "[F") (by decide +kernel)) rfl dX5_init_27 ?_
  refine lv_iconst (v := nI 1) hx hb dX5_init_30 (by decide) ?_
  refine lv_ldcf hx hb hown (hts (.constantFloat RX5 17 (1103101952)) (by decide +kernel)) dX5_init_31 ?_
  refine b_fast hx hb hab hK hP hS (k := (k + 1)) (by omega) (f := (vf_upd (fun _ => 0) 0 1090519040)) h5_2 (i := 1) (by omega) (by decide) dX5_init_33 (fun H locs hP hS hq => ?_)
  replace hz := hq.trans hz
  obtain ⟨M_6, eM_6⟩ : ∃ z, z = va_up M_5 (k + 1) (eF cs 2 (vf_upd (vf_upd (fun _ => 0) 0 1090519040) 1 1103101952)) := ⟨_, rfl⟩
  rw [← eM_6] at hP
  have h6_1 : M_6 k = .inr (5, [.ref (ad (k + 1)), .ref (ad (k + 2)), .int 0, .double 0]) := by rw [eM_6]; exact (va_up_ne _ _ (by omega)).trans h5_1
  have h6_2 : M_6 (k + 1) = eF cs 2 (vf_upd (vf_upd (fun _ => 0) 0 1090519040) 1 1103101952) := by rw [eM_6]; exact va_up_self _ _ _
  have h6_3 : M_6 (k + 2) = eF cs 2 (fun _ => 0) := by rw [eM_6]; exact (va_up_ne _ _ (by omega)).trans h5_3
  exact b_ret hx hb hr hlocks hK hX hP hz hS dX5_init_34 ⟨h6_1, h6_2, h6_3, fun j hj => by rw [eM_6, va_up_ne _ _ (by omega), eM_5, va_up_ne _ _ (by omega), eM_4, va_up_ne _ _ (by omega), eM_3, va_up_ne _ _ (by omega), eM_2, va_up_ne _ _ (by omega), eM_1, va_up_ne _ _ (by omega)]⟩
set_option maxHeartbeats 4000000 in
set_option maxRecDepth 100000 in
/-- Inputs(1024, dl) -/
theorem i_X1a (l : Launch) (D : va_G) (cs : Nat → ClassId) (ad : Nat → Nat) (b : Nat) (hab : ∀ k, ad k = b + k) (M : Nat → va_E) (k dl : Nat) (h1 : M k = .inr (1, [.null, .int 0, .int 0])) : CB l yX1_init wsX1_init ({ frames := 1, cells := 1, slots := 1024, locals := 12 }) D cs ad b (k + 1) (k + 2) M [.ref (ad k), .int (nI 1024), .int (nI dl)] (fun M2 => M2 k = oIn ad (k + 1) dl 0 ∧ M2 (k + 1) = eB cs 1024 (fun _ => 0) ∧ ∀ j, j < k → M2 j = M j) 1 1024 := by
  refine Met.ofW (cc := cX1_init) (maxL := 3) (ret := none) (by decide) rfl ?_
  intro p e s m args below meth c s₁ B hml hv
  obtain ⟨rfl, hz, ⟨hP, hK⟩, hX⟩ := hv
  have hin : meth.name = "<init>" := (name_of_methodNamed B.named B.method).1
  have hx := B.exec
  have hb := B.bytes
  have hr := B.returns
  have hts := atoms_spec (ws := wsX1_init) B.pre
  have hown : s.vm.findClass RX1 = some m.cls := findClass_of_methodNamed B.named
  have hlocks := B.notSynchronized
  have hS : va_S (Ge b) s.heap s.heap [] := va_S.rf
  have hl := lv_entry ([.ref (ad k), .int (nI 1024), .int (nI dl)]) (n := 3) (Nat.le_of_ble_eq_true rfl)
  rw [lg_entry_eq]
  generalize (lg_sl ([.ref (ad k), .int (nI 1024), .int (nI dl)]) ++ List.replicate (3 - (lg_sl ([.ref (ad k), .int (nI 1024), .int (nI dl)])).length) Slot.unset).toArray = ls at hl ⊢
  have hl : lv_has ls 3 [(0, .ref (ad k)), (1, .int (nI 1024)), (2, .int (nI dl))] := hl
  have inX1 : ∀ w ∈ u_ws RX1 TX1 3, w ∈ wsX1_init := fun w h => List.mem_cons_of_mem _ (List.mem_append_right _ h)
  refine lv_aload_n hx hb dX1_init_0 rfl (lv_at hl 0 rfl) ?_
  refine W.objInit hx hb hown (hts (.methodLink RX1 1 objectInit) (by decide +kernel)) (hts (.instanceMethod objectInit) (by decide +kernel)) (hts (.code objectInit ⟨#[0xb1]⟩ 1 none) (by decide +kernel)) rfl (by rw [hml]; exact hl.1) rfl dX1_init_1 (Nat.le_of_ble_eq_true rfl) (Nat.le_of_ble_eq_true rfl) ?_
  refine W.eq (g2 := F0 m 4 ls []) rfl ?_
  refine lv_aload_n hx hb dX1_init_4 rfl (lv_at hl 0 rfl) ?_
  refine lv_iload_n hx hb dX1_init_5 rfl (lv_at hl 1 rfl) ?_
  refine b_newa hx hb (atype := .byte) (hts (.arrayClass .byte) (by decide +kernel)) hab hK hP hz hS 1 rfl rfl (a0 := (1024, .inl (fun _ => 0))) (fun cA => vp_cell_i cA _ _) (by decide) (by decide) (Nat.le_of_ble_eq_true rfl) (Nat.le_of_ble_eq_true rfl) dX1_init_6 (fun H hP hS hz => ?_)
  obtain ⟨M_1, eM_1⟩ : ∃ z, z = va_up M (k + 1) (eB cs 1024 (fun _ => 0)) := ⟨_, rfl⟩
  rw [← eM_1] at hP
  have h1_1 : M_1 k = .inr (1, [.null, .int 0, .int 0]) := by rw [eM_1]; exact (va_up_ne _ _ (by omega)).trans h1
  have h1_2 : M_1 (k + 1) = eB cs 1024 (fun _ => 0) := by rw [eM_1]; exact va_up_self _ _ _
  refine b_putF hx hb hts inX1 tyX1 tyX1_ok nmX1 hown hab hK hP hS (ci := 1) rfl (k := k) (by omega) h1_1 0 (by decide) (hts (.fieldLink RX1 7 "RollbackPair$Inputs" "kept" "[B") (by decide +kernel)) rfl hin rfl rfl rfl (Nat.le_of_ble_eq_true rfl) (fs' := [.ref (ad (k + 1)), .int 0, .int 0]) rfl dX1_init_8 (fun H locs hP hS hq => ?_)
  replace hz := hq.trans hz
  obtain ⟨M_2, eM_2⟩ : ∃ z, z = va_up M_1 k (.inr (1, [.ref (ad (k + 1)), .int 0, .int 0])) := ⟨_, rfl⟩
  rw [← eM_2] at hP
  have h2_1 : M_2 k = .inr (1, [.ref (ad (k + 1)), .int 0, .int 0]) := by rw [eM_2]; exact va_up_self _ _ _
  have h2_2 : M_2 (k + 1) = eB cs 1024 (fun _ => 0) := by rw [eM_2]; exact (va_up_ne _ _ (by omega)).trans h1_2
  refine lv_aload_n hx hb dX1_init_11 rfl (lv_at hl 0 rfl) ?_
  refine lv_iload_n hx hb dX1_init_12 rfl (lv_at hl 2 rfl) ?_
  refine b_put hx hb hts inX1 tyX1 tyX1_ok nmX1 hown hab hK hP hS (ci := 1) rfl (k := k) (by omega) h2_1 1 (by decide) (hts (.fieldLink RX1 13 "RollbackPair$Inputs" "count" "I") (by decide +kernel)) rfl rfl rfl (Nat.le_of_ble_eq_true rfl) (fs' := [.ref (ad (k + 1)), .int (nI dl), .int 0]) rfl dX1_init_13 (fun H locs hP hS hq => ?_)
  replace hz := hq.trans hz
  obtain ⟨M_3, eM_3⟩ : ∃ z, z = va_up M_2 k (.inr (1, [.ref (ad (k + 1)), .int (nI dl), .int 0])) := ⟨_, rfl⟩
  rw [← eM_3] at hP
  have h3_1 : M_3 k = .inr (1, [.ref (ad (k + 1)), .int (nI dl), .int 0]) := by rw [eM_3]; exact va_up_self _ _ _
  have h3_2 : M_3 (k + 1) = eB cs 1024 (fun _ => 0) := by rw [eM_3]; exact (va_up_ne _ _ (by omega)).trans h2_2
  exact b_ret hx hb hr hlocks hK hX hP hz hS dX1_init_16 ⟨h3_1, h3_2, fun j hj => by rw [eM_3, va_up_ne _ _ (by omega), eM_2, va_up_ne _ _ (by omega), eM_1, va_up_ne _ _ (by omega)]⟩
set_option maxHeartbeats 4000000 in
set_option maxRecDepth 100000 in
/-- Inputs(32, dl) -/
theorem i_X1b (l : Launch) (D : va_G) (cs : Nat → ClassId) (ad : Nat → Nat) (b : Nat) (hab : ∀ k, ad k = b + k) (M : Nat → va_E) (k dl : Nat) (h1 : M k = .inr (1, [.null, .int 0, .int 0])) : CB l yX1_init wsX1_init ({ frames := 1, cells := 1, slots := 32, locals := 12 }) D cs ad b (k + 1) (k + 2) M [.ref (ad k), .int (nI 32), .int (nI dl)] (fun M2 => M2 k = oIn ad (k + 1) dl 0 ∧ M2 (k + 1) = eB cs 32 (fun _ => 0) ∧ ∀ j, j < k → M2 j = M j) 1 32 := by
  refine Met.ofW (cc := cX1_init) (maxL := 3) (ret := none) (by decide) rfl ?_
  intro p e s m args below meth c s₁ B hml hv
  obtain ⟨rfl, hz, ⟨hP, hK⟩, hX⟩ := hv
  have hin : meth.name = "<init>" := (name_of_methodNamed B.named B.method).1
  have hx := B.exec
  have hb := B.bytes
  have hr := B.returns
  have hts := atoms_spec (ws := wsX1_init) B.pre
  have hown : s.vm.findClass RX1 = some m.cls := findClass_of_methodNamed B.named
  have hlocks := B.notSynchronized
  have hS : va_S (Ge b) s.heap s.heap [] := va_S.rf
  have hl := lv_entry ([.ref (ad k), .int (nI 32), .int (nI dl)]) (n := 3) (Nat.le_of_ble_eq_true rfl)
  rw [lg_entry_eq]
  generalize (lg_sl ([.ref (ad k), .int (nI 32), .int (nI dl)]) ++ List.replicate (3 - (lg_sl ([.ref (ad k), .int (nI 32), .int (nI dl)])).length) Slot.unset).toArray = ls at hl ⊢
  have hl : lv_has ls 3 [(0, .ref (ad k)), (1, .int (nI 32)), (2, .int (nI dl))] := hl
  have inX1 : ∀ w ∈ u_ws RX1 TX1 3, w ∈ wsX1_init := fun w h => List.mem_cons_of_mem _ (List.mem_append_right _ h)
  refine lv_aload_n hx hb dX1_init_0 rfl (lv_at hl 0 rfl) ?_
  refine W.objInit hx hb hown (hts (.methodLink RX1 1 objectInit) (by decide +kernel)) (hts (.instanceMethod objectInit) (by decide +kernel)) (hts (.code objectInit ⟨#[0xb1]⟩ 1 none) (by decide +kernel)) rfl (by rw [hml]; exact hl.1) rfl dX1_init_1 (Nat.le_of_ble_eq_true rfl) (Nat.le_of_ble_eq_true rfl) ?_
  refine W.eq (g2 := F0 m 4 ls []) rfl ?_
  refine lv_aload_n hx hb dX1_init_4 rfl (lv_at hl 0 rfl) ?_
  refine lv_iload_n hx hb dX1_init_5 rfl (lv_at hl 1 rfl) ?_
  refine b_newa hx hb (atype := .byte) (hts (.arrayClass .byte) (by decide +kernel)) hab hK hP hz hS 1 rfl rfl (a0 := (32, .inl (fun _ => 0))) (fun cA => vp_cell_i cA _ _) (by decide) (by decide) (Nat.le_of_ble_eq_true rfl) (Nat.le_of_ble_eq_true rfl) dX1_init_6 (fun H hP hS hz => ?_)
  obtain ⟨M_1, eM_1⟩ : ∃ z, z = va_up M (k + 1) (eB cs 32 (fun _ => 0)) := ⟨_, rfl⟩
  rw [← eM_1] at hP
  have h1_1 : M_1 k = .inr (1, [.null, .int 0, .int 0]) := by rw [eM_1]; exact (va_up_ne _ _ (by omega)).trans h1
  have h1_2 : M_1 (k + 1) = eB cs 32 (fun _ => 0) := by rw [eM_1]; exact va_up_self _ _ _
  refine b_putF hx hb hts inX1 tyX1 tyX1_ok nmX1 hown hab hK hP hS (ci := 1) rfl (k := k) (by omega) h1_1 0 (by decide) (hts (.fieldLink RX1 7 "RollbackPair$Inputs" "kept" "[B") (by decide +kernel)) rfl hin rfl rfl rfl (Nat.le_of_ble_eq_true rfl) (fs' := [.ref (ad (k + 1)), .int 0, .int 0]) rfl dX1_init_8 (fun H locs hP hS hq => ?_)
  replace hz := hq.trans hz
  obtain ⟨M_2, eM_2⟩ : ∃ z, z = va_up M_1 k (.inr (1, [.ref (ad (k + 1)), .int 0, .int 0])) := ⟨_, rfl⟩
  rw [← eM_2] at hP
  have h2_1 : M_2 k = .inr (1, [.ref (ad (k + 1)), .int 0, .int 0]) := by rw [eM_2]; exact va_up_self _ _ _
  have h2_2 : M_2 (k + 1) = eB cs 32 (fun _ => 0) := by rw [eM_2]; exact (va_up_ne _ _ (by omega)).trans h1_2
  refine lv_aload_n hx hb dX1_init_11 rfl (lv_at hl 0 rfl) ?_
  refine lv_iload_n hx hb dX1_init_12 rfl (lv_at hl 2 rfl) ?_
  refine b_put hx hb hts inX1 tyX1 tyX1_ok nmX1 hown hab hK hP hS (ci := 1) rfl (k := k) (by omega) h2_1 1 (by decide) (hts (.fieldLink RX1 13 "RollbackPair$Inputs" "count" "I") (by decide +kernel)) rfl rfl rfl (Nat.le_of_ble_eq_true rfl) (fs' := [.ref (ad (k + 1)), .int (nI dl), .int 0]) rfl dX1_init_13 (fun H locs hP hS hq => ?_)
  replace hz := hq.trans hz
  obtain ⟨M_3, eM_3⟩ : ∃ z, z = va_up M_2 k (.inr (1, [.ref (ad (k + 1)), .int (nI dl), .int 0])) := ⟨_, rfl⟩
  rw [← eM_3] at hP
  have h3_1 : M_3 k = .inr (1, [.ref (ad (k + 1)), .int (nI dl), .int 0]) := by rw [eM_3]; exact va_up_self _ _ _
  have h3_2 : M_3 (k + 1) = eB cs 32 (fun _ => 0) := by rw [eM_3]; exact (va_up_ne _ _ (by omega)).trans h2_2
  exact b_ret hx hb hr hlocks hK hX hP hz hS dX1_init_16 ⟨h3_1, h3_2, fun j hj => by rw [eM_3, va_up_ne _ _ (by omega), eM_2, va_up_ne _ _ (by omega), eM_1, va_up_ne _ _ (by omega)]⟩
