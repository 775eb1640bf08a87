set_option maxHeartbeats 4000000 in
set_option maxRecDepth 100000 in
/-- Peer(..) -/
theorem i_X3 (l : Launch) (D : va_G) (cs : Nat → ClassId) (ad : Nat → Nat) (b : Nat) (hab : ∀ k, ad k = b + k) (M : Nat → va_E) (k q dl ww r1 r2 : Nat) (sv : Int32) (hsv : sh sv) (h1 : M k = .inr (3, [.int 0, .int 0, .null, .null, .null, .null, .null, .int 0, .int 0, .int 0, .int 0, .int 0, .int 0, .float 0])) : CB l yX3_init wsX3_init ({ frames := 3, cells := 57, slots := 1242, locals := 56 }) D cs ad b (k + 1) (k + 58) M [.ref (ad k), .int (nI q), .int (nI dl), .int (nI ww), .int sv, .ref (ad r1), .ref (ad r2)] (fun M2 => M2 k = oPe ad k r1 r2 q ww 0 0 (nI dl) sv 0 0 0 ∧ HiA ad cs (k + 1) M2 (fun _ => stX) (fun _ _ => 0) (fun _ => 0) (fun _ => 0) (fun _ _ => 0) ∧ M2 (k + 54) = oIn ad (k + 55) dl 0 ∧ M2 (k + 55) = eB cs 1024 (fun _ => 0) ∧ M2 (k + 56) = oIn ad (k + 57) dl 0 ∧ M2 (k + 57) = eB cs 32 (fun _ => 0) ∧ ∀ j, j < k → M2 j = M j) 57 1242 := by
  refine Met.ofW (cc := cX3_init) (maxL := 7) (ret := none) (by decide) rfl ?_
  intro p e s m args below meth c s₁ B hml hv
  obtain ⟨rfl, hz, ⟨hP, hK⟩, hX⟩ := hv
  have hin : meth.name = "<init>" := (name_of_methodNamed B.named B.method).1
  have hx := B.exec
  have hb := B.bytes
  have hr := B.returns
  have hts := atoms_spec (ws := wsX3_init) B.pre
  have hown : s.vm.findClass RX3 = some m.cls := findClass_of_methodNamed B.named
  have hlocks := B.notSynchronized
  have hS : va_S (Ge b) s.heap s.heap [] := va_S.rf
  have hl := lv_entry ([.ref (ad k), .int (nI q), .int (nI dl), .int (nI ww), .int sv, .ref (ad r1), .ref (ad r2)]) (n := 7) (Nat.le_of_ble_eq_true rfl)
  rw [lg_entry_eq]
  generalize (lg_sl ([.ref (ad k), .int (nI q), .int (nI dl), .int (nI ww), .int sv, .ref (ad r1), .ref (ad r2)]) ++ List.replicate (7 - (lg_sl ([.ref (ad k), .int (nI q), .int (nI dl), .int (nI ww), .int sv, .ref (ad r1), .ref (ad r2)])).length) Slot.unset).toArray = ls at hl ⊢
  have hl : lv_has ls 7 [(0, .ref (ad k)), (1, .int (nI q)), (2, .int (nI dl)), (3, .int (nI ww)), (4, .int sv), (5, .ref (ad r1)), (6, .ref (ad r2))] := hl
  have inX3 : ∀ w ∈ u_ws RX3 TX3 14, w ∈ wsX3_init := fun w h => List.mem_cons_of_mem _ (List.mem_append_left _ (List.mem_append_left _ (List.mem_append_right _ h)))
  have inX0 : ∀ w ∈ u_ws RX0 TX0 2, w ∈ wsX3_init := fun w h => List.mem_cons_of_mem _ (List.mem_append_left _ (List.mem_append_left _ (List.mem_append_left _ (List.mem_append_right _ h))))
  have inX1 : ∀ w ∈ u_ws RX1 TX1 3, w ∈ wsX3_init := fun w h => List.mem_cons_of_mem _ (List.mem_append_left _ (List.mem_append_right _ h))
  refine lv_aload_n hx hb dX3_init_0 rfl (lv_at hl 0 rfl) ?_
  refine W.objInit hx hb hown (hts (.methodLink RX3 3 objectInit) (by decide +kernel)) (hts (.instanceMethod objectInit) (by decide +kernel)) (hts (.code objectInit ⟨#[0xb1]⟩ 1 none) (by decide +kernel)) rfl (by rw [hml]; exact hl.1) rfl dX3_init_1 (Nat.le_of_ble_eq_true rfl) (Nat.le_of_ble_eq_true rfl) ?_
  refine W.eq (g2 := F0 m 4 ls []) rfl ?_
  refine lv_aload_n hx hb dX3_init_4 rfl (lv_at hl 0 rfl) ?_
  refine b_new hx hb hts inX0 tyX0 tyX0_ok hown (hts (.classLink RX3 9 RX0) (by decide +kernel)) (hts (.instantiable RX0 2) (by decide +kernel)) (hts (.initialized RX0) (by decide +kernel)) hab hK hP hz hS (ci := 0) rfl (fs := [.null, .null]) (by decide) (Nat.le_of_ble_eq_true rfl) (Nat.le_of_ble_eq_true rfl) dX3_init_5 (fun H hP hS hz => ?_)
  obtain ⟨M_1, eM_1⟩ : ∃ z, z = va_up M (k + 1) (.inr (0, [.null, .null])) := ⟨_, rfl⟩
  rw [← eM_1] at hP
  have h1_1 : M_1 k = .inr (3, [.int 0, .int 0, .null, .null, .null, .null, .null, .int 0, .int 0, .int 0, .int 0, .int 0, .int 0, .float 0]) := by rw [eM_1]; exact (va_up_ne _ _ (by omega)).trans h1
  have h1_2 : M_1 (k + 1) = .inr (0, [.null, .null]) := by rw [eM_1]; exact va_up_self _ _ _
  refine lv_dup hx hb dX3_init_8 rfl ?_
  refine k_I (As := []) (rest := [.ref (ad (k + 1)), .ref (ad k)]) (k := (k + 1)) ⟨hx, hb, hml, hown, hts⟩ hK hX hP hz hS (i_X0 l D cs ad b hab M_1 (k + 1) h1_2) (cwI 0 hts ggX3_init_X0_init rfl rfl rfl (hts (.initialized RX0) (by decide +kernel)) (hts (.methodLink RX3 11 yX0_init) (by decide +kernel)) (hts (.instanceMethod yX0_init) (by decide +kernel)) rfl (by decide +kernel) ⟨Nat.le_of_ble_eq_true rfl, Nat.le_of_ble_eq_true rfl⟩) rfl rfl hl.1 (Nat.le_of_ble_eq_true rfl) dX3_init_9 ⟨Nat.le_of_ble_eq_true rfl, Nat.le_of_ble_eq_true rfl⟩ (fun N1 H locs hpo hP hS hz => ?_)
  obtain ⟨hH, q1⟩ := hpo
  have e1 : ∀ j, j < k → N1 j = M j := fun j hj => (q1 j (by omega)).trans (by rw [eM_1, va_up_ne _ _ (by omega)])
  have h2_1 : N1 k = .inr (3, [.int 0, .int 0, .null, .null, .null, .null, .null, .int 0, .int 0, .int 0, .int 0, .int 0, .int 0, .float 0]) := (q1 _ (by omega)).trans h1_1
  refine b_putF hx hb hts inX3 tyX3 tyX3_ok nmX3 hown hab hK hP hS (ci := 3) rfl (k := k) (by omega) h2_1 6 (by decide) (hts (.fieldLink RX3 12 "RollbackPair$Peer" "history" "LRollbackPair$History;") (by decide +kernel)) rfl hin rfl rfl rfl (Nat.le_of_ble_eq_true rfl) (fs' := [.int 0, .int 0, .null, .null, .null, .null, .ref (ad (k + 1)), .int 0, .int 0, .int 0, .int 0, .int 0, .int 0, .float 0]) rfl dX3_init_12 (fun H locs hP hS hq => ?_)
  replace hz := hq.trans hz
  obtain ⟨M_3, eM_3⟩ : ∃ z, z = va_up N1 k (.inr (3, [.int 0, .int 0, .null, .null, .null, .null, .ref (ad (k + 1)), .int 0, .int 0, .int 0, .int 0, .int 0, .int 0, .float 0])) := ⟨_, rfl⟩
  rw [← eM_3] at hP
  have h3_1 : M_3 k = .inr (3, [.int 0, .int 0, .null, .null, .null, .null, .ref (ad (k + 1)), .int 0, .int 0, .int 0, .int 0, .int 0, .int 0, .float 0]) := by rw [eM_3]; exact va_up_self _ _ _
  have h3_2 : M_3 (k + 1) = .inr (0, [.ref (ad (k + 1 + 1)), .ref (ad (k + 1 + 2))]) := by rw [eM_3]; exact (va_up_ne _ _ (by omega)).trans hH.1
  refine lv_aload_n hx hb dX3_init_15 rfl (lv_at hl 0 rfl) ?_
  refine lv_iload_n hx hb dX3_init_16 rfl (lv_at hl 1 rfl) ?_
  refine b_putF hx hb hts inX3 tyX3 tyX3_ok nmX3 hown hab hK hP hS (ci := 3) rfl (k := k) (by omega) h3_1 0 (by decide) (hts (.fieldLink RX3 18 "RollbackPair$Peer" "player" "I") (by decide +kernel)) rfl hin rfl rfl rfl (Nat.le_of_ble_eq_true rfl) (fs' := [.int (nI q), .int 0, .null, .null, .null, .null, .ref (ad (k + 1)), .int 0, .int 0, .int 0, .int 0, .int 0, .int 0, .float 0]) rfl dX3_init_17 (fun H locs hP hS hq => ?_)
  replace hz := hq.trans hz
  obtain ⟨M_4, eM_4⟩ : ∃ z, z = va_up M_3 k (.inr (3, [.int (nI q), .int 0, .null, .null, .null, .null, .ref (ad (k + 1)), .int 0, .int 0, .int 0, .int 0, .int 0, .int 0, .float 0])) := ⟨_, rfl⟩
  rw [← eM_4] at hP
  have h4_1 : M_4 k = .inr (3, [.int (nI q), .int 0, .null, .null, .null, .null, .ref (ad (k + 1)), .int 0, .int 0, .int 0, .int 0, .int 0, .int 0, .float 0]) := by rw [eM_4]; exact va_up_self _ _ _
  have h4_2 : M_4 (k + 1) = .inr (0, [.ref (ad (k + 1 + 1)), .ref (ad (k + 1 + 2))]) := by rw [eM_4]; exact (va_up_ne _ _ (by omega)).trans h3_2
  refine lv_aload_n hx hb dX3_init_20 rfl (lv_at hl 0 rfl) ?_
  refine lv_iload_n hx hb dX3_init_21 rfl (lv_at hl 3 rfl) ?_
  refine b_putF hx hb hts inX3 tyX3 tyX3_ok nmX3 hown hab hK hP hS (ci := 3) rfl (k := k) (by omega) h4_1 1 (by decide) (hts (.fieldLink RX3 22 "RollbackPair$Peer" "window" "I") (by decide +kernel)) rfl hin rfl rfl rfl (Nat.le_of_ble_eq_true rfl) (fs' := [.int (nI q), .int (nI ww), .null, .null, .null, .null, .ref (ad (k + 1)), .int 0, .int 0, .int 0, .int 0, .int 0, .int 0, .float 0]) rfl dX3_init_22 (fun H locs hP hS hq => ?_)
  replace hz := hq.trans hz
  obtain ⟨M_5, eM_5⟩ : ∃ z, z = va_up M_4 k (.inr (3, [.int (nI q), .int (nI ww), .null, .null, .null, .null, .ref (ad (k + 1)), .int 0, .int 0, .int 0, .int 0, .int 0, .int 0, .float 0])) := ⟨_, rfl⟩
  rw [← eM_5] at hP
  have h5_1 : M_5 k = .inr (3, [.int (nI q), .int (nI ww), .null, .null, .null, .null, .ref (ad (k + 1)), .int 0, .int 0, .int 0, .int 0, .int 0, .int 0, .float 0]) := by rw [eM_5]; exact va_up_self _ _ _
  have h5_2 : M_5 (k + 1) = .inr (0, [.ref (ad (k + 1 + 1)), .ref (ad (k + 1 + 2))]) := by rw [eM_5]; exact (va_up_ne _ _ (by omega)).trans h4_2
  refine lv_aload_n hx hb dX3_init_25 rfl (lv_at hl 0 rfl) ?_
  refine lv_aload hx hb dX3_init_26 (lv_at hl 5 rfl) ?_
  refine b_putF hx hb hts inX3 tyX3 tyX3_ok nmX3 hown hab hK hP hS (ci := 3) rfl (k := k) (by omega) h5_1 2 (by decide) (hts (.fieldLink RX3 25 "RollbackPair$Peer" "arriving" "LRollbackPair$Row;") (by decide +kernel)) rfl hin rfl rfl rfl (Nat.le_of_ble_eq_true rfl) (fs' := [.int (nI q), .int (nI ww), .ref (ad r1), .null, .null, .null, .ref (ad (k + 1)), .int 0, .int 0, .int 0, .int 0, .int 0, .int 0, .float 0]) rfl dX3_init_28 (fun H locs hP hS hq => ?_)
  replace hz := hq.trans hz
  obtain ⟨M_6, eM_6⟩ : ∃ z, z = va_up M_5 k (.inr (3, [.int (nI q), .int (nI ww), .ref (ad r1), .null, .null, .null, .ref (ad (k + 1)), .int 0, .int 0, .int 0, .int 0, .int 0, .int 0, .float 0])) := ⟨_, rfl⟩
  rw [← eM_6] at hP
  have h6_1 : M_6 k = .inr (3, [.int (nI q), .int (nI ww), .ref (ad r1), .null, .null, .null, .ref (ad (k + 1)), .int 0, .int 0, .int 0, .int 0, .int 0, .int 0, .float 0]) := by rw [eM_6]; exact va_up_self _ _ _
  have h6_2 : M_6 (k + 1) = .inr (0, [.ref (ad (k + 1 + 1)), .ref (ad (k + 1 + 2))]) := by rw [eM_6]; exact (va_up_ne _ _ (by omega)).trans h5_2
  refine lv_aload_n hx hb dX3_init_31 rfl (lv_at hl 0 rfl) ?_
  refine lv_aload hx hb dX3_init_32 (lv_at hl 6 rfl) ?_
  refine b_putF hx hb hts inX3 tyX3 tyX3_ok nmX3 hown hab hK hP hS (ci := 3) rfl (k := k) (by omega) h6_1 3 (by decide) (hts (.fieldLink RX3 29 "RollbackPair$Peer" "leaving" "LRollbackPair$Row;") (by decide +kernel)) rfl hin rfl rfl rfl (Nat.le_of_ble_eq_true rfl) (fs' := [.int (nI q), .int (nI ww), .ref (ad r1), .ref (ad r2), .null, .null, .ref (ad (k + 1)), .int 0, .int 0, .int 0, .int 0, .int 0, .int 0, .float 0]) rfl dX3_init_34 (fun H locs hP hS hq => ?_)
  replace hz := hq.trans hz
  obtain ⟨M_7, eM_7⟩ : ∃ z, z = va_up M_6 k (.inr (3, [.int (nI q), .int (nI ww), .ref (ad r1), .ref (ad r2), .null, .null, .ref (ad (k + 1)), .int 0, .int 0, .int 0, .int 0, .int 0, .int 0, .float 0])) := ⟨_, rfl⟩
  rw [← eM_7] at hP
  have h7_1 : M_7 k = .inr (3, [.int (nI q), .int (nI ww), .ref (ad r1), .ref (ad r2), .null, .null, .ref (ad (k + 1)), .int 0, .int 0, .int 0, .int 0, .int 0, .int 0, .float 0]) := by rw [eM_7]; exact va_up_self _ _ _
  have h7_2 : M_7 (k + 1) = .inr (0, [.ref (ad (k + 1 + 1)), .ref (ad (k + 1 + 2))]) := by rw [eM_7]; exact (va_up_ne _ _ (by omega)).trans h6_2
  refine lv_aload_n hx hb dX3_init_37 rfl (lv_at hl 0 rfl) ?_
  refine b_new hx hb hts inX1 tyX1 tyX1_ok hown (hts (.classLink RX3 32 RX1) (by decide +kernel)) (hts (.instantiable RX1 3) (by decide +kernel)) (hts (.initialized RX1) (by decide +kernel)) hab hK hP hz hS (ci := 1) rfl (fs := [.null, .int 0, .int 0]) (by decide) (Nat.le_of_ble_eq_true rfl) (Nat.le_of_ble_eq_true rfl) dX3_init_38 (fun H hP hS hz => ?_)
  obtain ⟨M_8, eM_8⟩ : ∃ z, z = va_up M_7 (k + 54) (.inr (1, [.null, .int 0, .int 0])) := ⟨_, rfl⟩
  rw [← eM_8] at hP
  have h8_1 : M_8 k = .inr (3, [.int (nI q), .int (nI ww), .ref (ad r1), .ref (ad r2), .null, .null, .ref (ad (k + 1)), .int 0, .int 0, .int 0, .int 0, .int 0, .int 0, .float 0]) := by rw [eM_8]; exact (va_up_ne _ _ (by omega)).trans h7_1
  have h8_2 : M_8 (k + 1) = .inr (0, [.ref (ad (k + 1 + 1)), .ref (ad (k + 1 + 2))]) := by rw [eM_8]; exact (va_up_ne _ _ (by omega)).trans h7_2
  have h8_3 : M_8 (k + 54) = .inr (1, [.null, .int 0, .int 0]) := by rw [eM_8]; exact va_up_self _ _ _
  refine lv_dup hx hb dX3_init_41 rfl ?_
  refine lv_sipush (v := nI 1024) hx hb dX3_init_42 (by decide) ?_
  refine lv_iload_n hx hb dX3_init_45 rfl (lv_at hl 2 rfl) ?_
  refine k_I (As := [.int (nI 1024), .int (nI dl)]) (rest := [.ref (ad (k + 54)), .ref (ad k)]) (k := (k + 54)) ⟨hx, hb, hml, hown, hts⟩ hK hX hP hz hS (i_X1a l D cs ad b hab M_8 (k + 54) dl h8_3) (cwI 2 hts ggX3_init_X1_init rfl rfl rfl (hts (.initialized RX1) (by decide +kernel)) (hts (.methodLink RX3 34 yX1_init) (by decide +kernel)) (hts (.instanceMethod yX1_init) (by decide +kernel)) rfl (by decide +kernel) ⟨Nat.le_of_ble_eq_true rfl, Nat.le_of_ble_eq_true rfl⟩) rfl rfl hl.1 (Nat.le_of_ble_eq_true rfl) dX3_init_46 ⟨Nat.le_of_ble_eq_true rfl, Nat.le_of_ble_eq_true rfl⟩ (fun N2 H locs hpo hP hS hz => ?_)
  obtain ⟨a1, a2, a3⟩ := hpo
  have e2 : ∀ j, j < k → N2 j = M j := fun j hj => (a3 j (by omega)).trans ((show M_8 j = N1 j from by rw [eM_8, va_up_ne _ _ (by omega), eM_7, va_up_ne _ _ (by omega), eM_6, va_up_ne _ _ (by omega), eM_5, va_up_ne _ _ (by omega), eM_4, va_up_ne _ _ (by omega), eM_3, va_up_ne _ _ (by omega)]).trans (e1 j hj))
  have e2h : ∀ j, k + 1 ≤ j → j < k + 54 → N2 j = N1 j := fun j z1 z2 => (a3 j (by omega)).trans ((show M_8 j = N1 j from by rw [eM_8, va_up_ne _ _ (by omega), eM_7, va_up_ne _ _ (by omega), eM_6, va_up_ne _ _ (by omega), eM_5, va_up_ne _ _ (by omega), eM_4, va_up_ne _ _ (by omega), eM_3, va_up_ne _ _ (by omega)]))
  have h9_1 : N2 k = .inr (3, [.int (nI q), .int (nI ww), .ref (ad r1), .ref (ad r2), .null, .null, .ref (ad (k + 1)), .int 0, .int 0, .int 0, .int 0, .int 0, .int 0, .float 0]) := (a3 _ (by omega)).trans h8_1
  have h9_2 : N2 (k + 1) = .inr (0, [.ref (ad (k + 1 + 1)), .ref (ad (k + 1 + 2))]) := (a3 _ (by omega)).trans h8_2
  refine b_putF hx hb hts inX3 tyX3 tyX3_ok nmX3 hown hab hK hP hS (ci := 3) rfl (k := k) (by omega) h9_1 4 (by decide) (hts (.fieldLink RX3 37 "RollbackPair$Peer" "own" "LRollbackPair$Inputs;") (by decide +kernel)) rfl hin rfl rfl rfl (Nat.le_of_ble_eq_true rfl) (fs' := [.int (nI q), .int (nI ww), .ref (ad r1), .ref (ad r2), .ref (ad (k + 54)), .null, .ref (ad (k + 1)), .int 0, .int 0, .int 0, .int 0, .int 0, .int 0, .float 0]) rfl dX3_init_49 (fun H locs hP hS hq => ?_)
  replace hz := hq.trans hz
  obtain ⟨M_10, eM_10⟩ : ∃ z, z = va_up N2 k (.inr (3, [.int (nI q), .int (nI ww), .ref (ad r1), .ref (ad r2), .ref (ad (k + 54)), .null, .ref (ad (k + 1)), .int 0, .int 0, .int 0, .int 0, .int 0, .int 0, .float 0])) := ⟨_, rfl⟩
  rw [← eM_10] at hP
  have h10_1 : M_10 k = .inr (3, [.int (nI q), .int (nI ww), .ref (ad r1), .ref (ad r2), .ref (ad (k + 54)), .null, .ref (ad (k + 1)), .int 0, .int 0, .int 0, .int 0, .int 0, .int 0, .float 0]) := by rw [eM_10]; exact va_up_self _ _ _
  have h10_2 : M_10 (k + 1) = .inr (0, [.ref (ad (k + 1 + 1)), .ref (ad (k + 1 + 2))]) := by rw [eM_10]; exact (va_up_ne _ _ (by omega)).trans h9_2
  have h10_3 : M_10 (k + 54) = .inr (1, [.ref (ad (k + 55)), .int (nI dl), .int 0]) := by rw [eM_10]; exact (va_up_ne _ _ (by omega)).trans a1
  have h10_4 : M_10 (k + 55) = eB cs 1024 (fun _ => 0) := by rw [eM_10]; exact (va_up_ne _ _ (by omega)).trans a2
  refine lv_aload_n hx hb dX3_init_52 rfl (lv_at hl 0 rfl) ?_
  refine b_new hx hb hts inX1 tyX1 tyX1_ok hown (hts (.classLink RX3 32 RX1) (by decide +kernel)) (hts (.instantiable RX1 3) (by decide +kernel)) (hts (.initialized RX1) (by decide +kernel)) hab hK hP hz hS (ci := 1) rfl (fs := [.null, .int 0, .int 0]) (by decide) (Nat.le_of_ble_eq_true rfl) (Nat.le_of_ble_eq_true rfl) dX3_init_53 (fun H hP hS hz => ?_)
  obtain ⟨M_11, eM_11⟩ : ∃ z, z = va_up M_10 (k + 56) (.inr (1, [.null, .int 0, .int 0])) := ⟨_, rfl⟩
  rw [← eM_11] at hP
  have h11_1 : M_11 k = .inr (3, [.int (nI q), .int (nI ww), .ref (ad r1), .ref (ad r2), .ref (ad (k + 54)), .null, .ref (ad (k + 1)), .int 0, .int 0, .int 0, .int 0, .int 0, .int 0, .float 0]) := by rw [eM_11]; exact (va_up_ne _ _ (by omega)).trans h10_1
  have h11_2 : M_11 (k + 1) = .inr (0, [.ref (ad (k + 1 + 1)), .ref (ad (k + 1 + 2))]) := by rw [eM_11]; exact (va_up_ne _ _ (by omega)).trans h10_2
  have h11_3 : M_11 (k + 54) = .inr (1, [.ref (ad (k + 55)), .int (nI dl), .int 0]) := by rw [eM_11]; exact (va_up_ne _ _ (by omega)).trans h10_3
  have h11_4 : M_11 (k + 55) = eB cs 1024 (fun _ => 0) := by rw [eM_11]; exact (va_up_ne _ _ (by omega)).trans h10_4
  have h11_5 : M_11 (k + 56) = .inr (1, [.null, .int 0, .int 0]) := by rw [eM_11]; exact va_up_self _ _ _
  refine lv_dup hx hb dX3_init_56 rfl ?_
  refine lv_bipush (v := nI 32) hx hb dX3_init_57 (by decide) ?_
  refine lv_iload_n hx hb dX3_init_59 rfl (lv_at hl 2 rfl) ?_
  refine k_I (As := [.int (nI 32), .int (nI dl)]) (rest := [.ref (ad (k + 56)), .ref (ad k)]) (k := (k + 56)) ⟨hx, hb, hml, hown, hts⟩ hK hX hP hz hS (i_X1b l D cs ad b hab M_11 (k + 56) dl h11_5) (cwI 2 hts ggX3_init_X1_init rfl rfl rfl (hts (.initialized RX1) (by decide +kernel)) (hts (.methodLink RX3 34 yX1_init) (by decide +kernel)) (hts (.instanceMethod yX1_init) (by decide +kernel)) rfl (by decide +kernel) ⟨Nat.le_of_ble_eq_true rfl, Nat.le_of_ble_eq_true rfl⟩) rfl rfl hl.1 (Nat.le_of_ble_eq_true rfl) dX3_init_60 ⟨Nat.le_of_ble_eq_true rfl, Nat.le_of_ble_eq_true rfl⟩ (fun N3 H locs hpo hP hS hz => ?_)
  obtain ⟨a4, a5, a6⟩ := hpo
  have e3 : ∀ j, j < k → N3 j = M j := fun j hj => (a6 j (by omega)).trans ((show M_11 j = N2 j from by rw [eM_11, va_up_ne _ _ (by omega), eM_10, va_up_ne _ _ (by omega)]).trans (e2 j hj))
  have e3h : ∀ j, k + 1 ≤ j → j < k + 54 → N3 j = N1 j := fun j z1 z2 => (a6 j (by omega)).trans ((show M_11 j = N2 j from by rw [eM_11, va_up_ne _ _ (by omega), eM_10, va_up_ne _ _ (by omega)]).trans (e2h j z1 z2))
  have h12_1 : N3 k = .inr (3, [.int (nI q), .int (nI ww), .ref (ad r1), .ref (ad r2), .ref (ad (k + 54)), .null, .ref (ad (k + 1)), .int 0, .int 0, .int 0, .int 0, .int 0, .int 0, .float 0]) := (a6 _ (by omega)).trans h11_1
  have h12_2 : N3 (k + 1) = .inr (0, [.ref (ad (k + 1 + 1)), .ref (ad (k + 1 + 2))]) := (a6 _ (by omega)).trans h11_2
  have h12_3 : N3 (k + 54) = .inr (1, [.ref (ad (k + 55)), .int (nI dl), .int 0]) := (a6 _ (by omega)).trans h11_3
  have h12_4 : N3 (k + 55) = eB cs 1024 (fun _ => 0) := (a6 _ (by omega)).trans h11_4
  refine b_putF hx hb hts inX3 tyX3 tyX3_ok nmX3 hown hab hK hP hS (ci := 3) rfl (k := k) (by omega) h12_1 5 (by decide) (hts (.fieldLink RX3 41 "RollbackPair$Peer" "others" "LRollbackPair$Inputs;") (by decide +kernel)) rfl hin rfl rfl rfl (Nat.le_of_ble_eq_true rfl) (fs' := [.int (nI q), .int (nI ww), .ref (ad r1), .ref (ad r2), .ref (ad (k + 54)), .ref (ad (k + 56)), .ref (ad (k + 1)), .int 0, .int 0, .int 0, .int 0, .int 0, .int 0, .float 0]) rfl dX3_init_63 (fun H locs hP hS hq => ?_)
  replace hz := hq.trans hz
  obtain ⟨M_13, eM_13⟩ : ∃ z, z = va_up N3 k (.inr (3, [.int (nI q), .int (nI ww), .ref (ad r1), .ref (ad r2), .ref (ad (k + 54)), .ref (ad (k + 56)), .ref (ad (k + 1)), .int 0, .int 0, .int 0, .int 0, .int 0, .int 0, .float 0])) := ⟨_, rfl⟩
  rw [← eM_13] at hP
  have h13_1 : M_13 k = .inr (3, [.int (nI q), .int (nI ww), .ref (ad r1), .ref (ad r2), .ref (ad (k + 54)), .ref (ad (k + 56)), .ref (ad (k + 1)), .int 0, .int 0, .int 0, .int 0, .int 0, .int 0, .float 0]) := by rw [eM_13]; exact va_up_self _ _ _
  have h13_2 : M_13 (k + 1) = .inr (0, [.ref (ad (k + 1 + 1)), .ref (ad (k + 1 + 2))]) := by rw [eM_13]; exact (va_up_ne _ _ (by omega)).trans h12_2
  have h13_3 : M_13 (k + 54) = .inr (1, [.ref (ad (k + 55)), .int (nI dl), .int 0]) := by rw [eM_13]; exact (va_up_ne _ _ (by omega)).trans h12_3
  have h13_4 : M_13 (k + 55) = eB cs 1024 (fun _ => 0) := by rw [eM_13]; exact (va_up_ne _ _ (by omega)).trans h12_4
  have h13_5 : M_13 (k + 56) = .inr (1, [.ref (ad (k + 57)), .int (nI dl), .int 0]) := by rw [eM_13]; exact (va_up_ne _ _ (by omega)).trans a4
  have h13_6 : M_13 (k + 57) = eB cs 32 (fun _ => 0) := by rw [eM_13]; exact (va_up_ne _ _ (by omega)).trans a5
  refine lv_aload_n hx hb dX3_init_66 rfl (lv_at hl 0 rfl) ?_
  refine lv_iload_n hx hb dX3_init_67 rfl (lv_at hl 2 rfl) ?_
  refine b_put hx hb hts inX3 tyX3 tyX3_ok nmX3 hown hab hK hP hS (ci := 3) rfl (k := k) (by omega) h13_1 9 (by decide) (hts (.fieldLink RX3 44 "RollbackPair$Peer" "told" "I") (by decide +kernel)) rfl rfl rfl (Nat.le_of_ble_eq_true rfl) (fs' := [.int (nI q), .int (nI ww), .ref (ad r1), .ref (ad r2), .ref (ad (k + 54)), .ref (ad (k + 56)), .ref (ad (k + 1)), .int 0, .int 0, .int (nI dl), .int 0, .int 0, .int 0, .float 0]) rfl dX3_init_68 (fun H locs hP hS hq => ?_)
  replace hz := hq.trans hz
  obtain ⟨M_14, eM_14⟩ : ∃ z, z = va_up M_13 k (.inr (3, [.int (nI q), .int (nI ww), .ref (ad r1), .ref (ad r2), .ref (ad (k + 54)), .ref (ad (k + 56)), .ref (ad (k + 1)), .int 0, .int 0, .int (nI dl), .int 0, .int 0, .int 0, .float 0])) := ⟨_, rfl⟩
  rw [← eM_14] at hP
  have h14_1 : M_14 k = .inr (3, [.int (nI q), .int (nI ww), .ref (ad r1), .ref (ad r2), .ref (ad (k + 54)), .ref (ad (k + 56)), .ref (ad (k + 1)), .int 0, .int 0, .int (nI dl), .int 0, .int 0, .int 0, .float 0]) := by rw [eM_14]; exact va_up_self _ _ _
  have h14_2 : M_14 (k + 1) = .inr (0, [.ref (ad (k + 1 + 1)), .ref (ad (k + 1 + 2))]) := by rw [eM_14]; exact (va_up_ne _ _ (by omega)).trans h13_2
  have h14_3 : M_14 (k + 54) = .inr (1, [.ref (ad (k + 55)), .int (nI dl), .int 0]) := by rw [eM_14]; exact (va_up_ne _ _ (by omega)).trans h13_3
  have h14_4 : M_14 (k + 55) = eB cs 1024 (fun _ => 0) := by rw [eM_14]; exact (va_up_ne _ _ (by omega)).trans h13_4
  have h14_5 : M_14 (k + 56) = .inr (1, [.ref (ad (k + 57)), .int (nI dl), .int 0]) := by rw [eM_14]; exact (va_up_ne _ _ (by omega)).trans h13_5
  have h14_6 : M_14 (k + 57) = eB cs 32 (fun _ => 0) := by rw [eM_14]; exact (va_up_ne _ _ (by omega)).trans h13_6
  refine lv_aload_n hx hb dX3_init_71 rfl (lv_at hl 0 rfl) ?_
  refine lv_iload hx hb dX3_init_72 (lv_at hl 4 rfl) ?_
  refine b_put hx hb hts inX3 tyX3 tyX3_ok nmX3 hown hab hK hP hS (ci := 3) rfl (k := k) (by omega) h14_1 10 (by decide) (hts (.fieldLink RX3 47 "RollbackPair$Peer" "nextNumber" "S") (by decide +kernel)) rfl (nar_sh hsv) (fit_sh hsv) (Nat.le_of_ble_eq_true rfl) (fs' := [.int (nI q), .int (nI ww), .ref (ad r1), .ref (ad r2), .ref (ad (k + 54)), .ref (ad (k + 56)), .ref (ad (k + 1)), .int 0, .int 0, .int (nI dl), .int sv, .int 0, .int 0, .float 0]) rfl dX3_init_74 (fun H locs hP hS hq => ?_)
  replace hz := hq.trans hz
  obtain ⟨M_15, eM_15⟩ : ∃ z, z = va_up M_14 k (.inr (3, [.int (nI q), .int (nI ww), .ref (ad r1), .ref (ad r2), .ref (ad (k + 54)), .ref (ad (k + 56)), .ref (ad (k + 1)), .int 0, .int 0, .int (nI dl), .int sv, .int 0, .int 0, .float 0])) := ⟨_, rfl⟩
  rw [← eM_15] at hP
  have h15_1 : M_15 k = .inr (3, [.int (nI q), .int (nI ww), .ref (ad r1), .ref (ad r2), .ref (ad (k + 54)), .ref (ad (k + 56)), .ref (ad (k + 1)), .int 0, .int 0, .int (nI dl), .int sv, .int 0, .int 0, .float 0]) := by rw [eM_15]; exact va_up_self _ _ _
  have h15_2 : M_15 (k + 1) = .inr (0, [.ref (ad (k + 1 + 1)), .ref (ad (k + 1 + 2))]) := by rw [eM_15]; exact (va_up_ne _ _ (by omega)).trans h14_2
  have h15_3 : M_15 (k + 54) = .inr (1, [.ref (ad (k + 55)), .int (nI dl), .int 0]) := by rw [eM_15]; exact (va_up_ne _ _ (by omega)).trans h14_3
  have h15_4 : M_15 (k + 55) = eB cs 1024 (fun _ => 0) := by rw [eM_15]; exact (va_up_ne _ _ (by omega)).trans h14_4
  have h15_5 : M_15 (k + 56) = .inr (1, [.ref (ad (k + 57)), .int (nI dl), .int 0]) := by rw [eM_15]; exact (va_up_ne _ _ (by omega)).trans h14_5
  have h15_6 : M_15 (k + 57) = eB cs 32 (fun _ => 0) := by rw [eM_15]; exact (va_up_ne _ _ (by omega)).trans h14_6
  exact b_ret hx hb hr hlocks hK hX hP hz hS dX3_init_77 ⟨h15_1, hH.kept (fun j z1 z2 => (show M_15 j = N3 j from by rw [eM_15, va_up_ne _ _ (by omega), eM_14, va_up_ne _ _ (by omega), eM_13, va_up_ne _ _ (by omega)]).trans (e3h j (by omega) (by omega))), h15_3, h15_4, h15_5, h15_6, fun j hj => (show M_15 j = N3 j from by rw [eM_15, va_up_ne _ _ (by omega), eM_14, va_up_ne _ _ (by omega), eM_13, va_up_ne _ _ (by omega)]).trans (e3 j hj)⟩
