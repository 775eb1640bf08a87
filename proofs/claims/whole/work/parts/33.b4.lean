abbrev pk0 : PK := (0, 0, 0, 0, 0, 0, 0)
set_option maxHeartbeats 4000000 in
set_option maxRecDepth 100000 in
/-- Row() -/
theorem i_X4 (l : Launch) (D : va_G) (cs : Nat → ClassId) (ad : Nat → Nat) (b : Nat) (hab : ∀ k, ad k = b + k) (M : Nat → va_E) (k : Nat) (h1 : M k = .inr (4, [.null, .int 0])) : CB l yX4_init wsX4_init ({ frames := 2, cells := 13, slots := 96, locals := 32 }) D cs ad b (k + 1) (k + 14) M [.ref (ad k)] (fun M2 => RwA ad cs k M2 (fun i => i) 0 (fun _ => pk0) ∧ ∀ j, j < k → M2 j = M j) 13 96 := by
  refine Met.ofW (cc := cX4_init) (maxL := 2) (ret := none) (by decide) rfl ?_
  intro p e s m args below meth c s₁ B hml hv
  obtain ⟨rfl, hz, ⟨hP, hK⟩, hX⟩ := hv
  have hin : meth.name = "<init>" := (name_of_methodNamed B.named B.method).1
  have hx := B.exec
  have hb := B.bytes
  have hr := B.returns
  have hts := atoms_spec (ws := wsX4_init) B.pre
  have hown : s.vm.findClass RX4 = some m.cls := findClass_of_methodNamed B.named
  have hlocks := B.notSynchronized
  have hS : va_S (Ge b) s.heap s.heap [] := va_S.rf
  have hl := lv_entry ([.ref (ad k)]) (n := 2) (Nat.le_of_ble_eq_true rfl)
  rw [lg_entry_eq]
  generalize (lg_sl ([.ref (ad k)]) ++ List.replicate (2 - (lg_sl ([.ref (ad k)])).length) Slot.unset).toArray = ls at hl ⊢
  have hl : lv_has ls 2 [(0, .ref (ad k))] := hl
  have inX4 : ∀ w ∈ u_ws RX4 TX4 2, w ∈ wsX4_init := fun w h => List.mem_cons_of_mem _ (List.mem_append_left _ (List.mem_append_right _ h))
  have inX2 : ∀ w ∈ u_ws RX2 TX2 7, w ∈ wsX4_init := fun w h => List.mem_cons_of_mem _ (List.mem_append_right _ h)
  refine lv_aload_n hx hb dX4_init_0 rfl (lv_at hl 0 rfl) ?_
  refine W.objInit hx hb hown (hts (.methodLink RX4 1 objectInit) (by decide +kernel)) (hts (.instanceMethod objectInit) (by decide +kernel)) (hts (.code objectInit ⟨#[0xb1]⟩ 1 none) (by decide +kernel)) rfl (by rw [hml]; exact hl.1) rfl dX4_init_1 (Nat.le_of_ble_eq_true rfl) (Nat.le_of_ble_eq_true rfl) ?_
  refine W.eq (g2 := F0 m 4 ls []) rfl ?_
  refine lv_aload_n hx hb dX4_init_4 rfl (lv_at hl 0 rfl) ?_
  refine lv_bipush (v := nI 12) hx hb dX4_init_5 (by decide) ?_
  refine b_anew hx hb (C := RX2) hown (hts (.classLink RX4 9 RX2) (by decide +kernel)) hX.1 hab hK hP hz hS 7 rfl (by decide) (by decide) (Nat.le_of_ble_eq_true rfl) (Nat.le_of_ble_eq_true rfl) dX4_init_7 (fun H hP hS hz => ?_)
  obtain ⟨M_1, eM_1⟩ : ∃ z, z = va_up M (k + 1) (eQ cs 7 12 (fun _ => none)) := ⟨_, rfl⟩
  rw [← eM_1] at hP
  have h1_1 : M_1 k = .inr (4, [.null, .int (nI 0)]) := by rw [eM_1]; exact (va_up_ne _ _ (by omega)).trans h1
  have h1_2 : M_1 (k + 1) = eQ cs 7 12 (fun _ => none) := by rw [eM_1]; exact va_up_self _ _ _
  refine b_putF hx hb hts inX4 tyX4 tyX4_ok nmX4 hown hab hK hP hS (ci := 4) rfl (k := k) (by omega) h1_1 0 (by decide) (hts (.fieldLink RX4 11 "RollbackPair$Row" "slots" "[LRollbackPair$Packet;") (by decide +kernel)) rfl hin rfl rfl rfl (Nat.le_of_ble_eq_true rfl) (fs' := [.ref (ad (k + 1)), .int (nI 0)]) rfl dX4_init_10 (fun H locs hP hS hq => ?_)
  replace hz := hq.trans hz
  obtain ⟨M_2, eM_2⟩ : ∃ z, z = va_up M_1 k (.inr (4, [.ref (ad (k + 1)), .int (nI 0)])) := ⟨_, rfl⟩
  rw [← eM_2] at hP
  have h2_1 : M_2 k = .inr (4, [.ref (ad (k + 1)), .int (nI 0)]) := by rw [eM_2]; exact va_up_self _ _ _
  have h2_2 : M_2 (k + 1) = eQ cs 7 12 (fun _ => none) := by rw [eM_2]; exact (va_up_ne _ _ (by omega)).trans h1_2
  refine lv_iconst (v := nI 0) hx hb dX4_init_13 (by decide) ?_
  refine lv_istore_n (lv' := [(1, .int (nI 0)), (0, .ref (ad k))]) hx hb dX4_init_14 rfl hl (by decide) rfl (fun ls hl => ?_)
  have hfr0 : ∀ j, j < k → M_2 j = M j := fun j hj => by rw [eM_2, va_up_ne _ _ (by omega), eM_1, va_up_ne _ _ (by omega)]
  refine lpB (fun y (x : Nat × (Nat → va_E) × (Nat → Option Nat)) ls H locs => x.1 ≤ 12 ∧ y = 12 - x.1 ∧ x.2.1 k = oRw ad k 0 ∧ x.2.1 (k + 1) = eQ cs 7 12 x.2.2 ∧ (∀ j, j < x.1 → x.2.2 j = some (ad (k + 2 + j)) ∧ x.2.1 (k + 2 + j) = oT pk0) ∧ (∀ j, j < k → x.2.1 j = M j) ∧ lv_has ls 2 [(1, .int (nI x.1)), (0, .ref (ad k))] ∧ va_P D vwCl (sg ad (k + 2 + x.1) x.2.1) H ∧ va_S (Ge b) s.heap H locs ∧ H.size = b + (k + 2 + x.1)) 15 (fun x => 0 + 1 + x.1) (fun x => 0 + 12 + 7 * x.1) (fun y x ls H locs hC ih => ?_) 12 (0, M_2, fun _ => none) ls _ _ ⟨Nat.zero_le _, rfl, h2_1, h2_2, fun j hj => absurd hj (Nat.not_lt_zero j), hfr0, lv_sub hl [0, 1] rfl, hP, hS, hz⟩
  obtain ⟨i, Mi, gi⟩ := x
  obtain ⟨i1, i2, i3, i4, i5, i6, hl, hP, hS, hz⟩ := hC
  dsimp only at i1 i2 i3 i4 i5 i6 hl hP hS hz ih ⊢
  refine lv_iload_n hx hb dX4_init_15 rfl (lv_at hl 0 rfl) ?_
  refine lv_bipush (v := nI 12) hx hb dX4_init_16 (by decide) ?_
  refine n_cmp_ge (tgt := 40) hx hb dX4_init_18 (by decide) (by omega) (by omega) (fun c1 => ?_) (fun c1 => ?_)
  · have hi12 : i = 12 := by omega
    subst hi12
    exact b_ret hx hb hr hlocks hK hX hP hz hS dX4_init_40 ⟨⟨i3, ⟨gi, i4, fun j hj => (i5 j hj).1⟩, fun j hj => (i5 j hj).2⟩, i6⟩
  · refine lv_aload_n hx hb dX4_init_21 rfl (lv_at hl 1 rfl) ?_
    refine m_get hx hb hts inX4 hown hK hP (ci := 4) rfl (k := k) (by omega) i3 0 (by decide) (hts (.fieldLink RX4 11 "RollbackPair$Row" "slots" "[LRollbackPair$Packet;") (by decide +kernel)) rfl dX4_init_22 ?_
    refine lv_iload_n hx hb dX4_init_25 rfl (lv_at hl 0 rfl) ?_
    refine b_new hx hb hts inX2 tyX2 tyX2_ok hown (hts (.classLink RX4 9 RX2) (by decide +kernel)) (hts (.instantiable RX2 7) (by decide +kernel)) (hts (.initialized RX2) (by decide +kernel)) hab hK hP hz hS (ci := 2) rfl (fs := [.int 0, .int 0, .int 0, .int 0, .int 0, .long 0, .int 0]) (by decide) (by show 0 + 1 + i + 1 ≤ 13; omega) (by show 0 + 12 + 7 * i + 7 ≤ 96; omega) dX4_init_26 (fun H hP hS hz => ?_)
    obtain ⟨M_1, eM_1⟩ : ∃ z, z = va_up Mi (k + 2 + i) (.inr (2, [.int 0, .int 0, .int 0, .int 0, .int 0, .long 0, .int 0])) := ⟨_, rfl⟩
    rw [← eM_1] at hP
    have h1_1 : M_1 k = .inr (4, [.ref (ad (k + 1)), .int (nI 0)]) := by rw [eM_1]; exact (va_up_ne _ _ (by omega)).trans i3
    have h1_2 : M_1 (k + 1) = eQ cs 7 12 gi := by rw [eM_1]; exact (va_up_ne _ _ (by omega)).trans i4
    have h1_3 : M_1 (k + 2 + i) = .inr (2, [.int 0, .int 0, .int 0, .int 0, .int 0, .long 0, .int 0]) := by rw [eM_1]; exact va_up_self _ _ _
    refine lv_dup hx hb dX4_init_29 rfl ?_
    refine k_IN (As := []) (rest := [.ref (ad (k + 2 + i)), .int (nI i), .ref (ad (k + 1))]) (k := (k + 2 + i)) (host := "RollbackPair") ⟨hx, hb, hml, hown, hts⟩ hK hX hP hz hS (i_X2 l D cs ad b hab M_1 (k + 2 + i) _ h1_3) ⟨va_cnB 0 hts ggX4_init_X2_init rfl rfl rfl hX.2.2.2.2 (hts (.initialized RX2) (by decide +kernel)) (by decide +kernel) ⟨Nat.le_of_ble_eq_true rfl, Nat.le_of_ble_eq_true rfl⟩, rfl, hts (.instanceMethod yX2_init) (by decide +kernel)⟩ rfl rfl hl.1 (Nat.le_of_ble_eq_true rfl) dX4_init_30 ⟨by show 0 + 1 + i + 1 + 0 ≤ 13; omega, by show 0 + 12 + 7 * i + 7 + 0 ≤ 96; omega⟩ (fun N1 H locs hpo hP hS hz => ?_)
    rw [hpo] at hP
    refine b_aast hx hb hab hK hP hS 7 2 rfl rfl (k := (k + 1)) (k2 := (k + 2 + i)) (by omega) (by omega) (f := gi) h1_2 h1_3 (i := i) (by omega) (by decide) dX4_init_33 (fun H locs hP hS hq => ?_)
    replace hz := hq.trans hz
    obtain ⟨M_2, eM_2⟩ : ∃ z, z = va_up M_1 (k + 1) (eQ cs 7 12 (va_up gi i (some (ad (k + 2 + i))))) := ⟨_, rfl⟩
    rw [← eM_2] at hP
    have h2_1 : M_2 k = .inr (4, [.ref (ad (k + 1)), .int (nI 0)]) := by rw [eM_2]; exact (va_up_ne _ _ (by omega)).trans h1_1
    have h2_2 : M_2 (k + 1) = eQ cs 7 12 (va_up gi i (some (ad (k + 2 + i)))) := by rw [eM_2]; exact va_up_self _ _ _
    have h2_3 : M_2 (k + 2 + i) = .inr (2, [.int 0, .int 0, .int 0, .int 0, .int 0, .long 0, .int 0]) := by rw [eM_2]; exact (va_up_ne _ _ (by omega)).trans h1_3
    refine lv_iinc (v := nI (i + 1)) (lv' := [(1, .int (nI (i + 1))), (0, .ref (ad k))]) hx hb dX4_init_34 hl (k := 0) rfl (nI_1 _) (by decide) rfl (fun ls hl => ?_)
    refine lv_goto (tgt := 15) hx hb dX4_init_37 (by decide) ?_
    have hfrm : ∀ j, j < k + 2 + i → j ≠ k + 1 → M_2 j = Mi j := fun j z1 z2 => by rw [eM_2, va_up_ne _ _ z2, eM_1, va_up_ne _ _ (by omega)]
    have h9 := ih (12 - (i + 1)) (by omega) (i + 1, M_2, va_up gi i (some (ad (k + 2 + i)))) ls H locs ⟨by omega, rfl, h2_1, h2_2, fun j hj => ?_, fun j hj => (hfrm j (by omega) (by omega)).trans (i6 j hj), lv_sub hl [0, 1] rfl, hP, hS, hz⟩
    · dsimp only at h9
      rw [show 0 + 12 + 7 * (i + 1) = 0 + 12 + 7 * i + 7 + 0 by omega] at h9
      exact h9
    · dsimp only at hj ⊢
      by_cases hji : j = i
      · subst hji; exact ⟨va_up_self _ _ _, h2_3⟩
      · obtain ⟨o1, o2⟩ := i5 j (by omega)
        exact ⟨by rw [va_up_ne _ _ hji]; exact o1, (hfrm _ (by omega) (by omega)).trans o2⟩
theorem str2 : "[" ++ (FieldType.array .byte).toString = "[[B" := by decide +kernel
set_option maxHeartbeats 4000000 in
set_option maxRecDepth 100000 in
/-- History() -/
theorem i_X0 (l : Launch) (D : va_G) (cs : Nat → ClassId) (ad : Nat → Nat) (b : Nat) (hab : ∀ k, ad k = b + k) (M : Nat → va_E) (k : Nat) (h1 : M k = .inr (0, [.null, .null])) : CB l yX0_init wsX0_init ({ frames := 2, cells := 52, slots := 178, locals := 32 }) D cs ad b (k + 1) (k + 53) M [.ref (ad k)] (fun M2 => HiA ad cs k M2 (fun _ => stX) (fun _ _ => 0) (fun _ => 0) (fun _ => 0) (fun _ _ => 0) ∧ ∀ j, j < k → M2 j = M j) 52 178 := by
  refine Met.ofW (cc := cX0_init) (maxL := 2) (ret := none) (by decide) rfl ?_
  intro p e s m args below meth c s₁ B hml hv
  obtain ⟨rfl, hz, ⟨hP, hK⟩, hX⟩ := hv
  have hin : meth.name = "<init>" := (name_of_methodNamed B.named B.method).1
  have hx := B.exec
  have hb := B.bytes
  have hr := B.returns
  have hts := atoms_spec (ws := wsX0_init) B.pre
  have hown : s.vm.findClass RX0 = some m.cls := findClass_of_methodNamed B.named
  have hlocks := B.notSynchronized
  have hS : va_S (Ge b) s.heap s.heap [] := va_S.rf
  have hl := lv_entry ([.ref (ad k)]) (n := 2) (Nat.le_of_ble_eq_true rfl)
  rw [lg_entry_eq]
  generalize (lg_sl ([.ref (ad k)]) ++ List.replicate (2 - (lg_sl ([.ref (ad k)])).length) Slot.unset).toArray = ls at hl ⊢
  have hl : lv_has ls 2 [(0, .ref (ad k))] := hl
  have inX0 : ∀ w ∈ u_ws RX0 TX0 2, w ∈ wsX0_init := fun w h => List.mem_cons_of_mem _ (List.mem_append_left _ (List.mem_append_right _ h))
  have inX5 : ∀ w ∈ u_ws RX5 TX5 4, w ∈ wsX0_init := fun w h => List.mem_cons_of_mem _ (List.mem_append_right _ h)
  refine lv_aload_n hx hb dX0_init_0 rfl (lv_at hl 0 rfl) ?_
  refine W.objInit hx hb hown (hts (.methodLink RX0 3 objectInit) (by decide +kernel)) (hts (.instanceMethod objectInit) (by decide +kernel)) (hts (.code objectInit ⟨#[0xb1]⟩ 1 none) (by decide +kernel)) rfl (by rw [hml]; exact hl.1) rfl dX0_init_1 (Nat.le_of_ble_eq_true rfl) (Nat.le_of_ble_eq_true rfl) ?_
  refine W.eq (g2 := F0 m 4 ls []) rfl ?_
  refine lv_aload_n hx hb dX0_init_4 rfl (lv_at hl 0 rfl) ?_
  refine lv_bipush (v := nI 16) hx hb dX0_init_5 (by decide) ?_
  refine b_anew hx hb (C := RX5) hown (hts (.classLink RX0 11 RX5) (by decide +kernel)) hX.2.1 hab hK hP hz hS 8 rfl (by decide) (by decide) (Nat.le_of_ble_eq_true rfl) (Nat.le_of_ble_eq_true rfl) dX0_init_7 (fun H hP hS hz => ?_)
  obtain ⟨M_1, eM_1⟩ : ∃ z, z = va_up M (k + 1) (eQ cs 8 16 (fun _ => none)) := ⟨_, rfl⟩
  rw [← eM_1] at hP
  have h1_1 : M_1 k = .inr (0, [.null, .null]) := by rw [eM_1]; exact (va_up_ne _ _ (by omega)).trans h1
  have h1_2 : M_1 (k + 1) = eQ cs 8 16 (fun _ => none) := by rw [eM_1]; exact va_up_self _ _ _
  refine b_putF hx hb hts inX0 tyX0 tyX0_ok nmX0 hown hab hK hP hS (ci := 0) rfl (k := k) (by omega) h1_1 0 (by decide) (hts (.fieldLink RX0 13 "RollbackPair$History" "states" "[LRollbackPair$State;") (by decide +kernel)) rfl hin rfl rfl rfl (Nat.le_of_ble_eq_true rfl) (fs' := [.ref (ad (k + 1)), .null]) rfl dX0_init_10 (fun H locs hP hS hq => ?_)
  replace hz := hq.trans hz
  obtain ⟨M_2, eM_2⟩ : ∃ z, z = va_up M_1 k (.inr (0, [.ref (ad (k + 1)), .null])) := ⟨_, rfl⟩
  rw [← eM_2] at hP
  have h2_1 : M_2 k = .inr (0, [.ref (ad (k + 1)), .null]) := by rw [eM_2]; exact va_up_self _ _ _
  have h2_2 : M_2 (k + 1) = eQ cs 8 16 (fun _ => none) := by rw [eM_2]; exact (va_up_ne _ _ (by omega)).trans h1_2
  refine lv_aload_n hx hb dX0_init_13 rfl (lv_at hl 0 rfl) ?_
  refine lv_iconst (v := nI 2) hx hb dX0_init_14 (by decide) ?_
  refine lv_bipush (v := nI 16) hx hb dX0_init_15 (by decide) ?_
  refine b_mna hx hb hown (by rw [str2]; exact hts (.classLink RX0 17 "[[B") (by decide +kernel)) hX.2.2.2.1 (hts (.arrayClass .byte) (by decide +kernel)) hab hK hP hz hS (Nat.le_of_ble_eq_true rfl) (Nat.le_of_ble_eq_true rfl) dX0_init_17 (fun H hP hS hz => ?_)
  obtain ⟨MZ, eMZ⟩ : ∃ z, z = va_up (va_up (va_up M_2 (k + 2) (eQ cs 10 2 (fun i => if i < 2 then some (ad (k + 2 + 1 + i)) else none))) (k + 2 + 1) (eB cs 16 (fun _ => 0))) (k + 2 + 1 + 1) (eB cs 16 (fun _ => 0)) := ⟨_, rfl⟩
  rw [← eMZ] at hP
  have mz0 : ∀ j, j < k + 2 → MZ j = M_2 j := fun j hj => by rw [eMZ, va_up_ne _ _ (by omega), va_up_ne _ _ (by omega), va_up_ne _ _ (by omega)]
  have mz1 : MZ (k + 2) = eQ cs 10 2 (fun i => if i < 2 then some (ad (k + 2 + 1 + i)) else none) := by rw [eMZ, va_up_ne _ _ (by omega), va_up_ne _ _ (by omega)]; exact va_up_self _ _ _
  have mz2 : MZ (k + 3) = eB cs 16 (fun _ => 0) := by rw [eMZ, va_up_ne _ _ (by omega)]; exact va_up_self _ _ _
  have mz3 : MZ (k + 4) = eB cs 16 (fun _ => 0) := by rw [eMZ]; exact va_up_self _ _ _
  have mz4 : ∀ j, j < k → MZ j = M j := fun j hj => (mz0 j (by omega)).trans (by rw [eM_2, va_up_ne _ _ (by omega), eM_1, va_up_ne _ _ (by omega)])
  have h3_1 : MZ k = .inr (0, [.ref (ad (k + 1)), .null]) := (mz0 _ (by omega)).trans h2_1
  have h3_2 : MZ (k + 1) = eQ cs 8 16 (fun _ => none) := (mz0 _ (by omega)).trans h2_2
  refine b_putF hx hb hts inX0 tyX0 tyX0_ok nmX0 hown hab hK hP hS (ci := 0) rfl (k := k) (by omega) h3_1 1 (by decide) (hts (.fieldLink RX0 19 "RollbackPair$History" "inputs" "[[B") (by decide +kernel)) rfl hin rfl rfl rfl (Nat.le_of_ble_eq_true rfl) (fs' := [.ref (ad (k + 1)), .ref (ad (k + 2))]) rfl dX0_init_21 (fun H locs hP hS hq => ?_)
  replace hz := hq.trans hz
  obtain ⟨M_4, eM_4⟩ : ∃ z, z = va_up MZ k (.inr (0, [.ref (ad (k + 1)), .ref (ad (k + 2))])) := ⟨_, rfl⟩
  rw [← eM_4] at hP
  have h4_1 : M_4 k = .inr (0, [.ref (ad (k + 1)), .ref (ad (k + 2))]) := by rw [eM_4]; exact va_up_self _ _ _
  have h4_2 : M_4 (k + 1) = eQ cs 8 16 (fun _ => none) := by rw [eM_4]; exact (va_up_ne _ _ (by omega)).trans h3_2
  have h4_3 : M_4 (k + 2) = eQ cs 10 2 (fun i => if i < 2 then some (ad (k + 2 + 1 + i)) else none) := by rw [eM_4]; exact (va_up_ne _ _ (by omega)).trans mz1
  have h4_4 : M_4 (k + 3) = eB cs 16 (fun _ => 0) := by rw [eM_4]; exact (va_up_ne _ _ (by omega)).trans mz2
  have h4_5 : M_4 (k + 4) = eB cs 16 (fun _ => 0) := by rw [eM_4]; exact (va_up_ne _ _ (by omega)).trans mz3
  refine lv_iconst (v := nI 0) hx hb dX0_init_24 (by decide) ?_
  refine lv_istore_n (lv' := [(1, .int (nI 0)), (0, .ref (ad k))]) hx hb dX0_init_25 rfl hl (by decide) rfl (fun ls hl => ?_)
  have hfr0 : ∀ j, j < k → M_4 j = M j := fun j hj => (by rw [eM_4, va_up_ne _ _ (by omega)]; exact mz4 j hj)
  have fk2 : M_4 (k + 2) = eQ cs 10 2 (fun i => if i < 2 then some (ad (k + 2 + 1 + i)) else none) := h4_3
  have fk3 : M_4 (k + 3) = eB cs 16 (fun _ => 0) := h4_4
  have fk4 : M_4 (k + 4) = eB cs 16 (fun _ => 0) := h4_5
  refine lpB (fun y (x : Nat × (Nat → va_E) × (Nat → Option Nat)) ls H locs => x.1 ≤ 16 ∧ y = 16 - x.1 ∧ x.2.1 (k + 1) = eQ cs 8 16 x.2.2 ∧ (∀ j, j < x.1 → x.2.2 j = some (ad (k + 5 + 3 * j)) ∧ x.2.1 (k + 5 + 3 * j) = oSt ad (k + 5 + 3 * j) 0 0 ∧ x.2.1 (k + 5 + 3 * j + 1) = eF cs 2 stX ∧ x.2.1 (k + 5 + 3 * j + 2) = eF cs 2 (fun _ => 0)) ∧ (∀ j, j < k + 5 → j ≠ k + 1 → x.2.1 j = M_4 j) ∧ lv_has ls 2 [(1, .int (nI x.1)), (0, .ref (ad k))] ∧ va_P D vwCl (sg ad (k + 5 + 3 * x.1) x.2.1) H ∧ va_S (Ge b) s.heap H locs ∧ H.size = b + (k + 5 + 3 * x.1)) 26 (fun x => 0 + 1 + (1 + 2) + 3 * x.1) (fun x => 0 + 16 + (2 + 2 * 16) + 8 * x.1) (fun y x ls H locs hC ih => ?_) 16 (0, M_4, fun _ => none) ls _ _ ⟨Nat.zero_le _, rfl, h4_2, fun j hj => absurd hj (Nat.not_lt_zero j), fun _ _ _ => rfl, lv_sub hl [0, 1] rfl, hP, hS, hz⟩
  obtain ⟨i, Mi, gi⟩ := x
  obtain ⟨i1, i2, i4, i5, i6, hl, hP, hS, hz⟩ := hC
  dsimp only at i1 i2 i4 i5 i6 hl hP hS hz ih ⊢
  have i3 : Mi k = .inr (0, [.ref (ad (k + 1)), .ref (ad (k + 2))]) := (i6 k (by omega) (by omega)).trans h4_1
  refine lv_iload_n hx hb dX0_init_26 rfl (lv_at hl 0 rfl) ?_
  refine lv_bipush (v := nI 16) hx hb dX0_init_27 (by decide) ?_
  refine n_cmp_ge (tgt := 51) hx hb dX0_init_29 (by decide) (by omega) (by omega) (fun c1 => ?_) (fun c1 => ?_)
  · have hi12 : i = 16 := by omega
    subst hi12
    exact b_ret hx hb hr hlocks hK hX hP hz hS dX0_init_51 ⟨⟨i3, ⟨gi, i4, fun j hj => (i5 j hj).1⟩, ⟨_, (i6 _ (by omega) (by omega)).trans fk2, rfl, rfl⟩, (i6 _ (by omega) (by omega)).trans fk3, (i6 _ (by omega) (by omega)).trans fk4, fun j hj => (i5 j hj).2⟩, fun j hj => (i6 j (by omega) (by omega)).trans (hfr0 j hj)⟩
  · refine lv_aload_n hx hb dX0_init_32 rfl (lv_at hl 1 rfl) ?_
    refine m_get hx hb hts inX0 hown hK hP (ci := 0) rfl (k := k) (by omega) i3 0 (by decide) (hts (.fieldLink RX0 13 "RollbackPair$History" "states" "[LRollbackPair$State;") (by decide +kernel)) rfl dX0_init_33 ?_
    refine lv_iload_n hx hb dX0_init_36 rfl (lv_at hl 0 rfl) ?_
    refine b_new hx hb hts inX5 tyX5 tyX5_ok hown (hts (.classLink RX0 11 RX5) (by decide +kernel)) (hts (.instantiable RX5 4) (by decide +kernel)) (hts (.initialized RX5) (by decide +kernel)) hab hK hP hz hS (ci := 5) rfl (fs := [.null, .null, .int 0, .double 0]) (by decide) (by show 0 + 1 + (1 + 2) + 3 * i + 1 ≤ 52; omega) (by show 0 + 16 + (2 + 2 * 16) + 8 * i + 4 ≤ 178; omega) dX0_init_37 (fun H hP hS hz => ?_)
    obtain ⟨M_1, eM_1⟩ : ∃ z, z = va_up Mi (k + 5 + 3 * i) (.inr (5, [.null, .null, .int 0, .double 0])) := ⟨_, rfl⟩
    rw [← eM_1] at hP
    have h1_1 : M_1 k = .inr (0, [.ref (ad (k + 1)), .ref (ad (k + 2))]) := by rw [eM_1]; exact (va_up_ne _ _ (by omega)).trans i3
    have h1_2 : M_1 (k + 1) = eQ cs 8 16 gi := by rw [eM_1]; exact (va_up_ne _ _ (by omega)).trans i4
    have h1_3 : M_1 (k + 5 + 3 * i) = .inr (5, [.null, .null, .int 0, .double 0]) := by rw [eM_1]; exact va_up_self _ _ _
    refine lv_dup hx hb dX0_init_40 rfl ?_
    refine k_I (As := []) (rest := [.ref (ad (k + 5 + 3 * i)), .int (nI i), .ref (ad (k + 1))]) (k := (k + 5 + 3 * i)) ⟨hx, hb, hml, hown, hts⟩ hK hX hP hz hS (i_X5 l D cs ad b hab M_1 (k + 5 + 3 * i) h1_3) (cwI 0 hts ggX0_init_X5_init rfl rfl rfl (hts (.initialized RX5) (by decide +kernel)) (hts (.methodLink RX0 22 yX5_init) (by decide +kernel)) (hts (.instanceMethod yX5_init) (by decide +kernel)) rfl (by decide +kernel) ⟨Nat.le_of_ble_eq_true rfl, Nat.le_of_ble_eq_true rfl⟩) rfl rfl hl.1 (Nat.le_of_ble_eq_true rfl) dX0_init_41 ⟨by show 0 + 1 + (1 + 2) + 3 * i + 1 + 2 ≤ 52; omega, by show 0 + 16 + (2 + 2 * 16) + 8 * i + 4 + 4 ≤ 178; omega⟩ (fun N1 H locs hpo hP hS hz => ?_)
    obtain ⟨s1, s2, s3, s4⟩ := hpo
    have h2_1 : N1 k = .inr (0, [.ref (ad (k + 1)), .ref (ad (k + 2))]) := (s4 _ (by omega)).trans h1_1
    have h2_2 : N1 (k + 1) = eQ cs 8 16 gi := (s4 _ (by omega)).trans h1_2
    refine b_aast hx hb hab hK hP hS 8 5 rfl rfl (k := (k + 1)) (k2 := (k + 5 + 3 * i)) (by omega) (by omega) (f := gi) h2_2 s1 (i := i) (by omega) (by decide) dX0_init_44 (fun H locs hP hS hq => ?_)
    replace hz := hq.trans hz
    obtain ⟨M_3, eM_3⟩ : ∃ z, z = va_up N1 (k + 1) (eQ cs 8 16 (va_up gi i (some (ad (k + 5 + 3 * i))))) := ⟨_, rfl⟩
    rw [← eM_3] at hP
    have h3_1 : M_3 k = .inr (0, [.ref (ad (k + 1)), .ref (ad (k + 2))]) := by rw [eM_3]; exact (va_up_ne _ _ (by omega)).trans h2_1
    have h3_2 : M_3 (k + 1) = eQ cs 8 16 (va_up gi i (some (ad (k + 5 + 3 * i)))) := by rw [eM_3]; exact va_up_self _ _ _
    have h3_3 : M_3 (k + 5 + 3 * i) = .inr (5, [.ref (ad (k + 5 + 3 * i + 1)), .ref (ad (k + 5 + 3 * i + 2)), .int 0, .double 0]) := by rw [eM_3]; exact (va_up_ne _ _ (by omega)).trans s1
    have h3_4 : M_3 (k + 5 + 3 * i + 1) = eF cs 2 stX := by rw [eM_3]; exact (va_up_ne _ _ (by omega)).trans s2
    have h3_5 : M_3 (k + 5 + 3 * i + 2) = eF cs 2 (fun _ => 0) := by rw [eM_3]; exact (va_up_ne _ _ (by omega)).trans s3
    refine lv_iinc (v := nI (i + 1)) (lv' := [(1, .int (nI (i + 1))), (0, .ref (ad k))]) hx hb dX0_init_45 hl (k := 0) rfl (nI_1 _) (by decide) rfl (fun ls hl => ?_)
    refine lv_goto (tgt := 26) hx hb dX0_init_48 (by decide) ?_
    have hfrm : ∀ j, j < k + 5 + 3 * i → j ≠ k + 1 → M_3 j = Mi j := fun j z1 z2 => by rw [eM_3, va_up_ne _ _ z2, s4 j z1, eM_1, va_up_ne _ _ (by omega)]
    have h9 := ih (16 - (i + 1)) (by omega) (i + 1, M_3, va_up gi i (some (ad (k + 5 + 3 * i)))) ls H locs ⟨by omega, rfl, h3_2, fun j hj => ?_, fun j z1 z2 => (hfrm j (by omega) z2).trans (i6 j z1 z2), lv_sub hl [0, 1] rfl, by rw [show k + 5 + 3 * (i + 1) = k + 5 + 3 * i + 3 by omega]; exact hP, hS, by dsimp only; rw [show k + 5 + 3 * (i + 1) = k + 5 + 3 * i + 3 by omega]; exact hz⟩
    · dsimp only at h9
      rw [show 0 + 1 + (1 + 2) + 3 * (i + 1) = 0 + 1 + (1 + 2) + 3 * i + 1 + 2 by omega, show 0 + 16 + (2 + 2 * 16) + 8 * (i + 1) = 0 + 16 + (2 + 2 * 16) + 8 * i + 4 + 4 by omega] at h9
      exact h9
    · dsimp only at hj ⊢
      by_cases hji : j = i
      · subst hji; exact ⟨va_up_self _ _ _, h3_3, h3_4, h3_5⟩
      · obtain ⟨o1, o2, o3, o4⟩ := i5 j (by omega)
        exact ⟨by rw [va_up_ne _ _ hji]; exact o1, (hfrm _ (by omega) (by omega)).trans o2, (hfrm _ (by omega) (by omega)).trans o3, (hfrm _ (by omega) (by omega)).trans o4⟩
