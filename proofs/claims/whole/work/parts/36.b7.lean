theorem Fc_8 : Fb 1090519040 (64 * e8) (64 * e8) := Fc (by decide) (by decide +kernel)
theorem Fc_24 : Fb 1103101952 (192 * e8) (192 * e8) := Fc (by decide) (by decide +kernel)
theorem Dc_0 : Db 0 0 0 := Dc (by decide) (by decide +kernel)
theorem S0_v (dd : Nat) (sv : Int32) {q : Nat} (hq : q < 2) : (S0 dd sv).1 4 q = -1 ∧ (S0 dd sv).1 5 q = nI dd ∧ (S0 dd sv).1 8 q = sv ∧ (S0 dd sv).1 12 (2 * q + q) = nI dd ∧ (S0 dd sv).1 12 (2 * q + (1 - q)) = nI dd ∧ (S0 dd sv).2.1 13 (600 * q + 0) = 1090519040 ∧ (S0 dd sv).2.1 15 (600 * q + 0) = 1103101952 := by
  rcases (show q = 0 ∨ q = 1 by omega) with rfl | rfl
  · exact ⟨rfl, rfl, rfl, rfl, rfl, rfl, rfl⟩
  · exact ⟨rfl, rfl, rfl, rfl, rfl, rfl, rfl⟩
theorem i0_I (dd ww : Nat) (sv : Int32) {q : Nat} (hq : q < 2) (hdd : dd ≤ 4) : Iq dd ww (S0 dd sv) q 0 dd := by
  obtain ⟨v4, v5, v8, va, vb, vx, vy⟩ := S0_v dd sv hq
  refine ⟨rfl, by rw [va, Nat.zero_add], vb, by omega, fun _ => by omega, Or.inl v4, ⟨dd, v5, by omega⟩, fun f _ => ⟨0, by decide, rfl⟩, fun f _ => ⟨0, by decide, rfl⟩, fun pl f _ hf => absurd hf (Nat.not_lt_zero f), fun f hf => ?_, ?_⟩
  · have h0 : f = 0 := by omega
    subst h0
    have e0 := e8_pos
    unfold BdAt
    rw [vx, vy]
    exact ⟨Fc_8.wk (by omega) (by omega), Fc_0.wk (by omega) (by omega), Fc_24.wk (by omega) (by omega), Fc_0.wk (by omega) (by omega), Dc_0.wk (by simp) (by simp)⟩
  · have e0 := e8_pos
    exact Fc_0.wk (by omega) (by omega)
theorem i0_P {ad : Nat → Nat} {cs : Nat → ClassId} {M : Nat → va_E} {k r1 r2 q dd ww : Nat} {sv : Int32} (hq : q < 2) (h1 : M k = oPe ad k r1 r2 q ww 0 0 (nI dd) sv 0 0 0) (hH : HiA ad cs (k + 1) M (fun _ => stX) (fun _ _ => 0) (fun _ => 0) (fun _ => 0) (fun _ _ => 0)) (h2 : M (k + 54) = oIn ad (k + 55) dd 0) (h3 : M (k + 55) = eB cs 1024 (fun _ => 0)) (h4 : M (k + 56) = oIn ad (k + 57) dd 0) (h5 : M (k + 57) = eB cs 32 (fun _ => 0)) : PeS ad cs k r1 r2 q ww (S0 dd sv) M 0 (0 + dd) dd := by
  obtain ⟨v4, v5, v8, va, vb, vx, vy⟩ := S0_v dd sv hq
  refine ⟨fun _ => stX, fun _ _ => 0, fun _ => 0, fun _ => 0, fun _ _ => 0, fun _ => 0, fun _ => 0, ?_, hH, ⟨fun f _ hf => ?_, fun pl f _ _ hf => absurd hf (Nat.not_lt_zero f)⟩, by rw [Nat.zero_add]; exact h2, h3, fun f _ => rfl, ?_, h5, fun f _ _ => rfl⟩
  · rw [v5, v8]; exact h1
  · have h0 : f = 0 := by omega
    subst h0
    rw [vx, vy]
    exact ⟨rfl, rfl, rfl, rfl, rfl, rfl⟩
  · rw [h4]
    unfold edOf
    rw [v4, if_neg (by decide)]
theorem i0_R {ad : Nat → Nat} {cs : Nat → ClassId} {M : Nat → va_E} {kr o dd : Nat} {sv : Int32} (h : RwA ad cs kr M (fun i => i) 0 (fun _ => pk0)) : RwS ad cs kr M (S0 dd sv) o :=
  ⟨fun i => i, fun _ => pk0, 0, h, rfl, by decide, fun i hi => hi, fun i j _ _ h => h, fun i hi => absurd hi (Nat.not_lt_zero i)⟩
theorem sh_0 : sh 0 := by unfold sh; decide
theorem i0_sh (dd : Nat) {sv : Int32} (hs : sh sv) : (∀ i, sh ((S0 dd sv).1 20 i)) ∧ ∀ q, q < 2 → sh ((S0 dd sv).1 8 q) ∧ sh ((S0 dd sv).1 7 q) :=
  ⟨fun i => sh_0, fun q hq => ⟨by rw [(S0_v dd sv hq).2.2.1]; exact hs, sh_0⟩⟩
theorem cl_D (d : Int32) : (if nI 0 < (if d < nI 4 then d else nI 4) then (if d < nI 4 then d else nI 4) else nI 0) = nI (hdD d) := by
  by_cases h1 : d < 0
  · rw [if_pos (Int32.lt_trans h1 (by decide)), if_neg (show ¬ nI 0 < d from Int32.not_lt.mpr (Int32.le_of_lt h1))]; exact hdD_a h1
  · by_cases h2 : d < nI 4
    · rw [if_pos h2]
      by_cases h3 : nI 0 < d
      · rw [if_pos h3]; exact hdD_b h1 (Int32.le_of_lt h2)
      · rw [if_neg h3]
        have e : d = 0 := Int32.le_antisymm (Int32.not_lt.mp h3) (Int32.not_lt.mp h1)
        subst e; decide
    · rw [if_neg h2, if_pos (by decide)]
      by_cases h3 : d ≤ nI 4
      · have e : d = nI 4 := Int32.le_antisymm h3 (Int32.not_lt.mp h2)
        subst e; decide
      · exact hdD_c h1 h3
theorem cl_W (w : Int32) : (if nI 1 < (if w < nI 8 then w else nI 8) then (if w < nI 8 then w else nI 8) else nI 1) = nI (hdW w) := by
  by_cases h1 : w < nI 1
  · rw [if_pos (Int32.lt_trans h1 (by decide)), if_neg (Int32.not_lt.mpr (Int32.le_of_lt h1))]; exact hdW_a h1
  · by_cases h2 : w < nI 8
    · rw [if_pos h2]
      by_cases h3 : nI 1 < w
      · rw [if_pos h3]; exact hdW_b h1 (Int32.le_of_lt h2)
      · rw [if_neg h3]
        have e : w = nI 1 := Int32.le_antisymm (Int32.not_lt.mp h3) (Int32.not_lt.mp h1)
        subst e; decide
    · rw [if_neg h2, if_pos (by decide)]
      by_cases h3 : w ≤ nI 8
      · have e : w = nI 8 := Int32.le_antisymm h3 (Int32.not_lt.mp h2)
        subst e; decide
      · exact hdW_c h1 h3
set_option maxHeartbeats 4000000 in
set_option maxRecDepth 100000 in
/-- RollbackPair(d, w, st) -/
theorem i_X6 (l : Launch) (D : va_G) (cs : Nat → ClassId) (ad : Nat → Nat) (b : Nat) (hab : ∀ k, ad k = b + k) (M : Nat → va_E) (d w st : Int32) (h1 : M 0 = .inr (6, [.null])) : CB l yX6_init wsX6_init ({ frames := 4, cells := 145, slots := 2710, locals := 84 }) D cs ad b 1 146 M [.ref (ad 0), .int d, .int w, .int st] (fun M2 => CR (hdD d) (hdW w) 0 ad cs M2 (S0 (hdD d) st.toInt16.toInt32)) 145 2710 := by
  refine Met.ofW (cc := cX6_init) (maxL := 8) (ret := none) (by decide) rfl ?_
  intro p e s m args below meth c s₁ B hml hv
  obtain ⟨rfl, hz, ⟨hP, hK⟩, hX⟩ := hv
  have hin : meth.name = "<init>" := (name_of_methodNamed B.named B.method).1
  have hx := B.exec
  have hb := B.bytes
  have hr := B.returns
  have hts := atoms_spec (ws := wsX6_init) B.pre
  have hown : s.vm.findClass RX6 = some m.cls := findClass_of_methodNamed B.named
  have hlocks := B.notSynchronized
  have hS : va_S (Ge b) s.heap s.heap [] := va_S.rf
  have hl := lv_entry ([.ref (ad 0), .int d, .int w, .int st]) (n := 8) (Nat.le_of_ble_eq_true rfl)
  rw [lg_entry_eq]
  generalize (lg_sl ([.ref (ad 0), .int d, .int w, .int st]) ++ List.replicate (8 - (lg_sl ([.ref (ad 0), .int d, .int w, .int st])).length) Slot.unset).toArray = ls at hl ⊢
  have hl : lv_has ls 8 [(0, .ref (ad 0)), (1, .int d), (2, .int w), (3, .int st)] := hl
  have inX6 : ∀ w ∈ u_ws RX6 TX6 1, w ∈ wsX6_init := fun w h => List.mem_cons_of_mem _ (List.mem_append_left _ (List.mem_append_left _ (List.mem_append_left _ (List.mem_append_left _ (List.mem_append_left _ (List.mem_append_left _ (List.mem_append_right _ h)))))))
  have inX4 : ∀ w ∈ u_ws RX4 TX4 2, w ∈ wsX6_init := fun w h => List.mem_cons_of_mem _ (List.mem_append_left _ (List.mem_append_left _ (List.mem_append_left _ (List.mem_append_left _ (List.mem_append_left _ (List.mem_append_right _ h))))))
  have inX3 : ∀ w ∈ u_ws RX3 TX3 14, w ∈ wsX6_init := fun w h => List.mem_cons_of_mem _ (List.mem_append_left _ (List.mem_append_left _ (List.mem_append_left _ (List.mem_append_left _ (List.mem_append_right _ h)))))
  refine lv_aload_n hx hb dX6_init_0 rfl (lv_at hl 0 rfl) ?_
  refine W.objInit hx hb hown (hts (.methodLink RX6 1 objectInit) (by decide +kernel)) (hts (.instanceMethod objectInit) (by decide +kernel)) (hts (.code objectInit ⟨#[0xb1]⟩ 1 none) (by decide +kernel)) rfl (by rw [hml]; exact hl.1) rfl dX6_init_1 (Nat.le_of_ble_eq_true rfl) (Nat.le_of_ble_eq_true rfl) ?_
  refine W.eq (g2 := F0 m 4 ls []) rfl ?_
  refine lv_aload_n hx hb dX6_init_4 rfl (lv_at hl 0 rfl) ?_
  refine lv_iconst (v := nI 2) hx hb dX6_init_5 (by decide) ?_
  refine b_anew hx hb (C := RX3) hown (hts (.classLink RX6 7 RX3) (by decide +kernel)) hX.2.2.1 hab hK hP hz hS 9 rfl (by decide) (by decide) (Nat.le_of_ble_eq_true rfl) (Nat.le_of_ble_eq_true rfl) dX6_init_6 (fun H hP hS hz => ?_)
  obtain ⟨M_1, eM_1⟩ : ∃ z, z = va_up M 1 (eQ cs 9 2 (fun _ => none)) := ⟨_, rfl⟩
  rw [← eM_1] at hP
  have h1_1 : M_1 0 = .inr (6, [.null]) := by rw [eM_1]; exact (va_up_ne _ _ (by omega)).trans h1
  have h1_2 : M_1 1 = eQ cs 9 2 (fun _ => none) := by rw [eM_1]; exact va_up_self _ _ _
  refine b_putF hx hb hts inX6 tyX6 tyX6_ok nmX6 hown hab hK hP hS (ci := 6) rfl (k := 0) (by omega) h1_1 0 (by decide) (hts (.fieldLink RX6 9 "RollbackPair" "peers" "[LRollbackPair$Peer;") (by decide +kernel)) rfl hin rfl rfl rfl (Nat.le_of_ble_eq_true rfl) (fs' := [.ref (ad 1)]) rfl dX6_init_9 (fun H locs hP hS hq => ?_)
  replace hz := hq.trans hz
  obtain ⟨M_2, eM_2⟩ : ∃ z, z = va_up M_1 0 (.inr (6, [.ref (ad 1)])) := ⟨_, rfl⟩
  rw [← eM_2] at hP
  have h2_1 : M_2 0 = .inr (6, [.ref (ad 1)]) := by rw [eM_2]; exact va_up_self _ _ _
  have h2_2 : M_2 1 = eQ cs 9 2 (fun _ => none) := by rw [eM_2]; exact (va_up_ne _ _ (by omega)).trans h1_2
  refine lv_iconst (v := nI 0) hx hb dX6_init_12 (by decide) ?_
  refine lv_iconst (v := nI 4) hx hb dX6_init_13 (by decide) ?_
  refine lv_iload_n hx hb dX6_init_14 rfl (lv_at hl 1 rfl) ?_
  refine va_mmin hx hb (hml.trans hl.1.symm) hown (hts (.methodLink RX6 15 Lib.Math.min.name) (by decide +kernel)) (hts (.static Lib.Math.min.name) (by decide +kernel)) (hts (.initialized "java/lang/Math") (by decide +kernel)) (hts (.code Lib.Math.min.name Lib.Math.min.code 2 (some .int)) (by decide +kernel)) (Nat.le_of_ble_eq_true rfl) (Nat.le_of_ble_eq_true rfl) (Nat.le_of_ble_eq_true rfl) (Nat.le_of_ble_eq_true rfl) dX6_init_15 ?_
  refine va_mmax hx hb (hml.trans hl.1.symm) hown (hts (.methodLink RX6 21 Lib.Math.max.name) (by decide +kernel)) (hts (.static Lib.Math.max.name) (by decide +kernel)) (hts (.initialized "java/lang/Math") (by decide +kernel)) (hts (.code Lib.Math.max.name Lib.Math.max.code 2 (some .int)) (by decide +kernel)) (Nat.le_of_ble_eq_true rfl) (Nat.le_of_ble_eq_true rfl) (Nat.le_of_ble_eq_true rfl) (Nat.le_of_ble_eq_true rfl) dX6_init_18 ?_
  refine n_val (cl_D d) ?_
  refine lv_istore (lv' := [(4, .int (nI (hdD d))), (0, .ref (ad 0)), (1, .int d), (2, .int w), (3, .int st)]) hx hb dX6_init_21 hl (by decide) rfl (fun ls hl => ?_)
  refine lv_iconst (v := nI 1) hx hb dX6_init_23 (by decide) ?_
  refine lv_bipush (v := nI 8) hx hb dX6_init_24 (by decide) ?_
  refine lv_iload_n hx hb dX6_init_26 rfl (lv_at hl 3 rfl) ?_
  refine va_mmin hx hb (hml.trans hl.1.symm) hown (hts (.methodLink RX6 15 Lib.Math.min.name) (by decide +kernel)) (hts (.static Lib.Math.min.name) (by decide +kernel)) (hts (.initialized "java/lang/Math") (by decide +kernel)) (hts (.code Lib.Math.min.name Lib.Math.min.code 2 (some .int)) (by decide +kernel)) (Nat.le_of_ble_eq_true rfl) (Nat.le_of_ble_eq_true rfl) (Nat.le_of_ble_eq_true rfl) (Nat.le_of_ble_eq_true rfl) dX6_init_27 ?_
  refine va_mmax hx hb (hml.trans hl.1.symm) hown (hts (.methodLink RX6 21 Lib.Math.max.name) (by decide +kernel)) (hts (.static Lib.Math.max.name) (by decide +kernel)) (hts (.initialized "java/lang/Math") (by decide +kernel)) (hts (.code Lib.Math.max.name Lib.Math.max.code 2 (some .int)) (by decide +kernel)) (Nat.le_of_ble_eq_true rfl) (Nat.le_of_ble_eq_true rfl) (Nat.le_of_ble_eq_true rfl) (Nat.le_of_ble_eq_true rfl) dX6_init_30 ?_
  refine n_val (cl_W w) ?_
  refine lv_istore (lv' := [(5, .int (nI (hdW w))), (4, .int (nI (hdD d))), (0, .ref (ad 0)), (1, .int d), (2, .int w), (3, .int st)]) hx hb dX6_init_33 hl (by decide) rfl (fun ls hl => ?_)
  refine b_new hx hb hts inX4 tyX4 tyX4_ok hown (hts (.classLink RX6 24 RX4) (by decide +kernel)) (hts (.instantiable RX4 2) (by decide +kernel)) (hts (.initialized RX4) (by decide +kernel)) hab hK hP hz hS (ci := 4) rfl (fs := [.null, .int 0]) (by decide) (Nat.le_of_ble_eq_true rfl) (Nat.le_of_ble_eq_true rfl) dX6_init_35 (fun H hP hS hz => ?_)
  obtain ⟨M_3, eM_3⟩ : ∃ z, z = va_up M_2 2 (.inr (4, [.null, .int 0])) := ⟨_, rfl⟩
  rw [← eM_3] at hP
  have h3_1 : M_3 0 = .inr (6, [.ref (ad 1)]) := by rw [eM_3]; exact (va_up_ne _ _ (by omega)).trans h2_1
  have h3_2 : M_3 1 = eQ cs 9 2 (fun _ => none) := by rw [eM_3]; exact (va_up_ne _ _ (by omega)).trans h2_2
  have h3_3 : M_3 2 = .inr (4, [.null, .int 0]) := by rw [eM_3]; exact va_up_self _ _ _
  refine lv_dup hx hb dX6_init_38 rfl ?_
  refine k_I (As := []) (rest := [.ref (ad 2)]) (k := 2) ⟨hx, hb, hml, hown, hts⟩ hK hX hP hz hS (i_X4 l D cs ad b hab M_3 2 h3_3) (cwI 0 hts ggX6_init_X4_init rfl rfl rfl (hts (.initialized RX4) (by decide +kernel)) (hts (.methodLink RX6 26 yX4_init) (by decide +kernel)) (hts (.instanceMethod yX4_init) (by decide +kernel)) rfl (by decide +kernel) ⟨Nat.le_of_ble_eq_true rfl, Nat.le_of_ble_eq_true rfl⟩) rfl rfl hl.1 (Nat.le_of_ble_eq_true rfl) dX6_init_39 ⟨Nat.le_of_ble_eq_true rfl, Nat.le_of_ble_eq_true rfl⟩ (fun N1 H locs hpo hP hS hz => ?_)
  obtain ⟨ra, rf⟩ := hpo
  have h4_1 : N1 0 = .inr (6, [.ref (ad 1)]) := (rf _ (by omega)).trans h3_1
  have h4_2 : N1 1 = eQ cs 9 2 (fun _ => none) := (rf _ (by omega)).trans h3_2
  refine lv_astore (lv' := [(6, .ref (ad 2)), (5, .int (nI (hdW w))), (4, .int (nI (hdD d))), (0, .ref (ad 0)), (1, .int d), (2, .int w), (3, .int st)]) hx hb dX6_init_42 hl (by decide) rfl (fun ls hl => ?_)
  refine b_new hx hb hts inX4 tyX4 tyX4_ok hown (hts (.classLink RX6 24 RX4) (by decide +kernel)) (hts (.instantiable RX4 2) (by decide +kernel)) (hts (.initialized RX4) (by decide +kernel)) hab hK hP hz hS (ci := 4) rfl (fs := [.null, .int 0]) (by decide) (Nat.le_of_ble_eq_true rfl) (Nat.le_of_ble_eq_true rfl) dX6_init_44 (fun H hP hS hz => ?_)
  obtain ⟨M_5, eM_5⟩ : ∃ z, z = va_up N1 16 (.inr (4, [.null, .int 0])) := ⟨_, rfl⟩
  rw [← eM_5] at hP
  have h5_1 : M_5 0 = .inr (6, [.ref (ad 1)]) := by rw [eM_5]; exact (va_up_ne _ _ (by omega)).trans h4_1
  have h5_2 : M_5 1 = eQ cs 9 2 (fun _ => none) := by rw [eM_5]; exact (va_up_ne _ _ (by omega)).trans h4_2
  have h5_3 : M_5 16 = .inr (4, [.null, .int 0]) := by rw [eM_5]; exact va_up_self _ _ _
  refine lv_dup hx hb dX6_init_47 rfl ?_
  refine k_I (As := []) (rest := [.ref (ad 16)]) (k := 16) ⟨hx, hb, hml, hown, hts⟩ hK hX hP hz hS (i_X4 l D cs ad b hab M_5 16 h5_3) (cwI 0 hts ggX6_init_X4_init rfl rfl rfl (hts (.initialized RX4) (by decide +kernel)) (hts (.methodLink RX6 26 yX4_init) (by decide +kernel)) (hts (.instanceMethod yX4_init) (by decide +kernel)) rfl (by decide +kernel) ⟨Nat.le_of_ble_eq_true rfl, Nat.le_of_ble_eq_true rfl⟩) rfl rfl hl.1 (Nat.le_of_ble_eq_true rfl) dX6_init_48 ⟨Nat.le_of_ble_eq_true rfl, Nat.le_of_ble_eq_true rfl⟩ (fun N2 H locs hpo hP hS hz => ?_)
  obtain ⟨rb, rg⟩ := hpo
  have g2 : ∀ j, j < 16 → N2 j = N1 j := fun j hj => (rg j hj).trans (by rw [eM_5, va_up_ne _ _ (by omega)])
  have h6_1 : N2 0 = .inr (6, [.ref (ad 1)]) := (rg _ (by omega)).trans h5_1
  have h6_2 : N2 1 = eQ cs 9 2 (fun _ => none) := (rg _ (by omega)).trans h5_2
  refine lv_astore (lv' := [(7, .ref (ad 16)), (6, .ref (ad 2)), (5, .int (nI (hdW w))), (4, .int (nI (hdD d))), (0, .ref (ad 0)), (1, .int d), (2, .int w), (3, .int st)]) hx hb dX6_init_51 hl (by decide) rfl (fun ls hl => ?_)
  refine lv_aload_n hx hb dX6_init_53 rfl (lv_at hl 4 rfl) ?_
  refine m_get hx hb hts inX6 hown hK hP (ci := 6) rfl (k := 0) (by omega) h6_1 0 (by decide) (hts (.fieldLink RX6 9 "RollbackPair" "peers" "[LRollbackPair$Peer;") (by decide +kernel)) rfl dX6_init_54 ?_
  refine lv_iconst (v := nI 0) hx hb dX6_init_57 (by decide) ?_
  refine b_new hx hb hts inX3 tyX3 tyX3_ok hown (hts (.classLink RX6 7 RX3) (by decide +kernel)) (hts (.instantiable RX3 14) (by decide +kernel)) (hts (.initialized RX3) (by decide +kernel)) hab hK hP hz hS (ci := 3) rfl (fs := [.int 0, .int 0, .null, .null, .null, .null, .null, .int 0, .int 0, .int 0, .int 0, .int 0, .int 0, .float 0]) (by decide) (Nat.le_of_ble_eq_true rfl) (Nat.le_of_ble_eq_true rfl) dX6_init_58 (fun H hP hS hz => ?_)
  obtain ⟨M_7, eM_7⟩ : ∃ z, z = va_up N2 30 (.inr (3, [.int 0, .int 0, .null, .null, .null, .null, .null, .int 0, .int 0, .int 0, .int 0, .int 0, .int 0, .float 0])) := ⟨_, rfl⟩
  rw [← eM_7] at hP
  have h7_1 : M_7 0 = .inr (6, [.ref (ad 1)]) := by rw [eM_7]; exact (va_up_ne _ _ (by omega)).trans h6_1
  have h7_2 : M_7 1 = eQ cs 9 2 (fun _ => none) := by rw [eM_7]; exact (va_up_ne _ _ (by omega)).trans h6_2
  have h7_3 : M_7 30 = .inr (3, [.int 0, .int 0, .null, .null, .null, .null, .null, .int 0, .int 0, .int 0, .int 0, .int 0, .int 0, .float 0]) := by rw [eM_7]; exact va_up_self _ _ _
  refine lv_dup hx hb dX6_init_61 rfl ?_
  refine lv_iconst (v := nI 0) hx hb dX6_init_62 (by decide) ?_
  refine lv_iload hx hb dX6_init_63 (lv_at hl 3 rfl) ?_
  refine lv_iload hx hb dX6_init_65 (lv_at hl 2 rfl) ?_
  refine lv_iload_n hx hb dX6_init_67 rfl (lv_at hl 7 rfl) ?_
  refine lv_i2s hx hb dX6_init_68 rfl ?_
  refine lv_aload hx hb dX6_init_69 (lv_at hl 1 rfl) ?_
  refine lv_aload hx hb dX6_init_71 (lv_at hl 0 rfl) ?_
  refine k_I (As := [.int (nI 0), .int (nI (hdD d)), .int (nI (hdW w)), .int st.toInt16.toInt32, .ref (ad 2), .ref (ad 16)]) (rest := [.ref (ad 30), .int (nI 0), .ref (ad 1)]) (k := 30) ⟨hx, hb, hml, hown, hts⟩ hK hX hP hz hS (i_X3 l D cs ad b hab M_7 30 0 (hdD d) (hdW w) 2 16 (st.toInt16.toInt32) (sh_i st) h7_3) (cwI 6 hts ggX6_init_X3_init rfl rfl rfl (hts (.initialized RX3) (by decide +kernel)) (hts (.methodLink RX6 27 yX3_init) (by decide +kernel)) (hts (.instanceMethod yX3_init) (by decide +kernel)) rfl (by decide +kernel) ⟨Nat.le_of_ble_eq_true rfl, Nat.le_of_ble_eq_true rfl⟩) rfl rfl hl.1 (Nat.le_of_ble_eq_true rfl) dX6_init_73 ⟨Nat.le_of_ble_eq_true rfl, Nat.le_of_ble_eq_true rfl⟩ (fun N3 H locs hpo hP hS hz => ?_)
  obtain ⟨p1, p2, p3, p4, p5, p6, p7⟩ := hpo
  have g3 : ∀ j, j < 30 → j ≠ 1 → N3 j = N2 j := fun j hj hj1 => (p7 j hj).trans (by rw [eM_7, va_up_ne _ _ (by omega)])
  have h8_1 : N3 0 = .inr (6, [.ref (ad 1)]) := (p7 _ (by omega)).trans h7_1
  have h8_2 : N3 1 = eQ cs 9 2 (fun _ => none) := (p7 _ (by omega)).trans h7_2
  refine b_aast hx hb hab hK hP hS 9 3 rfl rfl (k := 1) (k2 := 30) (by omega) (by omega) (f := (fun _ => none)) h8_2 p1 (i := 0) (by omega) (by decide) dX6_init_76 (fun H locs hP hS hq => ?_)
  replace hz := hq.trans hz
  obtain ⟨M_9, eM_9⟩ : ∃ z, z = va_up N3 1 (eQ cs 9 2 (va_up (fun _ => none) 0 (some (ad 30)))) := ⟨_, rfl⟩
  rw [← eM_9] at hP
  have h9_1 : M_9 0 = .inr (6, [.ref (ad 1)]) := by rw [eM_9]; exact (va_up_ne _ _ (by omega)).trans h8_1
  have h9_2 : M_9 1 = eQ cs 9 2 (va_up (fun _ => none) 0 (some (ad 30))) := by rw [eM_9]; exact va_up_self _ _ _
  have h9_3 : M_9 30 = .inr (3, [.int (nI 0), .int (nI (hdW w)), .ref (ad 2), .ref (ad 16), .ref (ad (30 + 54)), .ref (ad (30 + 56)), .ref (ad (30 + 1)), .int 0, .int 0, .int (nI (hdD d)), .int st.toInt16.toInt32, .int 0, .int 0, .float 0]) := by rw [eM_9]; exact (va_up_ne _ _ (by omega)).trans p1
  refine lv_aload_n hx hb dX6_init_77 rfl (lv_at hl 4 rfl) ?_
  refine m_get hx hb hts inX6 hown hK hP (ci := 6) rfl (k := 0) (by omega) h9_1 0 (by decide) (hts (.fieldLink RX6 9 "RollbackPair" "peers" "[LRollbackPair$Peer;") (by decide +kernel)) rfl dX6_init_78 ?_
  refine lv_iconst (v := nI 1) hx hb dX6_init_81 (by decide) ?_
  refine b_new hx hb hts inX3 tyX3 tyX3_ok hown (hts (.classLink RX6 7 RX3) (by decide +kernel)) (hts (.instantiable RX3 14) (by decide +kernel)) (hts (.initialized RX3) (by decide +kernel)) hab hK hP hz hS (ci := 3) rfl (fs := [.int 0, .int 0, .null, .null, .null, .null, .null, .int 0, .int 0, .int 0, .int 0, .int 0, .int 0, .float 0]) (by decide) (Nat.le_of_ble_eq_true rfl) (Nat.le_of_ble_eq_true rfl) dX6_init_82 (fun H hP hS hz => ?_)
  obtain ⟨M_10, eM_10⟩ : ∃ z, z = va_up M_9 88 (.inr (3, [.int 0, .int 0, .null, .null, .null, .null, .null, .int 0, .int 0, .int 0, .int 0, .int 0, .int 0, .float 0])) := ⟨_, rfl⟩
  rw [← eM_10] at hP
  have h10_1 : M_10 0 = .inr (6, [.ref (ad 1)]) := by rw [eM_10]; exact (va_up_ne _ _ (by omega)).trans h9_1
  have h10_2 : M_10 1 = eQ cs 9 2 (va_up (fun _ => none) 0 (some (ad 30))) := by rw [eM_10]; exact (va_up_ne _ _ (by omega)).trans h9_2
  have h10_3 : M_10 30 = .inr (3, [.int (nI 0), .int (nI (hdW w)), .ref (ad 2), .ref (ad 16), .ref (ad (30 + 54)), .ref (ad (30 + 56)), .ref (ad (30 + 1)), .int 0, .int 0, .int (nI (hdD d)), .int st.toInt16.toInt32, .int 0, .int 0, .float 0]) := by rw [eM_10]; exact (va_up_ne _ _ (by omega)).trans h9_3
  have h10_4 : M_10 88 = .inr (3, [.int 0, .int 0, .null, .null, .null, .null, .null, .int 0, .int 0, .int 0, .int 0, .int 0, .int 0, .float 0]) := by rw [eM_10]; exact va_up_self _ _ _
  refine lv_dup hx hb dX6_init_85 rfl ?_
  refine lv_iconst (v := nI 1) hx hb dX6_init_86 (by decide) ?_
  refine lv_iload hx hb dX6_init_87 (lv_at hl 3 rfl) ?_
  refine lv_iload hx hb dX6_init_89 (lv_at hl 2 rfl) ?_
  refine lv_iload_n hx hb dX6_init_91 rfl (lv_at hl 7 rfl) ?_
  refine lv_i2s hx hb dX6_init_92 rfl ?_
  refine lv_aload hx hb dX6_init_93 (lv_at hl 0 rfl) ?_
  refine lv_aload hx hb dX6_init_95 (lv_at hl 1 rfl) ?_
  refine k_I (As := [.int (nI 1), .int (nI (hdD d)), .int (nI (hdW w)), .int st.toInt16.toInt32, .ref (ad 16), .ref (ad 2)]) (rest := [.ref (ad 88), .int (nI 1), .ref (ad 1)]) (k := 88) ⟨hx, hb, hml, hown, hts⟩ hK hX hP hz hS (i_X3 l D cs ad b hab M_10 88 1 (hdD d) (hdW w) 16 2 (st.toInt16.toInt32) (sh_i st) h10_4) (cwI 6 hts ggX6_init_X3_init rfl rfl rfl (hts (.initialized RX3) (by decide +kernel)) (hts (.methodLink RX6 27 yX3_init) (by decide +kernel)) (hts (.instanceMethod yX3_init) (by decide +kernel)) rfl (by decide +kernel) ⟨Nat.le_of_ble_eq_true rfl, Nat.le_of_ble_eq_true rfl⟩) rfl rfl hl.1 (Nat.le_of_ble_eq_true rfl) dX6_init_97 ⟨Nat.le_of_ble_eq_true rfl, Nat.le_of_ble_eq_true rfl⟩ (fun N4 H locs hpo hP hS hz => ?_)
  obtain ⟨s1, s2, s3, s4, s5, s6, s7⟩ := hpo
  have g4 : ∀ j, j < 88 → j ≠ 1 → N4 j = N3 j := fun j hj hj1 => (s7 j hj).trans (by rw [eM_10, va_up_ne _ _ (by omega), eM_9, va_up_ne _ _ (by omega)])
  have h11_1 : N4 0 = .inr (6, [.ref (ad 1)]) := (s7 _ (by omega)).trans h10_1
  have h11_2 : N4 1 = eQ cs 9 2 (va_up (fun _ => none) 0 (some (ad 30))) := (s7 _ (by omega)).trans h10_2
  have h11_3 : N4 30 = .inr (3, [.int (nI 0), .int (nI (hdW w)), .ref (ad 2), .ref (ad 16), .ref (ad (30 + 54)), .ref (ad (30 + 56)), .ref (ad (30 + 1)), .int 0, .int 0, .int (nI (hdD d)), .int st.toInt16.toInt32, .int 0, .int 0, .float 0]) := (s7 _ (by omega)).trans h10_3
  refine b_aast hx hb hab hK hP hS 9 3 rfl rfl (k := 1) (k2 := 88) (by omega) (by omega) (f := (va_up (fun _ => none) 0 (some (ad 30)))) h11_2 s1 (i := 1) (by omega) (by decide) dX6_init_100 (fun H locs hP hS hq => ?_)
  replace hz := hq.trans hz
  obtain ⟨M_12, eM_12⟩ : ∃ z, z = va_up N4 1 (eQ cs 9 2 (va_up (va_up (fun _ => none) 0 (some (ad 30))) 1 (some (ad 88)))) := ⟨_, rfl⟩
  rw [← eM_12] at hP
  have h12_1 : M_12 0 = .inr (6, [.ref (ad 1)]) := by rw [eM_12]; exact (va_up_ne _ _ (by omega)).trans h11_1
  have h12_2 : M_12 1 = eQ cs 9 2 (va_up (va_up (fun _ => none) 0 (some (ad 30))) 1 (some (ad 88))) := by rw [eM_12]; exact va_up_self _ _ _
  have h12_3 : M_12 30 = .inr (3, [.int (nI 0), .int (nI (hdW w)), .ref (ad 2), .ref (ad 16), .ref (ad (30 + 54)), .ref (ad (30 + 56)), .ref (ad (30 + 1)), .int 0, .int 0, .int (nI (hdD d)), .int st.toInt16.toInt32, .int 0, .int 0, .float 0]) := by rw [eM_12]; exact (va_up_ne _ _ (by omega)).trans h11_3
  have h12_4 : M_12 88 = .inr (3, [.int (nI 1), .int (nI (hdW w)), .ref (ad 16), .ref (ad 2), .ref (ad (88 + 54)), .ref (ad (88 + 56)), .ref (ad (88 + 1)), .int 0, .int 0, .int (nI (hdD d)), .int st.toInt16.toInt32, .int 0, .int 0, .float 0]) := by rw [eM_12]; exact (va_up_ne _ _ (by omega)).trans s1
  have g5 : ∀ j, j ≠ 1 → M_12 j = N4 j := fun j hj => by rw [eM_12, va_up_ne _ _ hj]
  obtain ⟨z1, z2⟩ := i0_sh (hdD d) (sh_i st)
  have wa : RwA ad cs 2 M_12 (fun i => i) 0 (fun _ => pk0) := ra.kept (fun j y1 y2 => (g5 j (by omega)).trans ((g4 j (by omega) (by omega)).trans ((g3 j (by omega) (by omega)).trans (g2 j (by omega)))))
  have wb : RwA ad cs 16 M_12 (fun i => i) 0 (fun _ => pk0) := rb.kept (fun j y1 y2 => (g5 j (by omega)).trans ((g4 j (by omega) (by omega)).trans (g3 j (by omega) (by omega))))
  have fp0 : ∀ j, 30 ≤ j → j < 88 → M_12 j = N3 j := fun j y1 y2 => (g5 j (by omega)).trans (g4 j (by omega) (by omega))
  have fp1 : ∀ j, 88 ≤ j → M_12 j = N4 j := fun j y1 => g5 j (by omega)
  have P0 : PeS ad cs 30 2 16 0 (hdW w) (S0 (hdD d) (st.toInt16.toInt32)) M_12 0 (0 + hdD d) (hdD d) := i0_P (by decide) ((fp0 _ (by omega) (by omega)).trans p1) (p2.kept (fun j y1 y2 => fp0 j (by omega) (by omega))) ((fp0 _ (by omega) (by omega)).trans p3) ((fp0 _ (by omega) (by omega)).trans p4) ((fp0 _ (by omega) (by omega)).trans p5) ((fp0 _ (by omega) (by omega)).trans p6)
  have P1 : PeS ad cs 88 16 2 1 (hdW w) (S0 (hdD d) (st.toInt16.toInt32)) M_12 0 (0 + hdD d) (hdD d) := i0_P (by decide) ((fp1 _ (by omega)).trans s1) (s2.kept (fun j y1 y2 => fp1 j (by omega))) ((fp1 _ (by omega)).trans s3) ((fp1 _ (by omega)).trans s4) ((fp1 _ (by omega)).trans s5) ((fp1 _ (by omega)).trans s6)
  refine b_ret hx hb hr hlocks hK hX hP hz hS dX6_init_101 ⟨h12_1, ⟨_, h12_2, fun q hq => ?_⟩, fun q hq => ?_, fun q hq => ?_, z1, z2⟩
  · rcases (show q = 0 ∨ q = 1 by omega) with rfl | rfl
    · rfl
    · rfl
  · rcases (show q = 0 ∨ q = 1 by omega) with rfl | rfl
    · exact ⟨0, hdD d, Nat.le_refl 0, i0_I _ _ _ (by decide) (hdD_le d), P0⟩
    · exact ⟨0, hdD d, Nat.le_refl 0, i0_I _ _ _ (by decide) (hdD_le d), P1⟩
  · rcases (show q = 0 ∨ q = 1 by omega) with rfl | rfl
    · exact i0_R wa
    · exact i0_R wb
