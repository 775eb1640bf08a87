/-- the delay and the window that are held -/
def hdD (x : Int32) : Nat := if x < 0 then 0 else if x ≤ nI 4 then tn x else 4
def hdW (x : Int32) : Nat := if x < nI 1 then 1 else if x ≤ nI 8 then tn x else 8
theorem hdD_le (x : Int32) : hdD x ≤ 4 := by
  unfold hdD
  split
  · omega
  · split
    · rename_i h1 h2
      obtain ⟨j, hj, rfl⟩ := nI_of2 (M := nI 4) (n := 4) (nI_toInt (by decide)) h1 h2
      rw [tn_nI (by omega)]; exact hj
    · exact Nat.le_refl 4
theorem hdW_le (x : Int32) : 1 ≤ hdW x ∧ hdW x ≤ 8 := by
  unfold hdW
  split
  · omega
  · split
    · rename_i h1 h2
      obtain ⟨j, hj, rfl⟩ := nI_of2 (x := x) (M := nI 8) (n := 8) (nI_toInt (by decide)) (fun z => h1 (Int32.lt_trans z (by decide))) h2
      rw [tn_nI (by omega)]
      refine ⟨?_, hj⟩
      by_cases e : j = 0
      · subst e; exact absurd (by decide) h1
      · omega
    · omega
theorem hdD_a {x : Int32} (h : x < 0) : nI 0 = nI (hdD x) := by unfold hdD; rw [if_pos h]
theorem hdD_b {x : Int32} (h : ¬ x < 0) (h2 : x ≤ nI 4) : x = nI (hdD x) := by
  obtain ⟨j, hj, rfl⟩ := nI_of2 (M := nI 4) (n := 4) (nI_toInt (by decide)) h h2
  unfold hdD
  rw [if_neg h, if_pos h2, tn_nI (by omega)]
theorem hdD_c {x : Int32} (h : ¬ x < 0) (h2 : ¬ x ≤ nI 4) : nI 4 = nI (hdD x) := by unfold hdD; rw [if_neg h, if_neg h2]
theorem hdW_a {x : Int32} (h : x < nI 1) : nI 1 = nI (hdW x) := by unfold hdW; rw [if_pos h]
theorem hdW_b {x : Int32} (h : ¬ x < nI 1) (h2 : x ≤ nI 8) : x = nI (hdW x) := by
  obtain ⟨j, hj, rfl⟩ := nI_of2 (M := nI 8) (n := 8) (nI_toInt (by decide)) (fun z => h (Int32.lt_trans z (by decide))) h2
  unfold hdW
  rw [if_neg h, if_pos h2, tn_nI (by omega)]
theorem hdW_c {x : Int32} (h : ¬ x < nI 1) (h2 : ¬ x ≤ nI 8) : nI 8 = nI (hdW x) := by unfold hdW; rw [if_neg h, if_neg h2]
def S0 (dd : Nat) (sv : Int32) : SS :=
  (fun j => match j with
    | 4 => upd (upd (fun _ => 0) 0 (-1)) 1 (-1)
    | 5 => upd (upd (fun _ => 0) 0 (nI dd)) 1 (nI dd)
    | 8 => upd (upd (fun _ => 0) 0 sv) 1 sv
    | 12 => upd (upd (upd (upd (fun _ => 0) (2 * 0) (nI dd)) (2 * 0 + 1) (nI dd)) (2 * 1) (nI dd)) (2 * 1 + 1) (nI dd)
    | _ => (fun _ => 0),
   fun j => match j with
    | 13 => vf_upd (vf_upd (fun _ => 0) (600 * 0) 1090519040) (600 * 1) 1090519040
    | 15 => vf_upd (vf_upd (fun _ => 0) (600 * 0) 1103101952) (600 * 1) 1103101952
    | _ => (fun _ => 0), (fun _ => 0), (fun _ => 0))
set_option maxHeartbeats 4000000 in
set_option maxRecDepth 100000 in
/-- RollbackPairModel(d, w, st) -/
theorem i_X7 (l : Launch) (D : va_G) (cs : Nat → ClassId) (ad : Nat → Nat) (b : Nat) (hab : ∀ k, ad k = b + k) (M : Nat → va_E) (d w st : Int32) (h1 : M 0 = .inr (7, [.int 0, .int 0, .null, .null, .null, .null, .null, .null, .null, .null, .null, .null, .null, .null, .null, .null, .null, .null, .null, .null, .null, .null, .null, .null, .null, .null, .null, .float 0, .float 0])) : CB l yX7_init wsX7_init ({ frames := 1, cells := 25, slots := 12197, locals := 13 }) D cs ad b 1 26 M [.ref (ad 0), .int d, .int w, .int st] (fun M2 => ∀ k, k < 26 → M2 k = mm ad cs (nI (hdD d)) (nI (hdW w)) (S0 (hdD d) st.toInt16.toInt32) 0 0 k) 25 12197 := by
  refine Met.ofW (cc := cX7_init) (maxL := 5) (ret := none) (by decide) rfl ?_
  intro p e s m args below meth c s₁ B hml hv
  obtain ⟨rfl, hz, ⟨hP, hK⟩, hX⟩ := hv
  have hin : meth.name = "<init>" := (name_of_methodNamed B.named B.method).1
  have hx := B.exec
  have hb := B.bytes
  have hr := B.returns
  have hts := atoms_spec (ws := wsX7_init) B.pre
  have hown : s.vm.findClass RX7 = some m.cls := findClass_of_methodNamed B.named
  have hlocks := B.notSynchronized
  have hS : va_S (Ge b) s.heap s.heap [] := va_S.rf
  have hl := lv_entry ([.ref (ad 0), .int d, .int w, .int st]) (n := 5) (Nat.le_of_ble_eq_true rfl)
  rw [lg_entry_eq]
  generalize (lg_sl ([.ref (ad 0), .int d, .int w, .int st]) ++ List.replicate (5 - (lg_sl ([.ref (ad 0), .int d, .int w, .int st])).length) Slot.unset).toArray = ls at hl ⊢
  have hl : lv_has ls 5 [(0, .ref (ad 0)), (1, .int d), (2, .int w), (3, .int st)] := hl
  have inX7 : ∀ w ∈ u_ws RX7 TX7 29, w ∈ wsX7_init := fun w h => List.mem_cons_of_mem _ (List.mem_append_right _ h)
  refine lv_aload_n hx hb dX7_init_0 rfl (lv_at hl 0 rfl) ?_
  refine W.objInit hx hb hown (hts (.methodLink RX7 1 objectInit) (by decide +kernel)) (hts (.instanceMethod objectInit) (by decide +kernel)) (hts (.code objectInit ⟨#[0xb1]⟩ 1 none) (by decide +kernel)) rfl (by rw [hml]; exact hl.1) rfl dX7_init_1 (Nat.le_of_ble_eq_true rfl) (Nat.le_of_ble_eq_true rfl) ?_
  refine W.eq (g2 := F0 m 4 ls []) rfl ?_
  refine lv_aload_n hx hb dX7_init_4 rfl (lv_at hl 0 rfl) ?_
  refine lv_iconst (v := nI 2) hx hb dX7_init_5 (by decide) ?_
  refine b_newa hx hb (atype := .int) (hts (.arrayClass .int) (by decide +kernel)) hab hK hP hz hS 0 rfl rfl (a0 := (2, .inl (fun _ => 0))) (fun cA => vp_cell_i cA _ _) (by decide) (by decide) (Nat.le_of_ble_eq_true rfl) (Nat.le_of_ble_eq_true rfl) dX7_init_6 (fun H hP hS hz => ?_)
  obtain ⟨M_1, eM_1⟩ : ∃ z, z = va_up M 1 (eI cs 2 (fun _ => 0)) := ⟨_, rfl⟩
  rw [← eM_1] at hP
  have h1_1 : M_1 0 = .inr (7, [.int 0, .int 0, .null, .null, .null, .null, .null, .null, .null, .null, .null, .null, .null, .null, .null, .null, .null, .null, .null, .null, .null, .null, .null, .null, .null, .null, .null, .float 0, .float 0]) := by rw [eM_1]; exact (va_up_ne _ _ (by omega)).trans h1
  have h1_2 : M_1 1 = eI cs 2 (fun _ => 0) := by rw [eM_1]; exact va_up_self _ _ _
  refine b_putF hx hb hts inX7 tyX7 tyX7_ok nmX7 hown hab hK hP hS (ci := 7) rfl (k := 0) (by omega) h1_1 2 (by decide) (hts (.fieldLink RX7 7 "RollbackPairModel" "at" "[I") (by decide +kernel)) rfl hin rfl rfl rfl (Nat.le_of_ble_eq_true rfl) (fs' := [.int 0, .int 0, .ref (ad 1), .null, .null, .null, .null, .null, .null, .null, .null, .null, .null, .null, .null, .null, .null, .null, .null, .null, .null, .null, .null, .null, .null, .null, .null, .float 0, .float 0]) rfl dX7_init_8 (fun H locs hP hS hq => ?_)
  replace hz := hq.trans hz
  obtain ⟨M_2, eM_2⟩ : ∃ z, z = va_up M_1 0 (.inr (7, [.int 0, .int 0, .ref (ad 1), .null, .null, .null, .null, .null, .null, .null, .null, .null, .null, .null, .null, .null, .null, .null, .null, .null, .null, .null, .null, .null, .null, .null, .null, .float 0, .float 0])) := ⟨_, rfl⟩
  rw [← eM_2] at hP
  have h2_1 : M_2 0 = .inr (7, [.int 0, .int 0, .ref (ad 1), .null, .null, .null, .null, .null, .null, .null, .null, .null, .null, .null, .null, .null, .null, .null, .null, .null, .null, .null, .null, .null, .null, .null, .null, .float 0, .float 0]) := by rw [eM_2]; exact va_up_self _ _ _
  have h2_2 : M_2 1 = eI cs 2 (fun _ => 0) := by rw [eM_2]; exact (va_up_ne _ _ (by omega)).trans h1_2
  refine lv_aload_n hx hb dX7_init_11 rfl (lv_at hl 0 rfl) ?_
  refine lv_iconst (v := nI 2) hx hb dX7_init_12 (by decide) ?_
  refine b_newa hx hb (atype := .int) (hts (.arrayClass .int) (by decide +kernel)) hab hK hP hz hS 0 rfl rfl (a0 := (2, .inl (fun _ => 0))) (fun cA => vp_cell_i cA _ _) (by decide) (by decide) (Nat.le_of_ble_eq_true rfl) (Nat.le_of_ble_eq_true rfl) dX7_init_13 (fun H hP hS hz => ?_)
  obtain ⟨M_3, eM_3⟩ : ∃ z, z = va_up M_2 2 (eI cs 2 (fun _ => 0)) := ⟨_, rfl⟩
  rw [← eM_3] at hP
  have h3_1 : M_3 0 = .inr (7, [.int 0, .int 0, .ref (ad 1), .null, .null, .null, .null, .null, .null, .null, .null, .null, .null, .null, .null, .null, .null, .null, .null, .null, .null, .null, .null, .null, .null, .null, .null, .float 0, .float 0]) := by rw [eM_3]; exact (va_up_ne _ _ (by omega)).trans h2_1
  have h3_2 : M_3 1 = eI cs 2 (fun _ => 0) := by rw [eM_3]; exact (va_up_ne _ _ (by omega)).trans h2_2
  have h3_3 : M_3 2 = eI cs 2 (fun _ => 0) := by rw [eM_3]; exact va_up_self _ _ _
  refine b_putF hx hb hts inX7 tyX7 tyX7_ok nmX7 hown hab hK hP hS (ci := 7) rfl (k := 0) (by omega) h3_1 3 (by decide) (hts (.fieldLink RX7 13 "RollbackPairModel" "stalls" "[I") (by decide +kernel)) rfl hin rfl rfl rfl (Nat.le_of_ble_eq_true rfl) (fs' := [.int 0, .int 0, .ref (ad 1), .ref (ad 2), .null, .null, .null, .null, .null, .null, .null, .null, .null, .null, .null, .null, .null, .null, .null, .null, .null, .null, .null, .null, .null, .null, .null, .float 0, .float 0]) rfl dX7_init_15 (fun H locs hP hS hq => ?_)
  replace hz := hq.trans hz
  obtain ⟨M_4, eM_4⟩ : ∃ z, z = va_up M_3 0 (.inr (7, [.int 0, .int 0, .ref (ad 1), .ref (ad 2), .null, .null, .null, .null, .null, .null, .null, .null, .null, .null, .null, .null, .null, .null, .null, .null, .null, .null, .null, .null, .null, .null, .null, .float 0, .float 0])) := ⟨_, rfl⟩
  rw [← eM_4] at hP
  have h4_1 : M_4 0 = .inr (7, [.int 0, .int 0, .ref (ad 1), .ref (ad 2), .null, .null, .null, .null, .null, .null, .null, .null, .null, .null, .null, .null, .null, .null, .null, .null, .null, .null, .null, .null, .null, .null, .null, .float 0, .float 0]) := by rw [eM_4]; exact va_up_self _ _ _
  have h4_2 : M_4 1 = eI cs 2 (fun _ => 0) := by rw [eM_4]; exact (va_up_ne _ _ (by omega)).trans h3_2
  have h4_3 : M_4 2 = eI cs 2 (fun _ => 0) := by rw [eM_4]; exact (va_up_ne _ _ (by omega)).trans h3_3
  refine lv_aload_n hx hb dX7_init_18 rfl (lv_at hl 0 rfl) ?_
  refine lv_iconst (v := nI 2) hx hb dX7_init_19 (by decide) ?_
  refine b_newa hx hb (atype := .int) (hts (.arrayClass .int) (by decide +kernel)) hab hK hP hz hS 0 rfl rfl (a0 := (2, .inl (fun _ => 0))) (fun cA => vp_cell_i cA _ _) (by decide) (by decide) (Nat.le_of_ble_eq_true rfl) (Nat.le_of_ble_eq_true rfl) dX7_init_20 (fun H hP hS hz => ?_)
  obtain ⟨M_5, eM_5⟩ : ∃ z, z = va_up M_4 3 (eI cs 2 (fun _ => 0)) := ⟨_, rfl⟩
  rw [← eM_5] at hP
  have h5_1 : M_5 0 = .inr (7, [.int 0, .int 0, .ref (ad 1), .ref (ad 2), .null, .null, .null, .null, .null, .null, .null, .null, .null, .null, .null, .null, .null, .null, .null, .null, .null, .null, .null, .null, .null, .null, .null, .float 0, .float 0]) := by rw [eM_5]; exact (va_up_ne _ _ (by omega)).trans h4_1
  have h5_2 : M_5 1 = eI cs 2 (fun _ => 0) := by rw [eM_5]; exact (va_up_ne _ _ (by omega)).trans h4_2
  have h5_3 : M_5 2 = eI cs 2 (fun _ => 0) := by rw [eM_5]; exact (va_up_ne _ _ (by omega)).trans h4_3
  have h5_4 : M_5 3 = eI cs 2 (fun _ => 0) := by rw [eM_5]; exact va_up_self _ _ _
  refine lv_dup hx hb dX7_init_22 rfl ?_
  refine lv_iconst (v := nI 0) hx hb dX7_init_23 (by decide) ?_
  refine lv_iconst (v := (-1)) hx hb dX7_init_24 (by decide) ?_
  refine b_iast hx hb hab hK hP hS (k := 3) (by omega) (f := (fun _ => 0)) h5_4 (i := 0) (by omega) (by decide) dX7_init_25 (fun H locs hP hS hq => ?_)
  replace hz := hq.trans hz
  obtain ⟨M_6, eM_6⟩ : ∃ z, z = va_up M_5 3 (eI cs 2 (upd (fun _ => 0) 0 (-1))) := ⟨_, rfl⟩
  rw [← eM_6] at hP
  have h6_1 : M_6 0 = .inr (7, [.int 0, .int 0, .ref (ad 1), .ref (ad 2), .null, .null, .null, .null, .null, .null, .null, .null, .null, .null, .null, .null, .null, .null, .null, .null, .null, .null, .null, .null, .null, .null, .null, .float 0, .float 0]) := by rw [eM_6]; exact (va_up_ne _ _ (by omega)).trans h5_1
  have h6_2 : M_6 1 = eI cs 2 (fun _ => 0) := by rw [eM_6]; exact (va_up_ne _ _ (by omega)).trans h5_2
  have h6_3 : M_6 2 = eI cs 2 (fun _ => 0) := by rw [eM_6]; exact (va_up_ne _ _ (by omega)).trans h5_3
  have h6_4 : M_6 3 = eI cs 2 (upd (fun _ => 0) 0 (-1)) := by rw [eM_6]; exact va_up_self _ _ _
  refine lv_dup hx hb dX7_init_26 rfl ?_
  refine lv_iconst (v := nI 1) hx hb dX7_init_27 (by decide) ?_
  refine lv_iconst (v := (-1)) hx hb dX7_init_28 (by decide) ?_
  refine b_iast hx hb hab hK hP hS (k := 3) (by omega) (f := (upd (fun _ => 0) 0 (-1))) h6_4 (i := 1) (by omega) (by decide) dX7_init_29 (fun H locs hP hS hq => ?_)
  replace hz := hq.trans hz
  obtain ⟨M_7, eM_7⟩ : ∃ z, z = va_up M_6 3 (eI cs 2 (upd (upd (fun _ => 0) 0 (-1)) 1 (-1))) := ⟨_, rfl⟩
  rw [← eM_7] at hP
  have h7_1 : M_7 0 = .inr (7, [.int 0, .int 0, .ref (ad 1), .ref (ad 2), .null, .null, .null, .null, .null, .null, .null, .null, .null, .null, .null, .null, .null, .null, .null, .null, .null, .null, .null, .null, .null, .null, .null, .float 0, .float 0]) := by rw [eM_7]; exact (va_up_ne _ _ (by omega)).trans h6_1
  have h7_2 : M_7 1 = eI cs 2 (fun _ => 0) := by rw [eM_7]; exact (va_up_ne _ _ (by omega)).trans h6_2
  have h7_3 : M_7 2 = eI cs 2 (fun _ => 0) := by rw [eM_7]; exact (va_up_ne _ _ (by omega)).trans h6_3
  have h7_4 : M_7 3 = eI cs 2 (upd (upd (fun _ => 0) 0 (-1)) 1 (-1)) := by rw [eM_7]; exact va_up_self _ _ _
  refine b_putF hx hb hts inX7 tyX7 tyX7_ok nmX7 hown hab hK hP hS (ci := 7) rfl (k := 0) (by omega) h7_1 4 (by decide) (hts (.fieldLink RX7 16 "RollbackPairModel" "cut" "[I") (by decide +kernel)) rfl hin rfl rfl rfl (Nat.le_of_ble_eq_true rfl) (fs' := [.int 0, .int 0, .ref (ad 1), .ref (ad 2), .ref (ad 3), .null, .null, .null, .null, .null, .null, .null, .null, .null, .null, .null, .null, .null, .null, .null, .null, .null, .null, .null, .null, .null, .null, .float 0, .float 0]) rfl dX7_init_30 (fun H locs hP hS hq => ?_)
  replace hz := hq.trans hz
  obtain ⟨M_8, eM_8⟩ : ∃ z, z = va_up M_7 0 (.inr (7, [.int 0, .int 0, .ref (ad 1), .ref (ad 2), .ref (ad 3), .null, .null, .null, .null, .null, .null, .null, .null, .null, .null, .null, .null, .null, .null, .null, .null, .null, .null, .null, .null, .null, .null, .float 0, .float 0])) := ⟨_, rfl⟩
  rw [← eM_8] at hP
  have h8_1 : M_8 0 = .inr (7, [.int 0, .int 0, .ref (ad 1), .ref (ad 2), .ref (ad 3), .null, .null, .null, .null, .null, .null, .null, .null, .null, .null, .null, .null, .null, .null, .null, .null, .null, .null, .null, .null, .null, .null, .float 0, .float 0]) := by rw [eM_8]; exact va_up_self _ _ _
  have h8_2 : M_8 1 = eI cs 2 (fun _ => 0) := by rw [eM_8]; exact (va_up_ne _ _ (by omega)).trans h7_2
  have h8_3 : M_8 2 = eI cs 2 (fun _ => 0) := by rw [eM_8]; exact (va_up_ne _ _ (by omega)).trans h7_3
  have h8_4 : M_8 3 = eI cs 2 (upd (upd (fun _ => 0) 0 (-1)) 1 (-1)) := by rw [eM_8]; exact (va_up_ne _ _ (by omega)).trans h7_4
  refine lv_aload_n hx hb dX7_init_33 rfl (lv_at hl 0 rfl) ?_
  refine lv_iconst (v := nI 2) hx hb dX7_init_34 (by decide) ?_
  refine b_newa hx hb (atype := .int) (hts (.arrayClass .int) (by decide +kernel)) hab hK hP hz hS 0 rfl rfl (a0 := (2, .inl (fun _ => 0))) (fun cA => vp_cell_i cA _ _) (by decide) (by decide) (Nat.le_of_ble_eq_true rfl) (Nat.le_of_ble_eq_true rfl) dX7_init_35 (fun H hP hS hz => ?_)
  obtain ⟨M_9, eM_9⟩ : ∃ z, z = va_up M_8 4 (eI cs 2 (fun _ => 0)) := ⟨_, rfl⟩
  rw [← eM_9] at hP
  have h9_1 : M_9 0 = .inr (7, [.int 0, .int 0, .ref (ad 1), .ref (ad 2), .ref (ad 3), .null, .null, .null, .null, .null, .null, .null, .null, .null, .null, .null, .null, .null, .null, .null, .null, .null, .null, .null, .null, .null, .null, .float 0, .float 0]) := by rw [eM_9]; exact (va_up_ne _ _ (by omega)).trans h8_1
  have h9_2 : M_9 1 = eI cs 2 (fun _ => 0) := by rw [eM_9]; exact (va_up_ne _ _ (by omega)).trans h8_2
  have h9_3 : M_9 2 = eI cs 2 (fun _ => 0) := by rw [eM_9]; exact (va_up_ne _ _ (by omega)).trans h8_3
  have h9_4 : M_9 3 = eI cs 2 (upd (upd (fun _ => 0) 0 (-1)) 1 (-1)) := by rw [eM_9]; exact (va_up_ne _ _ (by omega)).trans h8_4
  have h9_5 : M_9 4 = eI cs 2 (fun _ => 0) := by rw [eM_9]; exact va_up_self _ _ _
  refine b_putF hx hb hts inX7 tyX7 tyX7_ok nmX7 hown hab hK hP hS (ci := 7) rfl (k := 0) (by omega) h9_1 5 (by decide) (hts (.fieldLink RX7 19 "RollbackPairModel" "told" "[I") (by decide +kernel)) rfl hin rfl rfl rfl (Nat.le_of_ble_eq_true rfl) (fs' := [.int 0, .int 0, .ref (ad 1), .ref (ad 2), .ref (ad 3), .ref (ad 4), .null, .null, .null, .null, .null, .null, .null, .null, .null, .null, .null, .null, .null, .null, .null, .null, .null, .null, .null, .null, .null, .float 0, .float 0]) rfl dX7_init_37 (fun H locs hP hS hq => ?_)
  replace hz := hq.trans hz
  obtain ⟨M_10, eM_10⟩ : ∃ z, z = va_up M_9 0 (.inr (7, [.int 0, .int 0, .ref (ad 1), .ref (ad 2), .ref (ad 3), .ref (ad 4), .null, .null, .null, .null, .null, .null, .null, .null, .null, .null, .null, .null, .null, .null, .null, .null, .null, .null, .null, .null, .null, .float 0, .float 0])) := ⟨_, rfl⟩
  rw [← eM_10] at hP
  have h10_1 : M_10 0 = .inr (7, [.int 0, .int 0, .ref (ad 1), .ref (ad 2), .ref (ad 3), .ref (ad 4), .null, .null, .null, .null, .null, .null, .null, .null, .null, .null, .null, .null, .null, .null, .null, .null, .null, .null, .null, .null, .null, .float 0, .float 0]) := by rw [eM_10]; exact va_up_self _ _ _
  have h10_2 : M_10 1 = eI cs 2 (fun _ => 0) := by rw [eM_10]; exact (va_up_ne _ _ (by omega)).trans h9_2
  have h10_3 : M_10 2 = eI cs 2 (fun _ => 0) := by rw [eM_10]; exact (va_up_ne _ _ (by omega)).trans h9_3
  have h10_4 : M_10 3 = eI cs 2 (upd (upd (fun _ => 0) 0 (-1)) 1 (-1)) := by rw [eM_10]; exact (va_up_ne _ _ (by omega)).trans h9_4
  have h10_5 : M_10 4 = eI cs 2 (fun _ => 0) := by rw [eM_10]; exact (va_up_ne _ _ (by omega)).trans h9_5
  refine lv_aload_n hx hb dX7_init_40 rfl (lv_at hl 0 rfl) ?_
  refine lv_iconst (v := nI 2) hx hb dX7_init_41 (by decide) ?_
  refine b_newa hx hb (atype := .boolean) (hts (.arrayClass .boolean) (by decide +kernel)) hab hK hP hz hS 3 rfl rfl (a0 := (2, .inl (fun _ => 0))) (fun cA => vp_cell_i cA _ _) (by decide) (by decide) (Nat.le_of_ble_eq_true rfl) (Nat.le_of_ble_eq_true rfl) dX7_init_42 (fun H hP hS hz => ?_)
  obtain ⟨M_11, eM_11⟩ : ∃ z, z = va_up M_10 5 (eZ cs 2 (fun _ => 0)) := ⟨_, rfl⟩
  rw [← eM_11] at hP
  have h11_1 : M_11 0 = .inr (7, [.int 0, .int 0, .ref (ad 1), .ref (ad 2), .ref (ad 3), .ref (ad 4), .null, .null, .null, .null, .null, .null, .null, .null, .null, .null, .null, .null, .null, .null, .null, .null, .null, .null, .null, .null, .null, .float 0, .float 0]) := by rw [eM_11]; exact (va_up_ne _ _ (by omega)).trans h10_1
  have h11_2 : M_11 1 = eI cs 2 (fun _ => 0) := by rw [eM_11]; exact (va_up_ne _ _ (by omega)).trans h10_2
  have h11_3 : M_11 2 = eI cs 2 (fun _ => 0) := by rw [eM_11]; exact (va_up_ne _ _ (by omega)).trans h10_3
  have h11_4 : M_11 3 = eI cs 2 (upd (upd (fun _ => 0) 0 (-1)) 1 (-1)) := by rw [eM_11]; exact (va_up_ne _ _ (by omega)).trans h10_4
  have h11_5 : M_11 4 = eI cs 2 (fun _ => 0) := by rw [eM_11]; exact (va_up_ne _ _ (by omega)).trans h10_5
  have h11_6 : M_11 5 = eZ cs 2 (fun _ => 0) := by rw [eM_11]; exact va_up_self _ _ _
  refine b_putF hx hb hts inX7 tyX7 tyX7_ok nmX7 hown hab hK hP hS (ci := 7) rfl (k := 0) (by omega) h11_1 6 (by decide) (hts (.fieldLink RX7 22 "RollbackPairModel" "took" "[Z") (by decide +kernel)) rfl hin rfl rfl rfl (Nat.le_of_ble_eq_true rfl) (fs' := [.int 0, .int 0, .ref (ad 1), .ref (ad 2), .ref (ad 3), .ref (ad 4), .ref (ad 5), .null, .null, .null, .null, .null, .null, .null, .null, .null, .null, .null, .null, .null, .null, .null, .null, .null, .null, .null, .null, .float 0, .float 0]) rfl dX7_init_44 (fun H locs hP hS hq => ?_)
  replace hz := hq.trans hz
  obtain ⟨M_12, eM_12⟩ : ∃ z, z = va_up M_11 0 (.inr (7, [.int 0, .int 0, .ref (ad 1), .ref (ad 2), .ref (ad 3), .ref (ad 4), .ref (ad 5), .null, .null, .null, .null, .null, .null, .null, .null, .null, .null, .null, .null, .null, .null, .null, .null, .null, .null, .null, .null, .float 0, .float 0])) := ⟨_, rfl⟩
  rw [← eM_12] at hP
  have h12_1 : M_12 0 = .inr (7, [.int 0, .int 0, .ref (ad 1), .ref (ad 2), .ref (ad 3), .ref (ad 4), .ref (ad 5), .null, .null, .null, .null, .null, .null, .null, .null, .null, .null, .null, .null, .null, .null, .null, .null, .null, .null, .null, .null, .float 0, .float 0]) := by rw [eM_12]; exact va_up_self _ _ _
  have h12_2 : M_12 1 = eI cs 2 (fun _ => 0) := by rw [eM_12]; exact (va_up_ne _ _ (by omega)).trans h11_2
  have h12_3 : M_12 2 = eI cs 2 (fun _ => 0) := by rw [eM_12]; exact (va_up_ne _ _ (by omega)).trans h11_3
  have h12_4 : M_12 3 = eI cs 2 (upd (upd (fun _ => 0) 0 (-1)) 1 (-1)) := by rw [eM_12]; exact (va_up_ne _ _ (by omega)).trans h11_4
  have h12_5 : M_12 4 = eI cs 2 (fun _ => 0) := by rw [eM_12]; exact (va_up_ne _ _ (by omega)).trans h11_5
  have h12_6 : M_12 5 = eZ cs 2 (fun _ => 0) := by rw [eM_12]; exact (va_up_ne _ _ (by omega)).trans h11_6
  refine lv_aload_n hx hb dX7_init_47 rfl (lv_at hl 0 rfl) ?_
  refine lv_iconst (v := nI 2) hx hb dX7_init_48 (by decide) ?_
  refine b_newa hx hb (atype := .short) (hts (.arrayClass .short) (by decide +kernel)) hab hK hP hz hS 2 rfl rfl (a0 := (2, .inl (fun _ => 0))) (fun cA => vp_cell_i cA _ _) (by decide) (by decide) (Nat.le_of_ble_eq_true rfl) (Nat.le_of_ble_eq_true rfl) dX7_init_49 (fun H hP hS hz => ?_)
  obtain ⟨M_13, eM_13⟩ : ∃ z, z = va_up M_12 6 (eS cs 2 (fun _ => 0)) := ⟨_, rfl⟩
  rw [← eM_13] at hP
  have h13_1 : M_13 0 = .inr (7, [.int 0, .int 0, .ref (ad 1), .ref (ad 2), .ref (ad 3), .ref (ad 4), .ref (ad 5), .null, .null, .null, .null, .null, .null, .null, .null, .null, .null, .null, .null, .null, .null, .null, .null, .null, .null, .null, .null, .float 0, .float 0]) := by rw [eM_13]; exact (va_up_ne _ _ (by omega)).trans h12_1
  have h13_2 : M_13 1 = eI cs 2 (fun _ => 0) := by rw [eM_13]; exact (va_up_ne _ _ (by omega)).trans h12_2
  have h13_3 : M_13 2 = eI cs 2 (fun _ => 0) := by rw [eM_13]; exact (va_up_ne _ _ (by omega)).trans h12_3
  have h13_4 : M_13 3 = eI cs 2 (upd (upd (fun _ => 0) 0 (-1)) 1 (-1)) := by rw [eM_13]; exact (va_up_ne _ _ (by omega)).trans h12_4
  have h13_5 : M_13 4 = eI cs 2 (fun _ => 0) := by rw [eM_13]; exact (va_up_ne _ _ (by omega)).trans h12_5
  have h13_6 : M_13 5 = eZ cs 2 (fun _ => 0) := by rw [eM_13]; exact (va_up_ne _ _ (by omega)).trans h12_6
  have h13_7 : M_13 6 = eS cs 2 (fun _ => 0) := by rw [eM_13]; exact va_up_self _ _ _
  refine b_putF hx hb hts inX7 tyX7 tyX7_ok nmX7 hown hab hK hP hS (ci := 7) rfl (k := 0) (by omega) h13_1 7 (by decide) (hts (.fieldLink RX7 26 "RollbackPairModel" "latest" "[S") (by decide +kernel)) rfl hin rfl rfl rfl (Nat.le_of_ble_eq_true rfl) (fs' := [.int 0, .int 0, .ref (ad 1), .ref (ad 2), .ref (ad 3), .ref (ad 4), .ref (ad 5), .ref (ad 6), .null, .null, .null, .null, .null, .null, .null, .null, .null, .null, .null, .null, .null, .null, .null, .null, .null, .null, .null, .float 0, .float 0]) rfl dX7_init_51 (fun H locs hP hS hq => ?_)
  replace hz := hq.trans hz
  obtain ⟨M_14, eM_14⟩ : ∃ z, z = va_up M_13 0 (.inr (7, [.int 0, .int 0, .ref (ad 1), .ref (ad 2), .ref (ad 3), .ref (ad 4), .ref (ad 5), .ref (ad 6), .null, .null, .null, .null, .null, .null, .null, .null, .null, .null, .null, .null, .null, .null, .null, .null, .null, .null, .null, .float 0, .float 0])) := ⟨_, rfl⟩
  rw [← eM_14] at hP
  have h14_1 : M_14 0 = .inr (7, [.int 0, .int 0, .ref (ad 1), .ref (ad 2), .ref (ad 3), .ref (ad 4), .ref (ad 5), .ref (ad 6), .null, .null, .null, .null, .null, .null, .null, .null, .null, .null, .null, .null, .null, .null, .null, .null, .null, .null, .null, .float 0, .float 0]) := by rw [eM_14]; exact va_up_self _ _ _
  have h14_2 : M_14 1 = eI cs 2 (fun _ => 0) := by rw [eM_14]; exact (va_up_ne _ _ (by omega)).trans h13_2
  have h14_3 : M_14 2 = eI cs 2 (fun _ => 0) := by rw [eM_14]; exact (va_up_ne _ _ (by omega)).trans h13_3
  have h14_4 : M_14 3 = eI cs 2 (upd (upd (fun _ => 0) 0 (-1)) 1 (-1)) := by rw [eM_14]; exact (va_up_ne _ _ (by omega)).trans h13_4
  have h14_5 : M_14 4 = eI cs 2 (fun _ => 0) := by rw [eM_14]; exact (va_up_ne _ _ (by omega)).trans h13_5
  have h14_6 : M_14 5 = eZ cs 2 (fun _ => 0) := by rw [eM_14]; exact (va_up_ne _ _ (by omega)).trans h13_6
  have h14_7 : M_14 6 = eS cs 2 (fun _ => 0) := by rw [eM_14]; exact (va_up_ne _ _ (by omega)).trans h13_7
  refine lv_aload_n hx hb dX7_init_54 rfl (lv_at hl 0 rfl) ?_
  refine lv_iconst (v := nI 2) hx hb dX7_init_55 (by decide) ?_
  refine b_newa hx hb (atype := .short) (hts (.arrayClass .short) (by decide +kernel)) hab hK hP hz hS 2 rfl rfl (a0 := (2, .inl (fun _ => 0))) (fun cA => vp_cell_i cA _ _) (by decide) (by decide) (Nat.le_of_ble_eq_true rfl) (Nat.le_of_ble_eq_true rfl) dX7_init_56 (fun H hP hS hz => ?_)
  obtain ⟨M_15, eM_15⟩ : ∃ z, z = va_up M_14 7 (eS cs 2 (fun _ => 0)) := ⟨_, rfl⟩
  rw [← eM_15] at hP
  have h15_1 : M_15 0 = .inr (7, [.int 0, .int 0, .ref (ad 1), .ref (ad 2), .ref (ad 3), .ref (ad 4), .ref (ad 5), .ref (ad 6), .null, .null, .null, .null, .null, .null, .null, .null, .null, .null, .null, .null, .null, .null, .null, .null, .null, .null, .null, .float 0, .float 0]) := by rw [eM_15]; exact (va_up_ne _ _ (by omega)).trans h14_1
  have h15_2 : M_15 1 = eI cs 2 (fun _ => 0) := by rw [eM_15]; exact (va_up_ne _ _ (by omega)).trans h14_2
  have h15_3 : M_15 2 = eI cs 2 (fun _ => 0) := by rw [eM_15]; exact (va_up_ne _ _ (by omega)).trans h14_3
  have h15_4 : M_15 3 = eI cs 2 (upd (upd (fun _ => 0) 0 (-1)) 1 (-1)) := by rw [eM_15]; exact (va_up_ne _ _ (by omega)).trans h14_4
  have h15_5 : M_15 4 = eI cs 2 (fun _ => 0) := by rw [eM_15]; exact (va_up_ne _ _ (by omega)).trans h14_5
  have h15_6 : M_15 5 = eZ cs 2 (fun _ => 0) := by rw [eM_15]; exact (va_up_ne _ _ (by omega)).trans h14_6
  have h15_7 : M_15 6 = eS cs 2 (fun _ => 0) := by rw [eM_15]; exact (va_up_ne _ _ (by omega)).trans h14_7
  have h15_8 : M_15 7 = eS cs 2 (fun _ => 0) := by rw [eM_15]; exact va_up_self _ _ _
  refine b_putF hx hb hts inX7 tyX7 tyX7_ok nmX7 hown hab hK hP hS (ci := 7) rfl (k := 0) (by omega) h15_1 8 (by decide) (hts (.fieldLink RX7 30 "RollbackPairModel" "number" "[S") (by decide +kernel)) rfl hin rfl rfl rfl (Nat.le_of_ble_eq_true rfl) (fs' := [.int 0, .int 0, .ref (ad 1), .ref (ad 2), .ref (ad 3), .ref (ad 4), .ref (ad 5), .ref (ad 6), .ref (ad 7), .null, .null, .null, .null, .null, .null, .null, .null, .null, .null, .null, .null, .null, .null, .null, .null, .null, .null, .float 0, .float 0]) rfl dX7_init_58 (fun H locs hP hS hq => ?_)
  replace hz := hq.trans hz
  obtain ⟨M_16, eM_16⟩ : ∃ z, z = va_up M_15 0 (.inr (7, [.int 0, .int 0, .ref (ad 1), .ref (ad 2), .ref (ad 3), .ref (ad 4), .ref (ad 5), .ref (ad 6), .ref (ad 7), .null, .null, .null, .null, .null, .null, .null, .null, .null, .null, .null, .null, .null, .null, .null, .null, .null, .null, .float 0, .float 0])) := ⟨_, rfl⟩
  rw [← eM_16] at hP
  have h16_1 : M_16 0 = .inr (7, [.int 0, .int 0, .ref (ad 1), .ref (ad 2), .ref (ad 3), .ref (ad 4), .ref (ad 5), .ref (ad 6), .ref (ad 7), .null, .null, .null, .null, .null, .null, .null, .null, .null, .null, .null, .null, .null, .null, .null, .null, .null, .null, .float 0, .float 0]) := by rw [eM_16]; exact va_up_self _ _ _
  have h16_2 : M_16 1 = eI cs 2 (fun _ => 0) := by rw [eM_16]; exact (va_up_ne _ _ (by omega)).trans h15_2
  have h16_3 : M_16 2 = eI cs 2 (fun _ => 0) := by rw [eM_16]; exact (va_up_ne _ _ (by omega)).trans h15_3
  have h16_4 : M_16 3 = eI cs 2 (upd (upd (fun _ => 0) 0 (-1)) 1 (-1)) := by rw [eM_16]; exact (va_up_ne _ _ (by omega)).trans h15_4
  have h16_5 : M_16 4 = eI cs 2 (fun _ => 0) := by rw [eM_16]; exact (va_up_ne _ _ (by omega)).trans h15_5
  have h16_6 : M_16 5 = eZ cs 2 (fun _ => 0) := by rw [eM_16]; exact (va_up_ne _ _ (by omega)).trans h15_6
  have h16_7 : M_16 6 = eS cs 2 (fun _ => 0) := by rw [eM_16]; exact (va_up_ne _ _ (by omega)).trans h15_7
  have h16_8 : M_16 7 = eS cs 2 (fun _ => 0) := by rw [eM_16]; exact (va_up_ne _ _ (by omega)).trans h15_8
  refine lv_aload_n hx hb dX7_init_61 rfl (lv_at hl 0 rfl) ?_
  refine lv_iconst (v := nI 2) hx hb dX7_init_62 (by decide) ?_
  refine b_newa hx hb (atype := .float) (hts (.arrayClass .float) (by decide +kernel)) hab hK hP hz hS 4 rfl rfl (a0 := (2, .inr (.inr (.inl (fun _ => 0))))) (fun cA => vp_cell_f cA _ _) (by decide) (by decide) (Nat.le_of_ble_eq_true rfl) (Nat.le_of_ble_eq_true rfl) dX7_init_63 (fun H hP hS hz => ?_)
  obtain ⟨M_17, eM_17⟩ : ∃ z, z = va_up M_16 8 (eF cs 2 (fun _ => 0)) := ⟨_, rfl⟩
  rw [← eM_17] at hP
  have h17_1 : M_17 0 = .inr (7, [.int 0, .int 0, .ref (ad 1), .ref (ad 2), .ref (ad 3), .ref (ad 4), .ref (ad 5), .ref (ad 6), .ref (ad 7), .null, .null, .null, .null, .null, .null, .null, .null, .null, .null, .null, .null, .null, .null, .null, .null, .null, .null, .float 0, .float 0]) := by rw [eM_17]; exact (va_up_ne _ _ (by omega)).trans h16_1
  have h17_2 : M_17 1 = eI cs 2 (fun _ => 0) := by rw [eM_17]; exact (va_up_ne _ _ (by omega)).trans h16_2
  have h17_3 : M_17 2 = eI cs 2 (fun _ => 0) := by rw [eM_17]; exact (va_up_ne _ _ (by omega)).trans h16_3
  have h17_4 : M_17 3 = eI cs 2 (upd (upd (fun _ => 0) 0 (-1)) 1 (-1)) := by rw [eM_17]; exact (va_up_ne _ _ (by omega)).trans h16_4
  have h17_5 : M_17 4 = eI cs 2 (fun _ => 0) := by rw [eM_17]; exact (va_up_ne _ _ (by omega)).trans h16_5
  have h17_6 : M_17 5 = eZ cs 2 (fun _ => 0) := by rw [eM_17]; exact (va_up_ne _ _ (by omega)).trans h16_6
  have h17_7 : M_17 6 = eS cs 2 (fun _ => 0) := by rw [eM_17]; exact (va_up_ne _ _ (by omega)).trans h16_7
  have h17_8 : M_17 7 = eS cs 2 (fun _ => 0) := by rw [eM_17]; exact (va_up_ne _ _ (by omega)).trans h16_8
  have h17_9 : M_17 8 = eF cs 2 (fun _ => 0) := by rw [eM_17]; exact va_up_self _ _ _
  refine b_putF hx hb hts inX7 tyX7 tyX7_ok nmX7 hown hab hK hP hS (ci := 7) rfl (k := 0) (by omega) h17_1 9 (by decide) (hts (.fieldLink RX7 33 "RollbackPairModel" "advice" "[F") (by decide +kernel)) rfl hin rfl rfl rfl (Nat.le_of_ble_eq_true rfl) (fs' := [.int 0, .int 0, .ref (ad 1), .ref (ad 2), .ref (ad 3), .ref (ad 4), .ref (ad 5), .ref (ad 6), .ref (ad 7), .ref (ad 8), .null, .null, .null, .null, .null, .null, .null, .null, .null, .null, .null, .null, .null, .null, .null, .null, .null, .float 0, .float 0]) rfl dX7_init_65 (fun H locs hP hS hq => ?_)
  replace hz := hq.trans hz
  obtain ⟨M_18, eM_18⟩ : ∃ z, z = va_up M_17 0 (.inr (7, [.int 0, .int 0, .ref (ad 1), .ref (ad 2), .ref (ad 3), .ref (ad 4), .ref (ad 5), .ref (ad 6), .ref (ad 7), .ref (ad 8), .null, .null, .null, .null, .null, .null, .null, .null, .null, .null, .null, .null, .null, .null, .null, .null, .null, .float 0, .float 0])) := ⟨_, rfl⟩
  rw [← eM_18] at hP
  have h18_1 : M_18 0 = .inr (7, [.int 0, .int 0, .ref (ad 1), .ref (ad 2), .ref (ad 3), .ref (ad 4), .ref (ad 5), .ref (ad 6), .ref (ad 7), .ref (ad 8), .null, .null, .null, .null, .null, .null, .null, .null, .null, .null, .null, .null, .null, .null, .null, .null, .null, .float 0, .float 0]) := by rw [eM_18]; exact va_up_self _ _ _
  have h18_2 : M_18 1 = eI cs 2 (fun _ => 0) := by rw [eM_18]; exact (va_up_ne _ _ (by omega)).trans h17_2
  have h18_3 : M_18 2 = eI cs 2 (fun _ => 0) := by rw [eM_18]; exact (va_up_ne _ _ (by omega)).trans h17_3
  have h18_4 : M_18 3 = eI cs 2 (upd (upd (fun _ => 0) 0 (-1)) 1 (-1)) := by rw [eM_18]; exact (va_up_ne _ _ (by omega)).trans h17_4
  have h18_5 : M_18 4 = eI cs 2 (fun _ => 0) := by rw [eM_18]; exact (va_up_ne _ _ (by omega)).trans h17_5
  have h18_6 : M_18 5 = eZ cs 2 (fun _ => 0) := by rw [eM_18]; exact (va_up_ne _ _ (by omega)).trans h17_6
  have h18_7 : M_18 6 = eS cs 2 (fun _ => 0) := by rw [eM_18]; exact (va_up_ne _ _ (by omega)).trans h17_7
  have h18_8 : M_18 7 = eS cs 2 (fun _ => 0) := by rw [eM_18]; exact (va_up_ne _ _ (by omega)).trans h17_8
  have h18_9 : M_18 8 = eF cs 2 (fun _ => 0) := by rw [eM_18]; exact (va_up_ne _ _ (by omega)).trans h17_9
  refine lv_aload_n hx hb dX7_init_68 rfl (lv_at hl 0 rfl) ?_
  refine lv_sipush (v := nI 2400) hx hb dX7_init_69 (by decide) ?_
  refine b_newa hx hb (atype := .int) (hts (.arrayClass .int) (by decide +kernel)) hab hK hP hz hS 0 rfl rfl (a0 := (2400, .inl (fun _ => 0))) (fun cA => vp_cell_i cA _ _) (by decide) (by decide) (Nat.le_of_ble_eq_true rfl) (Nat.le_of_ble_eq_true rfl) dX7_init_72 (fun H hP hS hz => ?_)
  obtain ⟨M_19, eM_19⟩ : ∃ z, z = va_up M_18 9 (eI cs 2400 (fun _ => 0)) := ⟨_, rfl⟩
  rw [← eM_19] at hP
  have h19_1 : M_19 0 = .inr (7, [.int 0, .int 0, .ref (ad 1), .ref (ad 2), .ref (ad 3), .ref (ad 4), .ref (ad 5), .ref (ad 6), .ref (ad 7), .ref (ad 8), .null, .null, .null, .null, .null, .null, .null, .null, .null, .null, .null, .null, .null, .null, .null, .null, .null, .float 0, .float 0]) := by rw [eM_19]; exact (va_up_ne _ _ (by omega)).trans h18_1
  have h19_2 : M_19 1 = eI cs 2 (fun _ => 0) := by rw [eM_19]; exact (va_up_ne _ _ (by omega)).trans h18_2
  have h19_3 : M_19 2 = eI cs 2 (fun _ => 0) := by rw [eM_19]; exact (va_up_ne _ _ (by omega)).trans h18_3
  have h19_4 : M_19 3 = eI cs 2 (upd (upd (fun _ => 0) 0 (-1)) 1 (-1)) := by rw [eM_19]; exact (va_up_ne _ _ (by omega)).trans h18_4
  have h19_5 : M_19 4 = eI cs 2 (fun _ => 0) := by rw [eM_19]; exact (va_up_ne _ _ (by omega)).trans h18_5
  have h19_6 : M_19 5 = eZ cs 2 (fun _ => 0) := by rw [eM_19]; exact (va_up_ne _ _ (by omega)).trans h18_6
  have h19_7 : M_19 6 = eS cs 2 (fun _ => 0) := by rw [eM_19]; exact (va_up_ne _ _ (by omega)).trans h18_7
  have h19_8 : M_19 7 = eS cs 2 (fun _ => 0) := by rw [eM_19]; exact (va_up_ne _ _ (by omega)).trans h18_8
  have h19_9 : M_19 8 = eF cs 2 (fun _ => 0) := by rw [eM_19]; exact (va_up_ne _ _ (by omega)).trans h18_9
  have h19_10 : M_19 9 = eI cs 2400 (fun _ => 0) := by rw [eM_19]; exact va_up_self _ _ _
  refine b_putF hx hb hts inX7 tyX7 tyX7_ok nmX7 hown hab hK hP hS (ci := 7) rfl (k := 0) (by omega) h19_1 10 (by decide) (hts (.fieldLink RX7 37 "RollbackPairModel" "input" "[I") (by decide +kernel)) rfl hin rfl rfl rfl (Nat.le_of_ble_eq_true rfl) (fs' := [.int 0, .int 0, .ref (ad 1), .ref (ad 2), .ref (ad 3), .ref (ad 4), .ref (ad 5), .ref (ad 6), .ref (ad 7), .ref (ad 8), .ref (ad 9), .null, .null, .null, .null, .null, .null, .null, .null, .null, .null, .null, .null, .null, .null, .null, .null, .float 0, .float 0]) rfl dX7_init_74 (fun H locs hP hS hq => ?_)
  replace hz := hq.trans hz
  obtain ⟨M_20, eM_20⟩ : ∃ z, z = va_up M_19 0 (.inr (7, [.int 0, .int 0, .ref (ad 1), .ref (ad 2), .ref (ad 3), .ref (ad 4), .ref (ad 5), .ref (ad 6), .ref (ad 7), .ref (ad 8), .ref (ad 9), .null, .null, .null, .null, .null, .null, .null, .null, .null, .null, .null, .null, .null, .null, .null, .null, .float 0, .float 0])) := ⟨_, rfl⟩
  rw [← eM_20] at hP
  have h20_1 : M_20 0 = .inr (7, [.int 0, .int 0, .ref (ad 1), .ref (ad 2), .ref (ad 3), .ref (ad 4), .ref (ad 5), .ref (ad 6), .ref (ad 7), .ref (ad 8), .ref (ad 9), .null, .null, .null, .null, .null, .null, .null, .null, .null, .null, .null, .null, .null, .null, .null, .null, .float 0, .float 0]) := by rw [eM_20]; exact va_up_self _ _ _
  have h20_2 : M_20 1 = eI cs 2 (fun _ => 0) := by rw [eM_20]; exact (va_up_ne _ _ (by omega)).trans h19_2
  have h20_3 : M_20 2 = eI cs 2 (fun _ => 0) := by rw [eM_20]; exact (va_up_ne _ _ (by omega)).trans h19_3
  have h20_4 : M_20 3 = eI cs 2 (upd (upd (fun _ => 0) 0 (-1)) 1 (-1)) := by rw [eM_20]; exact (va_up_ne _ _ (by omega)).trans h19_4
  have h20_5 : M_20 4 = eI cs 2 (fun _ => 0) := by rw [eM_20]; exact (va_up_ne _ _ (by omega)).trans h19_5
  have h20_6 : M_20 5 = eZ cs 2 (fun _ => 0) := by rw [eM_20]; exact (va_up_ne _ _ (by omega)).trans h19_6
  have h20_7 : M_20 6 = eS cs 2 (fun _ => 0) := by rw [eM_20]; exact (va_up_ne _ _ (by omega)).trans h19_7
  have h20_8 : M_20 7 = eS cs 2 (fun _ => 0) := by rw [eM_20]; exact (va_up_ne _ _ (by omega)).trans h19_8
  have h20_9 : M_20 8 = eF cs 2 (fun _ => 0) := by rw [eM_20]; exact (va_up_ne _ _ (by omega)).trans h19_9
  have h20_10 : M_20 9 = eI cs 2400 (fun _ => 0) := by rw [eM_20]; exact (va_up_ne _ _ (by omega)).trans h19_10
  refine lv_aload_n hx hb dX7_init_77 rfl (lv_at hl 0 rfl) ?_
  refine lv_sipush (v := nI 2400) hx hb dX7_init_78 (by decide) ?_
  refine b_newa hx hb (atype := .int) (hts (.arrayClass .int) (by decide +kernel)) hab hK hP hz hS 0 rfl rfl (a0 := (2400, .inl (fun _ => 0))) (fun cA => vp_cell_i cA _ _) (by decide) (by decide) (Nat.le_of_ble_eq_true rfl) (Nat.le_of_ble_eq_true rfl) dX7_init_81 (fun H hP hS hz => ?_)
  obtain ⟨M_21, eM_21⟩ : ∃ z, z = va_up M_20 10 (eI cs 2400 (fun _ => 0)) := ⟨_, rfl⟩
  rw [← eM_21] at hP
  have h21_1 : M_21 0 = .inr (7, [.int 0, .int 0, .ref (ad 1), .ref (ad 2), .ref (ad 3), .ref (ad 4), .ref (ad 5), .ref (ad 6), .ref (ad 7), .ref (ad 8), .ref (ad 9), .null, .null, .null, .null, .null, .null, .null, .null, .null, .null, .null, .null, .null, .null, .null, .null, .float 0, .float 0]) := by rw [eM_21]; exact (va_up_ne _ _ (by omega)).trans h20_1
  have h21_2 : M_21 1 = eI cs 2 (fun _ => 0) := by rw [eM_21]; exact (va_up_ne _ _ (by omega)).trans h20_2
  have h21_3 : M_21 2 = eI cs 2 (fun _ => 0) := by rw [eM_21]; exact (va_up_ne _ _ (by omega)).trans h20_3
  have h21_4 : M_21 3 = eI cs 2 (upd (upd (fun _ => 0) 0 (-1)) 1 (-1)) := by rw [eM_21]; exact (va_up_ne _ _ (by omega)).trans h20_4
  have h21_5 : M_21 4 = eI cs 2 (fun _ => 0) := by rw [eM_21]; exact (va_up_ne _ _ (by omega)).trans h20_5
  have h21_6 : M_21 5 = eZ cs 2 (fun _ => 0) := by rw [eM_21]; exact (va_up_ne _ _ (by omega)).trans h20_6
  have h21_7 : M_21 6 = eS cs 2 (fun _ => 0) := by rw [eM_21]; exact (va_up_ne _ _ (by omega)).trans h20_7
  have h21_8 : M_21 7 = eS cs 2 (fun _ => 0) := by rw [eM_21]; exact (va_up_ne _ _ (by omega)).trans h20_8
  have h21_9 : M_21 8 = eF cs 2 (fun _ => 0) := by rw [eM_21]; exact (va_up_ne _ _ (by omega)).trans h20_9
  have h21_10 : M_21 9 = eI cs 2400 (fun _ => 0) := by rw [eM_21]; exact (va_up_ne _ _ (by omega)).trans h20_10
  have h21_11 : M_21 10 = eI cs 2400 (fun _ => 0) := by rw [eM_21]; exact va_up_self _ _ _
  refine b_putF hx hb hts inX7 tyX7 tyX7_ok nmX7 hown hab hK hP hS (ci := 7) rfl (k := 0) (by omega) h21_1 11 (by decide) (hts (.fieldLink RX7 40 "RollbackPairModel" "uses" "[I") (by decide +kernel)) rfl hin rfl rfl rfl (Nat.le_of_ble_eq_true rfl) (fs' := [.int 0, .int 0, .ref (ad 1), .ref (ad 2), .ref (ad 3), .ref (ad 4), .ref (ad 5), .ref (ad 6), .ref (ad 7), .ref (ad 8), .ref (ad 9), .ref (ad 10), .null, .null, .null, .null, .null, .null, .null, .null, .null, .null, .null, .null, .null, .null, .null, .float 0, .float 0]) rfl dX7_init_83 (fun H locs hP hS hq => ?_)
  replace hz := hq.trans hz
  obtain ⟨M_22, eM_22⟩ : ∃ z, z = va_up M_21 0 (.inr (7, [.int 0, .int 0, .ref (ad 1), .ref (ad 2), .ref (ad 3), .ref (ad 4), .ref (ad 5), .ref (ad 6), .ref (ad 7), .ref (ad 8), .ref (ad 9), .ref (ad 10), .null, .null, .null, .null, .null, .null, .null, .null, .null, .null, .null, .null, .null, .null, .null, .float 0, .float 0])) := ⟨_, rfl⟩
  rw [← eM_22] at hP
  have h22_1 : M_22 0 = .inr (7, [.int 0, .int 0, .ref (ad 1), .ref (ad 2), .ref (ad 3), .ref (ad 4), .ref (ad 5), .ref (ad 6), .ref (ad 7), .ref (ad 8), .ref (ad 9), .ref (ad 10), .null, .null, .null, .null, .null, .null, .null, .null, .null, .null, .null, .null, .null, .null, .null, .float 0, .float 0]) := by rw [eM_22]; exact va_up_self _ _ _
  have h22_2 : M_22 1 = eI cs 2 (fun _ => 0) := by rw [eM_22]; exact (va_up_ne _ _ (by omega)).trans h21_2
  have h22_3 : M_22 2 = eI cs 2 (fun _ => 0) := by rw [eM_22]; exact (va_up_ne _ _ (by omega)).trans h21_3
  have h22_4 : M_22 3 = eI cs 2 (upd (upd (fun _ => 0) 0 (-1)) 1 (-1)) := by rw [eM_22]; exact (va_up_ne _ _ (by omega)).trans h21_4
  have h22_5 : M_22 4 = eI cs 2 (fun _ => 0) := by rw [eM_22]; exact (va_up_ne _ _ (by omega)).trans h21_5
  have h22_6 : M_22 5 = eZ cs 2 (fun _ => 0) := by rw [eM_22]; exact (va_up_ne _ _ (by omega)).trans h21_6
  have h22_7 : M_22 6 = eS cs 2 (fun _ => 0) := by rw [eM_22]; exact (va_up_ne _ _ (by omega)).trans h21_7
  have h22_8 : M_22 7 = eS cs 2 (fun _ => 0) := by rw [eM_22]; exact (va_up_ne _ _ (by omega)).trans h21_8
  have h22_9 : M_22 8 = eF cs 2 (fun _ => 0) := by rw [eM_22]; exact (va_up_ne _ _ (by omega)).trans h21_9
  have h22_10 : M_22 9 = eI cs 2400 (fun _ => 0) := by rw [eM_22]; exact (va_up_ne _ _ (by omega)).trans h21_10
  have h22_11 : M_22 10 = eI cs 2400 (fun _ => 0) := by rw [eM_22]; exact (va_up_ne _ _ (by omega)).trans h21_11
  refine lv_aload_n hx hb dX7_init_86 rfl (lv_at hl 0 rfl) ?_
  refine lv_iconst (v := nI 4) hx hb dX7_init_87 (by decide) ?_
  refine b_newa hx hb (atype := .int) (hts (.arrayClass .int) (by decide +kernel)) hab hK hP hz hS 0 rfl rfl (a0 := (4, .inl (fun _ => 0))) (fun cA => vp_cell_i cA _ _) (by decide) (by decide) (Nat.le_of_ble_eq_true rfl) (Nat.le_of_ble_eq_true rfl) dX7_init_88 (fun H hP hS hz => ?_)
  obtain ⟨M_23, eM_23⟩ : ∃ z, z = va_up M_22 11 (eI cs 4 (fun _ => 0)) := ⟨_, rfl⟩
  rw [← eM_23] at hP
  have h23_1 : M_23 0 = .inr (7, [.int 0, .int 0, .ref (ad 1), .ref (ad 2), .ref (ad 3), .ref (ad 4), .ref (ad 5), .ref (ad 6), .ref (ad 7), .ref (ad 8), .ref (ad 9), .ref (ad 10), .null, .null, .null, .null, .null, .null, .null, .null, .null, .null, .null, .null, .null, .null, .null, .float 0, .float 0]) := by rw [eM_23]; exact (va_up_ne _ _ (by omega)).trans h22_1
  have h23_2 : M_23 1 = eI cs 2 (fun _ => 0) := by rw [eM_23]; exact (va_up_ne _ _ (by omega)).trans h22_2
  have h23_3 : M_23 2 = eI cs 2 (fun _ => 0) := by rw [eM_23]; exact (va_up_ne _ _ (by omega)).trans h22_3
  have h23_4 : M_23 3 = eI cs 2 (upd (upd (fun _ => 0) 0 (-1)) 1 (-1)) := by rw [eM_23]; exact (va_up_ne _ _ (by omega)).trans h22_4
  have h23_5 : M_23 4 = eI cs 2 (fun _ => 0) := by rw [eM_23]; exact (va_up_ne _ _ (by omega)).trans h22_5
  have h23_6 : M_23 5 = eZ cs 2 (fun _ => 0) := by rw [eM_23]; exact (va_up_ne _ _ (by omega)).trans h22_6
  have h23_7 : M_23 6 = eS cs 2 (fun _ => 0) := by rw [eM_23]; exact (va_up_ne _ _ (by omega)).trans h22_7
  have h23_8 : M_23 7 = eS cs 2 (fun _ => 0) := by rw [eM_23]; exact (va_up_ne _ _ (by omega)).trans h22_8
  have h23_9 : M_23 8 = eF cs 2 (fun _ => 0) := by rw [eM_23]; exact (va_up_ne _ _ (by omega)).trans h22_9
  have h23_10 : M_23 9 = eI cs 2400 (fun _ => 0) := by rw [eM_23]; exact (va_up_ne _ _ (by omega)).trans h22_10
  have h23_11 : M_23 10 = eI cs 2400 (fun _ => 0) := by rw [eM_23]; exact (va_up_ne _ _ (by omega)).trans h22_11
  have h23_12 : M_23 11 = eI cs 4 (fun _ => 0) := by rw [eM_23]; exact va_up_self _ _ _
  refine b_putF hx hb hts inX7 tyX7 tyX7_ok nmX7 hown hab hK hP hS (ci := 7) rfl (k := 0) (by omega) h23_1 12 (by decide) (hts (.fieldLink RX7 43 "RollbackPairModel" "known" "[I") (by decide +kernel)) rfl hin rfl rfl rfl (Nat.le_of_ble_eq_true rfl) (fs' := [.int 0, .int 0, .ref (ad 1), .ref (ad 2), .ref (ad 3), .ref (ad 4), .ref (ad 5), .ref (ad 6), .ref (ad 7), .ref (ad 8), .ref (ad 9), .ref (ad 10), .ref (ad 11), .null, .null, .null, .null, .null, .null, .null, .null, .null, .null, .null, .null, .null, .null, .float 0, .float 0]) rfl dX7_init_90 (fun H locs hP hS hq => ?_)
  replace hz := hq.trans hz
  obtain ⟨M_24, eM_24⟩ : ∃ z, z = va_up M_23 0 (.inr (7, [.int 0, .int 0, .ref (ad 1), .ref (ad 2), .ref (ad 3), .ref (ad 4), .ref (ad 5), .ref (ad 6), .ref (ad 7), .ref (ad 8), .ref (ad 9), .ref (ad 10), .ref (ad 11), .null, .null, .null, .null, .null, .null, .null, .null, .null, .null, .null, .null, .null, .null, .float 0, .float 0])) := ⟨_, rfl⟩
  rw [← eM_24] at hP
  have h24_1 : M_24 0 = .inr (7, [.int 0, .int 0, .ref (ad 1), .ref (ad 2), .ref (ad 3), .ref (ad 4), .ref (ad 5), .ref (ad 6), .ref (ad 7), .ref (ad 8), .ref (ad 9), .ref (ad 10), .ref (ad 11), .null, .null, .null, .null, .null, .null, .null, .null, .null, .null, .null, .null, .null, .null, .float 0, .float 0]) := by rw [eM_24]; exact va_up_self _ _ _
  have h24_2 : M_24 1 = eI cs 2 (fun _ => 0) := by rw [eM_24]; exact (va_up_ne _ _ (by omega)).trans h23_2
  have h24_3 : M_24 2 = eI cs 2 (fun _ => 0) := by rw [eM_24]; exact (va_up_ne _ _ (by omega)).trans h23_3
  have h24_4 : M_24 3 = eI cs 2 (upd (upd (fun _ => 0) 0 (-1)) 1 (-1)) := by rw [eM_24]; exact (va_up_ne _ _ (by omega)).trans h23_4
  have h24_5 : M_24 4 = eI cs 2 (fun _ => 0) := by rw [eM_24]; exact (va_up_ne _ _ (by omega)).trans h23_5
  have h24_6 : M_24 5 = eZ cs 2 (fun _ => 0) := by rw [eM_24]; exact (va_up_ne _ _ (by omega)).trans h23_6
  have h24_7 : M_24 6 = eS cs 2 (fun _ => 0) := by rw [eM_24]; exact (va_up_ne _ _ (by omega)).trans h23_7
  have h24_8 : M_24 7 = eS cs 2 (fun _ => 0) := by rw [eM_24]; exact (va_up_ne _ _ (by omega)).trans h23_8
  have h24_9 : M_24 8 = eF cs 2 (fun _ => 0) := by rw [eM_24]; exact (va_up_ne _ _ (by omega)).trans h23_9
  have h24_10 : M_24 9 = eI cs 2400 (fun _ => 0) := by rw [eM_24]; exact (va_up_ne _ _ (by omega)).trans h23_10
  have h24_11 : M_24 10 = eI cs 2400 (fun _ => 0) := by rw [eM_24]; exact (va_up_ne _ _ (by omega)).trans h23_11
  have h24_12 : M_24 11 = eI cs 4 (fun _ => 0) := by rw [eM_24]; exact (va_up_ne _ _ (by omega)).trans h23_12
  refine lv_aload_n hx hb dX7_init_93 rfl (lv_at hl 0 rfl) ?_
  refine lv_sipush (v := nI 1200) hx hb dX7_init_94 (by decide) ?_
  refine b_newa hx hb (atype := .float) (hts (.arrayClass .float) (by decide +kernel)) hab hK hP hz hS 4 rfl rfl (a0 := (1200, .inr (.inr (.inl (fun _ => 0))))) (fun cA => vp_cell_f cA _ _) (by decide) (by decide) (Nat.le_of_ble_eq_true rfl) (Nat.le_of_ble_eq_true rfl) dX7_init_97 (fun H hP hS hz => ?_)
  obtain ⟨M_25, eM_25⟩ : ∃ z, z = va_up M_24 12 (eF cs 1200 (fun _ => 0)) := ⟨_, rfl⟩
  rw [← eM_25] at hP
  have h25_1 : M_25 0 = .inr (7, [.int 0, .int 0, .ref (ad 1), .ref (ad 2), .ref (ad 3), .ref (ad 4), .ref (ad 5), .ref (ad 6), .ref (ad 7), .ref (ad 8), .ref (ad 9), .ref (ad 10), .ref (ad 11), .null, .null, .null, .null, .null, .null, .null, .null, .null, .null, .null, .null, .null, .null, .float 0, .float 0]) := by rw [eM_25]; exact (va_up_ne _ _ (by omega)).trans h24_1
  have h25_2 : M_25 1 = eI cs 2 (fun _ => 0) := by rw [eM_25]; exact (va_up_ne _ _ (by omega)).trans h24_2
  have h25_3 : M_25 2 = eI cs 2 (fun _ => 0) := by rw [eM_25]; exact (va_up_ne _ _ (by omega)).trans h24_3
  have h25_4 : M_25 3 = eI cs 2 (upd (upd (fun _ => 0) 0 (-1)) 1 (-1)) := by rw [eM_25]; exact (va_up_ne _ _ (by omega)).trans h24_4
  have h25_5 : M_25 4 = eI cs 2 (fun _ => 0) := by rw [eM_25]; exact (va_up_ne _ _ (by omega)).trans h24_5
  have h25_6 : M_25 5 = eZ cs 2 (fun _ => 0) := by rw [eM_25]; exact (va_up_ne _ _ (by omega)).trans h24_6
  have h25_7 : M_25 6 = eS cs 2 (fun _ => 0) := by rw [eM_25]; exact (va_up_ne _ _ (by omega)).trans h24_7
  have h25_8 : M_25 7 = eS cs 2 (fun _ => 0) := by rw [eM_25]; exact (va_up_ne _ _ (by omega)).trans h24_8
  have h25_9 : M_25 8 = eF cs 2 (fun _ => 0) := by rw [eM_25]; exact (va_up_ne _ _ (by omega)).trans h24_9
  have h25_10 : M_25 9 = eI cs 2400 (fun _ => 0) := by rw [eM_25]; exact (va_up_ne _ _ (by omega)).trans h24_10
  have h25_11 : M_25 10 = eI cs 2400 (fun _ => 0) := by rw [eM_25]; exact (va_up_ne _ _ (by omega)).trans h24_11
  have h25_12 : M_25 11 = eI cs 4 (fun _ => 0) := by rw [eM_25]; exact (va_up_ne _ _ (by omega)).trans h24_12
  have h25_13 : M_25 12 = eF cs 1200 (fun _ => 0) := by rw [eM_25]; exact va_up_self _ _ _
  refine b_putF hx hb hts inX7 tyX7 tyX7_ok nmX7 hown hab hK hP hS (ci := 7) rfl (k := 0) (by omega) h25_1 13 (by decide) (hts (.fieldLink RX7 46 "RollbackPairModel" "place0" "[F") (by decide +kernel)) rfl hin rfl rfl rfl (Nat.le_of_ble_eq_true rfl) (fs' := [.int 0, .int 0, .ref (ad 1), .ref (ad 2), .ref (ad 3), .ref (ad 4), .ref (ad 5), .ref (ad 6), .ref (ad 7), .ref (ad 8), .ref (ad 9), .ref (ad 10), .ref (ad 11), .ref (ad 12), .null, .null, .null, .null, .null, .null, .null, .null, .null, .null, .null, .null, .null, .float 0, .float 0]) rfl dX7_init_99 (fun H locs hP hS hq => ?_)
  replace hz := hq.trans hz
  obtain ⟨M_26, eM_26⟩ : ∃ z, z = va_up M_25 0 (.inr (7, [.int 0, .int 0, .ref (ad 1), .ref (ad 2), .ref (ad 3), .ref (ad 4), .ref (ad 5), .ref (ad 6), .ref (ad 7), .ref (ad 8), .ref (ad 9), .ref (ad 10), .ref (ad 11), .ref (ad 12), .null, .null, .null, .null, .null, .null, .null, .null, .null, .null, .null, .null, .null, .float 0, .float 0])) := ⟨_, rfl⟩
  rw [← eM_26] at hP
  have h26_1 : M_26 0 = .inr (7, [.int 0, .int 0, .ref (ad 1), .ref (ad 2), .ref (ad 3), .ref (ad 4), .ref (ad 5), .ref (ad 6), .ref (ad 7), .ref (ad 8), .ref (ad 9), .ref (ad 10), .ref (ad 11), .ref (ad 12), .null, .null, .null, .null, .null, .null, .null, .null, .null, .null, .null, .null, .null, .float 0, .float 0]) := by rw [eM_26]; exact va_up_self _ _ _
  have h26_2 : M_26 1 = eI cs 2 (fun _ => 0) := by rw [eM_26]; exact (va_up_ne _ _ (by omega)).trans h25_2
  have h26_3 : M_26 2 = eI cs 2 (fun _ => 0) := by rw [eM_26]; exact (va_up_ne _ _ (by omega)).trans h25_3
  have h26_4 : M_26 3 = eI cs 2 (upd (upd (fun _ => 0) 0 (-1)) 1 (-1)) := by rw [eM_26]; exact (va_up_ne _ _ (by omega)).trans h25_4
  have h26_5 : M_26 4 = eI cs 2 (fun _ => 0) := by rw [eM_26]; exact (va_up_ne _ _ (by omega)).trans h25_5
  have h26_6 : M_26 5 = eZ cs 2 (fun _ => 0) := by rw [eM_26]; exact (va_up_ne _ _ (by omega)).trans h25_6
  have h26_7 : M_26 6 = eS cs 2 (fun _ => 0) := by rw [eM_26]; exact (va_up_ne _ _ (by omega)).trans h25_7
  have h26_8 : M_26 7 = eS cs 2 (fun _ => 0) := by rw [eM_26]; exact (va_up_ne _ _ (by omega)).trans h25_8
  have h26_9 : M_26 8 = eF cs 2 (fun _ => 0) := by rw [eM_26]; exact (va_up_ne _ _ (by omega)).trans h25_9
  have h26_10 : M_26 9 = eI cs 2400 (fun _ => 0) := by rw [eM_26]; exact (va_up_ne _ _ (by omega)).trans h25_10
  have h26_11 : M_26 10 = eI cs 2400 (fun _ => 0) := by rw [eM_26]; exact (va_up_ne _ _ (by omega)).trans h25_11
  have h26_12 : M_26 11 = eI cs 4 (fun _ => 0) := by rw [eM_26]; exact (va_up_ne _ _ (by omega)).trans h25_12
  have h26_13 : M_26 12 = eF cs 1200 (fun _ => 0) := by rw [eM_26]; exact (va_up_ne _ _ (by omega)).trans h25_13
  refine lv_aload_n hx hb dX7_init_102 rfl (lv_at hl 0 rfl) ?_
  refine lv_sipush (v := nI 1200) hx hb dX7_init_103 (by decide) ?_
  refine b_newa hx hb (atype := .float) (hts (.arrayClass .float) (by decide +kernel)) hab hK hP hz hS 4 rfl rfl (a0 := (1200, .inr (.inr (.inl (fun _ => 0))))) (fun cA => vp_cell_f cA _ _) (by decide) (by decide) (Nat.le_of_ble_eq_true rfl) (Nat.le_of_ble_eq_true rfl) dX7_init_106 (fun H hP hS hz => ?_)
  obtain ⟨M_27, eM_27⟩ : ∃ z, z = va_up M_26 13 (eF cs 1200 (fun _ => 0)) := ⟨_, rfl⟩
  rw [← eM_27] at hP
  have h27_1 : M_27 0 = .inr (7, [.int 0, .int 0, .ref (ad 1), .ref (ad 2), .ref (ad 3), .ref (ad 4), .ref (ad 5), .ref (ad 6), .ref (ad 7), .ref (ad 8), .ref (ad 9), .ref (ad 10), .ref (ad 11), .ref (ad 12), .null, .null, .null, .null, .null, .null, .null, .null, .null, .null, .null, .null, .null, .float 0, .float 0]) := by rw [eM_27]; exact (va_up_ne _ _ (by omega)).trans h26_1
  have h27_2 : M_27 1 = eI cs 2 (fun _ => 0) := by rw [eM_27]; exact (va_up_ne _ _ (by omega)).trans h26_2
  have h27_3 : M_27 2 = eI cs 2 (fun _ => 0) := by rw [eM_27]; exact (va_up_ne _ _ (by omega)).trans h26_3
  have h27_4 : M_27 3 = eI cs 2 (upd (upd (fun _ => 0) 0 (-1)) 1 (-1)) := by rw [eM_27]; exact (va_up_ne _ _ (by omega)).trans h26_4
  have h27_5 : M_27 4 = eI cs 2 (fun _ => 0) := by rw [eM_27]; exact (va_up_ne _ _ (by omega)).trans h26_5
  have h27_6 : M_27 5 = eZ cs 2 (fun _ => 0) := by rw [eM_27]; exact (va_up_ne _ _ (by omega)).trans h26_6
  have h27_7 : M_27 6 = eS cs 2 (fun _ => 0) := by rw [eM_27]; exact (va_up_ne _ _ (by omega)).trans h26_7
  have h27_8 : M_27 7 = eS cs 2 (fun _ => 0) := by rw [eM_27]; exact (va_up_ne _ _ (by omega)).trans h26_8
  have h27_9 : M_27 8 = eF cs 2 (fun _ => 0) := by rw [eM_27]; exact (va_up_ne _ _ (by omega)).trans h26_9
  have h27_10 : M_27 9 = eI cs 2400 (fun _ => 0) := by rw [eM_27]; exact (va_up_ne _ _ (by omega)).trans h26_10
  have h27_11 : M_27 10 = eI cs 2400 (fun _ => 0) := by rw [eM_27]; exact (va_up_ne _ _ (by omega)).trans h26_11
  have h27_12 : M_27 11 = eI cs 4 (fun _ => 0) := by rw [eM_27]; exact (va_up_ne _ _ (by omega)).trans h26_12
  have h27_13 : M_27 12 = eF cs 1200 (fun _ => 0) := by rw [eM_27]; exact (va_up_ne _ _ (by omega)).trans h26_13
  have h27_14 : M_27 13 = eF cs 1200 (fun _ => 0) := by rw [eM_27]; exact va_up_self _ _ _
  refine b_putF hx hb hts inX7 tyX7 tyX7_ok nmX7 hown hab hK hP hS (ci := 7) rfl (k := 0) (by omega) h27_1 14 (by decide) (hts (.fieldLink RX7 49 "RollbackPairModel" "speed0" "[F") (by decide +kernel)) rfl hin rfl rfl rfl (Nat.le_of_ble_eq_true rfl) (fs' := [.int 0, .int 0, .ref (ad 1), .ref (ad 2), .ref (ad 3), .ref (ad 4), .ref (ad 5), .ref (ad 6), .ref (ad 7), .ref (ad 8), .ref (ad 9), .ref (ad 10), .ref (ad 11), .ref (ad 12), .ref (ad 13), .null, .null, .null, .null, .null, .null, .null, .null, .null, .null, .null, .null, .float 0, .float 0]) rfl dX7_init_108 (fun H locs hP hS hq => ?_)
  replace hz := hq.trans hz
  obtain ⟨M_28, eM_28⟩ : ∃ z, z = va_up M_27 0 (.inr (7, [.int 0, .int 0, .ref (ad 1), .ref (ad 2), .ref (ad 3), .ref (ad 4), .ref (ad 5), .ref (ad 6), .ref (ad 7), .ref (ad 8), .ref (ad 9), .ref (ad 10), .ref (ad 11), .ref (ad 12), .ref (ad 13), .null, .null, .null, .null, .null, .null, .null, .null, .null, .null, .null, .null, .float 0, .float 0])) := ⟨_, rfl⟩
  rw [← eM_28] at hP
  have h28_1 : M_28 0 = .inr (7, [.int 0, .int 0, .ref (ad 1), .ref (ad 2), .ref (ad 3), .ref (ad 4), .ref (ad 5), .ref (ad 6), .ref (ad 7), .ref (ad 8), .ref (ad 9), .ref (ad 10), .ref (ad 11), .ref (ad 12), .ref (ad 13), .null, .null, .null, .null, .null, .null, .null, .null, .null, .null, .null, .null, .float 0, .float 0]) := by rw [eM_28]; exact va_up_self _ _ _
  have h28_2 : M_28 1 = eI cs 2 (fun _ => 0) := by rw [eM_28]; exact (va_up_ne _ _ (by omega)).trans h27_2
  have h28_3 : M_28 2 = eI cs 2 (fun _ => 0) := by rw [eM_28]; exact (va_up_ne _ _ (by omega)).trans h27_3
  have h28_4 : M_28 3 = eI cs 2 (upd (upd (fun _ => 0) 0 (-1)) 1 (-1)) := by rw [eM_28]; exact (va_up_ne _ _ (by omega)).trans h27_4
  have h28_5 : M_28 4 = eI cs 2 (fun _ => 0) := by rw [eM_28]; exact (va_up_ne _ _ (by omega)).trans h27_5
  have h28_6 : M_28 5 = eZ cs 2 (fun _ => 0) := by rw [eM_28]; exact (va_up_ne _ _ (by omega)).trans h27_6
  have h28_7 : M_28 6 = eS cs 2 (fun _ => 0) := by rw [eM_28]; exact (va_up_ne _ _ (by omega)).trans h27_7
  have h28_8 : M_28 7 = eS cs 2 (fun _ => 0) := by rw [eM_28]; exact (va_up_ne _ _ (by omega)).trans h27_8
  have h28_9 : M_28 8 = eF cs 2 (fun _ => 0) := by rw [eM_28]; exact (va_up_ne _ _ (by omega)).trans h27_9
  have h28_10 : M_28 9 = eI cs 2400 (fun _ => 0) := by rw [eM_28]; exact (va_up_ne _ _ (by omega)).trans h27_10
  have h28_11 : M_28 10 = eI cs 2400 (fun _ => 0) := by rw [eM_28]; exact (va_up_ne _ _ (by omega)).trans h27_11
  have h28_12 : M_28 11 = eI cs 4 (fun _ => 0) := by rw [eM_28]; exact (va_up_ne _ _ (by omega)).trans h27_12
  have h28_13 : M_28 12 = eF cs 1200 (fun _ => 0) := by rw [eM_28]; exact (va_up_ne _ _ (by omega)).trans h27_13
  have h28_14 : M_28 13 = eF cs 1200 (fun _ => 0) := by rw [eM_28]; exact (va_up_ne _ _ (by omega)).trans h27_14
  refine lv_aload_n hx hb dX7_init_111 rfl (lv_at hl 0 rfl) ?_
  refine lv_sipush (v := nI 1200) hx hb dX7_init_112 (by decide) ?_
  refine b_newa hx hb (atype := .float) (hts (.arrayClass .float) (by decide +kernel)) hab hK hP hz hS 4 rfl rfl (a0 := (1200, .inr (.inr (.inl (fun _ => 0))))) (fun cA => vp_cell_f cA _ _) (by decide) (by decide) (Nat.le_of_ble_eq_true rfl) (Nat.le_of_ble_eq_true rfl) dX7_init_115 (fun H hP hS hz => ?_)
  obtain ⟨M_29, eM_29⟩ : ∃ z, z = va_up M_28 14 (eF cs 1200 (fun _ => 0)) := ⟨_, rfl⟩
  rw [← eM_29] at hP
  have h29_1 : M_29 0 = .inr (7, [.int 0, .int 0, .ref (ad 1), .ref (ad 2), .ref (ad 3), .ref (ad 4), .ref (ad 5), .ref (ad 6), .ref (ad 7), .ref (ad 8), .ref (ad 9), .ref (ad 10), .ref (ad 11), .ref (ad 12), .ref (ad 13), .null, .null, .null, .null, .null, .null, .null, .null, .null, .null, .null, .null, .float 0, .float 0]) := by rw [eM_29]; exact (va_up_ne _ _ (by omega)).trans h28_1
  have h29_2 : M_29 1 = eI cs 2 (fun _ => 0) := by rw [eM_29]; exact (va_up_ne _ _ (by omega)).trans h28_2
  have h29_3 : M_29 2 = eI cs 2 (fun _ => 0) := by rw [eM_29]; exact (va_up_ne _ _ (by omega)).trans h28_3
  have h29_4 : M_29 3 = eI cs 2 (upd (upd (fun _ => 0) 0 (-1)) 1 (-1)) := by rw [eM_29]; exact (va_up_ne _ _ (by omega)).trans h28_4
  have h29_5 : M_29 4 = eI cs 2 (fun _ => 0) := by rw [eM_29]; exact (va_up_ne _ _ (by omega)).trans h28_5
  have h29_6 : M_29 5 = eZ cs 2 (fun _ => 0) := by rw [eM_29]; exact (va_up_ne _ _ (by omega)).trans h28_6
  have h29_7 : M_29 6 = eS cs 2 (fun _ => 0) := by rw [eM_29]; exact (va_up_ne _ _ (by omega)).trans h28_7
  have h29_8 : M_29 7 = eS cs 2 (fun _ => 0) := by rw [eM_29]; exact (va_up_ne _ _ (by omega)).trans h28_8
  have h29_9 : M_29 8 = eF cs 2 (fun _ => 0) := by rw [eM_29]; exact (va_up_ne _ _ (by omega)).trans h28_9
  have h29_10 : M_29 9 = eI cs 2400 (fun _ => 0) := by rw [eM_29]; exact (va_up_ne _ _ (by omega)).trans h28_10
  have h29_11 : M_29 10 = eI cs 2400 (fun _ => 0) := by rw [eM_29]; exact (va_up_ne _ _ (by omega)).trans h28_11
  have h29_12 : M_29 11 = eI cs 4 (fun _ => 0) := by rw [eM_29]; exact (va_up_ne _ _ (by omega)).trans h28_12
  have h29_13 : M_29 12 = eF cs 1200 (fun _ => 0) := by rw [eM_29]; exact (va_up_ne _ _ (by omega)).trans h28_13
  have h29_14 : M_29 13 = eF cs 1200 (fun _ => 0) := by rw [eM_29]; exact (va_up_ne _ _ (by omega)).trans h28_14
  have h29_15 : M_29 14 = eF cs 1200 (fun _ => 0) := by rw [eM_29]; exact va_up_self _ _ _
  refine b_putF hx hb hts inX7 tyX7 tyX7_ok nmX7 hown hab hK hP hS (ci := 7) rfl (k := 0) (by omega) h29_1 15 (by decide) (hts (.fieldLink RX7 52 "RollbackPairModel" "place1" "[F") (by decide +kernel)) rfl hin rfl rfl rfl (Nat.le_of_ble_eq_true rfl) (fs' := [.int 0, .int 0, .ref (ad 1), .ref (ad 2), .ref (ad 3), .ref (ad 4), .ref (ad 5), .ref (ad 6), .ref (ad 7), .ref (ad 8), .ref (ad 9), .ref (ad 10), .ref (ad 11), .ref (ad 12), .ref (ad 13), .ref (ad 14), .null, .null, .null, .null, .null, .null, .null, .null, .null, .null, .null, .float 0, .float 0]) rfl dX7_init_117 (fun H locs hP hS hq => ?_)
  replace hz := hq.trans hz
  obtain ⟨M_30, eM_30⟩ : ∃ z, z = va_up M_29 0 (.inr (7, [.int 0, .int 0, .ref (ad 1), .ref (ad 2), .ref (ad 3), .ref (ad 4), .ref (ad 5), .ref (ad 6), .ref (ad 7), .ref (ad 8), .ref (ad 9), .ref (ad 10), .ref (ad 11), .ref (ad 12), .ref (ad 13), .ref (ad 14), .null, .null, .null, .null, .null, .null, .null, .null, .null, .null, .null, .float 0, .float 0])) := ⟨_, rfl⟩
  rw [← eM_30] at hP
  have h30_1 : M_30 0 = .inr (7, [.int 0, .int 0, .ref (ad 1), .ref (ad 2), .ref (ad 3), .ref (ad 4), .ref (ad 5), .ref (ad 6), .ref (ad 7), .ref (ad 8), .ref (ad 9), .ref (ad 10), .ref (ad 11), .ref (ad 12), .ref (ad 13), .ref (ad 14), .null, .null, .null, .null, .null, .null, .null, .null, .null, .null, .null, .float 0, .float 0]) := by rw [eM_30]; exact va_up_self _ _ _
  have h30_2 : M_30 1 = eI cs 2 (fun _ => 0) := by rw [eM_30]; exact (va_up_ne _ _ (by omega)).trans h29_2
  have h30_3 : M_30 2 = eI cs 2 (fun _ => 0) := by rw [eM_30]; exact (va_up_ne _ _ (by omega)).trans h29_3
  have h30_4 : M_30 3 = eI cs 2 (upd (upd (fun _ => 0) 0 (-1)) 1 (-1)) := by rw [eM_30]; exact (va_up_ne _ _ (by omega)).trans h29_4
  have h30_5 : M_30 4 = eI cs 2 (fun _ => 0) := by rw [eM_30]; exact (va_up_ne _ _ (by omega)).trans h29_5
  have h30_6 : M_30 5 = eZ cs 2 (fun _ => 0) := by rw [eM_30]; exact (va_up_ne _ _ (by omega)).trans h29_6
  have h30_7 : M_30 6 = eS cs 2 (fun _ => 0) := by rw [eM_30]; exact (va_up_ne _ _ (by omega)).trans h29_7
  have h30_8 : M_30 7 = eS cs 2 (fun _ => 0) := by rw [eM_30]; exact (va_up_ne _ _ (by omega)).trans h29_8
  have h30_9 : M_30 8 = eF cs 2 (fun _ => 0) := by rw [eM_30]; exact (va_up_ne _ _ (by omega)).trans h29_9
  have h30_10 : M_30 9 = eI cs 2400 (fun _ => 0) := by rw [eM_30]; exact (va_up_ne _ _ (by omega)).trans h29_10
  have h30_11 : M_30 10 = eI cs 2400 (fun _ => 0) := by rw [eM_30]; exact (va_up_ne _ _ (by omega)).trans h29_11
  have h30_12 : M_30 11 = eI cs 4 (fun _ => 0) := by rw [eM_30]; exact (va_up_ne _ _ (by omega)).trans h29_12
  have h30_13 : M_30 12 = eF cs 1200 (fun _ => 0) := by rw [eM_30]; exact (va_up_ne _ _ (by omega)).trans h29_13
  have h30_14 : M_30 13 = eF cs 1200 (fun _ => 0) := by rw [eM_30]; exact (va_up_ne _ _ (by omega)).trans h29_14
  have h30_15 : M_30 14 = eF cs 1200 (fun _ => 0) := by rw [eM_30]; exact (va_up_ne _ _ (by omega)).trans h29_15
  refine lv_aload_n hx hb dX7_init_120 rfl (lv_at hl 0 rfl) ?_
  refine lv_sipush (v := nI 1200) hx hb dX7_init_121 (by decide) ?_
  refine b_newa hx hb (atype := .float) (hts (.arrayClass .float) (by decide +kernel)) hab hK hP hz hS 4 rfl rfl (a0 := (1200, .inr (.inr (.inl (fun _ => 0))))) (fun cA => vp_cell_f cA _ _) (by decide) (by decide) (Nat.le_of_ble_eq_true rfl) (Nat.le_of_ble_eq_true rfl) dX7_init_124 (fun H hP hS hz => ?_)
  obtain ⟨M_31, eM_31⟩ : ∃ z, z = va_up M_30 15 (eF cs 1200 (fun _ => 0)) := ⟨_, rfl⟩
  rw [← eM_31] at hP
  have h31_1 : M_31 0 = .inr (7, [.int 0, .int 0, .ref (ad 1), .ref (ad 2), .ref (ad 3), .ref (ad 4), .ref (ad 5), .ref (ad 6), .ref (ad 7), .ref (ad 8), .ref (ad 9), .ref (ad 10), .ref (ad 11), .ref (ad 12), .ref (ad 13), .ref (ad 14), .null, .null, .null, .null, .null, .null, .null, .null, .null, .null, .null, .float 0, .float 0]) := by rw [eM_31]; exact (va_up_ne _ _ (by omega)).trans h30_1
  have h31_2 : M_31 1 = eI cs 2 (fun _ => 0) := by rw [eM_31]; exact (va_up_ne _ _ (by omega)).trans h30_2
  have h31_3 : M_31 2 = eI cs 2 (fun _ => 0) := by rw [eM_31]; exact (va_up_ne _ _ (by omega)).trans h30_3
  have h31_4 : M_31 3 = eI cs 2 (upd (upd (fun _ => 0) 0 (-1)) 1 (-1)) := by rw [eM_31]; exact (va_up_ne _ _ (by omega)).trans h30_4
  have h31_5 : M_31 4 = eI cs 2 (fun _ => 0) := by rw [eM_31]; exact (va_up_ne _ _ (by omega)).trans h30_5
  have h31_6 : M_31 5 = eZ cs 2 (fun _ => 0) := by rw [eM_31]; exact (va_up_ne _ _ (by omega)).trans h30_6
  have h31_7 : M_31 6 = eS cs 2 (fun _ => 0) := by rw [eM_31]; exact (va_up_ne _ _ (by omega)).trans h30_7
  have h31_8 : M_31 7 = eS cs 2 (fun _ => 0) := by rw [eM_31]; exact (va_up_ne _ _ (by omega)).trans h30_8
  have h31_9 : M_31 8 = eF cs 2 (fun _ => 0) := by rw [eM_31]; exact (va_up_ne _ _ (by omega)).trans h30_9
  have h31_10 : M_31 9 = eI cs 2400 (fun _ => 0) := by rw [eM_31]; exact (va_up_ne _ _ (by omega)).trans h30_10
  have h31_11 : M_31 10 = eI cs 2400 (fun _ => 0) := by rw [eM_31]; exact (va_up_ne _ _ (by omega)).trans h30_11
  have h31_12 : M_31 11 = eI cs 4 (fun _ => 0) := by rw [eM_31]; exact (va_up_ne _ _ (by omega)).trans h30_12
  have h31_13 : M_31 12 = eF cs 1200 (fun _ => 0) := by rw [eM_31]; exact (va_up_ne _ _ (by omega)).trans h30_13
  have h31_14 : M_31 13 = eF cs 1200 (fun _ => 0) := by rw [eM_31]; exact (va_up_ne _ _ (by omega)).trans h30_14
  have h31_15 : M_31 14 = eF cs 1200 (fun _ => 0) := by rw [eM_31]; exact (va_up_ne _ _ (by omega)).trans h30_15
  have h31_16 : M_31 15 = eF cs 1200 (fun _ => 0) := by rw [eM_31]; exact va_up_self _ _ _
  refine b_putF hx hb hts inX7 tyX7 tyX7_ok nmX7 hown hab hK hP hS (ci := 7) rfl (k := 0) (by omega) h31_1 16 (by decide) (hts (.fieldLink RX7 55 "RollbackPairModel" "speed1" "[F") (by decide +kernel)) rfl hin rfl rfl rfl (Nat.le_of_ble_eq_true rfl) (fs' := [.int 0, .int 0, .ref (ad 1), .ref (ad 2), .ref (ad 3), .ref (ad 4), .ref (ad 5), .ref (ad 6), .ref (ad 7), .ref (ad 8), .ref (ad 9), .ref (ad 10), .ref (ad 11), .ref (ad 12), .ref (ad 13), .ref (ad 14), .ref (ad 15), .null, .null, .null, .null, .null, .null, .null, .null, .null, .null, .float 0, .float 0]) rfl dX7_init_126 (fun H locs hP hS hq => ?_)
  replace hz := hq.trans hz
  obtain ⟨M_32, eM_32⟩ : ∃ z, z = va_up M_31 0 (.inr (7, [.int 0, .int 0, .ref (ad 1), .ref (ad 2), .ref (ad 3), .ref (ad 4), .ref (ad 5), .ref (ad 6), .ref (ad 7), .ref (ad 8), .ref (ad 9), .ref (ad 10), .ref (ad 11), .ref (ad 12), .ref (ad 13), .ref (ad 14), .ref (ad 15), .null, .null, .null, .null, .null, .null, .null, .null, .null, .null, .float 0, .float 0])) := ⟨_, rfl⟩
  rw [← eM_32] at hP
  have h32_1 : M_32 0 = .inr (7, [.int 0, .int 0, .ref (ad 1), .ref (ad 2), .ref (ad 3), .ref (ad 4), .ref (ad 5), .ref (ad 6), .ref (ad 7), .ref (ad 8), .ref (ad 9), .ref (ad 10), .ref (ad 11), .ref (ad 12), .ref (ad 13), .ref (ad 14), .ref (ad 15), .null, .null, .null, .null, .null, .null, .null, .null, .null, .null, .float 0, .float 0]) := by rw [eM_32]; exact va_up_self _ _ _
  have h32_2 : M_32 1 = eI cs 2 (fun _ => 0) := by rw [eM_32]; exact (va_up_ne _ _ (by omega)).trans h31_2
  have h32_3 : M_32 2 = eI cs 2 (fun _ => 0) := by rw [eM_32]; exact (va_up_ne _ _ (by omega)).trans h31_3
  have h32_4 : M_32 3 = eI cs 2 (upd (upd (fun _ => 0) 0 (-1)) 1 (-1)) := by rw [eM_32]; exact (va_up_ne _ _ (by omega)).trans h31_4
  have h32_5 : M_32 4 = eI cs 2 (fun _ => 0) := by rw [eM_32]; exact (va_up_ne _ _ (by omega)).trans h31_5
  have h32_6 : M_32 5 = eZ cs 2 (fun _ => 0) := by rw [eM_32]; exact (va_up_ne _ _ (by omega)).trans h31_6
  have h32_7 : M_32 6 = eS cs 2 (fun _ => 0) := by rw [eM_32]; exact (va_up_ne _ _ (by omega)).trans h31_7
  have h32_8 : M_32 7 = eS cs 2 (fun _ => 0) := by rw [eM_32]; exact (va_up_ne _ _ (by omega)).trans h31_8
  have h32_9 : M_32 8 = eF cs 2 (fun _ => 0) := by rw [eM_32]; exact (va_up_ne _ _ (by omega)).trans h31_9
  have h32_10 : M_32 9 = eI cs 2400 (fun _ => 0) := by rw [eM_32]; exact (va_up_ne _ _ (by omega)).trans h31_10
  have h32_11 : M_32 10 = eI cs 2400 (fun _ => 0) := by rw [eM_32]; exact (va_up_ne _ _ (by omega)).trans h31_11
  have h32_12 : M_32 11 = eI cs 4 (fun _ => 0) := by rw [eM_32]; exact (va_up_ne _ _ (by omega)).trans h31_12
  have h32_13 : M_32 12 = eF cs 1200 (fun _ => 0) := by rw [eM_32]; exact (va_up_ne _ _ (by omega)).trans h31_13
  have h32_14 : M_32 13 = eF cs 1200 (fun _ => 0) := by rw [eM_32]; exact (va_up_ne _ _ (by omega)).trans h31_14
  have h32_15 : M_32 14 = eF cs 1200 (fun _ => 0) := by rw [eM_32]; exact (va_up_ne _ _ (by omega)).trans h31_15
  have h32_16 : M_32 15 = eF cs 1200 (fun _ => 0) := by rw [eM_32]; exact (va_up_ne _ _ (by omega)).trans h31_16
  refine lv_aload_n hx hb dX7_init_129 rfl (lv_at hl 0 rfl) ?_
  refine lv_sipush (v := nI 1200) hx hb dX7_init_130 (by decide) ?_
  refine b_newa hx hb (atype := .int) (hts (.arrayClass .int) (by decide +kernel)) hab hK hP hz hS 0 rfl rfl (a0 := (1200, .inl (fun _ => 0))) (fun cA => vp_cell_i cA _ _) (by decide) (by decide) (Nat.le_of_ble_eq_true rfl) (Nat.le_of_ble_eq_true rfl) dX7_init_133 (fun H hP hS hz => ?_)
  obtain ⟨M_33, eM_33⟩ : ∃ z, z = va_up M_32 16 (eI cs 1200 (fun _ => 0)) := ⟨_, rfl⟩
  rw [← eM_33] at hP
  have h33_1 : M_33 0 = .inr (7, [.int 0, .int 0, .ref (ad 1), .ref (ad 2), .ref (ad 3), .ref (ad 4), .ref (ad 5), .ref (ad 6), .ref (ad 7), .ref (ad 8), .ref (ad 9), .ref (ad 10), .ref (ad 11), .ref (ad 12), .ref (ad 13), .ref (ad 14), .ref (ad 15), .null, .null, .null, .null, .null, .null, .null, .null, .null, .null, .float 0, .float 0]) := by rw [eM_33]; exact (va_up_ne _ _ (by omega)).trans h32_1
  have h33_2 : M_33 1 = eI cs 2 (fun _ => 0) := by rw [eM_33]; exact (va_up_ne _ _ (by omega)).trans h32_2
  have h33_3 : M_33 2 = eI cs 2 (fun _ => 0) := by rw [eM_33]; exact (va_up_ne _ _ (by omega)).trans h32_3
  have h33_4 : M_33 3 = eI cs 2 (upd (upd (fun _ => 0) 0 (-1)) 1 (-1)) := by rw [eM_33]; exact (va_up_ne _ _ (by omega)).trans h32_4
  have h33_5 : M_33 4 = eI cs 2 (fun _ => 0) := by rw [eM_33]; exact (va_up_ne _ _ (by omega)).trans h32_5
  have h33_6 : M_33 5 = eZ cs 2 (fun _ => 0) := by rw [eM_33]; exact (va_up_ne _ _ (by omega)).trans h32_6
  have h33_7 : M_33 6 = eS cs 2 (fun _ => 0) := by rw [eM_33]; exact (va_up_ne _ _ (by omega)).trans h32_7
  have h33_8 : M_33 7 = eS cs 2 (fun _ => 0) := by rw [eM_33]; exact (va_up_ne _ _ (by omega)).trans h32_8
  have h33_9 : M_33 8 = eF cs 2 (fun _ => 0) := by rw [eM_33]; exact (va_up_ne _ _ (by omega)).trans h32_9
  have h33_10 : M_33 9 = eI cs 2400 (fun _ => 0) := by rw [eM_33]; exact (va_up_ne _ _ (by omega)).trans h32_10
  have h33_11 : M_33 10 = eI cs 2400 (fun _ => 0) := by rw [eM_33]; exact (va_up_ne _ _ (by omega)).trans h32_11
  have h33_12 : M_33 11 = eI cs 4 (fun _ => 0) := by rw [eM_33]; exact (va_up_ne _ _ (by omega)).trans h32_12
  have h33_13 : M_33 12 = eF cs 1200 (fun _ => 0) := by rw [eM_33]; exact (va_up_ne _ _ (by omega)).trans h32_13
  have h33_14 : M_33 13 = eF cs 1200 (fun _ => 0) := by rw [eM_33]; exact (va_up_ne _ _ (by omega)).trans h32_14
  have h33_15 : M_33 14 = eF cs 1200 (fun _ => 0) := by rw [eM_33]; exact (va_up_ne _ _ (by omega)).trans h32_15
  have h33_16 : M_33 15 = eF cs 1200 (fun _ => 0) := by rw [eM_33]; exact (va_up_ne _ _ (by omega)).trans h32_16
  have h33_17 : M_33 16 = eI cs 1200 (fun _ => 0) := by rw [eM_33]; exact va_up_self _ _ _
  refine b_putF hx hb hts inX7 tyX7 tyX7_ok nmX7 hown hab hK hP hS (ci := 7) rfl (k := 0) (by omega) h33_1 17 (by decide) (hts (.fieldLink RX7 58 "RollbackPairModel" "hits" "[I") (by decide +kernel)) rfl hin rfl rfl rfl (Nat.le_of_ble_eq_true rfl) (fs' := [.int 0, .int 0, .ref (ad 1), .ref (ad 2), .ref (ad 3), .ref (ad 4), .ref (ad 5), .ref (ad 6), .ref (ad 7), .ref (ad 8), .ref (ad 9), .ref (ad 10), .ref (ad 11), .ref (ad 12), .ref (ad 13), .ref (ad 14), .ref (ad 15), .ref (ad 16), .null, .null, .null, .null, .null, .null, .null, .null, .null, .float 0, .float 0]) rfl dX7_init_135 (fun H locs hP hS hq => ?_)
  replace hz := hq.trans hz
  obtain ⟨M_34, eM_34⟩ : ∃ z, z = va_up M_33 0 (.inr (7, [.int 0, .int 0, .ref (ad 1), .ref (ad 2), .ref (ad 3), .ref (ad 4), .ref (ad 5), .ref (ad 6), .ref (ad 7), .ref (ad 8), .ref (ad 9), .ref (ad 10), .ref (ad 11), .ref (ad 12), .ref (ad 13), .ref (ad 14), .ref (ad 15), .ref (ad 16), .null, .null, .null, .null, .null, .null, .null, .null, .null, .float 0, .float 0])) := ⟨_, rfl⟩
  rw [← eM_34] at hP
  have h34_1 : M_34 0 = .inr (7, [.int 0, .int 0, .ref (ad 1), .ref (ad 2), .ref (ad 3), .ref (ad 4), .ref (ad 5), .ref (ad 6), .ref (ad 7), .ref (ad 8), .ref (ad 9), .ref (ad 10), .ref (ad 11), .ref (ad 12), .ref (ad 13), .ref (ad 14), .ref (ad 15), .ref (ad 16), .null, .null, .null, .null, .null, .null, .null, .null, .null, .float 0, .float 0]) := by rw [eM_34]; exact va_up_self _ _ _
  have h34_2 : M_34 1 = eI cs 2 (fun _ => 0) := by rw [eM_34]; exact (va_up_ne _ _ (by omega)).trans h33_2
  have h34_3 : M_34 2 = eI cs 2 (fun _ => 0) := by rw [eM_34]; exact (va_up_ne _ _ (by omega)).trans h33_3
  have h34_4 : M_34 3 = eI cs 2 (upd (upd (fun _ => 0) 0 (-1)) 1 (-1)) := by rw [eM_34]; exact (va_up_ne _ _ (by omega)).trans h33_4
  have h34_5 : M_34 4 = eI cs 2 (fun _ => 0) := by rw [eM_34]; exact (va_up_ne _ _ (by omega)).trans h33_5
  have h34_6 : M_34 5 = eZ cs 2 (fun _ => 0) := by rw [eM_34]; exact (va_up_ne _ _ (by omega)).trans h33_6
  have h34_7 : M_34 6 = eS cs 2 (fun _ => 0) := by rw [eM_34]; exact (va_up_ne _ _ (by omega)).trans h33_7
  have h34_8 : M_34 7 = eS cs 2 (fun _ => 0) := by rw [eM_34]; exact (va_up_ne _ _ (by omega)).trans h33_8
  have h34_9 : M_34 8 = eF cs 2 (fun _ => 0) := by rw [eM_34]; exact (va_up_ne _ _ (by omega)).trans h33_9
  have h34_10 : M_34 9 = eI cs 2400 (fun _ => 0) := by rw [eM_34]; exact (va_up_ne _ _ (by omega)).trans h33_10
  have h34_11 : M_34 10 = eI cs 2400 (fun _ => 0) := by rw [eM_34]; exact (va_up_ne _ _ (by omega)).trans h33_11
  have h34_12 : M_34 11 = eI cs 4 (fun _ => 0) := by rw [eM_34]; exact (va_up_ne _ _ (by omega)).trans h33_12
  have h34_13 : M_34 12 = eF cs 1200 (fun _ => 0) := by rw [eM_34]; exact (va_up_ne _ _ (by omega)).trans h33_13
  have h34_14 : M_34 13 = eF cs 1200 (fun _ => 0) := by rw [eM_34]; exact (va_up_ne _ _ (by omega)).trans h33_14
  have h34_15 : M_34 14 = eF cs 1200 (fun _ => 0) := by rw [eM_34]; exact (va_up_ne _ _ (by omega)).trans h33_15
  have h34_16 : M_34 15 = eF cs 1200 (fun _ => 0) := by rw [eM_34]; exact (va_up_ne _ _ (by omega)).trans h33_16
  have h34_17 : M_34 16 = eI cs 1200 (fun _ => 0) := by rw [eM_34]; exact (va_up_ne _ _ (by omega)).trans h33_17
  refine lv_aload_n hx hb dX7_init_138 rfl (lv_at hl 0 rfl) ?_
  refine lv_sipush (v := nI 1200) hx hb dX7_init_139 (by decide) ?_
  refine b_newa hx hb (atype := .double) (hts (.arrayClass .double) (by decide +kernel)) hab hK hP hz hS 6 rfl rfl (a0 := (1200, .inr (.inr (.inr (.inl (fun _ => 0)))))) (fun cA => vp_cell_d cA _ _) (by decide) (by decide) (Nat.le_of_ble_eq_true rfl) (Nat.le_of_ble_eq_true rfl) dX7_init_142 (fun H hP hS hz => ?_)
  obtain ⟨M_35, eM_35⟩ : ∃ z, z = va_up M_34 17 (eD cs 1200 (fun _ => 0)) := ⟨_, rfl⟩
  rw [← eM_35] at hP
  have h35_1 : M_35 0 = .inr (7, [.int 0, .int 0, .ref (ad 1), .ref (ad 2), .ref (ad 3), .ref (ad 4), .ref (ad 5), .ref (ad 6), .ref (ad 7), .ref (ad 8), .ref (ad 9), .ref (ad 10), .ref (ad 11), .ref (ad 12), .ref (ad 13), .ref (ad 14), .ref (ad 15), .ref (ad 16), .null, .null, .null, .null, .null, .null, .null, .null, .null, .float 0, .float 0]) := by rw [eM_35]; exact (va_up_ne _ _ (by omega)).trans h34_1
  have h35_2 : M_35 1 = eI cs 2 (fun _ => 0) := by rw [eM_35]; exact (va_up_ne _ _ (by omega)).trans h34_2
  have h35_3 : M_35 2 = eI cs 2 (fun _ => 0) := by rw [eM_35]; exact (va_up_ne _ _ (by omega)).trans h34_3
  have h35_4 : M_35 3 = eI cs 2 (upd (upd (fun _ => 0) 0 (-1)) 1 (-1)) := by rw [eM_35]; exact (va_up_ne _ _ (by omega)).trans h34_4
  have h35_5 : M_35 4 = eI cs 2 (fun _ => 0) := by rw [eM_35]; exact (va_up_ne _ _ (by omega)).trans h34_5
  have h35_6 : M_35 5 = eZ cs 2 (fun _ => 0) := by rw [eM_35]; exact (va_up_ne _ _ (by omega)).trans h34_6
  have h35_7 : M_35 6 = eS cs 2 (fun _ => 0) := by rw [eM_35]; exact (va_up_ne _ _ (by omega)).trans h34_7
  have h35_8 : M_35 7 = eS cs 2 (fun _ => 0) := by rw [eM_35]; exact (va_up_ne _ _ (by omega)).trans h34_8
  have h35_9 : M_35 8 = eF cs 2 (fun _ => 0) := by rw [eM_35]; exact (va_up_ne _ _ (by omega)).trans h34_9
  have h35_10 : M_35 9 = eI cs 2400 (fun _ => 0) := by rw [eM_35]; exact (va_up_ne _ _ (by omega)).trans h34_10
  have h35_11 : M_35 10 = eI cs 2400 (fun _ => 0) := by rw [eM_35]; exact (va_up_ne _ _ (by omega)).trans h34_11
  have h35_12 : M_35 11 = eI cs 4 (fun _ => 0) := by rw [eM_35]; exact (va_up_ne _ _ (by omega)).trans h34_12
  have h35_13 : M_35 12 = eF cs 1200 (fun _ => 0) := by rw [eM_35]; exact (va_up_ne _ _ (by omega)).trans h34_13
  have h35_14 : M_35 13 = eF cs 1200 (fun _ => 0) := by rw [eM_35]; exact (va_up_ne _ _ (by omega)).trans h34_14
  have h35_15 : M_35 14 = eF cs 1200 (fun _ => 0) := by rw [eM_35]; exact (va_up_ne _ _ (by omega)).trans h34_15
  have h35_16 : M_35 15 = eF cs 1200 (fun _ => 0) := by rw [eM_35]; exact (va_up_ne _ _ (by omega)).trans h34_16
  have h35_17 : M_35 16 = eI cs 1200 (fun _ => 0) := by rw [eM_35]; exact (va_up_ne _ _ (by omega)).trans h34_17
  have h35_18 : M_35 17 = eD cs 1200 (fun _ => 0) := by rw [eM_35]; exact va_up_self _ _ _
  refine b_putF hx hb hts inX7 tyX7 tyX7_ok nmX7 hown hab hK hP hS (ci := 7) rfl (k := 0) (by omega) h35_1 18 (by decide) (hts (.fieldLink RX7 61 "RollbackPairModel" "work" "[D") (by decide +kernel)) rfl hin rfl rfl rfl (Nat.le_of_ble_eq_true rfl) (fs' := [.int 0, .int 0, .ref (ad 1), .ref (ad 2), .ref (ad 3), .ref (ad 4), .ref (ad 5), .ref (ad 6), .ref (ad 7), .ref (ad 8), .ref (ad 9), .ref (ad 10), .ref (ad 11), .ref (ad 12), .ref (ad 13), .ref (ad 14), .ref (ad 15), .ref (ad 16), .ref (ad 17), .null, .null, .null, .null, .null, .null, .null, .null, .float 0, .float 0]) rfl dX7_init_144 (fun H locs hP hS hq => ?_)
  replace hz := hq.trans hz
  obtain ⟨M_36, eM_36⟩ : ∃ z, z = va_up M_35 0 (.inr (7, [.int 0, .int 0, .ref (ad 1), .ref (ad 2), .ref (ad 3), .ref (ad 4), .ref (ad 5), .ref (ad 6), .ref (ad 7), .ref (ad 8), .ref (ad 9), .ref (ad 10), .ref (ad 11), .ref (ad 12), .ref (ad 13), .ref (ad 14), .ref (ad 15), .ref (ad 16), .ref (ad 17), .null, .null, .null, .null, .null, .null, .null, .null, .float 0, .float 0])) := ⟨_, rfl⟩
  rw [← eM_36] at hP
  have h36_1 : M_36 0 = .inr (7, [.int 0, .int 0, .ref (ad 1), .ref (ad 2), .ref (ad 3), .ref (ad 4), .ref (ad 5), .ref (ad 6), .ref (ad 7), .ref (ad 8), .ref (ad 9), .ref (ad 10), .ref (ad 11), .ref (ad 12), .ref (ad 13), .ref (ad 14), .ref (ad 15), .ref (ad 16), .ref (ad 17), .null, .null, .null, .null, .null, .null, .null, .null, .float 0, .float 0]) := by rw [eM_36]; exact va_up_self _ _ _
  have h36_2 : M_36 1 = eI cs 2 (fun _ => 0) := by rw [eM_36]; exact (va_up_ne _ _ (by omega)).trans h35_2
  have h36_3 : M_36 2 = eI cs 2 (fun _ => 0) := by rw [eM_36]; exact (va_up_ne _ _ (by omega)).trans h35_3
  have h36_4 : M_36 3 = eI cs 2 (upd (upd (fun _ => 0) 0 (-1)) 1 (-1)) := by rw [eM_36]; exact (va_up_ne _ _ (by omega)).trans h35_4
  have h36_5 : M_36 4 = eI cs 2 (fun _ => 0) := by rw [eM_36]; exact (va_up_ne _ _ (by omega)).trans h35_5
  have h36_6 : M_36 5 = eZ cs 2 (fun _ => 0) := by rw [eM_36]; exact (va_up_ne _ _ (by omega)).trans h35_6
  have h36_7 : M_36 6 = eS cs 2 (fun _ => 0) := by rw [eM_36]; exact (va_up_ne _ _ (by omega)).trans h35_7
  have h36_8 : M_36 7 = eS cs 2 (fun _ => 0) := by rw [eM_36]; exact (va_up_ne _ _ (by omega)).trans h35_8
  have h36_9 : M_36 8 = eF cs 2 (fun _ => 0) := by rw [eM_36]; exact (va_up_ne _ _ (by omega)).trans h35_9
  have h36_10 : M_36 9 = eI cs 2400 (fun _ => 0) := by rw [eM_36]; exact (va_up_ne _ _ (by omega)).trans h35_10
  have h36_11 : M_36 10 = eI cs 2400 (fun _ => 0) := by rw [eM_36]; exact (va_up_ne _ _ (by omega)).trans h35_11
  have h36_12 : M_36 11 = eI cs 4 (fun _ => 0) := by rw [eM_36]; exact (va_up_ne _ _ (by omega)).trans h35_12
  have h36_13 : M_36 12 = eF cs 1200 (fun _ => 0) := by rw [eM_36]; exact (va_up_ne _ _ (by omega)).trans h35_13
  have h36_14 : M_36 13 = eF cs 1200 (fun _ => 0) := by rw [eM_36]; exact (va_up_ne _ _ (by omega)).trans h35_14
  have h36_15 : M_36 14 = eF cs 1200 (fun _ => 0) := by rw [eM_36]; exact (va_up_ne _ _ (by omega)).trans h35_15
  have h36_16 : M_36 15 = eF cs 1200 (fun _ => 0) := by rw [eM_36]; exact (va_up_ne _ _ (by omega)).trans h35_16
  have h36_17 : M_36 16 = eI cs 1200 (fun _ => 0) := by rw [eM_36]; exact (va_up_ne _ _ (by omega)).trans h35_17
  have h36_18 : M_36 17 = eD cs 1200 (fun _ => 0) := by rw [eM_36]; exact (va_up_ne _ _ (by omega)).trans h35_18
  refine lv_aload_n hx hb dX7_init_147 rfl (lv_at hl 0 rfl) ?_
  refine lv_iconst (v := nI 2) hx hb dX7_init_148 (by decide) ?_
  refine b_newa hx hb (atype := .int) (hts (.arrayClass .int) (by decide +kernel)) hab hK hP hz hS 0 rfl rfl (a0 := (2, .inl (fun _ => 0))) (fun cA => vp_cell_i cA _ _) (by decide) (by decide) (Nat.le_of_ble_eq_true rfl) (Nat.le_of_ble_eq_true rfl) dX7_init_149 (fun H hP hS hz => ?_)
  obtain ⟨M_37, eM_37⟩ : ∃ z, z = va_up M_36 18 (eI cs 2 (fun _ => 0)) := ⟨_, rfl⟩
  rw [← eM_37] at hP
  have h37_1 : M_37 0 = .inr (7, [.int 0, .int 0, .ref (ad 1), .ref (ad 2), .ref (ad 3), .ref (ad 4), .ref (ad 5), .ref (ad 6), .ref (ad 7), .ref (ad 8), .ref (ad 9), .ref (ad 10), .ref (ad 11), .ref (ad 12), .ref (ad 13), .ref (ad 14), .ref (ad 15), .ref (ad 16), .ref (ad 17), .null, .null, .null, .null, .null, .null, .null, .null, .float 0, .float 0]) := by rw [eM_37]; exact (va_up_ne _ _ (by omega)).trans h36_1
  have h37_2 : M_37 1 = eI cs 2 (fun _ => 0) := by rw [eM_37]; exact (va_up_ne _ _ (by omega)).trans h36_2
  have h37_3 : M_37 2 = eI cs 2 (fun _ => 0) := by rw [eM_37]; exact (va_up_ne _ _ (by omega)).trans h36_3
  have h37_4 : M_37 3 = eI cs 2 (upd (upd (fun _ => 0) 0 (-1)) 1 (-1)) := by rw [eM_37]; exact (va_up_ne _ _ (by omega)).trans h36_4
  have h37_5 : M_37 4 = eI cs 2 (fun _ => 0) := by rw [eM_37]; exact (va_up_ne _ _ (by omega)).trans h36_5
  have h37_6 : M_37 5 = eZ cs 2 (fun _ => 0) := by rw [eM_37]; exact (va_up_ne _ _ (by omega)).trans h36_6
  have h37_7 : M_37 6 = eS cs 2 (fun _ => 0) := by rw [eM_37]; exact (va_up_ne _ _ (by omega)).trans h36_7
  have h37_8 : M_37 7 = eS cs 2 (fun _ => 0) := by rw [eM_37]; exact (va_up_ne _ _ (by omega)).trans h36_8
  have h37_9 : M_37 8 = eF cs 2 (fun _ => 0) := by rw [eM_37]; exact (va_up_ne _ _ (by omega)).trans h36_9
  have h37_10 : M_37 9 = eI cs 2400 (fun _ => 0) := by rw [eM_37]; exact (va_up_ne _ _ (by omega)).trans h36_10
  have h37_11 : M_37 10 = eI cs 2400 (fun _ => 0) := by rw [eM_37]; exact (va_up_ne _ _ (by omega)).trans h36_11
  have h37_12 : M_37 11 = eI cs 4 (fun _ => 0) := by rw [eM_37]; exact (va_up_ne _ _ (by omega)).trans h36_12
  have h37_13 : M_37 12 = eF cs 1200 (fun _ => 0) := by rw [eM_37]; exact (va_up_ne _ _ (by omega)).trans h36_13
  have h37_14 : M_37 13 = eF cs 1200 (fun _ => 0) := by rw [eM_37]; exact (va_up_ne _ _ (by omega)).trans h36_14
  have h37_15 : M_37 14 = eF cs 1200 (fun _ => 0) := by rw [eM_37]; exact (va_up_ne _ _ (by omega)).trans h36_15
  have h37_16 : M_37 15 = eF cs 1200 (fun _ => 0) := by rw [eM_37]; exact (va_up_ne _ _ (by omega)).trans h36_16
  have h37_17 : M_37 16 = eI cs 1200 (fun _ => 0) := by rw [eM_37]; exact (va_up_ne _ _ (by omega)).trans h36_17
  have h37_18 : M_37 17 = eD cs 1200 (fun _ => 0) := by rw [eM_37]; exact (va_up_ne _ _ (by omega)).trans h36_18
  have h37_19 : M_37 18 = eI cs 2 (fun _ => 0) := by rw [eM_37]; exact va_up_self _ _ _
  refine b_putF hx hb hts inX7 tyX7 tyX7_ok nmX7 hown hab hK hP hS (ci := 7) rfl (k := 0) (by omega) h37_1 19 (by decide) (hts (.fieldLink RX7 65 "RollbackPairModel" "rows" "[I") (by decide +kernel)) rfl hin rfl rfl rfl (Nat.le_of_ble_eq_true rfl) (fs' := [.int 0, .int 0, .ref (ad 1), .ref (ad 2), .ref (ad 3), .ref (ad 4), .ref (ad 5), .ref (ad 6), .ref (ad 7), .ref (ad 8), .ref (ad 9), .ref (ad 10), .ref (ad 11), .ref (ad 12), .ref (ad 13), .ref (ad 14), .ref (ad 15), .ref (ad 16), .ref (ad 17), .ref (ad 18), .null, .null, .null, .null, .null, .null, .null, .float 0, .float 0]) rfl dX7_init_151 (fun H locs hP hS hq => ?_)
  replace hz := hq.trans hz
  obtain ⟨M_38, eM_38⟩ : ∃ z, z = va_up M_37 0 (.inr (7, [.int 0, .int 0, .ref (ad 1), .ref (ad 2), .ref (ad 3), .ref (ad 4), .ref (ad 5), .ref (ad 6), .ref (ad 7), .ref (ad 8), .ref (ad 9), .ref (ad 10), .ref (ad 11), .ref (ad 12), .ref (ad 13), .ref (ad 14), .ref (ad 15), .ref (ad 16), .ref (ad 17), .ref (ad 18), .null, .null, .null, .null, .null, .null, .null, .float 0, .float 0])) := ⟨_, rfl⟩
  rw [← eM_38] at hP
  have h38_1 : M_38 0 = .inr (7, [.int 0, .int 0, .ref (ad 1), .ref (ad 2), .ref (ad 3), .ref (ad 4), .ref (ad 5), .ref (ad 6), .ref (ad 7), .ref (ad 8), .ref (ad 9), .ref (ad 10), .ref (ad 11), .ref (ad 12), .ref (ad 13), .ref (ad 14), .ref (ad 15), .ref (ad 16), .ref (ad 17), .ref (ad 18), .null, .null, .null, .null, .null, .null, .null, .float 0, .float 0]) := by rw [eM_38]; exact va_up_self _ _ _
  have h38_2 : M_38 1 = eI cs 2 (fun _ => 0) := by rw [eM_38]; exact (va_up_ne _ _ (by omega)).trans h37_2
  have h38_3 : M_38 2 = eI cs 2 (fun _ => 0) := by rw [eM_38]; exact (va_up_ne _ _ (by omega)).trans h37_3
  have h38_4 : M_38 3 = eI cs 2 (upd (upd (fun _ => 0) 0 (-1)) 1 (-1)) := by rw [eM_38]; exact (va_up_ne _ _ (by omega)).trans h37_4
  have h38_5 : M_38 4 = eI cs 2 (fun _ => 0) := by rw [eM_38]; exact (va_up_ne _ _ (by omega)).trans h37_5
  have h38_6 : M_38 5 = eZ cs 2 (fun _ => 0) := by rw [eM_38]; exact (va_up_ne _ _ (by omega)).trans h37_6
  have h38_7 : M_38 6 = eS cs 2 (fun _ => 0) := by rw [eM_38]; exact (va_up_ne _ _ (by omega)).trans h37_7
  have h38_8 : M_38 7 = eS cs 2 (fun _ => 0) := by rw [eM_38]; exact (va_up_ne _ _ (by omega)).trans h37_8
  have h38_9 : M_38 8 = eF cs 2 (fun _ => 0) := by rw [eM_38]; exact (va_up_ne _ _ (by omega)).trans h37_9
  have h38_10 : M_38 9 = eI cs 2400 (fun _ => 0) := by rw [eM_38]; exact (va_up_ne _ _ (by omega)).trans h37_10
  have h38_11 : M_38 10 = eI cs 2400 (fun _ => 0) := by rw [eM_38]; exact (va_up_ne _ _ (by omega)).trans h37_11
  have h38_12 : M_38 11 = eI cs 4 (fun _ => 0) := by rw [eM_38]; exact (va_up_ne _ _ (by omega)).trans h37_12
  have h38_13 : M_38 12 = eF cs 1200 (fun _ => 0) := by rw [eM_38]; exact (va_up_ne _ _ (by omega)).trans h37_13
  have h38_14 : M_38 13 = eF cs 1200 (fun _ => 0) := by rw [eM_38]; exact (va_up_ne _ _ (by omega)).trans h37_14
  have h38_15 : M_38 14 = eF cs 1200 (fun _ => 0) := by rw [eM_38]; exact (va_up_ne _ _ (by omega)).trans h37_15
  have h38_16 : M_38 15 = eF cs 1200 (fun _ => 0) := by rw [eM_38]; exact (va_up_ne _ _ (by omega)).trans h37_16
  have h38_17 : M_38 16 = eI cs 1200 (fun _ => 0) := by rw [eM_38]; exact (va_up_ne _ _ (by omega)).trans h37_17
  have h38_18 : M_38 17 = eD cs 1200 (fun _ => 0) := by rw [eM_38]; exact (va_up_ne _ _ (by omega)).trans h37_18
  have h38_19 : M_38 18 = eI cs 2 (fun _ => 0) := by rw [eM_38]; exact (va_up_ne _ _ (by omega)).trans h37_19
  refine lv_aload_n hx hb dX7_init_154 rfl (lv_at hl 0 rfl) ?_
  refine lv_bipush (v := nI 25) hx hb dX7_init_155 (by decide) ?_
  refine b_newa hx hb (atype := .short) (hts (.arrayClass .short) (by decide +kernel)) hab hK hP hz hS 2 rfl rfl (a0 := (25, .inl (fun _ => 0))) (fun cA => vp_cell_i cA _ _) (by decide) (by decide) (Nat.le_of_ble_eq_true rfl) (Nat.le_of_ble_eq_true rfl) dX7_init_157 (fun H hP hS hz => ?_)
  obtain ⟨M_39, eM_39⟩ : ∃ z, z = va_up M_38 19 (eS cs 25 (fun _ => 0)) := ⟨_, rfl⟩
  rw [← eM_39] at hP
  have h39_1 : M_39 0 = .inr (7, [.int 0, .int 0, .ref (ad 1), .ref (ad 2), .ref (ad 3), .ref (ad 4), .ref (ad 5), .ref (ad 6), .ref (ad 7), .ref (ad 8), .ref (ad 9), .ref (ad 10), .ref (ad 11), .ref (ad 12), .ref (ad 13), .ref (ad 14), .ref (ad 15), .ref (ad 16), .ref (ad 17), .ref (ad 18), .null, .null, .null, .null, .null, .null, .null, .float 0, .float 0]) := by rw [eM_39]; exact (va_up_ne _ _ (by omega)).trans h38_1
  have h39_2 : M_39 1 = eI cs 2 (fun _ => 0) := by rw [eM_39]; exact (va_up_ne _ _ (by omega)).trans h38_2
  have h39_3 : M_39 2 = eI cs 2 (fun _ => 0) := by rw [eM_39]; exact (va_up_ne _ _ (by omega)).trans h38_3
  have h39_4 : M_39 3 = eI cs 2 (upd (upd (fun _ => 0) 0 (-1)) 1 (-1)) := by rw [eM_39]; exact (va_up_ne _ _ (by omega)).trans h38_4
  have h39_5 : M_39 4 = eI cs 2 (fun _ => 0) := by rw [eM_39]; exact (va_up_ne _ _ (by omega)).trans h38_5
  have h39_6 : M_39 5 = eZ cs 2 (fun _ => 0) := by rw [eM_39]; exact (va_up_ne _ _ (by omega)).trans h38_6
  have h39_7 : M_39 6 = eS cs 2 (fun _ => 0) := by rw [eM_39]; exact (va_up_ne _ _ (by omega)).trans h38_7
  have h39_8 : M_39 7 = eS cs 2 (fun _ => 0) := by rw [eM_39]; exact (va_up_ne _ _ (by omega)).trans h38_8
  have h39_9 : M_39 8 = eF cs 2 (fun _ => 0) := by rw [eM_39]; exact (va_up_ne _ _ (by omega)).trans h38_9
  have h39_10 : M_39 9 = eI cs 2400 (fun _ => 0) := by rw [eM_39]; exact (va_up_ne _ _ (by omega)).trans h38_10
  have h39_11 : M_39 10 = eI cs 2400 (fun _ => 0) := by rw [eM_39]; exact (va_up_ne _ _ (by omega)).trans h38_11
  have h39_12 : M_39 11 = eI cs 4 (fun _ => 0) := by rw [eM_39]; exact (va_up_ne _ _ (by omega)).trans h38_12
  have h39_13 : M_39 12 = eF cs 1200 (fun _ => 0) := by rw [eM_39]; exact (va_up_ne _ _ (by omega)).trans h38_13
  have h39_14 : M_39 13 = eF cs 1200 (fun _ => 0) := by rw [eM_39]; exact (va_up_ne _ _ (by omega)).trans h38_14
  have h39_15 : M_39 14 = eF cs 1200 (fun _ => 0) := by rw [eM_39]; exact (va_up_ne _ _ (by omega)).trans h38_15
  have h39_16 : M_39 15 = eF cs 1200 (fun _ => 0) := by rw [eM_39]; exact (va_up_ne _ _ (by omega)).trans h38_16
  have h39_17 : M_39 16 = eI cs 1200 (fun _ => 0) := by rw [eM_39]; exact (va_up_ne _ _ (by omega)).trans h38_17
  have h39_18 : M_39 17 = eD cs 1200 (fun _ => 0) := by rw [eM_39]; exact (va_up_ne _ _ (by omega)).trans h38_18
  have h39_19 : M_39 18 = eI cs 2 (fun _ => 0) := by rw [eM_39]; exact (va_up_ne _ _ (by omega)).trans h38_19
  have h39_20 : M_39 19 = eS cs 25 (fun _ => 0) := by rw [eM_39]; exact va_up_self _ _ _
  refine b_putF hx hb hts inX7 tyX7 tyX7_ok nmX7 hown hab hK hP hS (ci := 7) rfl (k := 0) (by omega) h39_1 20 (by decide) (hts (.fieldLink RX7 68 "RollbackPairModel" "pNumber" "[S") (by decide +kernel)) rfl hin rfl rfl rfl (Nat.le_of_ble_eq_true rfl) (fs' := [.int 0, .int 0, .ref (ad 1), .ref (ad 2), .ref (ad 3), .ref (ad 4), .ref (ad 5), .ref (ad 6), .ref (ad 7), .ref (ad 8), .ref (ad 9), .ref (ad 10), .ref (ad 11), .ref (ad 12), .ref (ad 13), .ref (ad 14), .ref (ad 15), .ref (ad 16), .ref (ad 17), .ref (ad 18), .ref (ad 19), .null, .null, .null, .null, .null, .null, .float 0, .float 0]) rfl dX7_init_159 (fun H locs hP hS hq => ?_)
  replace hz := hq.trans hz
  obtain ⟨M_40, eM_40⟩ : ∃ z, z = va_up M_39 0 (.inr (7, [.int 0, .int 0, .ref (ad 1), .ref (ad 2), .ref (ad 3), .ref (ad 4), .ref (ad 5), .ref (ad 6), .ref (ad 7), .ref (ad 8), .ref (ad 9), .ref (ad 10), .ref (ad 11), .ref (ad 12), .ref (ad 13), .ref (ad 14), .ref (ad 15), .ref (ad 16), .ref (ad 17), .ref (ad 18), .ref (ad 19), .null, .null, .null, .null, .null, .null, .float 0, .float 0])) := ⟨_, rfl⟩
  rw [← eM_40] at hP
  have h40_1 : M_40 0 = .inr (7, [.int 0, .int 0, .ref (ad 1), .ref (ad 2), .ref (ad 3), .ref (ad 4), .ref (ad 5), .ref (ad 6), .ref (ad 7), .ref (ad 8), .ref (ad 9), .ref (ad 10), .ref (ad 11), .ref (ad 12), .ref (ad 13), .ref (ad 14), .ref (ad 15), .ref (ad 16), .ref (ad 17), .ref (ad 18), .ref (ad 19), .null, .null, .null, .null, .null, .null, .float 0, .float 0]) := by rw [eM_40]; exact va_up_self _ _ _
  have h40_2 : M_40 1 = eI cs 2 (fun _ => 0) := by rw [eM_40]; exact (va_up_ne _ _ (by omega)).trans h39_2
  have h40_3 : M_40 2 = eI cs 2 (fun _ => 0) := by rw [eM_40]; exact (va_up_ne _ _ (by omega)).trans h39_3
  have h40_4 : M_40 3 = eI cs 2 (upd (upd (fun _ => 0) 0 (-1)) 1 (-1)) := by rw [eM_40]; exact (va_up_ne _ _ (by omega)).trans h39_4
  have h40_5 : M_40 4 = eI cs 2 (fun _ => 0) := by rw [eM_40]; exact (va_up_ne _ _ (by omega)).trans h39_5
  have h40_6 : M_40 5 = eZ cs 2 (fun _ => 0) := by rw [eM_40]; exact (va_up_ne _ _ (by omega)).trans h39_6
  have h40_7 : M_40 6 = eS cs 2 (fun _ => 0) := by rw [eM_40]; exact (va_up_ne _ _ (by omega)).trans h39_7
  have h40_8 : M_40 7 = eS cs 2 (fun _ => 0) := by rw [eM_40]; exact (va_up_ne _ _ (by omega)).trans h39_8
  have h40_9 : M_40 8 = eF cs 2 (fun _ => 0) := by rw [eM_40]; exact (va_up_ne _ _ (by omega)).trans h39_9
  have h40_10 : M_40 9 = eI cs 2400 (fun _ => 0) := by rw [eM_40]; exact (va_up_ne _ _ (by omega)).trans h39_10
  have h40_11 : M_40 10 = eI cs 2400 (fun _ => 0) := by rw [eM_40]; exact (va_up_ne _ _ (by omega)).trans h39_11
  have h40_12 : M_40 11 = eI cs 4 (fun _ => 0) := by rw [eM_40]; exact (va_up_ne _ _ (by omega)).trans h39_12
  have h40_13 : M_40 12 = eF cs 1200 (fun _ => 0) := by rw [eM_40]; exact (va_up_ne _ _ (by omega)).trans h39_13
  have h40_14 : M_40 13 = eF cs 1200 (fun _ => 0) := by rw [eM_40]; exact (va_up_ne _ _ (by omega)).trans h39_14
  have h40_15 : M_40 14 = eF cs 1200 (fun _ => 0) := by rw [eM_40]; exact (va_up_ne _ _ (by omega)).trans h39_15
  have h40_16 : M_40 15 = eF cs 1200 (fun _ => 0) := by rw [eM_40]; exact (va_up_ne _ _ (by omega)).trans h39_16
  have h40_17 : M_40 16 = eI cs 1200 (fun _ => 0) := by rw [eM_40]; exact (va_up_ne _ _ (by omega)).trans h39_17
  have h40_18 : M_40 17 = eD cs 1200 (fun _ => 0) := by rw [eM_40]; exact (va_up_ne _ _ (by omega)).trans h39_18
  have h40_19 : M_40 18 = eI cs 2 (fun _ => 0) := by rw [eM_40]; exact (va_up_ne _ _ (by omega)).trans h39_19
  have h40_20 : M_40 19 = eS cs 25 (fun _ => 0) := by rw [eM_40]; exact (va_up_ne _ _ (by omega)).trans h39_20
  refine lv_aload_n hx hb dX7_init_162 rfl (lv_at hl 0 rfl) ?_
  refine lv_bipush (v := nI 25) hx hb dX7_init_163 (by decide) ?_
  refine b_newa hx hb (atype := .int) (hts (.arrayClass .int) (by decide +kernel)) hab hK hP hz hS 0 rfl rfl (a0 := (25, .inl (fun _ => 0))) (fun cA => vp_cell_i cA _ _) (by decide) (by decide) (Nat.le_of_ble_eq_true rfl) (Nat.le_of_ble_eq_true rfl) dX7_init_165 (fun H hP hS hz => ?_)
  obtain ⟨M_41, eM_41⟩ : ∃ z, z = va_up M_40 20 (eI cs 25 (fun _ => 0)) := ⟨_, rfl⟩
  rw [← eM_41] at hP
  have h41_1 : M_41 0 = .inr (7, [.int 0, .int 0, .ref (ad 1), .ref (ad 2), .ref (ad 3), .ref (ad 4), .ref (ad 5), .ref (ad 6), .ref (ad 7), .ref (ad 8), .ref (ad 9), .ref (ad 10), .ref (ad 11), .ref (ad 12), .ref (ad 13), .ref (ad 14), .ref (ad 15), .ref (ad 16), .ref (ad 17), .ref (ad 18), .ref (ad 19), .null, .null, .null, .null, .null, .null, .float 0, .float 0]) := by rw [eM_41]; exact (va_up_ne _ _ (by omega)).trans h40_1
  have h41_2 : M_41 1 = eI cs 2 (fun _ => 0) := by rw [eM_41]; exact (va_up_ne _ _ (by omega)).trans h40_2
  have h41_3 : M_41 2 = eI cs 2 (fun _ => 0) := by rw [eM_41]; exact (va_up_ne _ _ (by omega)).trans h40_3
  have h41_4 : M_41 3 = eI cs 2 (upd (upd (fun _ => 0) 0 (-1)) 1 (-1)) := by rw [eM_41]; exact (va_up_ne _ _ (by omega)).trans h40_4
  have h41_5 : M_41 4 = eI cs 2 (fun _ => 0) := by rw [eM_41]; exact (va_up_ne _ _ (by omega)).trans h40_5
  have h41_6 : M_41 5 = eZ cs 2 (fun _ => 0) := by rw [eM_41]; exact (va_up_ne _ _ (by omega)).trans h40_6
  have h41_7 : M_41 6 = eS cs 2 (fun _ => 0) := by rw [eM_41]; exact (va_up_ne _ _ (by omega)).trans h40_7
  have h41_8 : M_41 7 = eS cs 2 (fun _ => 0) := by rw [eM_41]; exact (va_up_ne _ _ (by omega)).trans h40_8
  have h41_9 : M_41 8 = eF cs 2 (fun _ => 0) := by rw [eM_41]; exact (va_up_ne _ _ (by omega)).trans h40_9
  have h41_10 : M_41 9 = eI cs 2400 (fun _ => 0) := by rw [eM_41]; exact (va_up_ne _ _ (by omega)).trans h40_10
  have h41_11 : M_41 10 = eI cs 2400 (fun _ => 0) := by rw [eM_41]; exact (va_up_ne _ _ (by omega)).trans h40_11
  have h41_12 : M_41 11 = eI cs 4 (fun _ => 0) := by rw [eM_41]; exact (va_up_ne _ _ (by omega)).trans h40_12
  have h41_13 : M_41 12 = eF cs 1200 (fun _ => 0) := by rw [eM_41]; exact (va_up_ne _ _ (by omega)).trans h40_13
  have h41_14 : M_41 13 = eF cs 1200 (fun _ => 0) := by rw [eM_41]; exact (va_up_ne _ _ (by omega)).trans h40_14
  have h41_15 : M_41 14 = eF cs 1200 (fun _ => 0) := by rw [eM_41]; exact (va_up_ne _ _ (by omega)).trans h40_15
  have h41_16 : M_41 15 = eF cs 1200 (fun _ => 0) := by rw [eM_41]; exact (va_up_ne _ _ (by omega)).trans h40_16
  have h41_17 : M_41 16 = eI cs 1200 (fun _ => 0) := by rw [eM_41]; exact (va_up_ne _ _ (by omega)).trans h40_17
  have h41_18 : M_41 17 = eD cs 1200 (fun _ => 0) := by rw [eM_41]; exact (va_up_ne _ _ (by omega)).trans h40_18
  have h41_19 : M_41 18 = eI cs 2 (fun _ => 0) := by rw [eM_41]; exact (va_up_ne _ _ (by omega)).trans h40_19
  have h41_20 : M_41 19 = eS cs 25 (fun _ => 0) := by rw [eM_41]; exact (va_up_ne _ _ (by omega)).trans h40_20
  have h41_21 : M_41 20 = eI cs 25 (fun _ => 0) := by rw [eM_41]; exact va_up_self _ _ _
  refine b_putF hx hb hts inX7 tyX7 tyX7_ok nmX7 hown hab hK hP hS (ci := 7) rfl (k := 0) (by omega) h41_1 21 (by decide) (hts (.fieldLink RX7 71 "RollbackPairModel" "pFrame" "[I") (by decide +kernel)) rfl hin rfl rfl rfl (Nat.le_of_ble_eq_true rfl) (fs' := [.int 0, .int 0, .ref (ad 1), .ref (ad 2), .ref (ad 3), .ref (ad 4), .ref (ad 5), .ref (ad 6), .ref (ad 7), .ref (ad 8), .ref (ad 9), .ref (ad 10), .ref (ad 11), .ref (ad 12), .ref (ad 13), .ref (ad 14), .ref (ad 15), .ref (ad 16), .ref (ad 17), .ref (ad 18), .ref (ad 19), .ref (ad 20), .null, .null, .null, .null, .null, .float 0, .float 0]) rfl dX7_init_167 (fun H locs hP hS hq => ?_)
  replace hz := hq.trans hz
  obtain ⟨M_42, eM_42⟩ : ∃ z, z = va_up M_41 0 (.inr (7, [.int 0, .int 0, .ref (ad 1), .ref (ad 2), .ref (ad 3), .ref (ad 4), .ref (ad 5), .ref (ad 6), .ref (ad 7), .ref (ad 8), .ref (ad 9), .ref (ad 10), .ref (ad 11), .ref (ad 12), .ref (ad 13), .ref (ad 14), .ref (ad 15), .ref (ad 16), .ref (ad 17), .ref (ad 18), .ref (ad 19), .ref (ad 20), .null, .null, .null, .null, .null, .float 0, .float 0])) := ⟨_, rfl⟩
  rw [← eM_42] at hP
  have h42_1 : M_42 0 = .inr (7, [.int 0, .int 0, .ref (ad 1), .ref (ad 2), .ref (ad 3), .ref (ad 4), .ref (ad 5), .ref (ad 6), .ref (ad 7), .ref (ad 8), .ref (ad 9), .ref (ad 10), .ref (ad 11), .ref (ad 12), .ref (ad 13), .ref (ad 14), .ref (ad 15), .ref (ad 16), .ref (ad 17), .ref (ad 18), .ref (ad 19), .ref (ad 20), .null, .null, .null, .null, .null, .float 0, .float 0]) := by rw [eM_42]; exact va_up_self _ _ _
  have h42_2 : M_42 1 = eI cs 2 (fun _ => 0) := by rw [eM_42]; exact (va_up_ne _ _ (by omega)).trans h41_2
  have h42_3 : M_42 2 = eI cs 2 (fun _ => 0) := by rw [eM_42]; exact (va_up_ne _ _ (by omega)).trans h41_3
  have h42_4 : M_42 3 = eI cs 2 (upd (upd (fun _ => 0) 0 (-1)) 1 (-1)) := by rw [eM_42]; exact (va_up_ne _ _ (by omega)).trans h41_4
  have h42_5 : M_42 4 = eI cs 2 (fun _ => 0) := by rw [eM_42]; exact (va_up_ne _ _ (by omega)).trans h41_5
  have h42_6 : M_42 5 = eZ cs 2 (fun _ => 0) := by rw [eM_42]; exact (va_up_ne _ _ (by omega)).trans h41_6
  have h42_7 : M_42 6 = eS cs 2 (fun _ => 0) := by rw [eM_42]; exact (va_up_ne _ _ (by omega)).trans h41_7
  have h42_8 : M_42 7 = eS cs 2 (fun _ => 0) := by rw [eM_42]; exact (va_up_ne _ _ (by omega)).trans h41_8
  have h42_9 : M_42 8 = eF cs 2 (fun _ => 0) := by rw [eM_42]; exact (va_up_ne _ _ (by omega)).trans h41_9
  have h42_10 : M_42 9 = eI cs 2400 (fun _ => 0) := by rw [eM_42]; exact (va_up_ne _ _ (by omega)).trans h41_10
  have h42_11 : M_42 10 = eI cs 2400 (fun _ => 0) := by rw [eM_42]; exact (va_up_ne _ _ (by omega)).trans h41_11
  have h42_12 : M_42 11 = eI cs 4 (fun _ => 0) := by rw [eM_42]; exact (va_up_ne _ _ (by omega)).trans h41_12
  have h42_13 : M_42 12 = eF cs 1200 (fun _ => 0) := by rw [eM_42]; exact (va_up_ne _ _ (by omega)).trans h41_13
  have h42_14 : M_42 13 = eF cs 1200 (fun _ => 0) := by rw [eM_42]; exact (va_up_ne _ _ (by omega)).trans h41_14
  have h42_15 : M_42 14 = eF cs 1200 (fun _ => 0) := by rw [eM_42]; exact (va_up_ne _ _ (by omega)).trans h41_15
  have h42_16 : M_42 15 = eF cs 1200 (fun _ => 0) := by rw [eM_42]; exact (va_up_ne _ _ (by omega)).trans h41_16
  have h42_17 : M_42 16 = eI cs 1200 (fun _ => 0) := by rw [eM_42]; exact (va_up_ne _ _ (by omega)).trans h41_17
  have h42_18 : M_42 17 = eD cs 1200 (fun _ => 0) := by rw [eM_42]; exact (va_up_ne _ _ (by omega)).trans h41_18
  have h42_19 : M_42 18 = eI cs 2 (fun _ => 0) := by rw [eM_42]; exact (va_up_ne _ _ (by omega)).trans h41_19
  have h42_20 : M_42 19 = eS cs 25 (fun _ => 0) := by rw [eM_42]; exact (va_up_ne _ _ (by omega)).trans h41_20
  have h42_21 : M_42 20 = eI cs 25 (fun _ => 0) := by rw [eM_42]; exact (va_up_ne _ _ (by omega)).trans h41_21
  refine lv_aload_n hx hb dX7_init_170 rfl (lv_at hl 0 rfl) ?_
  refine lv_bipush (v := nI 25) hx hb dX7_init_171 (by decide) ?_
  refine b_newa hx hb (atype := .int) (hts (.arrayClass .int) (by decide +kernel)) hab hK hP hz hS 0 rfl rfl (a0 := (25, .inl (fun _ => 0))) (fun cA => vp_cell_i cA _ _) (by decide) (by decide) (Nat.le_of_ble_eq_true rfl) (Nat.le_of_ble_eq_true rfl) dX7_init_173 (fun H hP hS hz => ?_)
  obtain ⟨M_43, eM_43⟩ : ∃ z, z = va_up M_42 21 (eI cs 25 (fun _ => 0)) := ⟨_, rfl⟩
  rw [← eM_43] at hP
  have h43_1 : M_43 0 = .inr (7, [.int 0, .int 0, .ref (ad 1), .ref (ad 2), .ref (ad 3), .ref (ad 4), .ref (ad 5), .ref (ad 6), .ref (ad 7), .ref (ad 8), .ref (ad 9), .ref (ad 10), .ref (ad 11), .ref (ad 12), .ref (ad 13), .ref (ad 14), .ref (ad 15), .ref (ad 16), .ref (ad 17), .ref (ad 18), .ref (ad 19), .ref (ad 20), .null, .null, .null, .null, .null, .float 0, .float 0]) := by rw [eM_43]; exact (va_up_ne _ _ (by omega)).trans h42_1
  have h43_2 : M_43 1 = eI cs 2 (fun _ => 0) := by rw [eM_43]; exact (va_up_ne _ _ (by omega)).trans h42_2
  have h43_3 : M_43 2 = eI cs 2 (fun _ => 0) := by rw [eM_43]; exact (va_up_ne _ _ (by omega)).trans h42_3
  have h43_4 : M_43 3 = eI cs 2 (upd (upd (fun _ => 0) 0 (-1)) 1 (-1)) := by rw [eM_43]; exact (va_up_ne _ _ (by omega)).trans h42_4
  have h43_5 : M_43 4 = eI cs 2 (fun _ => 0) := by rw [eM_43]; exact (va_up_ne _ _ (by omega)).trans h42_5
  have h43_6 : M_43 5 = eZ cs 2 (fun _ => 0) := by rw [eM_43]; exact (va_up_ne _ _ (by omega)).trans h42_6
  have h43_7 : M_43 6 = eS cs 2 (fun _ => 0) := by rw [eM_43]; exact (va_up_ne _ _ (by omega)).trans h42_7
  have h43_8 : M_43 7 = eS cs 2 (fun _ => 0) := by rw [eM_43]; exact (va_up_ne _ _ (by omega)).trans h42_8
  have h43_9 : M_43 8 = eF cs 2 (fun _ => 0) := by rw [eM_43]; exact (va_up_ne _ _ (by omega)).trans h42_9
  have h43_10 : M_43 9 = eI cs 2400 (fun _ => 0) := by rw [eM_43]; exact (va_up_ne _ _ (by omega)).trans h42_10
  have h43_11 : M_43 10 = eI cs 2400 (fun _ => 0) := by rw [eM_43]; exact (va_up_ne _ _ (by omega)).trans h42_11
  have h43_12 : M_43 11 = eI cs 4 (fun _ => 0) := by rw [eM_43]; exact (va_up_ne _ _ (by omega)).trans h42_12
  have h43_13 : M_43 12 = eF cs 1200 (fun _ => 0) := by rw [eM_43]; exact (va_up_ne _ _ (by omega)).trans h42_13
  have h43_14 : M_43 13 = eF cs 1200 (fun _ => 0) := by rw [eM_43]; exact (va_up_ne _ _ (by omega)).trans h42_14
  have h43_15 : M_43 14 = eF cs 1200 (fun _ => 0) := by rw [eM_43]; exact (va_up_ne _ _ (by omega)).trans h42_15
  have h43_16 : M_43 15 = eF cs 1200 (fun _ => 0) := by rw [eM_43]; exact (va_up_ne _ _ (by omega)).trans h42_16
  have h43_17 : M_43 16 = eI cs 1200 (fun _ => 0) := by rw [eM_43]; exact (va_up_ne _ _ (by omega)).trans h42_17
  have h43_18 : M_43 17 = eD cs 1200 (fun _ => 0) := by rw [eM_43]; exact (va_up_ne _ _ (by omega)).trans h42_18
  have h43_19 : M_43 18 = eI cs 2 (fun _ => 0) := by rw [eM_43]; exact (va_up_ne _ _ (by omega)).trans h42_19
  have h43_20 : M_43 19 = eS cs 25 (fun _ => 0) := by rw [eM_43]; exact (va_up_ne _ _ (by omega)).trans h42_20
  have h43_21 : M_43 20 = eI cs 25 (fun _ => 0) := by rw [eM_43]; exact (va_up_ne _ _ (by omega)).trans h42_21
  have h43_22 : M_43 21 = eI cs 25 (fun _ => 0) := by rw [eM_43]; exact va_up_self _ _ _
  refine b_putF hx hb hts inX7 tyX7 tyX7_ok nmX7 hown hab hK hP hS (ci := 7) rfl (k := 0) (by omega) h43_1 22 (by decide) (hts (.fieldLink RX7 74 "RollbackPairModel" "pAck" "[I") (by decide +kernel)) rfl hin rfl rfl rfl (Nat.le_of_ble_eq_true rfl) (fs' := [.int 0, .int 0, .ref (ad 1), .ref (ad 2), .ref (ad 3), .ref (ad 4), .ref (ad 5), .ref (ad 6), .ref (ad 7), .ref (ad 8), .ref (ad 9), .ref (ad 10), .ref (ad 11), .ref (ad 12), .ref (ad 13), .ref (ad 14), .ref (ad 15), .ref (ad 16), .ref (ad 17), .ref (ad 18), .ref (ad 19), .ref (ad 20), .ref (ad 21), .null, .null, .null, .null, .float 0, .float 0]) rfl dX7_init_175 (fun H locs hP hS hq => ?_)
  replace hz := hq.trans hz
  obtain ⟨M_44, eM_44⟩ : ∃ z, z = va_up M_43 0 (.inr (7, [.int 0, .int 0, .ref (ad 1), .ref (ad 2), .ref (ad 3), .ref (ad 4), .ref (ad 5), .ref (ad 6), .ref (ad 7), .ref (ad 8), .ref (ad 9), .ref (ad 10), .ref (ad 11), .ref (ad 12), .ref (ad 13), .ref (ad 14), .ref (ad 15), .ref (ad 16), .ref (ad 17), .ref (ad 18), .ref (ad 19), .ref (ad 20), .ref (ad 21), .null, .null, .null, .null, .float 0, .float 0])) := ⟨_, rfl⟩
  rw [← eM_44] at hP
  have h44_1 : M_44 0 = .inr (7, [.int 0, .int 0, .ref (ad 1), .ref (ad 2), .ref (ad 3), .ref (ad 4), .ref (ad 5), .ref (ad 6), .ref (ad 7), .ref (ad 8), .ref (ad 9), .ref (ad 10), .ref (ad 11), .ref (ad 12), .ref (ad 13), .ref (ad 14), .ref (ad 15), .ref (ad 16), .ref (ad 17), .ref (ad 18), .ref (ad 19), .ref (ad 20), .ref (ad 21), .null, .null, .null, .null, .float 0, .float 0]) := by rw [eM_44]; exact va_up_self _ _ _
  have h44_2 : M_44 1 = eI cs 2 (fun _ => 0) := by rw [eM_44]; exact (va_up_ne _ _ (by omega)).trans h43_2
  have h44_3 : M_44 2 = eI cs 2 (fun _ => 0) := by rw [eM_44]; exact (va_up_ne _ _ (by omega)).trans h43_3
  have h44_4 : M_44 3 = eI cs 2 (upd (upd (fun _ => 0) 0 (-1)) 1 (-1)) := by rw [eM_44]; exact (va_up_ne _ _ (by omega)).trans h43_4
  have h44_5 : M_44 4 = eI cs 2 (fun _ => 0) := by rw [eM_44]; exact (va_up_ne _ _ (by omega)).trans h43_5
  have h44_6 : M_44 5 = eZ cs 2 (fun _ => 0) := by rw [eM_44]; exact (va_up_ne _ _ (by omega)).trans h43_6
  have h44_7 : M_44 6 = eS cs 2 (fun _ => 0) := by rw [eM_44]; exact (va_up_ne _ _ (by omega)).trans h43_7
  have h44_8 : M_44 7 = eS cs 2 (fun _ => 0) := by rw [eM_44]; exact (va_up_ne _ _ (by omega)).trans h43_8
  have h44_9 : M_44 8 = eF cs 2 (fun _ => 0) := by rw [eM_44]; exact (va_up_ne _ _ (by omega)).trans h43_9
  have h44_10 : M_44 9 = eI cs 2400 (fun _ => 0) := by rw [eM_44]; exact (va_up_ne _ _ (by omega)).trans h43_10
  have h44_11 : M_44 10 = eI cs 2400 (fun _ => 0) := by rw [eM_44]; exact (va_up_ne _ _ (by omega)).trans h43_11
  have h44_12 : M_44 11 = eI cs 4 (fun _ => 0) := by rw [eM_44]; exact (va_up_ne _ _ (by omega)).trans h43_12
  have h44_13 : M_44 12 = eF cs 1200 (fun _ => 0) := by rw [eM_44]; exact (va_up_ne _ _ (by omega)).trans h43_13
  have h44_14 : M_44 13 = eF cs 1200 (fun _ => 0) := by rw [eM_44]; exact (va_up_ne _ _ (by omega)).trans h43_14
  have h44_15 : M_44 14 = eF cs 1200 (fun _ => 0) := by rw [eM_44]; exact (va_up_ne _ _ (by omega)).trans h43_15
  have h44_16 : M_44 15 = eF cs 1200 (fun _ => 0) := by rw [eM_44]; exact (va_up_ne _ _ (by omega)).trans h43_16
  have h44_17 : M_44 16 = eI cs 1200 (fun _ => 0) := by rw [eM_44]; exact (va_up_ne _ _ (by omega)).trans h43_17
  have h44_18 : M_44 17 = eD cs 1200 (fun _ => 0) := by rw [eM_44]; exact (va_up_ne _ _ (by omega)).trans h43_18
  have h44_19 : M_44 18 = eI cs 2 (fun _ => 0) := by rw [eM_44]; exact (va_up_ne _ _ (by omega)).trans h43_19
  have h44_20 : M_44 19 = eS cs 25 (fun _ => 0) := by rw [eM_44]; exact (va_up_ne _ _ (by omega)).trans h43_20
  have h44_21 : M_44 20 = eI cs 25 (fun _ => 0) := by rw [eM_44]; exact (va_up_ne _ _ (by omega)).trans h43_21
  have h44_22 : M_44 21 = eI cs 25 (fun _ => 0) := by rw [eM_44]; exact (va_up_ne _ _ (by omega)).trans h43_22
  refine lv_aload_n hx hb dX7_init_178 rfl (lv_at hl 0 rfl) ?_
  refine lv_bipush (v := nI 25) hx hb dX7_init_179 (by decide) ?_
  refine b_newa hx hb (atype := .int) (hts (.arrayClass .int) (by decide +kernel)) hab hK hP hz hS 0 rfl rfl (a0 := (25, .inl (fun _ => 0))) (fun cA => vp_cell_i cA _ _) (by decide) (by decide) (Nat.le_of_ble_eq_true rfl) (Nat.le_of_ble_eq_true rfl) dX7_init_181 (fun H hP hS hz => ?_)
  obtain ⟨M_45, eM_45⟩ : ∃ z, z = va_up M_44 22 (eI cs 25 (fun _ => 0)) := ⟨_, rfl⟩
  rw [← eM_45] at hP
  have h45_1 : M_45 0 = .inr (7, [.int 0, .int 0, .ref (ad 1), .ref (ad 2), .ref (ad 3), .ref (ad 4), .ref (ad 5), .ref (ad 6), .ref (ad 7), .ref (ad 8), .ref (ad 9), .ref (ad 10), .ref (ad 11), .ref (ad 12), .ref (ad 13), .ref (ad 14), .ref (ad 15), .ref (ad 16), .ref (ad 17), .ref (ad 18), .ref (ad 19), .ref (ad 20), .ref (ad 21), .null, .null, .null, .null, .float 0, .float 0]) := by rw [eM_45]; exact (va_up_ne _ _ (by omega)).trans h44_1
  have h45_2 : M_45 1 = eI cs 2 (fun _ => 0) := by rw [eM_45]; exact (va_up_ne _ _ (by omega)).trans h44_2
  have h45_3 : M_45 2 = eI cs 2 (fun _ => 0) := by rw [eM_45]; exact (va_up_ne _ _ (by omega)).trans h44_3
  have h45_4 : M_45 3 = eI cs 2 (upd (upd (fun _ => 0) 0 (-1)) 1 (-1)) := by rw [eM_45]; exact (va_up_ne _ _ (by omega)).trans h44_4
  have h45_5 : M_45 4 = eI cs 2 (fun _ => 0) := by rw [eM_45]; exact (va_up_ne _ _ (by omega)).trans h44_5
  have h45_6 : M_45 5 = eZ cs 2 (fun _ => 0) := by rw [eM_45]; exact (va_up_ne _ _ (by omega)).trans h44_6
  have h45_7 : M_45 6 = eS cs 2 (fun _ => 0) := by rw [eM_45]; exact (va_up_ne _ _ (by omega)).trans h44_7
  have h45_8 : M_45 7 = eS cs 2 (fun _ => 0) := by rw [eM_45]; exact (va_up_ne _ _ (by omega)).trans h44_8
  have h45_9 : M_45 8 = eF cs 2 (fun _ => 0) := by rw [eM_45]; exact (va_up_ne _ _ (by omega)).trans h44_9
  have h45_10 : M_45 9 = eI cs 2400 (fun _ => 0) := by rw [eM_45]; exact (va_up_ne _ _ (by omega)).trans h44_10
  have h45_11 : M_45 10 = eI cs 2400 (fun _ => 0) := by rw [eM_45]; exact (va_up_ne _ _ (by omega)).trans h44_11
  have h45_12 : M_45 11 = eI cs 4 (fun _ => 0) := by rw [eM_45]; exact (va_up_ne _ _ (by omega)).trans h44_12
  have h45_13 : M_45 12 = eF cs 1200 (fun _ => 0) := by rw [eM_45]; exact (va_up_ne _ _ (by omega)).trans h44_13
  have h45_14 : M_45 13 = eF cs 1200 (fun _ => 0) := by rw [eM_45]; exact (va_up_ne _ _ (by omega)).trans h44_14
  have h45_15 : M_45 14 = eF cs 1200 (fun _ => 0) := by rw [eM_45]; exact (va_up_ne _ _ (by omega)).trans h44_15
  have h45_16 : M_45 15 = eF cs 1200 (fun _ => 0) := by rw [eM_45]; exact (va_up_ne _ _ (by omega)).trans h44_16
  have h45_17 : M_45 16 = eI cs 1200 (fun _ => 0) := by rw [eM_45]; exact (va_up_ne _ _ (by omega)).trans h44_17
  have h45_18 : M_45 17 = eD cs 1200 (fun _ => 0) := by rw [eM_45]; exact (va_up_ne _ _ (by omega)).trans h44_18
  have h45_19 : M_45 18 = eI cs 2 (fun _ => 0) := by rw [eM_45]; exact (va_up_ne _ _ (by omega)).trans h44_19
  have h45_20 : M_45 19 = eS cs 25 (fun _ => 0) := by rw [eM_45]; exact (va_up_ne _ _ (by omega)).trans h44_20
  have h45_21 : M_45 20 = eI cs 25 (fun _ => 0) := by rw [eM_45]; exact (va_up_ne _ _ (by omega)).trans h44_21
  have h45_22 : M_45 21 = eI cs 25 (fun _ => 0) := by rw [eM_45]; exact (va_up_ne _ _ (by omega)).trans h44_22
  have h45_23 : M_45 22 = eI cs 25 (fun _ => 0) := by rw [eM_45]; exact va_up_self _ _ _
  refine b_putF hx hb hts inX7 tyX7 tyX7_ok nmX7 hown hab hK hP hS (ci := 7) rfl (k := 0) (by omega) h45_1 23 (by decide) (hts (.fieldLink RX7 77 "RollbackPairModel" "pFirst" "[I") (by decide +kernel)) rfl hin rfl rfl rfl (Nat.le_of_ble_eq_true rfl) (fs' := [.int 0, .int 0, .ref (ad 1), .ref (ad 2), .ref (ad 3), .ref (ad 4), .ref (ad 5), .ref (ad 6), .ref (ad 7), .ref (ad 8), .ref (ad 9), .ref (ad 10), .ref (ad 11), .ref (ad 12), .ref (ad 13), .ref (ad 14), .ref (ad 15), .ref (ad 16), .ref (ad 17), .ref (ad 18), .ref (ad 19), .ref (ad 20), .ref (ad 21), .ref (ad 22), .null, .null, .null, .float 0, .float 0]) rfl dX7_init_183 (fun H locs hP hS hq => ?_)
  replace hz := hq.trans hz
  obtain ⟨M_46, eM_46⟩ : ∃ z, z = va_up M_45 0 (.inr (7, [.int 0, .int 0, .ref (ad 1), .ref (ad 2), .ref (ad 3), .ref (ad 4), .ref (ad 5), .ref (ad 6), .ref (ad 7), .ref (ad 8), .ref (ad 9), .ref (ad 10), .ref (ad 11), .ref (ad 12), .ref (ad 13), .ref (ad 14), .ref (ad 15), .ref (ad 16), .ref (ad 17), .ref (ad 18), .ref (ad 19), .ref (ad 20), .ref (ad 21), .ref (ad 22), .null, .null, .null, .float 0, .float 0])) := ⟨_, rfl⟩
  rw [← eM_46] at hP
  have h46_1 : M_46 0 = .inr (7, [.int 0, .int 0, .ref (ad 1), .ref (ad 2), .ref (ad 3), .ref (ad 4), .ref (ad 5), .ref (ad 6), .ref (ad 7), .ref (ad 8), .ref (ad 9), .ref (ad 10), .ref (ad 11), .ref (ad 12), .ref (ad 13), .ref (ad 14), .ref (ad 15), .ref (ad 16), .ref (ad 17), .ref (ad 18), .ref (ad 19), .ref (ad 20), .ref (ad 21), .ref (ad 22), .null, .null, .null, .float 0, .float 0]) := by rw [eM_46]; exact va_up_self _ _ _
  have h46_2 : M_46 1 = eI cs 2 (fun _ => 0) := by rw [eM_46]; exact (va_up_ne _ _ (by omega)).trans h45_2
  have h46_3 : M_46 2 = eI cs 2 (fun _ => 0) := by rw [eM_46]; exact (va_up_ne _ _ (by omega)).trans h45_3
  have h46_4 : M_46 3 = eI cs 2 (upd (upd (fun _ => 0) 0 (-1)) 1 (-1)) := by rw [eM_46]; exact (va_up_ne _ _ (by omega)).trans h45_4
  have h46_5 : M_46 4 = eI cs 2 (fun _ => 0) := by rw [eM_46]; exact (va_up_ne _ _ (by omega)).trans h45_5
  have h46_6 : M_46 5 = eZ cs 2 (fun _ => 0) := by rw [eM_46]; exact (va_up_ne _ _ (by omega)).trans h45_6
  have h46_7 : M_46 6 = eS cs 2 (fun _ => 0) := by rw [eM_46]; exact (va_up_ne _ _ (by omega)).trans h45_7
  have h46_8 : M_46 7 = eS cs 2 (fun _ => 0) := by rw [eM_46]; exact (va_up_ne _ _ (by omega)).trans h45_8
  have h46_9 : M_46 8 = eF cs 2 (fun _ => 0) := by rw [eM_46]; exact (va_up_ne _ _ (by omega)).trans h45_9
  have h46_10 : M_46 9 = eI cs 2400 (fun _ => 0) := by rw [eM_46]; exact (va_up_ne _ _ (by omega)).trans h45_10
  have h46_11 : M_46 10 = eI cs 2400 (fun _ => 0) := by rw [eM_46]; exact (va_up_ne _ _ (by omega)).trans h45_11
  have h46_12 : M_46 11 = eI cs 4 (fun _ => 0) := by rw [eM_46]; exact (va_up_ne _ _ (by omega)).trans h45_12
  have h46_13 : M_46 12 = eF cs 1200 (fun _ => 0) := by rw [eM_46]; exact (va_up_ne _ _ (by omega)).trans h45_13
  have h46_14 : M_46 13 = eF cs 1200 (fun _ => 0) := by rw [eM_46]; exact (va_up_ne _ _ (by omega)).trans h45_14
  have h46_15 : M_46 14 = eF cs 1200 (fun _ => 0) := by rw [eM_46]; exact (va_up_ne _ _ (by omega)).trans h45_15
  have h46_16 : M_46 15 = eF cs 1200 (fun _ => 0) := by rw [eM_46]; exact (va_up_ne _ _ (by omega)).trans h45_16
  have h46_17 : M_46 16 = eI cs 1200 (fun _ => 0) := by rw [eM_46]; exact (va_up_ne _ _ (by omega)).trans h45_17
  have h46_18 : M_46 17 = eD cs 1200 (fun _ => 0) := by rw [eM_46]; exact (va_up_ne _ _ (by omega)).trans h45_18
  have h46_19 : M_46 18 = eI cs 2 (fun _ => 0) := by rw [eM_46]; exact (va_up_ne _ _ (by omega)).trans h45_19
  have h46_20 : M_46 19 = eS cs 25 (fun _ => 0) := by rw [eM_46]; exact (va_up_ne _ _ (by omega)).trans h45_20
  have h46_21 : M_46 20 = eI cs 25 (fun _ => 0) := by rw [eM_46]; exact (va_up_ne _ _ (by omega)).trans h45_21
  have h46_22 : M_46 21 = eI cs 25 (fun _ => 0) := by rw [eM_46]; exact (va_up_ne _ _ (by omega)).trans h45_22
  have h46_23 : M_46 22 = eI cs 25 (fun _ => 0) := by rw [eM_46]; exact (va_up_ne _ _ (by omega)).trans h45_23
  refine lv_aload_n hx hb dX7_init_186 rfl (lv_at hl 0 rfl) ?_
  refine lv_bipush (v := nI 25) hx hb dX7_init_187 (by decide) ?_
  refine b_newa hx hb (atype := .int) (hts (.arrayClass .int) (by decide +kernel)) hab hK hP hz hS 0 rfl rfl (a0 := (25, .inl (fun _ => 0))) (fun cA => vp_cell_i cA _ _) (by decide) (by decide) (Nat.le_of_ble_eq_true rfl) (Nat.le_of_ble_eq_true rfl) dX7_init_189 (fun H hP hS hz => ?_)
  obtain ⟨M_47, eM_47⟩ : ∃ z, z = va_up M_46 23 (eI cs 25 (fun _ => 0)) := ⟨_, rfl⟩
  rw [← eM_47] at hP
  have h47_1 : M_47 0 = .inr (7, [.int 0, .int 0, .ref (ad 1), .ref (ad 2), .ref (ad 3), .ref (ad 4), .ref (ad 5), .ref (ad 6), .ref (ad 7), .ref (ad 8), .ref (ad 9), .ref (ad 10), .ref (ad 11), .ref (ad 12), .ref (ad 13), .ref (ad 14), .ref (ad 15), .ref (ad 16), .ref (ad 17), .ref (ad 18), .ref (ad 19), .ref (ad 20), .ref (ad 21), .ref (ad 22), .null, .null, .null, .float 0, .float 0]) := by rw [eM_47]; exact (va_up_ne _ _ (by omega)).trans h46_1
  have h47_2 : M_47 1 = eI cs 2 (fun _ => 0) := by rw [eM_47]; exact (va_up_ne _ _ (by omega)).trans h46_2
  have h47_3 : M_47 2 = eI cs 2 (fun _ => 0) := by rw [eM_47]; exact (va_up_ne _ _ (by omega)).trans h46_3
  have h47_4 : M_47 3 = eI cs 2 (upd (upd (fun _ => 0) 0 (-1)) 1 (-1)) := by rw [eM_47]; exact (va_up_ne _ _ (by omega)).trans h46_4
  have h47_5 : M_47 4 = eI cs 2 (fun _ => 0) := by rw [eM_47]; exact (va_up_ne _ _ (by omega)).trans h46_5
  have h47_6 : M_47 5 = eZ cs 2 (fun _ => 0) := by rw [eM_47]; exact (va_up_ne _ _ (by omega)).trans h46_6
  have h47_7 : M_47 6 = eS cs 2 (fun _ => 0) := by rw [eM_47]; exact (va_up_ne _ _ (by omega)).trans h46_7
  have h47_8 : M_47 7 = eS cs 2 (fun _ => 0) := by rw [eM_47]; exact (va_up_ne _ _ (by omega)).trans h46_8
  have h47_9 : M_47 8 = eF cs 2 (fun _ => 0) := by rw [eM_47]; exact (va_up_ne _ _ (by omega)).trans h46_9
  have h47_10 : M_47 9 = eI cs 2400 (fun _ => 0) := by rw [eM_47]; exact (va_up_ne _ _ (by omega)).trans h46_10
  have h47_11 : M_47 10 = eI cs 2400 (fun _ => 0) := by rw [eM_47]; exact (va_up_ne _ _ (by omega)).trans h46_11
  have h47_12 : M_47 11 = eI cs 4 (fun _ => 0) := by rw [eM_47]; exact (va_up_ne _ _ (by omega)).trans h46_12
  have h47_13 : M_47 12 = eF cs 1200 (fun _ => 0) := by rw [eM_47]; exact (va_up_ne _ _ (by omega)).trans h46_13
  have h47_14 : M_47 13 = eF cs 1200 (fun _ => 0) := by rw [eM_47]; exact (va_up_ne _ _ (by omega)).trans h46_14
  have h47_15 : M_47 14 = eF cs 1200 (fun _ => 0) := by rw [eM_47]; exact (va_up_ne _ _ (by omega)).trans h46_15
  have h47_16 : M_47 15 = eF cs 1200 (fun _ => 0) := by rw [eM_47]; exact (va_up_ne _ _ (by omega)).trans h46_16
  have h47_17 : M_47 16 = eI cs 1200 (fun _ => 0) := by rw [eM_47]; exact (va_up_ne _ _ (by omega)).trans h46_17
  have h47_18 : M_47 17 = eD cs 1200 (fun _ => 0) := by rw [eM_47]; exact (va_up_ne _ _ (by omega)).trans h46_18
  have h47_19 : M_47 18 = eI cs 2 (fun _ => 0) := by rw [eM_47]; exact (va_up_ne _ _ (by omega)).trans h46_19
  have h47_20 : M_47 19 = eS cs 25 (fun _ => 0) := by rw [eM_47]; exact (va_up_ne _ _ (by omega)).trans h46_20
  have h47_21 : M_47 20 = eI cs 25 (fun _ => 0) := by rw [eM_47]; exact (va_up_ne _ _ (by omega)).trans h46_21
  have h47_22 : M_47 21 = eI cs 25 (fun _ => 0) := by rw [eM_47]; exact (va_up_ne _ _ (by omega)).trans h46_22
  have h47_23 : M_47 22 = eI cs 25 (fun _ => 0) := by rw [eM_47]; exact (va_up_ne _ _ (by omega)).trans h46_23
  have h47_24 : M_47 23 = eI cs 25 (fun _ => 0) := by rw [eM_47]; exact va_up_self _ _ _
  refine b_putF hx hb hts inX7 tyX7 tyX7_ok nmX7 hown hab hK hP hS (ci := 7) rfl (k := 0) (by omega) h47_1 24 (by decide) (hts (.fieldLink RX7 80 "RollbackPairModel" "pCount" "[I") (by decide +kernel)) rfl hin rfl rfl rfl (Nat.le_of_ble_eq_true rfl) (fs' := [.int 0, .int 0, .ref (ad 1), .ref (ad 2), .ref (ad 3), .ref (ad 4), .ref (ad 5), .ref (ad 6), .ref (ad 7), .ref (ad 8), .ref (ad 9), .ref (ad 10), .ref (ad 11), .ref (ad 12), .ref (ad 13), .ref (ad 14), .ref (ad 15), .ref (ad 16), .ref (ad 17), .ref (ad 18), .ref (ad 19), .ref (ad 20), .ref (ad 21), .ref (ad 22), .ref (ad 23), .null, .null, .float 0, .float 0]) rfl dX7_init_191 (fun H locs hP hS hq => ?_)
  replace hz := hq.trans hz
  obtain ⟨M_48, eM_48⟩ : ∃ z, z = va_up M_47 0 (.inr (7, [.int 0, .int 0, .ref (ad 1), .ref (ad 2), .ref (ad 3), .ref (ad 4), .ref (ad 5), .ref (ad 6), .ref (ad 7), .ref (ad 8), .ref (ad 9), .ref (ad 10), .ref (ad 11), .ref (ad 12), .ref (ad 13), .ref (ad 14), .ref (ad 15), .ref (ad 16), .ref (ad 17), .ref (ad 18), .ref (ad 19), .ref (ad 20), .ref (ad 21), .ref (ad 22), .ref (ad 23), .null, .null, .float 0, .float 0])) := ⟨_, rfl⟩
  rw [← eM_48] at hP
  have h48_1 : M_48 0 = .inr (7, [.int 0, .int 0, .ref (ad 1), .ref (ad 2), .ref (ad 3), .ref (ad 4), .ref (ad 5), .ref (ad 6), .ref (ad 7), .ref (ad 8), .ref (ad 9), .ref (ad 10), .ref (ad 11), .ref (ad 12), .ref (ad 13), .ref (ad 14), .ref (ad 15), .ref (ad 16), .ref (ad 17), .ref (ad 18), .ref (ad 19), .ref (ad 20), .ref (ad 21), .ref (ad 22), .ref (ad 23), .null, .null, .float 0, .float 0]) := by rw [eM_48]; exact va_up_self _ _ _
  have h48_2 : M_48 1 = eI cs 2 (fun _ => 0) := by rw [eM_48]; exact (va_up_ne _ _ (by omega)).trans h47_2
  have h48_3 : M_48 2 = eI cs 2 (fun _ => 0) := by rw [eM_48]; exact (va_up_ne _ _ (by omega)).trans h47_3
  have h48_4 : M_48 3 = eI cs 2 (upd (upd (fun _ => 0) 0 (-1)) 1 (-1)) := by rw [eM_48]; exact (va_up_ne _ _ (by omega)).trans h47_4
  have h48_5 : M_48 4 = eI cs 2 (fun _ => 0) := by rw [eM_48]; exact (va_up_ne _ _ (by omega)).trans h47_5
  have h48_6 : M_48 5 = eZ cs 2 (fun _ => 0) := by rw [eM_48]; exact (va_up_ne _ _ (by omega)).trans h47_6
  have h48_7 : M_48 6 = eS cs 2 (fun _ => 0) := by rw [eM_48]; exact (va_up_ne _ _ (by omega)).trans h47_7
  have h48_8 : M_48 7 = eS cs 2 (fun _ => 0) := by rw [eM_48]; exact (va_up_ne _ _ (by omega)).trans h47_8
  have h48_9 : M_48 8 = eF cs 2 (fun _ => 0) := by rw [eM_48]; exact (va_up_ne _ _ (by omega)).trans h47_9
  have h48_10 : M_48 9 = eI cs 2400 (fun _ => 0) := by rw [eM_48]; exact (va_up_ne _ _ (by omega)).trans h47_10
  have h48_11 : M_48 10 = eI cs 2400 (fun _ => 0) := by rw [eM_48]; exact (va_up_ne _ _ (by omega)).trans h47_11
  have h48_12 : M_48 11 = eI cs 4 (fun _ => 0) := by rw [eM_48]; exact (va_up_ne _ _ (by omega)).trans h47_12
  have h48_13 : M_48 12 = eF cs 1200 (fun _ => 0) := by rw [eM_48]; exact (va_up_ne _ _ (by omega)).trans h47_13
  have h48_14 : M_48 13 = eF cs 1200 (fun _ => 0) := by rw [eM_48]; exact (va_up_ne _ _ (by omega)).trans h47_14
  have h48_15 : M_48 14 = eF cs 1200 (fun _ => 0) := by rw [eM_48]; exact (va_up_ne _ _ (by omega)).trans h47_15
  have h48_16 : M_48 15 = eF cs 1200 (fun _ => 0) := by rw [eM_48]; exact (va_up_ne _ _ (by omega)).trans h47_16
  have h48_17 : M_48 16 = eI cs 1200 (fun _ => 0) := by rw [eM_48]; exact (va_up_ne _ _ (by omega)).trans h47_17
  have h48_18 : M_48 17 = eD cs 1200 (fun _ => 0) := by rw [eM_48]; exact (va_up_ne _ _ (by omega)).trans h47_18
  have h48_19 : M_48 18 = eI cs 2 (fun _ => 0) := by rw [eM_48]; exact (va_up_ne _ _ (by omega)).trans h47_19
  have h48_20 : M_48 19 = eS cs 25 (fun _ => 0) := by rw [eM_48]; exact (va_up_ne _ _ (by omega)).trans h47_20
  have h48_21 : M_48 20 = eI cs 25 (fun _ => 0) := by rw [eM_48]; exact (va_up_ne _ _ (by omega)).trans h47_21
  have h48_22 : M_48 21 = eI cs 25 (fun _ => 0) := by rw [eM_48]; exact (va_up_ne _ _ (by omega)).trans h47_22
  have h48_23 : M_48 22 = eI cs 25 (fun _ => 0) := by rw [eM_48]; exact (va_up_ne _ _ (by omega)).trans h47_23
  have h48_24 : M_48 23 = eI cs 25 (fun _ => 0) := by rw [eM_48]; exact (va_up_ne _ _ (by omega)).trans h47_24
  refine lv_aload_n hx hb dX7_init_194 rfl (lv_at hl 0 rfl) ?_
  refine lv_bipush (v := nI 25) hx hb dX7_init_195 (by decide) ?_
  refine b_newa hx hb (atype := .long) (hts (.arrayClass .long) (by decide +kernel)) hab hK hP hz hS 5 rfl rfl (a0 := (25, .inr (.inl (fun _ => 0)))) (fun cA => vp_cell_l cA _ _) (by decide) (by decide) (Nat.le_of_ble_eq_true rfl) (Nat.le_of_ble_eq_true rfl) dX7_init_197 (fun H hP hS hz => ?_)
  obtain ⟨M_49, eM_49⟩ : ∃ z, z = va_up M_48 24 (eJ cs 25 (fun _ => 0)) := ⟨_, rfl⟩
  rw [← eM_49] at hP
  have h49_1 : M_49 0 = .inr (7, [.int 0, .int 0, .ref (ad 1), .ref (ad 2), .ref (ad 3), .ref (ad 4), .ref (ad 5), .ref (ad 6), .ref (ad 7), .ref (ad 8), .ref (ad 9), .ref (ad 10), .ref (ad 11), .ref (ad 12), .ref (ad 13), .ref (ad 14), .ref (ad 15), .ref (ad 16), .ref (ad 17), .ref (ad 18), .ref (ad 19), .ref (ad 20), .ref (ad 21), .ref (ad 22), .ref (ad 23), .null, .null, .float 0, .float 0]) := by rw [eM_49]; exact (va_up_ne _ _ (by omega)).trans h48_1
  have h49_2 : M_49 1 = eI cs 2 (fun _ => 0) := by rw [eM_49]; exact (va_up_ne _ _ (by omega)).trans h48_2
  have h49_3 : M_49 2 = eI cs 2 (fun _ => 0) := by rw [eM_49]; exact (va_up_ne _ _ (by omega)).trans h48_3
  have h49_4 : M_49 3 = eI cs 2 (upd (upd (fun _ => 0) 0 (-1)) 1 (-1)) := by rw [eM_49]; exact (va_up_ne _ _ (by omega)).trans h48_4
  have h49_5 : M_49 4 = eI cs 2 (fun _ => 0) := by rw [eM_49]; exact (va_up_ne _ _ (by omega)).trans h48_5
  have h49_6 : M_49 5 = eZ cs 2 (fun _ => 0) := by rw [eM_49]; exact (va_up_ne _ _ (by omega)).trans h48_6
  have h49_7 : M_49 6 = eS cs 2 (fun _ => 0) := by rw [eM_49]; exact (va_up_ne _ _ (by omega)).trans h48_7
  have h49_8 : M_49 7 = eS cs 2 (fun _ => 0) := by rw [eM_49]; exact (va_up_ne _ _ (by omega)).trans h48_8
  have h49_9 : M_49 8 = eF cs 2 (fun _ => 0) := by rw [eM_49]; exact (va_up_ne _ _ (by omega)).trans h48_9
  have h49_10 : M_49 9 = eI cs 2400 (fun _ => 0) := by rw [eM_49]; exact (va_up_ne _ _ (by omega)).trans h48_10
  have h49_11 : M_49 10 = eI cs 2400 (fun _ => 0) := by rw [eM_49]; exact (va_up_ne _ _ (by omega)).trans h48_11
  have h49_12 : M_49 11 = eI cs 4 (fun _ => 0) := by rw [eM_49]; exact (va_up_ne _ _ (by omega)).trans h48_12
  have h49_13 : M_49 12 = eF cs 1200 (fun _ => 0) := by rw [eM_49]; exact (va_up_ne _ _ (by omega)).trans h48_13
  have h49_14 : M_49 13 = eF cs 1200 (fun _ => 0) := by rw [eM_49]; exact (va_up_ne _ _ (by omega)).trans h48_14
  have h49_15 : M_49 14 = eF cs 1200 (fun _ => 0) := by rw [eM_49]; exact (va_up_ne _ _ (by omega)).trans h48_15
  have h49_16 : M_49 15 = eF cs 1200 (fun _ => 0) := by rw [eM_49]; exact (va_up_ne _ _ (by omega)).trans h48_16
  have h49_17 : M_49 16 = eI cs 1200 (fun _ => 0) := by rw [eM_49]; exact (va_up_ne _ _ (by omega)).trans h48_17
  have h49_18 : M_49 17 = eD cs 1200 (fun _ => 0) := by rw [eM_49]; exact (va_up_ne _ _ (by omega)).trans h48_18
  have h49_19 : M_49 18 = eI cs 2 (fun _ => 0) := by rw [eM_49]; exact (va_up_ne _ _ (by omega)).trans h48_19
  have h49_20 : M_49 19 = eS cs 25 (fun _ => 0) := by rw [eM_49]; exact (va_up_ne _ _ (by omega)).trans h48_20
  have h49_21 : M_49 20 = eI cs 25 (fun _ => 0) := by rw [eM_49]; exact (va_up_ne _ _ (by omega)).trans h48_21
  have h49_22 : M_49 21 = eI cs 25 (fun _ => 0) := by rw [eM_49]; exact (va_up_ne _ _ (by omega)).trans h48_22
  have h49_23 : M_49 22 = eI cs 25 (fun _ => 0) := by rw [eM_49]; exact (va_up_ne _ _ (by omega)).trans h48_23
  have h49_24 : M_49 23 = eI cs 25 (fun _ => 0) := by rw [eM_49]; exact (va_up_ne _ _ (by omega)).trans h48_24
  have h49_25 : M_49 24 = eJ cs 25 (fun _ => 0) := by rw [eM_49]; exact va_up_self _ _ _
  refine b_putF hx hb hts inX7 tyX7 tyX7_ok nmX7 hown hab hK hP hS (ci := 7) rfl (k := 0) (by omega) h49_1 25 (by decide) (hts (.fieldLink RX7 83 "RollbackPairModel" "pBits" "[J") (by decide +kernel)) rfl hin rfl rfl rfl (Nat.le_of_ble_eq_true rfl) (fs' := [.int 0, .int 0, .ref (ad 1), .ref (ad 2), .ref (ad 3), .ref (ad 4), .ref (ad 5), .ref (ad 6), .ref (ad 7), .ref (ad 8), .ref (ad 9), .ref (ad 10), .ref (ad 11), .ref (ad 12), .ref (ad 13), .ref (ad 14), .ref (ad 15), .ref (ad 16), .ref (ad 17), .ref (ad 18), .ref (ad 19), .ref (ad 20), .ref (ad 21), .ref (ad 22), .ref (ad 23), .ref (ad 24), .null, .float 0, .float 0]) rfl dX7_init_199 (fun H locs hP hS hq => ?_)
  replace hz := hq.trans hz
  obtain ⟨M_50, eM_50⟩ : ∃ z, z = va_up M_49 0 (.inr (7, [.int 0, .int 0, .ref (ad 1), .ref (ad 2), .ref (ad 3), .ref (ad 4), .ref (ad 5), .ref (ad 6), .ref (ad 7), .ref (ad 8), .ref (ad 9), .ref (ad 10), .ref (ad 11), .ref (ad 12), .ref (ad 13), .ref (ad 14), .ref (ad 15), .ref (ad 16), .ref (ad 17), .ref (ad 18), .ref (ad 19), .ref (ad 20), .ref (ad 21), .ref (ad 22), .ref (ad 23), .ref (ad 24), .null, .float 0, .float 0])) := ⟨_, rfl⟩
  rw [← eM_50] at hP
  have h50_1 : M_50 0 = .inr (7, [.int 0, .int 0, .ref (ad 1), .ref (ad 2), .ref (ad 3), .ref (ad 4), .ref (ad 5), .ref (ad 6), .ref (ad 7), .ref (ad 8), .ref (ad 9), .ref (ad 10), .ref (ad 11), .ref (ad 12), .ref (ad 13), .ref (ad 14), .ref (ad 15), .ref (ad 16), .ref (ad 17), .ref (ad 18), .ref (ad 19), .ref (ad 20), .ref (ad 21), .ref (ad 22), .ref (ad 23), .ref (ad 24), .null, .float 0, .float 0]) := by rw [eM_50]; exact va_up_self _ _ _
  have h50_2 : M_50 1 = eI cs 2 (fun _ => 0) := by rw [eM_50]; exact (va_up_ne _ _ (by omega)).trans h49_2
  have h50_3 : M_50 2 = eI cs 2 (fun _ => 0) := by rw [eM_50]; exact (va_up_ne _ _ (by omega)).trans h49_3
  have h50_4 : M_50 3 = eI cs 2 (upd (upd (fun _ => 0) 0 (-1)) 1 (-1)) := by rw [eM_50]; exact (va_up_ne _ _ (by omega)).trans h49_4
  have h50_5 : M_50 4 = eI cs 2 (fun _ => 0) := by rw [eM_50]; exact (va_up_ne _ _ (by omega)).trans h49_5
  have h50_6 : M_50 5 = eZ cs 2 (fun _ => 0) := by rw [eM_50]; exact (va_up_ne _ _ (by omega)).trans h49_6
  have h50_7 : M_50 6 = eS cs 2 (fun _ => 0) := by rw [eM_50]; exact (va_up_ne _ _ (by omega)).trans h49_7
  have h50_8 : M_50 7 = eS cs 2 (fun _ => 0) := by rw [eM_50]; exact (va_up_ne _ _ (by omega)).trans h49_8
  have h50_9 : M_50 8 = eF cs 2 (fun _ => 0) := by rw [eM_50]; exact (va_up_ne _ _ (by omega)).trans h49_9
  have h50_10 : M_50 9 = eI cs 2400 (fun _ => 0) := by rw [eM_50]; exact (va_up_ne _ _ (by omega)).trans h49_10
  have h50_11 : M_50 10 = eI cs 2400 (fun _ => 0) := by rw [eM_50]; exact (va_up_ne _ _ (by omega)).trans h49_11
  have h50_12 : M_50 11 = eI cs 4 (fun _ => 0) := by rw [eM_50]; exact (va_up_ne _ _ (by omega)).trans h49_12
  have h50_13 : M_50 12 = eF cs 1200 (fun _ => 0) := by rw [eM_50]; exact (va_up_ne _ _ (by omega)).trans h49_13
  have h50_14 : M_50 13 = eF cs 1200 (fun _ => 0) := by rw [eM_50]; exact (va_up_ne _ _ (by omega)).trans h49_14
  have h50_15 : M_50 14 = eF cs 1200 (fun _ => 0) := by rw [eM_50]; exact (va_up_ne _ _ (by omega)).trans h49_15
  have h50_16 : M_50 15 = eF cs 1200 (fun _ => 0) := by rw [eM_50]; exact (va_up_ne _ _ (by omega)).trans h49_16
  have h50_17 : M_50 16 = eI cs 1200 (fun _ => 0) := by rw [eM_50]; exact (va_up_ne _ _ (by omega)).trans h49_17
  have h50_18 : M_50 17 = eD cs 1200 (fun _ => 0) := by rw [eM_50]; exact (va_up_ne _ _ (by omega)).trans h49_18
  have h50_19 : M_50 18 = eI cs 2 (fun _ => 0) := by rw [eM_50]; exact (va_up_ne _ _ (by omega)).trans h49_19
  have h50_20 : M_50 19 = eS cs 25 (fun _ => 0) := by rw [eM_50]; exact (va_up_ne _ _ (by omega)).trans h49_20
  have h50_21 : M_50 20 = eI cs 25 (fun _ => 0) := by rw [eM_50]; exact (va_up_ne _ _ (by omega)).trans h49_21
  have h50_22 : M_50 21 = eI cs 25 (fun _ => 0) := by rw [eM_50]; exact (va_up_ne _ _ (by omega)).trans h49_22
  have h50_23 : M_50 22 = eI cs 25 (fun _ => 0) := by rw [eM_50]; exact (va_up_ne _ _ (by omega)).trans h49_23
  have h50_24 : M_50 23 = eI cs 25 (fun _ => 0) := by rw [eM_50]; exact (va_up_ne _ _ (by omega)).trans h49_24
  have h50_25 : M_50 24 = eJ cs 25 (fun _ => 0) := by rw [eM_50]; exact (va_up_ne _ _ (by omega)).trans h49_25
  refine lv_aload_n hx hb dX7_init_202 rfl (lv_at hl 0 rfl) ?_
  refine lv_bipush (v := nI 25) hx hb dX7_init_203 (by decide) ?_
  refine b_newa hx hb (atype := .int) (hts (.arrayClass .int) (by decide +kernel)) hab hK hP hz hS 0 rfl rfl (a0 := (25, .inl (fun _ => 0))) (fun cA => vp_cell_i cA _ _) (by decide) (by decide) (Nat.le_of_ble_eq_true rfl) (Nat.le_of_ble_eq_true rfl) dX7_init_205 (fun H hP hS hz => ?_)
  obtain ⟨M_51, eM_51⟩ : ∃ z, z = va_up M_50 25 (eI cs 25 (fun _ => 0)) := ⟨_, rfl⟩
  rw [← eM_51] at hP
  have h51_1 : M_51 0 = .inr (7, [.int 0, .int 0, .ref (ad 1), .ref (ad 2), .ref (ad 3), .ref (ad 4), .ref (ad 5), .ref (ad 6), .ref (ad 7), .ref (ad 8), .ref (ad 9), .ref (ad 10), .ref (ad 11), .ref (ad 12), .ref (ad 13), .ref (ad 14), .ref (ad 15), .ref (ad 16), .ref (ad 17), .ref (ad 18), .ref (ad 19), .ref (ad 20), .ref (ad 21), .ref (ad 22), .ref (ad 23), .ref (ad 24), .null, .float 0, .float 0]) := by rw [eM_51]; exact (va_up_ne _ _ (by omega)).trans h50_1
  have h51_2 : M_51 1 = eI cs 2 (fun _ => 0) := by rw [eM_51]; exact (va_up_ne _ _ (by omega)).trans h50_2
  have h51_3 : M_51 2 = eI cs 2 (fun _ => 0) := by rw [eM_51]; exact (va_up_ne _ _ (by omega)).trans h50_3
  have h51_4 : M_51 3 = eI cs 2 (upd (upd (fun _ => 0) 0 (-1)) 1 (-1)) := by rw [eM_51]; exact (va_up_ne _ _ (by omega)).trans h50_4
  have h51_5 : M_51 4 = eI cs 2 (fun _ => 0) := by rw [eM_51]; exact (va_up_ne _ _ (by omega)).trans h50_5
  have h51_6 : M_51 5 = eZ cs 2 (fun _ => 0) := by rw [eM_51]; exact (va_up_ne _ _ (by omega)).trans h50_6
  have h51_7 : M_51 6 = eS cs 2 (fun _ => 0) := by rw [eM_51]; exact (va_up_ne _ _ (by omega)).trans h50_7
  have h51_8 : M_51 7 = eS cs 2 (fun _ => 0) := by rw [eM_51]; exact (va_up_ne _ _ (by omega)).trans h50_8
  have h51_9 : M_51 8 = eF cs 2 (fun _ => 0) := by rw [eM_51]; exact (va_up_ne _ _ (by omega)).trans h50_9
  have h51_10 : M_51 9 = eI cs 2400 (fun _ => 0) := by rw [eM_51]; exact (va_up_ne _ _ (by omega)).trans h50_10
  have h51_11 : M_51 10 = eI cs 2400 (fun _ => 0) := by rw [eM_51]; exact (va_up_ne _ _ (by omega)).trans h50_11
  have h51_12 : M_51 11 = eI cs 4 (fun _ => 0) := by rw [eM_51]; exact (va_up_ne _ _ (by omega)).trans h50_12
  have h51_13 : M_51 12 = eF cs 1200 (fun _ => 0) := by rw [eM_51]; exact (va_up_ne _ _ (by omega)).trans h50_13
  have h51_14 : M_51 13 = eF cs 1200 (fun _ => 0) := by rw [eM_51]; exact (va_up_ne _ _ (by omega)).trans h50_14
  have h51_15 : M_51 14 = eF cs 1200 (fun _ => 0) := by rw [eM_51]; exact (va_up_ne _ _ (by omega)).trans h50_15
  have h51_16 : M_51 15 = eF cs 1200 (fun _ => 0) := by rw [eM_51]; exact (va_up_ne _ _ (by omega)).trans h50_16
  have h51_17 : M_51 16 = eI cs 1200 (fun _ => 0) := by rw [eM_51]; exact (va_up_ne _ _ (by omega)).trans h50_17
  have h51_18 : M_51 17 = eD cs 1200 (fun _ => 0) := by rw [eM_51]; exact (va_up_ne _ _ (by omega)).trans h50_18
  have h51_19 : M_51 18 = eI cs 2 (fun _ => 0) := by rw [eM_51]; exact (va_up_ne _ _ (by omega)).trans h50_19
  have h51_20 : M_51 19 = eS cs 25 (fun _ => 0) := by rw [eM_51]; exact (va_up_ne _ _ (by omega)).trans h50_20
  have h51_21 : M_51 20 = eI cs 25 (fun _ => 0) := by rw [eM_51]; exact (va_up_ne _ _ (by omega)).trans h50_21
  have h51_22 : M_51 21 = eI cs 25 (fun _ => 0) := by rw [eM_51]; exact (va_up_ne _ _ (by omega)).trans h50_22
  have h51_23 : M_51 22 = eI cs 25 (fun _ => 0) := by rw [eM_51]; exact (va_up_ne _ _ (by omega)).trans h50_23
  have h51_24 : M_51 23 = eI cs 25 (fun _ => 0) := by rw [eM_51]; exact (va_up_ne _ _ (by omega)).trans h50_24
  have h51_25 : M_51 24 = eJ cs 25 (fun _ => 0) := by rw [eM_51]; exact (va_up_ne _ _ (by omega)).trans h50_25
  have h51_26 : M_51 25 = eI cs 25 (fun _ => 0) := by rw [eM_51]; exact va_up_self _ _ _
  refine b_putF hx hb hts inX7 tyX7 tyX7_ok nmX7 hown hab hK hP hS (ci := 7) rfl (k := 0) (by omega) h51_1 26 (by decide) (hts (.fieldLink RX7 87 "RollbackPairModel" "pCheck" "[I") (by decide +kernel)) rfl hin rfl rfl rfl (Nat.le_of_ble_eq_true rfl) (fs' := [.int 0, .int 0, .ref (ad 1), .ref (ad 2), .ref (ad 3), .ref (ad 4), .ref (ad 5), .ref (ad 6), .ref (ad 7), .ref (ad 8), .ref (ad 9), .ref (ad 10), .ref (ad 11), .ref (ad 12), .ref (ad 13), .ref (ad 14), .ref (ad 15), .ref (ad 16), .ref (ad 17), .ref (ad 18), .ref (ad 19), .ref (ad 20), .ref (ad 21), .ref (ad 22), .ref (ad 23), .ref (ad 24), .ref (ad 25), .float 0, .float 0]) rfl dX7_init_207 (fun H locs hP hS hq => ?_)
  replace hz := hq.trans hz
  obtain ⟨M_52, eM_52⟩ : ∃ z, z = va_up M_51 0 (.inr (7, [.int 0, .int 0, .ref (ad 1), .ref (ad 2), .ref (ad 3), .ref (ad 4), .ref (ad 5), .ref (ad 6), .ref (ad 7), .ref (ad 8), .ref (ad 9), .ref (ad 10), .ref (ad 11), .ref (ad 12), .ref (ad 13), .ref (ad 14), .ref (ad 15), .ref (ad 16), .ref (ad 17), .ref (ad 18), .ref (ad 19), .ref (ad 20), .ref (ad 21), .ref (ad 22), .ref (ad 23), .ref (ad 24), .ref (ad 25), .float 0, .float 0])) := ⟨_, rfl⟩
  rw [← eM_52] at hP
  have h52_1 : M_52 0 = .inr (7, [.int 0, .int 0, .ref (ad 1), .ref (ad 2), .ref (ad 3), .ref (ad 4), .ref (ad 5), .ref (ad 6), .ref (ad 7), .ref (ad 8), .ref (ad 9), .ref (ad 10), .ref (ad 11), .ref (ad 12), .ref (ad 13), .ref (ad 14), .ref (ad 15), .ref (ad 16), .ref (ad 17), .ref (ad 18), .ref (ad 19), .ref (ad 20), .ref (ad 21), .ref (ad 22), .ref (ad 23), .ref (ad 24), .ref (ad 25), .float 0, .float 0]) := by rw [eM_52]; exact va_up_self _ _ _
  have h52_2 : M_52 1 = eI cs 2 (fun _ => 0) := by rw [eM_52]; exact (va_up_ne _ _ (by omega)).trans h51_2
  have h52_3 : M_52 2 = eI cs 2 (fun _ => 0) := by rw [eM_52]; exact (va_up_ne _ _ (by omega)).trans h51_3
  have h52_4 : M_52 3 = eI cs 2 (upd (upd (fun _ => 0) 0 (-1)) 1 (-1)) := by rw [eM_52]; exact (va_up_ne _ _ (by omega)).trans h51_4
  have h52_5 : M_52 4 = eI cs 2 (fun _ => 0) := by rw [eM_52]; exact (va_up_ne _ _ (by omega)).trans h51_5
  have h52_6 : M_52 5 = eZ cs 2 (fun _ => 0) := by rw [eM_52]; exact (va_up_ne _ _ (by omega)).trans h51_6
  have h52_7 : M_52 6 = eS cs 2 (fun _ => 0) := by rw [eM_52]; exact (va_up_ne _ _ (by omega)).trans h51_7
  have h52_8 : M_52 7 = eS cs 2 (fun _ => 0) := by rw [eM_52]; exact (va_up_ne _ _ (by omega)).trans h51_8
  have h52_9 : M_52 8 = eF cs 2 (fun _ => 0) := by rw [eM_52]; exact (va_up_ne _ _ (by omega)).trans h51_9
  have h52_10 : M_52 9 = eI cs 2400 (fun _ => 0) := by rw [eM_52]; exact (va_up_ne _ _ (by omega)).trans h51_10
  have h52_11 : M_52 10 = eI cs 2400 (fun _ => 0) := by rw [eM_52]; exact (va_up_ne _ _ (by omega)).trans h51_11
  have h52_12 : M_52 11 = eI cs 4 (fun _ => 0) := by rw [eM_52]; exact (va_up_ne _ _ (by omega)).trans h51_12
  have h52_13 : M_52 12 = eF cs 1200 (fun _ => 0) := by rw [eM_52]; exact (va_up_ne _ _ (by omega)).trans h51_13
  have h52_14 : M_52 13 = eF cs 1200 (fun _ => 0) := by rw [eM_52]; exact (va_up_ne _ _ (by omega)).trans h51_14
  have h52_15 : M_52 14 = eF cs 1200 (fun _ => 0) := by rw [eM_52]; exact (va_up_ne _ _ (by omega)).trans h51_15
  have h52_16 : M_52 15 = eF cs 1200 (fun _ => 0) := by rw [eM_52]; exact (va_up_ne _ _ (by omega)).trans h51_16
  have h52_17 : M_52 16 = eI cs 1200 (fun _ => 0) := by rw [eM_52]; exact (va_up_ne _ _ (by omega)).trans h51_17
  have h52_18 : M_52 17 = eD cs 1200 (fun _ => 0) := by rw [eM_52]; exact (va_up_ne _ _ (by omega)).trans h51_18
  have h52_19 : M_52 18 = eI cs 2 (fun _ => 0) := by rw [eM_52]; exact (va_up_ne _ _ (by omega)).trans h51_19
  have h52_20 : M_52 19 = eS cs 25 (fun _ => 0) := by rw [eM_52]; exact (va_up_ne _ _ (by omega)).trans h51_20
  have h52_21 : M_52 20 = eI cs 25 (fun _ => 0) := by rw [eM_52]; exact (va_up_ne _ _ (by omega)).trans h51_21
  have h52_22 : M_52 21 = eI cs 25 (fun _ => 0) := by rw [eM_52]; exact (va_up_ne _ _ (by omega)).trans h51_22
  have h52_23 : M_52 22 = eI cs 25 (fun _ => 0) := by rw [eM_52]; exact (va_up_ne _ _ (by omega)).trans h51_23
  have h52_24 : M_52 23 = eI cs 25 (fun _ => 0) := by rw [eM_52]; exact (va_up_ne _ _ (by omega)).trans h51_24
  have h52_25 : M_52 24 = eJ cs 25 (fun _ => 0) := by rw [eM_52]; exact (va_up_ne _ _ (by omega)).trans h51_25
  have h52_26 : M_52 25 = eI cs 25 (fun _ => 0) := by rw [eM_52]; exact (va_up_ne _ _ (by omega)).trans h51_26
  refine lv_aload_n hx hb dX7_init_210 rfl (lv_at hl 0 rfl) ?_
  refine jn (fun (_ : Unit) ls => lv_has ls 5 [(0, .ref (ad 0)), (1, .int d), (2, .int w), (3, .int st)]) 229 (fun _ => .int (nI (hdD d)) :: [.ref (ad 0)]) (fun _ ls hl => ?_) (fun J => ?_)
  · refine b_putF hx hb hts inX7 tyX7 tyX7_ok nmX7 hown hab hK hP hS (ci := 7) rfl (k := 0) (by omega) h52_1 0 (by decide) (hts (.fieldLink RX7 90 "RollbackPairModel" "delay" "I") (by decide +kernel)) rfl hin rfl rfl rfl (Nat.le_of_ble_eq_true rfl) (fs' := [.int (nI (hdD d)), .int 0, .ref (ad 1), .ref (ad 2), .ref (ad 3), .ref (ad 4), .ref (ad 5), .ref (ad 6), .ref (ad 7), .ref (ad 8), .ref (ad 9), .ref (ad 10), .ref (ad 11), .ref (ad 12), .ref (ad 13), .ref (ad 14), .ref (ad 15), .ref (ad 16), .ref (ad 17), .ref (ad 18), .ref (ad 19), .ref (ad 20), .ref (ad 21), .ref (ad 22), .ref (ad 23), .ref (ad 24), .ref (ad 25), .float 0, .float 0]) rfl dX7_init_229 (fun H locs hP hS hq => ?_)
    replace hz := hq.trans hz
    obtain ⟨M_53, eM_53⟩ : ∃ z, z = va_up M_52 0 (.inr (7, [.int (nI (hdD d)), .int 0, .ref (ad 1), .ref (ad 2), .ref (ad 3), .ref (ad 4), .ref (ad 5), .ref (ad 6), .ref (ad 7), .ref (ad 8), .ref (ad 9), .ref (ad 10), .ref (ad 11), .ref (ad 12), .ref (ad 13), .ref (ad 14), .ref (ad 15), .ref (ad 16), .ref (ad 17), .ref (ad 18), .ref (ad 19), .ref (ad 20), .ref (ad 21), .ref (ad 22), .ref (ad 23), .ref (ad 24), .ref (ad 25), .float 0, .float 0])) := ⟨_, rfl⟩
    rw [← eM_53] at hP
    have h53_1 : M_53 0 = .inr (7, [.int (nI (hdD d)), .int 0, .ref (ad 1), .ref (ad 2), .ref (ad 3), .ref (ad 4), .ref (ad 5), .ref (ad 6), .ref (ad 7), .ref (ad 8), .ref (ad 9), .ref (ad 10), .ref (ad 11), .ref (ad 12), .ref (ad 13), .ref (ad 14), .ref (ad 15), .ref (ad 16), .ref (ad 17), .ref (ad 18), .ref (ad 19), .ref (ad 20), .ref (ad 21), .ref (ad 22), .ref (ad 23), .ref (ad 24), .ref (ad 25), .float 0, .float 0]) := by rw [eM_53]; exact va_up_self _ _ _
    have h53_2 : M_53 1 = eI cs 2 (fun _ => 0) := by rw [eM_53]; exact (va_up_ne _ _ (by omega)).trans h52_2
    have h53_3 : M_53 2 = eI cs 2 (fun _ => 0) := by rw [eM_53]; exact (va_up_ne _ _ (by omega)).trans h52_3
    have h53_4 : M_53 3 = eI cs 2 (upd (upd (fun _ => 0) 0 (-1)) 1 (-1)) := by rw [eM_53]; exact (va_up_ne _ _ (by omega)).trans h52_4
    have h53_5 : M_53 4 = eI cs 2 (fun _ => 0) := by rw [eM_53]; exact (va_up_ne _ _ (by omega)).trans h52_5
    have h53_6 : M_53 5 = eZ cs 2 (fun _ => 0) := by rw [eM_53]; exact (va_up_ne _ _ (by omega)).trans h52_6
    have h53_7 : M_53 6 = eS cs 2 (fun _ => 0) := by rw [eM_53]; exact (va_up_ne _ _ (by omega)).trans h52_7
    have h53_8 : M_53 7 = eS cs 2 (fun _ => 0) := by rw [eM_53]; exact (va_up_ne _ _ (by omega)).trans h52_8
    have h53_9 : M_53 8 = eF cs 2 (fun _ => 0) := by rw [eM_53]; exact (va_up_ne _ _ (by omega)).trans h52_9
    have h53_10 : M_53 9 = eI cs 2400 (fun _ => 0) := by rw [eM_53]; exact (va_up_ne _ _ (by omega)).trans h52_10
    have h53_11 : M_53 10 = eI cs 2400 (fun _ => 0) := by rw [eM_53]; exact (va_up_ne _ _ (by omega)).trans h52_11
    have h53_12 : M_53 11 = eI cs 4 (fun _ => 0) := by rw [eM_53]; exact (va_up_ne _ _ (by omega)).trans h52_12
    have h53_13 : M_53 12 = eF cs 1200 (fun _ => 0) := by rw [eM_53]; exact (va_up_ne _ _ (by omega)).trans h52_13
    have h53_14 : M_53 13 = eF cs 1200 (fun _ => 0) := by rw [eM_53]; exact (va_up_ne _ _ (by omega)).trans h52_14
    have h53_15 : M_53 14 = eF cs 1200 (fun _ => 0) := by rw [eM_53]; exact (va_up_ne _ _ (by omega)).trans h52_15
    have h53_16 : M_53 15 = eF cs 1200 (fun _ => 0) := by rw [eM_53]; exact (va_up_ne _ _ (by omega)).trans h52_16
    have h53_17 : M_53 16 = eI cs 1200 (fun _ => 0) := by rw [eM_53]; exact (va_up_ne _ _ (by omega)).trans h52_17
    have h53_18 : M_53 17 = eD cs 1200 (fun _ => 0) := by rw [eM_53]; exact (va_up_ne _ _ (by omega)).trans h52_18
    have h53_19 : M_53 18 = eI cs 2 (fun _ => 0) := by rw [eM_53]; exact (va_up_ne _ _ (by omega)).trans h52_19
    have h53_20 : M_53 19 = eS cs 25 (fun _ => 0) := by rw [eM_53]; exact (va_up_ne _ _ (by omega)).trans h52_20
    have h53_21 : M_53 20 = eI cs 25 (fun _ => 0) := by rw [eM_53]; exact (va_up_ne _ _ (by omega)).trans h52_21
    have h53_22 : M_53 21 = eI cs 25 (fun _ => 0) := by rw [eM_53]; exact (va_up_ne _ _ (by omega)).trans h52_22
    have h53_23 : M_53 22 = eI cs 25 (fun _ => 0) := by rw [eM_53]; exact (va_up_ne _ _ (by omega)).trans h52_23
    have h53_24 : M_53 23 = eI cs 25 (fun _ => 0) := by rw [eM_53]; exact (va_up_ne _ _ (by omega)).trans h52_24
    have h53_25 : M_53 24 = eJ cs 25 (fun _ => 0) := by rw [eM_53]; exact (va_up_ne _ _ (by omega)).trans h52_25
    have h53_26 : M_53 25 = eI cs 25 (fun _ => 0) := by rw [eM_53]; exact (va_up_ne _ _ (by omega)).trans h52_26
    refine lv_aload_n hx hb dX7_init_232 rfl (lv_at hl 0 rfl) ?_
    refine jn (fun (_ : Unit) ls => lv_has ls 5 [(0, .ref (ad 0)), (1, .int d), (2, .int w), (3, .int st)]) 254 (fun _ => .int (nI (hdW w)) :: [.ref (ad 0)]) (fun _ ls hl => ?_) (fun J => ?_)
    · refine b_putF hx hb hts inX7 tyX7 tyX7_ok nmX7 hown hab hK hP hS (ci := 7) rfl (k := 0) (by omega) h53_1 1 (by decide) (hts (.fieldLink RX7 94 "RollbackPairModel" "window" "I") (by decide +kernel)) rfl hin rfl rfl rfl (Nat.le_of_ble_eq_true rfl) (fs' := [.int (nI (hdD d)), .int (nI (hdW w)), .ref (ad 1), .ref (ad 2), .ref (ad 3), .ref (ad 4), .ref (ad 5), .ref (ad 6), .ref (ad 7), .ref (ad 8), .ref (ad 9), .ref (ad 10), .ref (ad 11), .ref (ad 12), .ref (ad 13), .ref (ad 14), .ref (ad 15), .ref (ad 16), .ref (ad 17), .ref (ad 18), .ref (ad 19), .ref (ad 20), .ref (ad 21), .ref (ad 22), .ref (ad 23), .ref (ad 24), .ref (ad 25), .float 0, .float 0]) rfl dX7_init_254 (fun H locs hP hS hq => ?_)
      replace hz := hq.trans hz
      obtain ⟨M_54, eM_54⟩ : ∃ z, z = va_up M_53 0 (.inr (7, [.int (nI (hdD d)), .int (nI (hdW w)), .ref (ad 1), .ref (ad 2), .ref (ad 3), .ref (ad 4), .ref (ad 5), .ref (ad 6), .ref (ad 7), .ref (ad 8), .ref (ad 9), .ref (ad 10), .ref (ad 11), .ref (ad 12), .ref (ad 13), .ref (ad 14), .ref (ad 15), .ref (ad 16), .ref (ad 17), .ref (ad 18), .ref (ad 19), .ref (ad 20), .ref (ad 21), .ref (ad 22), .ref (ad 23), .ref (ad 24), .ref (ad 25), .float 0, .float 0])) := ⟨_, rfl⟩
      rw [← eM_54] at hP
      have h54_1 : M_54 0 = .inr (7, [.int (nI (hdD d)), .int (nI (hdW w)), .ref (ad 1), .ref (ad 2), .ref (ad 3), .ref (ad 4), .ref (ad 5), .ref (ad 6), .ref (ad 7), .ref (ad 8), .ref (ad 9), .ref (ad 10), .ref (ad 11), .ref (ad 12), .ref (ad 13), .ref (ad 14), .ref (ad 15), .ref (ad 16), .ref (ad 17), .ref (ad 18), .ref (ad 19), .ref (ad 20), .ref (ad 21), .ref (ad 22), .ref (ad 23), .ref (ad 24), .ref (ad 25), .float 0, .float 0]) := by rw [eM_54]; exact va_up_self _ _ _
      have h54_2 : M_54 1 = eI cs 2 (fun _ => 0) := by rw [eM_54]; exact (va_up_ne _ _ (by omega)).trans h53_2
      have h54_3 : M_54 2 = eI cs 2 (fun _ => 0) := by rw [eM_54]; exact (va_up_ne _ _ (by omega)).trans h53_3
      have h54_4 : M_54 3 = eI cs 2 (upd (upd (fun _ => 0) 0 (-1)) 1 (-1)) := by rw [eM_54]; exact (va_up_ne _ _ (by omega)).trans h53_4
      have h54_5 : M_54 4 = eI cs 2 (fun _ => 0) := by rw [eM_54]; exact (va_up_ne _ _ (by omega)).trans h53_5
      have h54_6 : M_54 5 = eZ cs 2 (fun _ => 0) := by rw [eM_54]; exact (va_up_ne _ _ (by omega)).trans h53_6
      have h54_7 : M_54 6 = eS cs 2 (fun _ => 0) := by rw [eM_54]; exact (va_up_ne _ _ (by omega)).trans h53_7
      have h54_8 : M_54 7 = eS cs 2 (fun _ => 0) := by rw [eM_54]; exact (va_up_ne _ _ (by omega)).trans h53_8
      have h54_9 : M_54 8 = eF cs 2 (fun _ => 0) := by rw [eM_54]; exact (va_up_ne _ _ (by omega)).trans h53_9
      have h54_10 : M_54 9 = eI cs 2400 (fun _ => 0) := by rw [eM_54]; exact (va_up_ne _ _ (by omega)).trans h53_10
      have h54_11 : M_54 10 = eI cs 2400 (fun _ => 0) := by rw [eM_54]; exact (va_up_ne _ _ (by omega)).trans h53_11
      have h54_12 : M_54 11 = eI cs 4 (fun _ => 0) := by rw [eM_54]; exact (va_up_ne _ _ (by omega)).trans h53_12
      have h54_13 : M_54 12 = eF cs 1200 (fun _ => 0) := by rw [eM_54]; exact (va_up_ne _ _ (by omega)).trans h53_13
      have h54_14 : M_54 13 = eF cs 1200 (fun _ => 0) := by rw [eM_54]; exact (va_up_ne _ _ (by omega)).trans h53_14
      have h54_15 : M_54 14 = eF cs 1200 (fun _ => 0) := by rw [eM_54]; exact (va_up_ne _ _ (by omega)).trans h53_15
      have h54_16 : M_54 15 = eF cs 1200 (fun _ => 0) := by rw [eM_54]; exact (va_up_ne _ _ (by omega)).trans h53_16
      have h54_17 : M_54 16 = eI cs 1200 (fun _ => 0) := by rw [eM_54]; exact (va_up_ne _ _ (by omega)).trans h53_17
      have h54_18 : M_54 17 = eD cs 1200 (fun _ => 0) := by rw [eM_54]; exact (va_up_ne _ _ (by omega)).trans h53_18
      have h54_19 : M_54 18 = eI cs 2 (fun _ => 0) := by rw [eM_54]; exact (va_up_ne _ _ (by omega)).trans h53_19
      have h54_20 : M_54 19 = eS cs 25 (fun _ => 0) := by rw [eM_54]; exact (va_up_ne _ _ (by omega)).trans h53_20
      have h54_21 : M_54 20 = eI cs 25 (fun _ => 0) := by rw [eM_54]; exact (va_up_ne _ _ (by omega)).trans h53_21
      have h54_22 : M_54 21 = eI cs 25 (fun _ => 0) := by rw [eM_54]; exact (va_up_ne _ _ (by omega)).trans h53_22
      have h54_23 : M_54 22 = eI cs 25 (fun _ => 0) := by rw [eM_54]; exact (va_up_ne _ _ (by omega)).trans h53_23
      have h54_24 : M_54 23 = eI cs 25 (fun _ => 0) := by rw [eM_54]; exact (va_up_ne _ _ (by omega)).trans h53_24
      have h54_25 : M_54 24 = eJ cs 25 (fun _ => 0) := by rw [eM_54]; exact (va_up_ne _ _ (by omega)).trans h53_25
      have h54_26 : M_54 25 = eI cs 25 (fun _ => 0) := by rw [eM_54]; exact (va_up_ne _ _ (by omega)).trans h53_26
      refine lv_iconst (v := nI 0) hx hb dX7_init_257 (by decide) ?_
      refine lv_istore (lv' := [(4, .int (nI 0)), (0, .ref (ad 0)), (1, .int d), (2, .int w), (3, .int st)]) hx hb dX7_init_258 hl (by decide) rfl (fun ls hl => ?_)
      refine lv_iload hx hb dX7_init_260 (lv_at hl 0 rfl) ?_
      refine lv_iconst (v := nI 2) hx hb dX7_init_262 (by decide) ?_
      refine n_cmp_ge (tgt := 346) hx hb dX7_init_263 (by decide) (by omega) (by omega) (fun c_1 => absurd c_1 (by decide)) (fun c_1 => ?_)
      refine lv_aload_n hx hb dX7_init_266 rfl (lv_at hl 1 rfl) ?_
      refine m_get hx hb hts inX7 hown hK hP (ci := 7) rfl (k := 0) (by omega) h54_1 8 (by decide) (hts (.fieldLink RX7 30 "RollbackPairModel" "number" "[S") (by decide +kernel)) rfl dX7_init_267 ?_
      refine lv_iload hx hb dX7_init_270 (lv_at hl 0 rfl) ?_
      refine lv_iload_n hx hb dX7_init_272 rfl (lv_at hl 4 rfl) ?_
      refine lv_i2s hx hb dX7_init_273 rfl ?_
      refine b_sast hx hb hab hK hP hS (k := 7) (by omega) (f := (fun _ => 0)) h54_8 (i := 0) (y := st.toInt16.toInt32) (by omega) (by decide) (sh_i st) dX7_init_274 (fun H locs hP hS hq => ?_)
      replace hz := hq.trans hz
      obtain ⟨M_55, eM_55⟩ : ∃ z, z = va_up M_54 7 (eS cs 2 (upd (fun _ => 0) 0 st.toInt16.toInt32)) := ⟨_, rfl⟩
      rw [← eM_55] at hP
      have h55_1 : M_55 0 = .inr (7, [.int (nI (hdD d)), .int (nI (hdW w)), .ref (ad 1), .ref (ad 2), .ref (ad 3), .ref (ad 4), .ref (ad 5), .ref (ad 6), .ref (ad 7), .ref (ad 8), .ref (ad 9), .ref (ad 10), .ref (ad 11), .ref (ad 12), .ref (ad 13), .ref (ad 14), .ref (ad 15), .ref (ad 16), .ref (ad 17), .ref (ad 18), .ref (ad 19), .ref (ad 20), .ref (ad 21), .ref (ad 22), .ref (ad 23), .ref (ad 24), .ref (ad 25), .float 0, .float 0]) := by rw [eM_55]; exact (va_up_ne _ _ (by omega)).trans h54_1
      have h55_2 : M_55 1 = eI cs 2 (fun _ => 0) := by rw [eM_55]; exact (va_up_ne _ _ (by omega)).trans h54_2
      have h55_3 : M_55 2 = eI cs 2 (fun _ => 0) := by rw [eM_55]; exact (va_up_ne _ _ (by omega)).trans h54_3
      have h55_4 : M_55 3 = eI cs 2 (upd (upd (fun _ => 0) 0 (-1)) 1 (-1)) := by rw [eM_55]; exact (va_up_ne _ _ (by omega)).trans h54_4
      have h55_5 : M_55 4 = eI cs 2 (fun _ => 0) := by rw [eM_55]; exact (va_up_ne _ _ (by omega)).trans h54_5
      have h55_6 : M_55 5 = eZ cs 2 (fun _ => 0) := by rw [eM_55]; exact (va_up_ne _ _ (by omega)).trans h54_6
      have h55_7 : M_55 6 = eS cs 2 (fun _ => 0) := by rw [eM_55]; exact (va_up_ne _ _ (by omega)).trans h54_7
      have h55_8 : M_55 7 = eS cs 2 (upd (fun _ => 0) 0 st.toInt16.toInt32) := by rw [eM_55]; exact va_up_self _ _ _
      have h55_9 : M_55 8 = eF cs 2 (fun _ => 0) := by rw [eM_55]; exact (va_up_ne _ _ (by omega)).trans h54_9
      have h55_10 : M_55 9 = eI cs 2400 (fun _ => 0) := by rw [eM_55]; exact (va_up_ne _ _ (by omega)).trans h54_10
      have h55_11 : M_55 10 = eI cs 2400 (fun _ => 0) := by rw [eM_55]; exact (va_up_ne _ _ (by omega)).trans h54_11
      have h55_12 : M_55 11 = eI cs 4 (fun _ => 0) := by rw [eM_55]; exact (va_up_ne _ _ (by omega)).trans h54_12
      have h55_13 : M_55 12 = eF cs 1200 (fun _ => 0) := by rw [eM_55]; exact (va_up_ne _ _ (by omega)).trans h54_13
      have h55_14 : M_55 13 = eF cs 1200 (fun _ => 0) := by rw [eM_55]; exact (va_up_ne _ _ (by omega)).trans h54_14
      have h55_15 : M_55 14 = eF cs 1200 (fun _ => 0) := by rw [eM_55]; exact (va_up_ne _ _ (by omega)).trans h54_15
      have h55_16 : M_55 15 = eF cs 1200 (fun _ => 0) := by rw [eM_55]; exact (va_up_ne _ _ (by omega)).trans h54_16
      have h55_17 : M_55 16 = eI cs 1200 (fun _ => 0) := by rw [eM_55]; exact (va_up_ne _ _ (by omega)).trans h54_17
      have h55_18 : M_55 17 = eD cs 1200 (fun _ => 0) := by rw [eM_55]; exact (va_up_ne _ _ (by omega)).trans h54_18
      have h55_19 : M_55 18 = eI cs 2 (fun _ => 0) := by rw [eM_55]; exact (va_up_ne _ _ (by omega)).trans h54_19
      have h55_20 : M_55 19 = eS cs 25 (fun _ => 0) := by rw [eM_55]; exact (va_up_ne _ _ (by omega)).trans h54_20
      have h55_21 : M_55 20 = eI cs 25 (fun _ => 0) := by rw [eM_55]; exact (va_up_ne _ _ (by omega)).trans h54_21
      have h55_22 : M_55 21 = eI cs 25 (fun _ => 0) := by rw [eM_55]; exact (va_up_ne _ _ (by omega)).trans h54_22
      have h55_23 : M_55 22 = eI cs 25 (fun _ => 0) := by rw [eM_55]; exact (va_up_ne _ _ (by omega)).trans h54_23
      have h55_24 : M_55 23 = eI cs 25 (fun _ => 0) := by rw [eM_55]; exact (va_up_ne _ _ (by omega)).trans h54_24
      have h55_25 : M_55 24 = eJ cs 25 (fun _ => 0) := by rw [eM_55]; exact (va_up_ne _ _ (by omega)).trans h54_25
      have h55_26 : M_55 25 = eI cs 25 (fun _ => 0) := by rw [eM_55]; exact (va_up_ne _ _ (by omega)).trans h54_26
      refine lv_aload_n hx hb dX7_init_275 rfl (lv_at hl 1 rfl) ?_
      refine m_get hx hb hts inX7 hown hK hP (ci := 7) rfl (k := 0) (by omega) h55_1 5 (by decide) (hts (.fieldLink RX7 19 "RollbackPairModel" "told" "[I") (by decide +kernel)) rfl dX7_init_276 ?_
      refine lv_iload hx hb dX7_init_279 (lv_at hl 0 rfl) ?_
      refine lv_aload_n hx hb dX7_init_281 rfl (lv_at hl 1 rfl) ?_
      refine m_get hx hb hts inX7 hown hK hP (ci := 7) rfl (k := 0) (by omega) h55_1 0 (by decide) (hts (.fieldLink RX7 90 "RollbackPairModel" "delay" "I") (by decide +kernel)) rfl dX7_init_282 ?_
      refine b_iast hx hb hab hK hP hS (k := 4) (by omega) (f := (fun _ => 0)) h55_5 (i := 0) (by omega) (by decide) dX7_init_285 (fun H locs hP hS hq => ?_)
      replace hz := hq.trans hz
      obtain ⟨M_56, eM_56⟩ : ∃ z, z = va_up M_55 4 (eI cs 2 (upd (fun _ => 0) 0 (nI (hdD d)))) := ⟨_, rfl⟩
      rw [← eM_56] at hP
      have h56_1 : M_56 0 = .inr (7, [.int (nI (hdD d)), .int (nI (hdW w)), .ref (ad 1), .ref (ad 2), .ref (ad 3), .ref (ad 4), .ref (ad 5), .ref (ad 6), .ref (ad 7), .ref (ad 8), .ref (ad 9), .ref (ad 10), .ref (ad 11), .ref (ad 12), .ref (ad 13), .ref (ad 14), .ref (ad 15), .ref (ad 16), .ref (ad 17), .ref (ad 18), .ref (ad 19), .ref (ad 20), .ref (ad 21), .ref (ad 22), .ref (ad 23), .ref (ad 24), .ref (ad 25), .float 0, .float 0]) := by rw [eM_56]; exact (va_up_ne _ _ (by omega)).trans h55_1
      have h56_2 : M_56 1 = eI cs 2 (fun _ => 0) := by rw [eM_56]; exact (va_up_ne _ _ (by omega)).trans h55_2
      have h56_3 : M_56 2 = eI cs 2 (fun _ => 0) := by rw [eM_56]; exact (va_up_ne _ _ (by omega)).trans h55_3
      have h56_4 : M_56 3 = eI cs 2 (upd (upd (fun _ => 0) 0 (-1)) 1 (-1)) := by rw [eM_56]; exact (va_up_ne _ _ (by omega)).trans h55_4
      have h56_5 : M_56 4 = eI cs 2 (upd (fun _ => 0) 0 (nI (hdD d))) := by rw [eM_56]; exact va_up_self _ _ _
      have h56_6 : M_56 5 = eZ cs 2 (fun _ => 0) := by rw [eM_56]; exact (va_up_ne _ _ (by omega)).trans h55_6
      have h56_7 : M_56 6 = eS cs 2 (fun _ => 0) := by rw [eM_56]; exact (va_up_ne _ _ (by omega)).trans h55_7
      have h56_8 : M_56 7 = eS cs 2 (upd (fun _ => 0) 0 st.toInt16.toInt32) := by rw [eM_56]; exact (va_up_ne _ _ (by omega)).trans h55_8
      have h56_9 : M_56 8 = eF cs 2 (fun _ => 0) := by rw [eM_56]; exact (va_up_ne _ _ (by omega)).trans h55_9
      have h56_10 : M_56 9 = eI cs 2400 (fun _ => 0) := by rw [eM_56]; exact (va_up_ne _ _ (by omega)).trans h55_10
      have h56_11 : M_56 10 = eI cs 2400 (fun _ => 0) := by rw [eM_56]; exact (va_up_ne _ _ (by omega)).trans h55_11
      have h56_12 : M_56 11 = eI cs 4 (fun _ => 0) := by rw [eM_56]; exact (va_up_ne _ _ (by omega)).trans h55_12
      have h56_13 : M_56 12 = eF cs 1200 (fun _ => 0) := by rw [eM_56]; exact (va_up_ne _ _ (by omega)).trans h55_13
      have h56_14 : M_56 13 = eF cs 1200 (fun _ => 0) := by rw [eM_56]; exact (va_up_ne _ _ (by omega)).trans h55_14
      have h56_15 : M_56 14 = eF cs 1200 (fun _ => 0) := by rw [eM_56]; exact (va_up_ne _ _ (by omega)).trans h55_15
      have h56_16 : M_56 15 = eF cs 1200 (fun _ => 0) := by rw [eM_56]; exact (va_up_ne _ _ (by omega)).trans h55_16
      have h56_17 : M_56 16 = eI cs 1200 (fun _ => 0) := by rw [eM_56]; exact (va_up_ne _ _ (by omega)).trans h55_17
      have h56_18 : M_56 17 = eD cs 1200 (fun _ => 0) := by rw [eM_56]; exact (va_up_ne _ _ (by omega)).trans h55_18
      have h56_19 : M_56 18 = eI cs 2 (fun _ => 0) := by rw [eM_56]; exact (va_up_ne _ _ (by omega)).trans h55_19
      have h56_20 : M_56 19 = eS cs 25 (fun _ => 0) := by rw [eM_56]; exact (va_up_ne _ _ (by omega)).trans h55_20
      have h56_21 : M_56 20 = eI cs 25 (fun _ => 0) := by rw [eM_56]; exact (va_up_ne _ _ (by omega)).trans h55_21
      have h56_22 : M_56 21 = eI cs 25 (fun _ => 0) := by rw [eM_56]; exact (va_up_ne _ _ (by omega)).trans h55_22
      have h56_23 : M_56 22 = eI cs 25 (fun _ => 0) := by rw [eM_56]; exact (va_up_ne _ _ (by omega)).trans h55_23
      have h56_24 : M_56 23 = eI cs 25 (fun _ => 0) := by rw [eM_56]; exact (va_up_ne _ _ (by omega)).trans h55_24
      have h56_25 : M_56 24 = eJ cs 25 (fun _ => 0) := by rw [eM_56]; exact (va_up_ne _ _ (by omega)).trans h55_25
      have h56_26 : M_56 25 = eI cs 25 (fun _ => 0) := by rw [eM_56]; exact (va_up_ne _ _ (by omega)).trans h55_26
      refine lv_aload_n hx hb dX7_init_286 rfl (lv_at hl 1 rfl) ?_
      refine m_get hx hb hts inX7 hown hK hP (ci := 7) rfl (k := 0) (by omega) h56_1 12 (by decide) (hts (.fieldLink RX7 43 "RollbackPairModel" "known" "[I") (by decide +kernel)) rfl dX7_init_287 ?_
      refine lv_iconst (v := nI 2) hx hb dX7_init_290 (by decide) ?_
      refine lv_iload hx hb dX7_init_291 (lv_at hl 0 rfl) ?_
      refine n_mul hx hb dX7_init_293 ?_
      refine lv_aload_n hx hb dX7_init_294 rfl (lv_at hl 1 rfl) ?_
      refine m_get hx hb hts inX7 hown hK hP (ci := 7) rfl (k := 0) (by omega) h56_1 0 (by decide) (hts (.fieldLink RX7 90 "RollbackPairModel" "delay" "I") (by decide +kernel)) rfl dX7_init_295 ?_
      refine b_iast hx hb hab hK hP hS (k := 11) (by omega) (f := (fun _ => 0)) h56_12 (i := 2 * 0) (by omega) (by decide) dX7_init_298 (fun H locs hP hS hq => ?_)
      replace hz := hq.trans hz
      obtain ⟨M_57, eM_57⟩ : ∃ z, z = va_up M_56 11 (eI cs 4 (upd (fun _ => 0) (2 * 0) (nI (hdD d)))) := ⟨_, rfl⟩
      rw [← eM_57] at hP
      have h57_1 : M_57 0 = .inr (7, [.int (nI (hdD d)), .int (nI (hdW w)), .ref (ad 1), .ref (ad 2), .ref (ad 3), .ref (ad 4), .ref (ad 5), .ref (ad 6), .ref (ad 7), .ref (ad 8), .ref (ad 9), .ref (ad 10), .ref (ad 11), .ref (ad 12), .ref (ad 13), .ref (ad 14), .ref (ad 15), .ref (ad 16), .ref (ad 17), .ref (ad 18), .ref (ad 19), .ref (ad 20), .ref (ad 21), .ref (ad 22), .ref (ad 23), .ref (ad 24), .ref (ad 25), .float 0, .float 0]) := by rw [eM_57]; exact (va_up_ne _ _ (by omega)).trans h56_1
      have h57_2 : M_57 1 = eI cs 2 (fun _ => 0) := by rw [eM_57]; exact (va_up_ne _ _ (by omega)).trans h56_2
      have h57_3 : M_57 2 = eI cs 2 (fun _ => 0) := by rw [eM_57]; exact (va_up_ne _ _ (by omega)).trans h56_3
      have h57_4 : M_57 3 = eI cs 2 (upd (upd (fun _ => 0) 0 (-1)) 1 (-1)) := by rw [eM_57]; exact (va_up_ne _ _ (by omega)).trans h56_4
      have h57_5 : M_57 4 = eI cs 2 (upd (fun _ => 0) 0 (nI (hdD d))) := by rw [eM_57]; exact (va_up_ne _ _ (by omega)).trans h56_5
      have h57_6 : M_57 5 = eZ cs 2 (fun _ => 0) := by rw [eM_57]; exact (va_up_ne _ _ (by omega)).trans h56_6
      have h57_7 : M_57 6 = eS cs 2 (fun _ => 0) := by rw [eM_57]; exact (va_up_ne _ _ (by omega)).trans h56_7
      have h57_8 : M_57 7 = eS cs 2 (upd (fun _ => 0) 0 st.toInt16.toInt32) := by rw [eM_57]; exact (va_up_ne _ _ (by omega)).trans h56_8
      have h57_9 : M_57 8 = eF cs 2 (fun _ => 0) := by rw [eM_57]; exact (va_up_ne _ _ (by omega)).trans h56_9
      have h57_10 : M_57 9 = eI cs 2400 (fun _ => 0) := by rw [eM_57]; exact (va_up_ne _ _ (by omega)).trans h56_10
      have h57_11 : M_57 10 = eI cs 2400 (fun _ => 0) := by rw [eM_57]; exact (va_up_ne _ _ (by omega)).trans h56_11
      have h57_12 : M_57 11 = eI cs 4 (upd (fun _ => 0) (2 * 0) (nI (hdD d))) := by rw [eM_57]; exact va_up_self _ _ _
      have h57_13 : M_57 12 = eF cs 1200 (fun _ => 0) := by rw [eM_57]; exact (va_up_ne _ _ (by omega)).trans h56_13
      have h57_14 : M_57 13 = eF cs 1200 (fun _ => 0) := by rw [eM_57]; exact (va_up_ne _ _ (by omega)).trans h56_14
      have h57_15 : M_57 14 = eF cs 1200 (fun _ => 0) := by rw [eM_57]; exact (va_up_ne _ _ (by omega)).trans h56_15
      have h57_16 : M_57 15 = eF cs 1200 (fun _ => 0) := by rw [eM_57]; exact (va_up_ne _ _ (by omega)).trans h56_16
      have h57_17 : M_57 16 = eI cs 1200 (fun _ => 0) := by rw [eM_57]; exact (va_up_ne _ _ (by omega)).trans h56_17
      have h57_18 : M_57 17 = eD cs 1200 (fun _ => 0) := by rw [eM_57]; exact (va_up_ne _ _ (by omega)).trans h56_18
      have h57_19 : M_57 18 = eI cs 2 (fun _ => 0) := by rw [eM_57]; exact (va_up_ne _ _ (by omega)).trans h56_19
      have h57_20 : M_57 19 = eS cs 25 (fun _ => 0) := by rw [eM_57]; exact (va_up_ne _ _ (by omega)).trans h56_20
      have h57_21 : M_57 20 = eI cs 25 (fun _ => 0) := by rw [eM_57]; exact (va_up_ne _ _ (by omega)).trans h56_21
      have h57_22 : M_57 21 = eI cs 25 (fun _ => 0) := by rw [eM_57]; exact (va_up_ne _ _ (by omega)).trans h56_22
      have h57_23 : M_57 22 = eI cs 25 (fun _ => 0) := by rw [eM_57]; exact (va_up_ne _ _ (by omega)).trans h56_23
      have h57_24 : M_57 23 = eI cs 25 (fun _ => 0) := by rw [eM_57]; exact (va_up_ne _ _ (by omega)).trans h56_24
      have h57_25 : M_57 24 = eJ cs 25 (fun _ => 0) := by rw [eM_57]; exact (va_up_ne _ _ (by omega)).trans h56_25
      have h57_26 : M_57 25 = eI cs 25 (fun _ => 0) := by rw [eM_57]; exact (va_up_ne _ _ (by omega)).trans h56_26
      refine lv_aload_n hx hb dX7_init_299 rfl (lv_at hl 1 rfl) ?_
      refine m_get hx hb hts inX7 hown hK hP (ci := 7) rfl (k := 0) (by omega) h57_1 12 (by decide) (hts (.fieldLink RX7 43 "RollbackPairModel" "known" "[I") (by decide +kernel)) rfl dX7_init_300 ?_
      refine lv_iconst (v := nI 2) hx hb dX7_init_303 (by decide) ?_
      refine lv_iload hx hb dX7_init_304 (lv_at hl 0 rfl) ?_
      refine n_mul hx hb dX7_init_306 ?_
      refine lv_iconst (v := nI 1) hx hb dX7_init_307 (by decide) ?_
      refine n_add hx hb dX7_init_308 ?_
      refine lv_aload_n hx hb dX7_init_309 rfl (lv_at hl 1 rfl) ?_
      refine m_get hx hb hts inX7 hown hK hP (ci := 7) rfl (k := 0) (by omega) h57_1 0 (by decide) (hts (.fieldLink RX7 90 "RollbackPairModel" "delay" "I") (by decide +kernel)) rfl dX7_init_310 ?_
      refine b_iast hx hb hab hK hP hS (k := 11) (by omega) (f := (upd (fun _ => 0) (2 * 0) (nI (hdD d)))) h57_12 (i := 2 * 0 + 1) (by omega) (by decide) dX7_init_313 (fun H locs hP hS hq => ?_)
      replace hz := hq.trans hz
      obtain ⟨M_58, eM_58⟩ : ∃ z, z = va_up M_57 11 (eI cs 4 (upd (upd (fun _ => 0) (2 * 0) (nI (hdD d))) (2 * 0 + 1) (nI (hdD d)))) := ⟨_, rfl⟩
      rw [← eM_58] at hP
      have h58_1 : M_58 0 = .inr (7, [.int (nI (hdD d)), .int (nI (hdW w)), .ref (ad 1), .ref (ad 2), .ref (ad 3), .ref (ad 4), .ref (ad 5), .ref (ad 6), .ref (ad 7), .ref (ad 8), .ref (ad 9), .ref (ad 10), .ref (ad 11), .ref (ad 12), .ref (ad 13), .ref (ad 14), .ref (ad 15), .ref (ad 16), .ref (ad 17), .ref (ad 18), .ref (ad 19), .ref (ad 20), .ref (ad 21), .ref (ad 22), .ref (ad 23), .ref (ad 24), .ref (ad 25), .float 0, .float 0]) := by rw [eM_58]; exact (va_up_ne _ _ (by omega)).trans h57_1
      have h58_2 : M_58 1 = eI cs 2 (fun _ => 0) := by rw [eM_58]; exact (va_up_ne _ _ (by omega)).trans h57_2
      have h58_3 : M_58 2 = eI cs 2 (fun _ => 0) := by rw [eM_58]; exact (va_up_ne _ _ (by omega)).trans h57_3
      have h58_4 : M_58 3 = eI cs 2 (upd (upd (fun _ => 0) 0 (-1)) 1 (-1)) := by rw [eM_58]; exact (va_up_ne _ _ (by omega)).trans h57_4
      have h58_5 : M_58 4 = eI cs 2 (upd (fun _ => 0) 0 (nI (hdD d))) := by rw [eM_58]; exact (va_up_ne _ _ (by omega)).trans h57_5
      have h58_6 : M_58 5 = eZ cs 2 (fun _ => 0) := by rw [eM_58]; exact (va_up_ne _ _ (by omega)).trans h57_6
      have h58_7 : M_58 6 = eS cs 2 (fun _ => 0) := by rw [eM_58]; exact (va_up_ne _ _ (by omega)).trans h57_7
      have h58_8 : M_58 7 = eS cs 2 (upd (fun _ => 0) 0 st.toInt16.toInt32) := by rw [eM_58]; exact (va_up_ne _ _ (by omega)).trans h57_8
      have h58_9 : M_58 8 = eF cs 2 (fun _ => 0) := by rw [eM_58]; exact (va_up_ne _ _ (by omega)).trans h57_9
      have h58_10 : M_58 9 = eI cs 2400 (fun _ => 0) := by rw [eM_58]; exact (va_up_ne _ _ (by omega)).trans h57_10
      have h58_11 : M_58 10 = eI cs 2400 (fun _ => 0) := by rw [eM_58]; exact (va_up_ne _ _ (by omega)).trans h57_11
      have h58_12 : M_58 11 = eI cs 4 (upd (upd (fun _ => 0) (2 * 0) (nI (hdD d))) (2 * 0 + 1) (nI (hdD d))) := by rw [eM_58]; exact va_up_self _ _ _
      have h58_13 : M_58 12 = eF cs 1200 (fun _ => 0) := by rw [eM_58]; exact (va_up_ne _ _ (by omega)).trans h57_13
      have h58_14 : M_58 13 = eF cs 1200 (fun _ => 0) := by rw [eM_58]; exact (va_up_ne _ _ (by omega)).trans h57_14
      have h58_15 : M_58 14 = eF cs 1200 (fun _ => 0) := by rw [eM_58]; exact (va_up_ne _ _ (by omega)).trans h57_15
      have h58_16 : M_58 15 = eF cs 1200 (fun _ => 0) := by rw [eM_58]; exact (va_up_ne _ _ (by omega)).trans h57_16
      have h58_17 : M_58 16 = eI cs 1200 (fun _ => 0) := by rw [eM_58]; exact (va_up_ne _ _ (by omega)).trans h57_17
      have h58_18 : M_58 17 = eD cs 1200 (fun _ => 0) := by rw [eM_58]; exact (va_up_ne _ _ (by omega)).trans h57_18
      have h58_19 : M_58 18 = eI cs 2 (fun _ => 0) := by rw [eM_58]; exact (va_up_ne _ _ (by omega)).trans h57_19
      have h58_20 : M_58 19 = eS cs 25 (fun _ => 0) := by rw [eM_58]; exact (va_up_ne _ _ (by omega)).trans h57_20
      have h58_21 : M_58 20 = eI cs 25 (fun _ => 0) := by rw [eM_58]; exact (va_up_ne _ _ (by omega)).trans h57_21
      have h58_22 : M_58 21 = eI cs 25 (fun _ => 0) := by rw [eM_58]; exact (va_up_ne _ _ (by omega)).trans h57_22
      have h58_23 : M_58 22 = eI cs 25 (fun _ => 0) := by rw [eM_58]; exact (va_up_ne _ _ (by omega)).trans h57_23
      have h58_24 : M_58 23 = eI cs 25 (fun _ => 0) := by rw [eM_58]; exact (va_up_ne _ _ (by omega)).trans h57_24
      have h58_25 : M_58 24 = eJ cs 25 (fun _ => 0) := by rw [eM_58]; exact (va_up_ne _ _ (by omega)).trans h57_25
      have h58_26 : M_58 25 = eI cs 25 (fun _ => 0) := by rw [eM_58]; exact (va_up_ne _ _ (by omega)).trans h57_26
      refine lv_aload_n hx hb dX7_init_314 rfl (lv_at hl 1 rfl) ?_
      refine m_get hx hb hts inX7 hown hK hP (ci := 7) rfl (k := 0) (by omega) h58_1 13 (by decide) (hts (.fieldLink RX7 46 "RollbackPairModel" "place0" "[F") (by decide +kernel)) rfl dX7_init_315 ?_
      refine lv_sipush (v := nI 600) hx hb dX7_init_318 (by decide) ?_
      refine lv_iload hx hb dX7_init_321 (lv_at hl 0 rfl) ?_
      refine n_mul hx hb dX7_init_323 ?_
      refine lv_ldcf hx hb hown (hts (.constantFloat RX7 97 (1090519040)) (by decide +kernel)) dX7_init_324 ?_
      refine b_fast hx hb hab hK hP hS (k := 12) (by omega) (f := (fun _ => 0)) h58_13 (i := 600 * 0) (by omega) (by decide) dX7_init_326 (fun H locs hP hS hq => ?_)
      replace hz := hq.trans hz
      obtain ⟨M_59, eM_59⟩ : ∃ z, z = va_up M_58 12 (eF cs 1200 (vf_upd (fun _ => 0) (600 * 0) 1090519040)) := ⟨_, rfl⟩
      rw [← eM_59] at hP
      have h59_1 : M_59 0 = .inr (7, [.int (nI (hdD d)), .int (nI (hdW w)), .ref (ad 1), .ref (ad 2), .ref (ad 3), .ref (ad 4), .ref (ad 5), .ref (ad 6), .ref (ad 7), .ref (ad 8), .ref (ad 9), .ref (ad 10), .ref (ad 11), .ref (ad 12), .ref (ad 13), .ref (ad 14), .ref (ad 15), .ref (ad 16), .ref (ad 17), .ref (ad 18), .ref (ad 19), .ref (ad 20), .ref (ad 21), .ref (ad 22), .ref (ad 23), .ref (ad 24), .ref (ad 25), .float 0, .float 0]) := by rw [eM_59]; exact (va_up_ne _ _ (by omega)).trans h58_1
      have h59_2 : M_59 1 = eI cs 2 (fun _ => 0) := by rw [eM_59]; exact (va_up_ne _ _ (by omega)).trans h58_2
      have h59_3 : M_59 2 = eI cs 2 (fun _ => 0) := by rw [eM_59]; exact (va_up_ne _ _ (by omega)).trans h58_3
      have h59_4 : M_59 3 = eI cs 2 (upd (upd (fun _ => 0) 0 (-1)) 1 (-1)) := by rw [eM_59]; exact (va_up_ne _ _ (by omega)).trans h58_4
      have h59_5 : M_59 4 = eI cs 2 (upd (fun _ => 0) 0 (nI (hdD d))) := by rw [eM_59]; exact (va_up_ne _ _ (by omega)).trans h58_5
      have h59_6 : M_59 5 = eZ cs 2 (fun _ => 0) := by rw [eM_59]; exact (va_up_ne _ _ (by omega)).trans h58_6
      have h59_7 : M_59 6 = eS cs 2 (fun _ => 0) := by rw [eM_59]; exact (va_up_ne _ _ (by omega)).trans h58_7
      have h59_8 : M_59 7 = eS cs 2 (upd (fun _ => 0) 0 st.toInt16.toInt32) := by rw [eM_59]; exact (va_up_ne _ _ (by omega)).trans h58_8
      have h59_9 : M_59 8 = eF cs 2 (fun _ => 0) := by rw [eM_59]; exact (va_up_ne _ _ (by omega)).trans h58_9
      have h59_10 : M_59 9 = eI cs 2400 (fun _ => 0) := by rw [eM_59]; exact (va_up_ne _ _ (by omega)).trans h58_10
      have h59_11 : M_59 10 = eI cs 2400 (fun _ => 0) := by rw [eM_59]; exact (va_up_ne _ _ (by omega)).trans h58_11
      have h59_12 : M_59 11 = eI cs 4 (upd (upd (fun _ => 0) (2 * 0) (nI (hdD d))) (2 * 0 + 1) (nI (hdD d))) := by rw [eM_59]; exact (va_up_ne _ _ (by omega)).trans h58_12
      have h59_13 : M_59 12 = eF cs 1200 (vf_upd (fun _ => 0) (600 * 0) 1090519040) := by rw [eM_59]; exact va_up_self _ _ _
      have h59_14 : M_59 13 = eF cs 1200 (fun _ => 0) := by rw [eM_59]; exact (va_up_ne _ _ (by omega)).trans h58_14
      have h59_15 : M_59 14 = eF cs 1200 (fun _ => 0) := by rw [eM_59]; exact (va_up_ne _ _ (by omega)).trans h58_15
      have h59_16 : M_59 15 = eF cs 1200 (fun _ => 0) := by rw [eM_59]; exact (va_up_ne _ _ (by omega)).trans h58_16
      have h59_17 : M_59 16 = eI cs 1200 (fun _ => 0) := by rw [eM_59]; exact (va_up_ne _ _ (by omega)).trans h58_17
      have h59_18 : M_59 17 = eD cs 1200 (fun _ => 0) := by rw [eM_59]; exact (va_up_ne _ _ (by omega)).trans h58_18
      have h59_19 : M_59 18 = eI cs 2 (fun _ => 0) := by rw [eM_59]; exact (va_up_ne _ _ (by omega)).trans h58_19
      have h59_20 : M_59 19 = eS cs 25 (fun _ => 0) := by rw [eM_59]; exact (va_up_ne _ _ (by omega)).trans h58_20
      have h59_21 : M_59 20 = eI cs 25 (fun _ => 0) := by rw [eM_59]; exact (va_up_ne _ _ (by omega)).trans h58_21
      have h59_22 : M_59 21 = eI cs 25 (fun _ => 0) := by rw [eM_59]; exact (va_up_ne _ _ (by omega)).trans h58_22
      have h59_23 : M_59 22 = eI cs 25 (fun _ => 0) := by rw [eM_59]; exact (va_up_ne _ _ (by omega)).trans h58_23
      have h59_24 : M_59 23 = eI cs 25 (fun _ => 0) := by rw [eM_59]; exact (va_up_ne _ _ (by omega)).trans h58_24
      have h59_25 : M_59 24 = eJ cs 25 (fun _ => 0) := by rw [eM_59]; exact (va_up_ne _ _ (by omega)).trans h58_25
      have h59_26 : M_59 25 = eI cs 25 (fun _ => 0) := by rw [eM_59]; exact (va_up_ne _ _ (by omega)).trans h58_26
      refine lv_aload_n hx hb dX7_init_327 rfl (lv_at hl 1 rfl) ?_
      refine m_get hx hb hts inX7 hown hK hP (ci := 7) rfl (k := 0) (by omega) h59_1 15 (by decide) (hts (.fieldLink RX7 52 "RollbackPairModel" "place1" "[F") (by decide +kernel)) rfl dX7_init_328 ?_
      refine lv_sipush (v := nI 600) hx hb dX7_init_331 (by decide) ?_
      refine lv_iload hx hb dX7_init_334 (lv_at hl 0 rfl) ?_
      refine n_mul hx hb dX7_init_336 ?_
      refine lv_ldcf hx hb hown (hts (.constantFloat RX7 98 (1103101952)) (by decide +kernel)) dX7_init_337 ?_
      refine b_fast hx hb hab hK hP hS (k := 14) (by omega) (f := (fun _ => 0)) h59_15 (i := 600 * 0) (by omega) (by decide) dX7_init_339 (fun H locs hP hS hq => ?_)
      replace hz := hq.trans hz
      obtain ⟨M_60, eM_60⟩ : ∃ z, z = va_up M_59 14 (eF cs 1200 (vf_upd (fun _ => 0) (600 * 0) 1103101952)) := ⟨_, rfl⟩
      rw [← eM_60] at hP
      have h60_1 : M_60 0 = .inr (7, [.int (nI (hdD d)), .int (nI (hdW w)), .ref (ad 1), .ref (ad 2), .ref (ad 3), .ref (ad 4), .ref (ad 5), .ref (ad 6), .ref (ad 7), .ref (ad 8), .ref (ad 9), .ref (ad 10), .ref (ad 11), .ref (ad 12), .ref (ad 13), .ref (ad 14), .ref (ad 15), .ref (ad 16), .ref (ad 17), .ref (ad 18), .ref (ad 19), .ref (ad 20), .ref (ad 21), .ref (ad 22), .ref (ad 23), .ref (ad 24), .ref (ad 25), .float 0, .float 0]) := by rw [eM_60]; exact (va_up_ne _ _ (by omega)).trans h59_1
      have h60_2 : M_60 1 = eI cs 2 (fun _ => 0) := by rw [eM_60]; exact (va_up_ne _ _ (by omega)).trans h59_2
      have h60_3 : M_60 2 = eI cs 2 (fun _ => 0) := by rw [eM_60]; exact (va_up_ne _ _ (by omega)).trans h59_3
      have h60_4 : M_60 3 = eI cs 2 (upd (upd (fun _ => 0) 0 (-1)) 1 (-1)) := by rw [eM_60]; exact (va_up_ne _ _ (by omega)).trans h59_4
      have h60_5 : M_60 4 = eI cs 2 (upd (fun _ => 0) 0 (nI (hdD d))) := by rw [eM_60]; exact (va_up_ne _ _ (by omega)).trans h59_5
      have h60_6 : M_60 5 = eZ cs 2 (fun _ => 0) := by rw [eM_60]; exact (va_up_ne _ _ (by omega)).trans h59_6
      have h60_7 : M_60 6 = eS cs 2 (fun _ => 0) := by rw [eM_60]; exact (va_up_ne _ _ (by omega)).trans h59_7
      have h60_8 : M_60 7 = eS cs 2 (upd (fun _ => 0) 0 st.toInt16.toInt32) := by rw [eM_60]; exact (va_up_ne _ _ (by omega)).trans h59_8
      have h60_9 : M_60 8 = eF cs 2 (fun _ => 0) := by rw [eM_60]; exact (va_up_ne _ _ (by omega)).trans h59_9
      have h60_10 : M_60 9 = eI cs 2400 (fun _ => 0) := by rw [eM_60]; exact (va_up_ne _ _ (by omega)).trans h59_10
      have h60_11 : M_60 10 = eI cs 2400 (fun _ => 0) := by rw [eM_60]; exact (va_up_ne _ _ (by omega)).trans h59_11
      have h60_12 : M_60 11 = eI cs 4 (upd (upd (fun _ => 0) (2 * 0) (nI (hdD d))) (2 * 0 + 1) (nI (hdD d))) := by rw [eM_60]; exact (va_up_ne _ _ (by omega)).trans h59_12
      have h60_13 : M_60 12 = eF cs 1200 (vf_upd (fun _ => 0) (600 * 0) 1090519040) := by rw [eM_60]; exact (va_up_ne _ _ (by omega)).trans h59_13
      have h60_14 : M_60 13 = eF cs 1200 (fun _ => 0) := by rw [eM_60]; exact (va_up_ne _ _ (by omega)).trans h59_14
      have h60_15 : M_60 14 = eF cs 1200 (vf_upd (fun _ => 0) (600 * 0) 1103101952) := by rw [eM_60]; exact va_up_self _ _ _
      have h60_16 : M_60 15 = eF cs 1200 (fun _ => 0) := by rw [eM_60]; exact (va_up_ne _ _ (by omega)).trans h59_16
      have h60_17 : M_60 16 = eI cs 1200 (fun _ => 0) := by rw [eM_60]; exact (va_up_ne _ _ (by omega)).trans h59_17
      have h60_18 : M_60 17 = eD cs 1200 (fun _ => 0) := by rw [eM_60]; exact (va_up_ne _ _ (by omega)).trans h59_18
      have h60_19 : M_60 18 = eI cs 2 (fun _ => 0) := by rw [eM_60]; exact (va_up_ne _ _ (by omega)).trans h59_19
      have h60_20 : M_60 19 = eS cs 25 (fun _ => 0) := by rw [eM_60]; exact (va_up_ne _ _ (by omega)).trans h59_20
      have h60_21 : M_60 20 = eI cs 25 (fun _ => 0) := by rw [eM_60]; exact (va_up_ne _ _ (by omega)).trans h59_21
      have h60_22 : M_60 21 = eI cs 25 (fun _ => 0) := by rw [eM_60]; exact (va_up_ne _ _ (by omega)).trans h59_22
      have h60_23 : M_60 22 = eI cs 25 (fun _ => 0) := by rw [eM_60]; exact (va_up_ne _ _ (by omega)).trans h59_23
      have h60_24 : M_60 23 = eI cs 25 (fun _ => 0) := by rw [eM_60]; exact (va_up_ne _ _ (by omega)).trans h59_24
      have h60_25 : M_60 24 = eJ cs 25 (fun _ => 0) := by rw [eM_60]; exact (va_up_ne _ _ (by omega)).trans h59_25
      have h60_26 : M_60 25 = eI cs 25 (fun _ => 0) := by rw [eM_60]; exact (va_up_ne _ _ (by omega)).trans h59_26
      refine lv_iinc (v := nI 1) (lv' := [(4, .int (nI 1)), (0, .ref (ad 0)), (1, .int d), (2, .int w), (3, .int st)]) hx hb dX7_init_340 hl (k := 0) rfl (nI_1 _) (by decide) rfl (fun ls hl => ?_)
      refine lv_goto (tgt := 260) hx hb dX7_init_343 (by decide) ?_
      refine lv_iload hx hb dX7_init_260 (lv_at hl 0 rfl) ?_
      refine lv_iconst (v := nI 2) hx hb dX7_init_262 (by decide) ?_
      refine n_cmp_ge (tgt := 346) hx hb dX7_init_263 (by decide) (by omega) (by omega) (fun c_2 => absurd c_2 (by decide)) (fun c_2 => ?_)
      refine lv_aload_n hx hb dX7_init_266 rfl (lv_at hl 1 rfl) ?_
      refine m_get hx hb hts inX7 hown hK hP (ci := 7) rfl (k := 0) (by omega) h60_1 8 (by decide) (hts (.fieldLink RX7 30 "RollbackPairModel" "number" "[S") (by decide +kernel)) rfl dX7_init_267 ?_
      refine lv_iload hx hb dX7_init_270 (lv_at hl 0 rfl) ?_
      refine lv_iload_n hx hb dX7_init_272 rfl (lv_at hl 4 rfl) ?_
      refine lv_i2s hx hb dX7_init_273 rfl ?_
      refine b_sast hx hb hab hK hP hS (k := 7) (by omega) (f := (upd (fun _ => 0) 0 st.toInt16.toInt32)) h60_8 (i := 1) (y := st.toInt16.toInt32) (by omega) (by decide) (sh_i st) dX7_init_274 (fun H locs hP hS hq => ?_)
      replace hz := hq.trans hz
      obtain ⟨M_61, eM_61⟩ : ∃ z, z = va_up M_60 7 (eS cs 2 (upd (upd (fun _ => 0) 0 st.toInt16.toInt32) 1 st.toInt16.toInt32)) := ⟨_, rfl⟩
      rw [← eM_61] at hP
      have h61_1 : M_61 0 = .inr (7, [.int (nI (hdD d)), .int (nI (hdW w)), .ref (ad 1), .ref (ad 2), .ref (ad 3), .ref (ad 4), .ref (ad 5), .ref (ad 6), .ref (ad 7), .ref (ad 8), .ref (ad 9), .ref (ad 10), .ref (ad 11), .ref (ad 12), .ref (ad 13), .ref (ad 14), .ref (ad 15), .ref (ad 16), .ref (ad 17), .ref (ad 18), .ref (ad 19), .ref (ad 20), .ref (ad 21), .ref (ad 22), .ref (ad 23), .ref (ad 24), .ref (ad 25), .float 0, .float 0]) := by rw [eM_61]; exact (va_up_ne _ _ (by omega)).trans h60_1
      have h61_2 : M_61 1 = eI cs 2 (fun _ => 0) := by rw [eM_61]; exact (va_up_ne _ _ (by omega)).trans h60_2
      have h61_3 : M_61 2 = eI cs 2 (fun _ => 0) := by rw [eM_61]; exact (va_up_ne _ _ (by omega)).trans h60_3
      have h61_4 : M_61 3 = eI cs 2 (upd (upd (fun _ => 0) 0 (-1)) 1 (-1)) := by rw [eM_61]; exact (va_up_ne _ _ (by omega)).trans h60_4
      have h61_5 : M_61 4 = eI cs 2 (upd (fun _ => 0) 0 (nI (hdD d))) := by rw [eM_61]; exact (va_up_ne _ _ (by omega)).trans h60_5
      have h61_6 : M_61 5 = eZ cs 2 (fun _ => 0) := by rw [eM_61]; exact (va_up_ne _ _ (by omega)).trans h60_6
      have h61_7 : M_61 6 = eS cs 2 (fun _ => 0) := by rw [eM_61]; exact (va_up_ne _ _ (by omega)).trans h60_7
      have h61_8 : M_61 7 = eS cs 2 (upd (upd (fun _ => 0) 0 st.toInt16.toInt32) 1 st.toInt16.toInt32) := by rw [eM_61]; exact va_up_self _ _ _
      have h61_9 : M_61 8 = eF cs 2 (fun _ => 0) := by rw [eM_61]; exact (va_up_ne _ _ (by omega)).trans h60_9
      have h61_10 : M_61 9 = eI cs 2400 (fun _ => 0) := by rw [eM_61]; exact (va_up_ne _ _ (by omega)).trans h60_10
      have h61_11 : M_61 10 = eI cs 2400 (fun _ => 0) := by rw [eM_61]; exact (va_up_ne _ _ (by omega)).trans h60_11
      have h61_12 : M_61 11 = eI cs 4 (upd (upd (fun _ => 0) (2 * 0) (nI (hdD d))) (2 * 0 + 1) (nI (hdD d))) := by rw [eM_61]; exact (va_up_ne _ _ (by omega)).trans h60_12
      have h61_13 : M_61 12 = eF cs 1200 (vf_upd (fun _ => 0) (600 * 0) 1090519040) := by rw [eM_61]; exact (va_up_ne _ _ (by omega)).trans h60_13
      have h61_14 : M_61 13 = eF cs 1200 (fun _ => 0) := by rw [eM_61]; exact (va_up_ne _ _ (by omega)).trans h60_14
      have h61_15 : M_61 14 = eF cs 1200 (vf_upd (fun _ => 0) (600 * 0) 1103101952) := by rw [eM_61]; exact (va_up_ne _ _ (by omega)).trans h60_15
      have h61_16 : M_61 15 = eF cs 1200 (fun _ => 0) := by rw [eM_61]; exact (va_up_ne _ _ (by omega)).trans h60_16
      have h61_17 : M_61 16 = eI cs 1200 (fun _ => 0) := by rw [eM_61]; exact (va_up_ne _ _ (by omega)).trans h60_17
      have h61_18 : M_61 17 = eD cs 1200 (fun _ => 0) := by rw [eM_61]; exact (va_up_ne _ _ (by omega)).trans h60_18
      have h61_19 : M_61 18 = eI cs 2 (fun _ => 0) := by rw [eM_61]; exact (va_up_ne _ _ (by omega)).trans h60_19
      have h61_20 : M_61 19 = eS cs 25 (fun _ => 0) := by rw [eM_61]; exact (va_up_ne _ _ (by omega)).trans h60_20
      have h61_21 : M_61 20 = eI cs 25 (fun _ => 0) := by rw [eM_61]; exact (va_up_ne _ _ (by omega)).trans h60_21
      have h61_22 : M_61 21 = eI cs 25 (fun _ => 0) := by rw [eM_61]; exact (va_up_ne _ _ (by omega)).trans h60_22
      have h61_23 : M_61 22 = eI cs 25 (fun _ => 0) := by rw [eM_61]; exact (va_up_ne _ _ (by omega)).trans h60_23
      have h61_24 : M_61 23 = eI cs 25 (fun _ => 0) := by rw [eM_61]; exact (va_up_ne _ _ (by omega)).trans h60_24
      have h61_25 : M_61 24 = eJ cs 25 (fun _ => 0) := by rw [eM_61]; exact (va_up_ne _ _ (by omega)).trans h60_25
      have h61_26 : M_61 25 = eI cs 25 (fun _ => 0) := by rw [eM_61]; exact (va_up_ne _ _ (by omega)).trans h60_26
      refine lv_aload_n hx hb dX7_init_275 rfl (lv_at hl 1 rfl) ?_
      refine m_get hx hb hts inX7 hown hK hP (ci := 7) rfl (k := 0) (by omega) h61_1 5 (by decide) (hts (.fieldLink RX7 19 "RollbackPairModel" "told" "[I") (by decide +kernel)) rfl dX7_init_276 ?_
      refine lv_iload hx hb dX7_init_279 (lv_at hl 0 rfl) ?_
      refine lv_aload_n hx hb dX7_init_281 rfl (lv_at hl 1 rfl) ?_
      refine m_get hx hb hts inX7 hown hK hP (ci := 7) rfl (k := 0) (by omega) h61_1 0 (by decide) (hts (.fieldLink RX7 90 "RollbackPairModel" "delay" "I") (by decide +kernel)) rfl dX7_init_282 ?_
      refine b_iast hx hb hab hK hP hS (k := 4) (by omega) (f := (upd (fun _ => 0) 0 (nI (hdD d)))) h61_5 (i := 1) (by omega) (by decide) dX7_init_285 (fun H locs hP hS hq => ?_)
      replace hz := hq.trans hz
      obtain ⟨M_62, eM_62⟩ : ∃ z, z = va_up M_61 4 (eI cs 2 (upd (upd (fun _ => 0) 0 (nI (hdD d))) 1 (nI (hdD d)))) := ⟨_, rfl⟩
      rw [← eM_62] at hP
      have h62_1 : M_62 0 = .inr (7, [.int (nI (hdD d)), .int (nI (hdW w)), .ref (ad 1), .ref (ad 2), .ref (ad 3), .ref (ad 4), .ref (ad 5), .ref (ad 6), .ref (ad 7), .ref (ad 8), .ref (ad 9), .ref (ad 10), .ref (ad 11), .ref (ad 12), .ref (ad 13), .ref (ad 14), .ref (ad 15), .ref (ad 16), .ref (ad 17), .ref (ad 18), .ref (ad 19), .ref (ad 20), .ref (ad 21), .ref (ad 22), .ref (ad 23), .ref (ad 24), .ref (ad 25), .float 0, .float 0]) := by rw [eM_62]; exact (va_up_ne _ _ (by omega)).trans h61_1
      have h62_2 : M_62 1 = eI cs 2 (fun _ => 0) := by rw [eM_62]; exact (va_up_ne _ _ (by omega)).trans h61_2
      have h62_3 : M_62 2 = eI cs 2 (fun _ => 0) := by rw [eM_62]; exact (va_up_ne _ _ (by omega)).trans h61_3
      have h62_4 : M_62 3 = eI cs 2 (upd (upd (fun _ => 0) 0 (-1)) 1 (-1)) := by rw [eM_62]; exact (va_up_ne _ _ (by omega)).trans h61_4
      have h62_5 : M_62 4 = eI cs 2 (upd (upd (fun _ => 0) 0 (nI (hdD d))) 1 (nI (hdD d))) := by rw [eM_62]; exact va_up_self _ _ _
      have h62_6 : M_62 5 = eZ cs 2 (fun _ => 0) := by rw [eM_62]; exact (va_up_ne _ _ (by omega)).trans h61_6
      have h62_7 : M_62 6 = eS cs 2 (fun _ => 0) := by rw [eM_62]; exact (va_up_ne _ _ (by omega)).trans h61_7
      have h62_8 : M_62 7 = eS cs 2 (upd (upd (fun _ => 0) 0 st.toInt16.toInt32) 1 st.toInt16.toInt32) := by rw [eM_62]; exact (va_up_ne _ _ (by omega)).trans h61_8
      have h62_9 : M_62 8 = eF cs 2 (fun _ => 0) := by rw [eM_62]; exact (va_up_ne _ _ (by omega)).trans h61_9
      have h62_10 : M_62 9 = eI cs 2400 (fun _ => 0) := by rw [eM_62]; exact (va_up_ne _ _ (by omega)).trans h61_10
      have h62_11 : M_62 10 = eI cs 2400 (fun _ => 0) := by rw [eM_62]; exact (va_up_ne _ _ (by omega)).trans h61_11
      have h62_12 : M_62 11 = eI cs 4 (upd (upd (fun _ => 0) (2 * 0) (nI (hdD d))) (2 * 0 + 1) (nI (hdD d))) := by rw [eM_62]; exact (va_up_ne _ _ (by omega)).trans h61_12
      have h62_13 : M_62 12 = eF cs 1200 (vf_upd (fun _ => 0) (600 * 0) 1090519040) := by rw [eM_62]; exact (va_up_ne _ _ (by omega)).trans h61_13
      have h62_14 : M_62 13 = eF cs 1200 (fun _ => 0) := by rw [eM_62]; exact (va_up_ne _ _ (by omega)).trans h61_14
      have h62_15 : M_62 14 = eF cs 1200 (vf_upd (fun _ => 0) (600 * 0) 1103101952) := by rw [eM_62]; exact (va_up_ne _ _ (by omega)).trans h61_15
      have h62_16 : M_62 15 = eF cs 1200 (fun _ => 0) := by rw [eM_62]; exact (va_up_ne _ _ (by omega)).trans h61_16
      have h62_17 : M_62 16 = eI cs 1200 (fun _ => 0) := by rw [eM_62]; exact (va_up_ne _ _ (by omega)).trans h61_17
      have h62_18 : M_62 17 = eD cs 1200 (fun _ => 0) := by rw [eM_62]; exact (va_up_ne _ _ (by omega)).trans h61_18
      have h62_19 : M_62 18 = eI cs 2 (fun _ => 0) := by rw [eM_62]; exact (va_up_ne _ _ (by omega)).trans h61_19
      have h62_20 : M_62 19 = eS cs 25 (fun _ => 0) := by rw [eM_62]; exact (va_up_ne _ _ (by omega)).trans h61_20
      have h62_21 : M_62 20 = eI cs 25 (fun _ => 0) := by rw [eM_62]; exact (va_up_ne _ _ (by omega)).trans h61_21
      have h62_22 : M_62 21 = eI cs 25 (fun _ => 0) := by rw [eM_62]; exact (va_up_ne _ _ (by omega)).trans h61_22
      have h62_23 : M_62 22 = eI cs 25 (fun _ => 0) := by rw [eM_62]; exact (va_up_ne _ _ (by omega)).trans h61_23
      have h62_24 : M_62 23 = eI cs 25 (fun _ => 0) := by rw [eM_62]; exact (va_up_ne _ _ (by omega)).trans h61_24
      have h62_25 : M_62 24 = eJ cs 25 (fun _ => 0) := by rw [eM_62]; exact (va_up_ne _ _ (by omega)).trans h61_25
      have h62_26 : M_62 25 = eI cs 25 (fun _ => 0) := by rw [eM_62]; exact (va_up_ne _ _ (by omega)).trans h61_26
      refine lv_aload_n hx hb dX7_init_286 rfl (lv_at hl 1 rfl) ?_
      refine m_get hx hb hts inX7 hown hK hP (ci := 7) rfl (k := 0) (by omega) h62_1 12 (by decide) (hts (.fieldLink RX7 43 "RollbackPairModel" "known" "[I") (by decide +kernel)) rfl dX7_init_287 ?_
      refine lv_iconst (v := nI 2) hx hb dX7_init_290 (by decide) ?_
      refine lv_iload hx hb dX7_init_291 (lv_at hl 0 rfl) ?_
      refine n_mul hx hb dX7_init_293 ?_
      refine lv_aload_n hx hb dX7_init_294 rfl (lv_at hl 1 rfl) ?_
      refine m_get hx hb hts inX7 hown hK hP (ci := 7) rfl (k := 0) (by omega) h62_1 0 (by decide) (hts (.fieldLink RX7 90 "RollbackPairModel" "delay" "I") (by decide +kernel)) rfl dX7_init_295 ?_
      refine b_iast hx hb hab hK hP hS (k := 11) (by omega) (f := (upd (upd (fun _ => 0) (2 * 0) (nI (hdD d))) (2 * 0 + 1) (nI (hdD d)))) h62_12 (i := 2 * 1) (by omega) (by decide) dX7_init_298 (fun H locs hP hS hq => ?_)
      replace hz := hq.trans hz
      obtain ⟨M_63, eM_63⟩ : ∃ z, z = va_up M_62 11 (eI cs 4 (upd (upd (upd (fun _ => 0) (2 * 0) (nI (hdD d))) (2 * 0 + 1) (nI (hdD d))) (2 * 1) (nI (hdD d)))) := ⟨_, rfl⟩
      rw [← eM_63] at hP
      have h63_1 : M_63 0 = .inr (7, [.int (nI (hdD d)), .int (nI (hdW w)), .ref (ad 1), .ref (ad 2), .ref (ad 3), .ref (ad 4), .ref (ad 5), .ref (ad 6), .ref (ad 7), .ref (ad 8), .ref (ad 9), .ref (ad 10), .ref (ad 11), .ref (ad 12), .ref (ad 13), .ref (ad 14), .ref (ad 15), .ref (ad 16), .ref (ad 17), .ref (ad 18), .ref (ad 19), .ref (ad 20), .ref (ad 21), .ref (ad 22), .ref (ad 23), .ref (ad 24), .ref (ad 25), .float 0, .float 0]) := by rw [eM_63]; exact (va_up_ne _ _ (by omega)).trans h62_1
      have h63_2 : M_63 1 = eI cs 2 (fun _ => 0) := by rw [eM_63]; exact (va_up_ne _ _ (by omega)).trans h62_2
      have h63_3 : M_63 2 = eI cs 2 (fun _ => 0) := by rw [eM_63]; exact (va_up_ne _ _ (by omega)).trans h62_3
      have h63_4 : M_63 3 = eI cs 2 (upd (upd (fun _ => 0) 0 (-1)) 1 (-1)) := by rw [eM_63]; exact (va_up_ne _ _ (by omega)).trans h62_4
      have h63_5 : M_63 4 = eI cs 2 (upd (upd (fun _ => 0) 0 (nI (hdD d))) 1 (nI (hdD d))) := by rw [eM_63]; exact (va_up_ne _ _ (by omega)).trans h62_5
      have h63_6 : M_63 5 = eZ cs 2 (fun _ => 0) := by rw [eM_63]; exact (va_up_ne _ _ (by omega)).trans h62_6
      have h63_7 : M_63 6 = eS cs 2 (fun _ => 0) := by rw [eM_63]; exact (va_up_ne _ _ (by omega)).trans h62_7
      have h63_8 : M_63 7 = eS cs 2 (upd (upd (fun _ => 0) 0 st.toInt16.toInt32) 1 st.toInt16.toInt32) := by rw [eM_63]; exact (va_up_ne _ _ (by omega)).trans h62_8
      have h63_9 : M_63 8 = eF cs 2 (fun _ => 0) := by rw [eM_63]; exact (va_up_ne _ _ (by omega)).trans h62_9
      have h63_10 : M_63 9 = eI cs 2400 (fun _ => 0) := by rw [eM_63]; exact (va_up_ne _ _ (by omega)).trans h62_10
      have h63_11 : M_63 10 = eI cs 2400 (fun _ => 0) := by rw [eM_63]; exact (va_up_ne _ _ (by omega)).trans h62_11
      have h63_12 : M_63 11 = eI cs 4 (upd (upd (upd (fun _ => 0) (2 * 0) (nI (hdD d))) (2 * 0 + 1) (nI (hdD d))) (2 * 1) (nI (hdD d))) := by rw [eM_63]; exact va_up_self _ _ _
      have h63_13 : M_63 12 = eF cs 1200 (vf_upd (fun _ => 0) (600 * 0) 1090519040) := by rw [eM_63]; exact (va_up_ne _ _ (by omega)).trans h62_13
      have h63_14 : M_63 13 = eF cs 1200 (fun _ => 0) := by rw [eM_63]; exact (va_up_ne _ _ (by omega)).trans h62_14
      have h63_15 : M_63 14 = eF cs 1200 (vf_upd (fun _ => 0) (600 * 0) 1103101952) := by rw [eM_63]; exact (va_up_ne _ _ (by omega)).trans h62_15
      have h63_16 : M_63 15 = eF cs 1200 (fun _ => 0) := by rw [eM_63]; exact (va_up_ne _ _ (by omega)).trans h62_16
      have h63_17 : M_63 16 = eI cs 1200 (fun _ => 0) := by rw [eM_63]; exact (va_up_ne _ _ (by omega)).trans h62_17
      have h63_18 : M_63 17 = eD cs 1200 (fun _ => 0) := by rw [eM_63]; exact (va_up_ne _ _ (by omega)).trans h62_18
      have h63_19 : M_63 18 = eI cs 2 (fun _ => 0) := by rw [eM_63]; exact (va_up_ne _ _ (by omega)).trans h62_19
      have h63_20 : M_63 19 = eS cs 25 (fun _ => 0) := by rw [eM_63]; exact (va_up_ne _ _ (by omega)).trans h62_20
      have h63_21 : M_63 20 = eI cs 25 (fun _ => 0) := by rw [eM_63]; exact (va_up_ne _ _ (by omega)).trans h62_21
      have h63_22 : M_63 21 = eI cs 25 (fun _ => 0) := by rw [eM_63]; exact (va_up_ne _ _ (by omega)).trans h62_22
      have h63_23 : M_63 22 = eI cs 25 (fun _ => 0) := by rw [eM_63]; exact (va_up_ne _ _ (by omega)).trans h62_23
      have h63_24 : M_63 23 = eI cs 25 (fun _ => 0) := by rw [eM_63]; exact (va_up_ne _ _ (by omega)).trans h62_24
      have h63_25 : M_63 24 = eJ cs 25 (fun _ => 0) := by rw [eM_63]; exact (va_up_ne _ _ (by omega)).trans h62_25
      have h63_26 : M_63 25 = eI cs 25 (fun _ => 0) := by rw [eM_63]; exact (va_up_ne _ _ (by omega)).trans h62_26
      refine lv_aload_n hx hb dX7_init_299 rfl (lv_at hl 1 rfl) ?_
      refine m_get hx hb hts inX7 hown hK hP (ci := 7) rfl (k := 0) (by omega) h63_1 12 (by decide) (hts (.fieldLink RX7 43 "RollbackPairModel" "known" "[I") (by decide +kernel)) rfl dX7_init_300 ?_
      refine lv_iconst (v := nI 2) hx hb dX7_init_303 (by decide) ?_
      refine lv_iload hx hb dX7_init_304 (lv_at hl 0 rfl) ?_
      refine n_mul hx hb dX7_init_306 ?_
      refine lv_iconst (v := nI 1) hx hb dX7_init_307 (by decide) ?_
      refine n_add hx hb dX7_init_308 ?_
      refine lv_aload_n hx hb dX7_init_309 rfl (lv_at hl 1 rfl) ?_
      refine m_get hx hb hts inX7 hown hK hP (ci := 7) rfl (k := 0) (by omega) h63_1 0 (by decide) (hts (.fieldLink RX7 90 "RollbackPairModel" "delay" "I") (by decide +kernel)) rfl dX7_init_310 ?_
      refine b_iast hx hb hab hK hP hS (k := 11) (by omega) (f := (upd (upd (upd (fun _ => 0) (2 * 0) (nI (hdD d))) (2 * 0 + 1) (nI (hdD d))) (2 * 1) (nI (hdD d)))) h63_12 (i := 2 * 1 + 1) (by omega) (by decide) dX7_init_313 (fun H locs hP hS hq => ?_)
      replace hz := hq.trans hz
      obtain ⟨M_64, eM_64⟩ : ∃ z, z = va_up M_63 11 (eI cs 4 (upd (upd (upd (upd (fun _ => 0) (2 * 0) (nI (hdD d))) (2 * 0 + 1) (nI (hdD d))) (2 * 1) (nI (hdD d))) (2 * 1 + 1) (nI (hdD d)))) := ⟨_, rfl⟩
      rw [← eM_64] at hP
      have h64_1 : M_64 0 = .inr (7, [.int (nI (hdD d)), .int (nI (hdW w)), .ref (ad 1), .ref (ad 2), .ref (ad 3), .ref (ad 4), .ref (ad 5), .ref (ad 6), .ref (ad 7), .ref (ad 8), .ref (ad 9), .ref (ad 10), .ref (ad 11), .ref (ad 12), .ref (ad 13), .ref (ad 14), .ref (ad 15), .ref (ad 16), .ref (ad 17), .ref (ad 18), .ref (ad 19), .ref (ad 20), .ref (ad 21), .ref (ad 22), .ref (ad 23), .ref (ad 24), .ref (ad 25), .float 0, .float 0]) := by rw [eM_64]; exact (va_up_ne _ _ (by omega)).trans h63_1
      have h64_2 : M_64 1 = eI cs 2 (fun _ => 0) := by rw [eM_64]; exact (va_up_ne _ _ (by omega)).trans h63_2
      have h64_3 : M_64 2 = eI cs 2 (fun _ => 0) := by rw [eM_64]; exact (va_up_ne _ _ (by omega)).trans h63_3
      have h64_4 : M_64 3 = eI cs 2 (upd (upd (fun _ => 0) 0 (-1)) 1 (-1)) := by rw [eM_64]; exact (va_up_ne _ _ (by omega)).trans h63_4
      have h64_5 : M_64 4 = eI cs 2 (upd (upd (fun _ => 0) 0 (nI (hdD d))) 1 (nI (hdD d))) := by rw [eM_64]; exact (va_up_ne _ _ (by omega)).trans h63_5
      have h64_6 : M_64 5 = eZ cs 2 (fun _ => 0) := by rw [eM_64]; exact (va_up_ne _ _ (by omega)).trans h63_6
      have h64_7 : M_64 6 = eS cs 2 (fun _ => 0) := by rw [eM_64]; exact (va_up_ne _ _ (by omega)).trans h63_7
      have h64_8 : M_64 7 = eS cs 2 (upd (upd (fun _ => 0) 0 st.toInt16.toInt32) 1 st.toInt16.toInt32) := by rw [eM_64]; exact (va_up_ne _ _ (by omega)).trans h63_8
      have h64_9 : M_64 8 = eF cs 2 (fun _ => 0) := by rw [eM_64]; exact (va_up_ne _ _ (by omega)).trans h63_9
      have h64_10 : M_64 9 = eI cs 2400 (fun _ => 0) := by rw [eM_64]; exact (va_up_ne _ _ (by omega)).trans h63_10
      have h64_11 : M_64 10 = eI cs 2400 (fun _ => 0) := by rw [eM_64]; exact (va_up_ne _ _ (by omega)).trans h63_11
      have h64_12 : M_64 11 = eI cs 4 (upd (upd (upd (upd (fun _ => 0) (2 * 0) (nI (hdD d))) (2 * 0 + 1) (nI (hdD d))) (2 * 1) (nI (hdD d))) (2 * 1 + 1) (nI (hdD d))) := by rw [eM_64]; exact va_up_self _ _ _
      have h64_13 : M_64 12 = eF cs 1200 (vf_upd (fun _ => 0) (600 * 0) 1090519040) := by rw [eM_64]; exact (va_up_ne _ _ (by omega)).trans h63_13
      have h64_14 : M_64 13 = eF cs 1200 (fun _ => 0) := by rw [eM_64]; exact (va_up_ne _ _ (by omega)).trans h63_14
      have h64_15 : M_64 14 = eF cs 1200 (vf_upd (fun _ => 0) (600 * 0) 1103101952) := by rw [eM_64]; exact (va_up_ne _ _ (by omega)).trans h63_15
      have h64_16 : M_64 15 = eF cs 1200 (fun _ => 0) := by rw [eM_64]; exact (va_up_ne _ _ (by omega)).trans h63_16
      have h64_17 : M_64 16 = eI cs 1200 (fun _ => 0) := by rw [eM_64]; exact (va_up_ne _ _ (by omega)).trans h63_17
      have h64_18 : M_64 17 = eD cs 1200 (fun _ => 0) := by rw [eM_64]; exact (va_up_ne _ _ (by omega)).trans h63_18
      have h64_19 : M_64 18 = eI cs 2 (fun _ => 0) := by rw [eM_64]; exact (va_up_ne _ _ (by omega)).trans h63_19
      have h64_20 : M_64 19 = eS cs 25 (fun _ => 0) := by rw [eM_64]; exact (va_up_ne _ _ (by omega)).trans h63_20
      have h64_21 : M_64 20 = eI cs 25 (fun _ => 0) := by rw [eM_64]; exact (va_up_ne _ _ (by omega)).trans h63_21
      have h64_22 : M_64 21 = eI cs 25 (fun _ => 0) := by rw [eM_64]; exact (va_up_ne _ _ (by omega)).trans h63_22
      have h64_23 : M_64 22 = eI cs 25 (fun _ => 0) := by rw [eM_64]; exact (va_up_ne _ _ (by omega)).trans h63_23
      have h64_24 : M_64 23 = eI cs 25 (fun _ => 0) := by rw [eM_64]; exact (va_up_ne _ _ (by omega)).trans h63_24
      have h64_25 : M_64 24 = eJ cs 25 (fun _ => 0) := by rw [eM_64]; exact (va_up_ne _ _ (by omega)).trans h63_25
      have h64_26 : M_64 25 = eI cs 25 (fun _ => 0) := by rw [eM_64]; exact (va_up_ne _ _ (by omega)).trans h63_26
      refine lv_aload_n hx hb dX7_init_314 rfl (lv_at hl 1 rfl) ?_
      refine m_get hx hb hts inX7 hown hK hP (ci := 7) rfl (k := 0) (by omega) h64_1 13 (by decide) (hts (.fieldLink RX7 46 "RollbackPairModel" "place0" "[F") (by decide +kernel)) rfl dX7_init_315 ?_
      refine lv_sipush (v := nI 600) hx hb dX7_init_318 (by decide) ?_
      refine lv_iload hx hb dX7_init_321 (lv_at hl 0 rfl) ?_
      refine n_mul hx hb dX7_init_323 ?_
      refine lv_ldcf hx hb hown (hts (.constantFloat RX7 97 (1090519040)) (by decide +kernel)) dX7_init_324 ?_
      refine b_fast hx hb hab hK hP hS (k := 12) (by omega) (f := (vf_upd (fun _ => 0) (600 * 0) 1090519040)) h64_13 (i := 600 * 1) (by omega) (by decide) dX7_init_326 (fun H locs hP hS hq => ?_)
      replace hz := hq.trans hz
      obtain ⟨M_65, eM_65⟩ : ∃ z, z = va_up M_64 12 (eF cs 1200 (vf_upd (vf_upd (fun _ => 0) (600 * 0) 1090519040) (600 * 1) 1090519040)) := ⟨_, rfl⟩
      rw [← eM_65] at hP
      have h65_1 : M_65 0 = .inr (7, [.int (nI (hdD d)), .int (nI (hdW w)), .ref (ad 1), .ref (ad 2), .ref (ad 3), .ref (ad 4), .ref (ad 5), .ref (ad 6), .ref (ad 7), .ref (ad 8), .ref (ad 9), .ref (ad 10), .ref (ad 11), .ref (ad 12), .ref (ad 13), .ref (ad 14), .ref (ad 15), .ref (ad 16), .ref (ad 17), .ref (ad 18), .ref (ad 19), .ref (ad 20), .ref (ad 21), .ref (ad 22), .ref (ad 23), .ref (ad 24), .ref (ad 25), .float 0, .float 0]) := by rw [eM_65]; exact (va_up_ne _ _ (by omega)).trans h64_1
      have h65_2 : M_65 1 = eI cs 2 (fun _ => 0) := by rw [eM_65]; exact (va_up_ne _ _ (by omega)).trans h64_2
      have h65_3 : M_65 2 = eI cs 2 (fun _ => 0) := by rw [eM_65]; exact (va_up_ne _ _ (by omega)).trans h64_3
      have h65_4 : M_65 3 = eI cs 2 (upd (upd (fun _ => 0) 0 (-1)) 1 (-1)) := by rw [eM_65]; exact (va_up_ne _ _ (by omega)).trans h64_4
      have h65_5 : M_65 4 = eI cs 2 (upd (upd (fun _ => 0) 0 (nI (hdD d))) 1 (nI (hdD d))) := by rw [eM_65]; exact (va_up_ne _ _ (by omega)).trans h64_5
      have h65_6 : M_65 5 = eZ cs 2 (fun _ => 0) := by rw [eM_65]; exact (va_up_ne _ _ (by omega)).trans h64_6
      have h65_7 : M_65 6 = eS cs 2 (fun _ => 0) := by rw [eM_65]; exact (va_up_ne _ _ (by omega)).trans h64_7
      have h65_8 : M_65 7 = eS cs 2 (upd (upd (fun _ => 0) 0 st.toInt16.toInt32) 1 st.toInt16.toInt32) := by rw [eM_65]; exact (va_up_ne _ _ (by omega)).trans h64_8
      have h65_9 : M_65 8 = eF cs 2 (fun _ => 0) := by rw [eM_65]; exact (va_up_ne _ _ (by omega)).trans h64_9
      have h65_10 : M_65 9 = eI cs 2400 (fun _ => 0) := by rw [eM_65]; exact (va_up_ne _ _ (by omega)).trans h64_10
      have h65_11 : M_65 10 = eI cs 2400 (fun _ => 0) := by rw [eM_65]; exact (va_up_ne _ _ (by omega)).trans h64_11
      have h65_12 : M_65 11 = eI cs 4 (upd (upd (upd (upd (fun _ => 0) (2 * 0) (nI (hdD d))) (2 * 0 + 1) (nI (hdD d))) (2 * 1) (nI (hdD d))) (2 * 1 + 1) (nI (hdD d))) := by rw [eM_65]; exact (va_up_ne _ _ (by omega)).trans h64_12
      have h65_13 : M_65 12 = eF cs 1200 (vf_upd (vf_upd (fun _ => 0) (600 * 0) 1090519040) (600 * 1) 1090519040) := by rw [eM_65]; exact va_up_self _ _ _
      have h65_14 : M_65 13 = eF cs 1200 (fun _ => 0) := by rw [eM_65]; exact (va_up_ne _ _ (by omega)).trans h64_14
      have h65_15 : M_65 14 = eF cs 1200 (vf_upd (fun _ => 0) (600 * 0) 1103101952) := by rw [eM_65]; exact (va_up_ne _ _ (by omega)).trans h64_15
      have h65_16 : M_65 15 = eF cs 1200 (fun _ => 0) := by rw [eM_65]; exact (va_up_ne _ _ (by omega)).trans h64_16
      have h65_17 : M_65 16 = eI cs 1200 (fun _ => 0) := by rw [eM_65]; exact (va_up_ne _ _ (by omega)).trans h64_17
      have h65_18 : M_65 17 = eD cs 1200 (fun _ => 0) := by rw [eM_65]; exact (va_up_ne _ _ (by omega)).trans h64_18
      have h65_19 : M_65 18 = eI cs 2 (fun _ => 0) := by rw [eM_65]; exact (va_up_ne _ _ (by omega)).trans h64_19
      have h65_20 : M_65 19 = eS cs 25 (fun _ => 0) := by rw [eM_65]; exact (va_up_ne _ _ (by omega)).trans h64_20
      have h65_21 : M_65 20 = eI cs 25 (fun _ => 0) := by rw [eM_65]; exact (va_up_ne _ _ (by omega)).trans h64_21
      have h65_22 : M_65 21 = eI cs 25 (fun _ => 0) := by rw [eM_65]; exact (va_up_ne _ _ (by omega)).trans h64_22
      have h65_23 : M_65 22 = eI cs 25 (fun _ => 0) := by rw [eM_65]; exact (va_up_ne _ _ (by omega)).trans h64_23
      have h65_24 : M_65 23 = eI cs 25 (fun _ => 0) := by rw [eM_65]; exact (va_up_ne _ _ (by omega)).trans h64_24
      have h65_25 : M_65 24 = eJ cs 25 (fun _ => 0) := by rw [eM_65]; exact (va_up_ne _ _ (by omega)).trans h64_25
      have h65_26 : M_65 25 = eI cs 25 (fun _ => 0) := by rw [eM_65]; exact (va_up_ne _ _ (by omega)).trans h64_26
      refine lv_aload_n hx hb dX7_init_327 rfl (lv_at hl 1 rfl) ?_
      refine m_get hx hb hts inX7 hown hK hP (ci := 7) rfl (k := 0) (by omega) h65_1 15 (by decide) (hts (.fieldLink RX7 52 "RollbackPairModel" "place1" "[F") (by decide +kernel)) rfl dX7_init_328 ?_
      refine lv_sipush (v := nI 600) hx hb dX7_init_331 (by decide) ?_
      refine lv_iload hx hb dX7_init_334 (lv_at hl 0 rfl) ?_
      refine n_mul hx hb dX7_init_336 ?_
      refine lv_ldcf hx hb hown (hts (.constantFloat RX7 98 (1103101952)) (by decide +kernel)) dX7_init_337 ?_
      refine b_fast hx hb hab hK hP hS (k := 14) (by omega) (f := (vf_upd (fun _ => 0) (600 * 0) 1103101952)) h65_15 (i := 600 * 1) (by omega) (by decide) dX7_init_339 (fun H locs hP hS hq => ?_)
      replace hz := hq.trans hz
      obtain ⟨M_66, eM_66⟩ : ∃ z, z = va_up M_65 14 (eF cs 1200 (vf_upd (vf_upd (fun _ => 0) (600 * 0) 1103101952) (600 * 1) 1103101952)) := ⟨_, rfl⟩
      rw [← eM_66] at hP
      have h66_1 : M_66 0 = .inr (7, [.int (nI (hdD d)), .int (nI (hdW w)), .ref (ad 1), .ref (ad 2), .ref (ad 3), .ref (ad 4), .ref (ad 5), .ref (ad 6), .ref (ad 7), .ref (ad 8), .ref (ad 9), .ref (ad 10), .ref (ad 11), .ref (ad 12), .ref (ad 13), .ref (ad 14), .ref (ad 15), .ref (ad 16), .ref (ad 17), .ref (ad 18), .ref (ad 19), .ref (ad 20), .ref (ad 21), .ref (ad 22), .ref (ad 23), .ref (ad 24), .ref (ad 25), .float 0, .float 0]) := by rw [eM_66]; exact (va_up_ne _ _ (by omega)).trans h65_1
      have h66_2 : M_66 1 = eI cs 2 (fun _ => 0) := by rw [eM_66]; exact (va_up_ne _ _ (by omega)).trans h65_2
      have h66_3 : M_66 2 = eI cs 2 (fun _ => 0) := by rw [eM_66]; exact (va_up_ne _ _ (by omega)).trans h65_3
      have h66_4 : M_66 3 = eI cs 2 (upd (upd (fun _ => 0) 0 (-1)) 1 (-1)) := by rw [eM_66]; exact (va_up_ne _ _ (by omega)).trans h65_4
      have h66_5 : M_66 4 = eI cs 2 (upd (upd (fun _ => 0) 0 (nI (hdD d))) 1 (nI (hdD d))) := by rw [eM_66]; exact (va_up_ne _ _ (by omega)).trans h65_5
      have h66_6 : M_66 5 = eZ cs 2 (fun _ => 0) := by rw [eM_66]; exact (va_up_ne _ _ (by omega)).trans h65_6
      have h66_7 : M_66 6 = eS cs 2 (fun _ => 0) := by rw [eM_66]; exact (va_up_ne _ _ (by omega)).trans h65_7
      have h66_8 : M_66 7 = eS cs 2 (upd (upd (fun _ => 0) 0 st.toInt16.toInt32) 1 st.toInt16.toInt32) := by rw [eM_66]; exact (va_up_ne _ _ (by omega)).trans h65_8
      have h66_9 : M_66 8 = eF cs 2 (fun _ => 0) := by rw [eM_66]; exact (va_up_ne _ _ (by omega)).trans h65_9
      have h66_10 : M_66 9 = eI cs 2400 (fun _ => 0) := by rw [eM_66]; exact (va_up_ne _ _ (by omega)).trans h65_10
      have h66_11 : M_66 10 = eI cs 2400 (fun _ => 0) := by rw [eM_66]; exact (va_up_ne _ _ (by omega)).trans h65_11
      have h66_12 : M_66 11 = eI cs 4 (upd (upd (upd (upd (fun _ => 0) (2 * 0) (nI (hdD d))) (2 * 0 + 1) (nI (hdD d))) (2 * 1) (nI (hdD d))) (2 * 1 + 1) (nI (hdD d))) := by rw [eM_66]; exact (va_up_ne _ _ (by omega)).trans h65_12
      have h66_13 : M_66 12 = eF cs 1200 (vf_upd (vf_upd (fun _ => 0) (600 * 0) 1090519040) (600 * 1) 1090519040) := by rw [eM_66]; exact (va_up_ne _ _ (by omega)).trans h65_13
      have h66_14 : M_66 13 = eF cs 1200 (fun _ => 0) := by rw [eM_66]; exact (va_up_ne _ _ (by omega)).trans h65_14
      have h66_15 : M_66 14 = eF cs 1200 (vf_upd (vf_upd (fun _ => 0) (600 * 0) 1103101952) (600 * 1) 1103101952) := by rw [eM_66]; exact va_up_self _ _ _
      have h66_16 : M_66 15 = eF cs 1200 (fun _ => 0) := by rw [eM_66]; exact (va_up_ne _ _ (by omega)).trans h65_16
      have h66_17 : M_66 16 = eI cs 1200 (fun _ => 0) := by rw [eM_66]; exact (va_up_ne _ _ (by omega)).trans h65_17
      have h66_18 : M_66 17 = eD cs 1200 (fun _ => 0) := by rw [eM_66]; exact (va_up_ne _ _ (by omega)).trans h65_18
      have h66_19 : M_66 18 = eI cs 2 (fun _ => 0) := by rw [eM_66]; exact (va_up_ne _ _ (by omega)).trans h65_19
      have h66_20 : M_66 19 = eS cs 25 (fun _ => 0) := by rw [eM_66]; exact (va_up_ne _ _ (by omega)).trans h65_20
      have h66_21 : M_66 20 = eI cs 25 (fun _ => 0) := by rw [eM_66]; exact (va_up_ne _ _ (by omega)).trans h65_21
      have h66_22 : M_66 21 = eI cs 25 (fun _ => 0) := by rw [eM_66]; exact (va_up_ne _ _ (by omega)).trans h65_22
      have h66_23 : M_66 22 = eI cs 25 (fun _ => 0) := by rw [eM_66]; exact (va_up_ne _ _ (by omega)).trans h65_23
      have h66_24 : M_66 23 = eI cs 25 (fun _ => 0) := by rw [eM_66]; exact (va_up_ne _ _ (by omega)).trans h65_24
      have h66_25 : M_66 24 = eJ cs 25 (fun _ => 0) := by rw [eM_66]; exact (va_up_ne _ _ (by omega)).trans h65_25
      have h66_26 : M_66 25 = eI cs 25 (fun _ => 0) := by rw [eM_66]; exact (va_up_ne _ _ (by omega)).trans h65_26
      refine lv_iinc (v := nI 2) (lv' := [(4, .int (nI 2)), (0, .ref (ad 0)), (1, .int d), (2, .int w), (3, .int st)]) hx hb dX7_init_340 hl (k := 0) rfl (nI_1 _) (by decide) rfl (fun ls hl => ?_)
      refine lv_goto (tgt := 260) hx hb dX7_init_343 (by decide) ?_
      refine lv_iload hx hb dX7_init_260 (lv_at hl 0 rfl) ?_
      refine lv_iconst (v := nI 2) hx hb dX7_init_262 (by decide) ?_
      refine n_cmp_ge (tgt := 346) hx hb dX7_init_263 (by decide) (by omega) (by omega) (fun c_3 => ?_) (fun c_3 => absurd c_3 (by decide))
      refine b_ret hx hb hr hlocks hK hX hP hz hS dX7_init_346 (fun k hk => ?_)
      rcases (show k = 0 ∨ k = 1 ∨ k = 2 ∨ k = 3 ∨ k = 4 ∨ k = 5 ∨ k = 6 ∨ k = 7 ∨ k = 8 ∨ k = 9 ∨ k = 10 ∨ k = 11 ∨ k = 12 ∨ k = 13 ∨ k = 14 ∨ k = 15 ∨ k = 16 ∨ k = 17 ∨ k = 18 ∨ k = 19 ∨ k = 20 ∨ k = 21 ∨ k = 22 ∨ k = 23 ∨ k = 24 ∨ k = 25 by omega) with rfl | rfl | rfl | rfl | rfl | rfl | rfl | rfl | rfl | rfl | rfl | rfl | rfl | rfl | rfl | rfl | rfl | rfl | rfl | rfl | rfl | rfl | rfl | rfl | rfl | rfl
      · exact h66_1
      · exact h66_2
      · exact h66_3
      · exact h66_4
      · exact h66_5
      · exact h66_6
      · exact h66_7
      · exact h66_8
      · exact h66_9
      · exact h66_10
      · exact h66_11
      · exact h66_12
      · exact h66_13
      · exact h66_14
      · exact h66_15
      · exact h66_16
      · exact h66_17
      · exact h66_18
      · exact h66_19
      · exact h66_20
      · exact h66_21
      · exact h66_22
      · exact h66_23
      · exact h66_24
      · exact h66_25
      · exact h66_26
    · refine lv_iload_n hx hb dX7_init_233 rfl (lv_at hl 2 rfl) ?_
      refine lv_iconst (v := nI 1) hx hb dX7_init_234 (by decide) ?_
      refine lv_icmp_ge (tgt := 242) hx hb dX7_init_235 (by decide) (fun c3 => ?_) (fun c3 => ?_)
      · refine lv_iload_n hx hb dX7_init_242 rfl (lv_at hl 2 rfl) ?_
        refine lv_bipush (v := nI 8) hx hb dX7_init_243 (by decide) ?_
        refine lv_icmp_le (tgt := 253) hx hb dX7_init_245 (by decide) (fun c4 => ?_) (fun c4 => ?_)
        · refine lv_iload_n hx hb dX7_init_253 rfl (lv_at hl 2 rfl) ?_
          refine n_val (show w = nI (hdW w) from hdW_b (Int32.not_lt.mpr c3) c4) ?_
          exact J () ls (lv_sub hl [0, 1, 2, 3] rfl)
        · refine lv_bipush (v := nI 8) hx hb dX7_init_248 (by decide) ?_
          refine lv_goto (tgt := 254) hx hb dX7_init_250 (by decide) ?_
          refine n_val (show nI 8 = nI (hdW w) from hdW_c (Int32.not_lt.mpr c3) c4) ?_
          exact J () ls (lv_sub hl [0, 1, 2, 3] rfl)
      · refine lv_iconst (v := nI 1) hx hb dX7_init_238 (by decide) ?_
        refine lv_goto (tgt := 254) hx hb dX7_init_239 (by decide) ?_
        refine n_val (show nI 1 = nI (hdW w) from hdW_a (Int32.not_le.mp c3)) ?_
        exact J () ls (lv_sub hl [0, 1, 2, 3] rfl)
  · refine lv_iload_n hx hb dX7_init_211 rfl (lv_at hl 1 rfl) ?_
    refine lv_if_ge (tgt := 219) hx hb dX7_init_212 (by decide) (fun c1 => ?_) (fun c1 => ?_)
    · refine lv_iload_n hx hb dX7_init_219 rfl (lv_at hl 1 rfl) ?_
      refine lv_iconst (v := nI 4) hx hb dX7_init_220 (by decide) ?_
      refine lv_icmp_le (tgt := 228) hx hb dX7_init_221 (by decide) (fun c2 => ?_) (fun c2 => ?_)
      · refine lv_iload_n hx hb dX7_init_228 rfl (lv_at hl 1 rfl) ?_
        refine n_val (show d = nI (hdD d) from hdD_b (Int32.not_lt.mpr c1) c2) ?_
        exact J () ls (lv_sub hl [0, 1, 2, 3] rfl)
      · refine lv_iconst (v := nI 4) hx hb dX7_init_224 (by decide) ?_
        refine lv_goto (tgt := 229) hx hb dX7_init_225 (by decide) ?_
        refine n_val (show nI 4 = nI (hdD d) from hdD_c (Int32.not_lt.mpr c1) c2) ?_
        exact J () ls (lv_sub hl [0, 1, 2, 3] rfl)
    · refine lv_iconst (v := nI 0) hx hb dX7_init_215 (by decide) ?_
      refine lv_goto (tgt := 229) hx hb dX7_init_216 (by decide) ?_
      refine n_val (show nI 0 = nI (hdD d) from hdD_a (Int32.not_le.mp c1)) ?_
      exact J () ls (lv_sub hl [0, 1, 2, 3] rfl)
