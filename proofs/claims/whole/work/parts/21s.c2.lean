theorem ps_00 : ∀ j, j < 8 → nI j &&& nI 1 = 0 → nI j &&& nI 2 = 0 → FP.fconst0 = psh (nI j) := by decide +kernel
theorem ps_01 : ∀ j, j < 8 → nI j &&& nI 1 = 0 → ¬ nI j &&& nI 2 = 0 → FP.fadd FP.fconst0 FP.fconst1 = psh (nI j) := by decide +kernel
theorem ps_10 : ∀ j, j < 8 → ¬ nI j &&& nI 1 = 0 → nI j &&& nI 2 = 0 → FP.fsub FP.fconst0 FP.fconst1 = psh (nI j) := by decide +kernel
theorem ps_11 : ∀ j, j < 8 → ¬ nI j &&& nI 1 = 0 → ¬ nI j &&& nI 2 = 0 → FP.fadd (FP.fsub FP.fconst0 FP.fconst1) FP.fconst1 = psh (nI j) := by decide +kernel
theorem br_0 : ∀ j, j < 8 → nI j &&& nI 4 = 0 → ¬ nI j &&& nI 4 = nI 4 := by decide +kernel
theorem br_1 : ∀ j, j < 8 → ¬ nI j &&& nI 4 = 0 → nI j &&& nI 4 = nI 4 := by decide +kernel
theorem b8 : ∀ j, j < 8 → (nI j).toInt8.toInt32 = nI j := by decide +kernel
theorem n_fs : vf_n32 (FP.fsub FP.fconst0 FP.fconst1) := by unfold vf_n32; decide +kernel
theorem n_fa : vf_n32 (FP.fadd FP.fconst0 FP.fconst1) := by unfold vf_n32; decide +kernel
theorem n_fb : vf_n32 (FP.fadd (FP.fsub FP.fconst0 FP.fconst1) FP.fconst1) := by unfold vf_n32; decide +kernel
/-- a State in the place k, its rows behind it -/
abbrev oSt (ad : Nat → Nat) (k : Nat) (h : Int32) (wk : UInt64) : va_E := .inr (5, [.ref (ad (k + 1)), .ref (ad (k + 2)), .int h, .double wk])
set_option maxHeartbeats 4000000 in
set_option maxRecDepth 100000 in
/-- State.move(before, pl, j) -/
theorem c_smove (l : Launch) (D : va_G) (cs : Nat → ClassId) (ad : Nat → Nat) (n : Nat) (hJ : Inj ad n) (M : Nat → va_E) (k : Nat) (X V : Nat → UInt32) (h : Int32) (wk : UInt64) (hk : k + 3 ≤ n) (h1 : M k = oSt ad k h wk) (h2 : M (k + 1) = eF cs 2 X) (h3 : M (k + 2) = eF cs 2 V) (b : Nat) (BX BV : Nat → UInt32) (bh : Int32) (bw : UInt64) (hb0 : b + 3 ≤ n) (hkb : k + 3 ≤ b ∨ b + 3 ≤ k) (g1 : M b = oSt ad b bh bw) (g2 : M (b + 1) = eF cs 2 BX) (g3 : M (b + 2) = eF cs 2 BV) (pl j : Nat) (hpl : pl < 2) (hj : j < 8) (hX : Fb (BX pl) (-(8 * e8)) (264 * e8)) (hV : Fb (BV pl) (-(32 * e8)) (32 * e8)) : CTv l yX5_move wsX5_move ({ frames := 0, cells := 0, slots := 0, locals := 0 }) D cs ad n M [.ref (ad k), .ref (ad b), .int (nI pl), .int (nI j)] (fun M2 => M2 (k + 1) = eF cs 2 (vf_upd X pl (mv (BX pl) (BV pl) (nI j)).1) ∧ M2 (k + 2) = eF cs 2 (vf_upd V pl (mv (BX pl) (BV pl) (nI j)).2) ∧ ∀ i, i ≠ k + 1 → i ≠ k + 2 → M2 i = M i) := by
  refine Met.ofW (cc := cX5_move) (maxL := 7) (ret := none) (by decide) rfl ?_
  intro p e s m args below meth c s₁ B hml hv
  obtain ⟨rfl, hP, hK⟩ := hv
  have hx := B.exec
  have hb := B.bytes
  have hr := B.returns
  have hts := atoms_spec (ws := wsX5_move) B.pre
  have hown : s.vm.findClass RX5 = some m.cls := findClass_of_methodNamed B.named
  have hlocks := B.notSynchronized
  have hS : va_S (Ad ad n) s.heap s.heap [] := va_S.rf
  have hl := lv_entry ([.ref (ad k), .ref (ad b), .int (nI pl), .int (nI j)]) (n := 7) (Nat.le_of_ble_eq_true rfl)
  rw [lg_entry_eq]
  generalize (lg_sl ([.ref (ad k), .ref (ad b), .int (nI pl), .int (nI j)]) ++ List.replicate (7 - (lg_sl ([.ref (ad k), .ref (ad b), .int (nI pl), .int (nI j)])).length) Slot.unset).toArray = ls at hl ⊢
  have hl : lv_has ls 7 [(0, .ref (ad k)), (1, .ref (ad b)), (2, .int (nI pl)), (3, .int (nI j))] := hl
  have inX5 : ∀ w ∈ u_ws RX5 TX5 4, w ∈ wsX5_move := fun w h => List.mem_cons_of_mem _ (List.mem_append_right _ h)
  refine jn (fun (z : UInt32) ls => z = psh (nI j) ∧ lv_has ls 7 [(4, .float z), (0, .ref (ad k)), (1, .ref (ad b)), (2, .int (nI pl)), (3, .int (nI j))]) 27 (fun _ => []) (fun z ls hz => ?_) (fun J => ?_)
  · obtain ⟨rfl, hl⟩ := hz
    refine jn (fun (z : UInt32) ls => z = mvS (BV pl) (nI j) ∧ lv_has ls 7 [(5, .float z), (0, .ref (ad k)), (1, .ref (ad b)), (2, .int (nI pl)), (3, .int (nI j))]) 57 (fun _ => []) (fun z ls hz => ?_) (fun J => ?_)
    · obtain ⟨rfl, hl⟩ := hz
      refine lv_aload_n hx hb dX5_move_57 rfl (lv_at hl 2 rfl) ?_
      refine m_get hx hb hts inX5 hown hK hP (ci := 5) rfl (k := b) (by omega) g1 0 (by decide) (hts (.fieldLink RX5 7 "RollbackPair$State" "places" "[F") (by decide +kernel)) rfl dX5_move_58 ?_
      refine lv_iload_n hx hb dX5_move_61 rfl (lv_at hl 3 rfl) ?_
      refine m_fald hx hb hK hP (k := (b + 1)) (by omega) (f := BX) g2 (i := pl) (by omega) (by decide) dX5_move_62 ?_
      refine lv_fload hx hb dX5_move_63 (lv_at hl 0 rfl) ?_
      refine lv_fadd hx hb dX5_move_65 (mv_x hX (mv_4 hV (nI j))).n ?_
      refine lv_fstore (lv' := [(6, .float (FP.fadd (BX pl) (mvS (BV pl) (nI j)))), (5, .float (mvS (BV pl) (nI j))), (0, .ref (ad k)), (1, .ref (ad b)), (2, .int (nI pl)), (3, .int (nI j))]) hx hb dX5_move_66 hl (by decide) rfl (fun ls hl => ?_)
      refine lv_fload hx hb dX5_move_68 (lv_at hl 0 rfl) ?_
      refine lv_fconst0 hx hb dX5_move_70 ?_
      refine lv_fcmp hx hb dX5_move_71 ?_
      refine lv_if_ge (tgt := 91) hx hb dX5_move_72 (by decide) (fun c1 => ?_) (fun c1 => ?_)
      · refine lv_fload hx hb dX5_move_91 (lv_at hl 0 rfl) ?_
        refine lv_ldcf hx hb hown (hts (.constantFloat RX5 36 (1107296256)) (by decide +kernel)) dX5_move_93 ?_
        refine lv_fcmp hx hb dX5_move_95 ?_
        refine lv_if_le (tgt := 114) hx hb dX5_move_96 (by decide) (fun c2 => ?_) (fun c2 => ?_)
        · refine lv_aload_n hx hb dX5_move_114 rfl (lv_at hl 2 rfl) ?_
          refine m_get hx hb hts inX5 hown hK hP (ci := 5) rfl (k := k) (by omega) h1 0 (by decide) (hts (.fieldLink RX5 7 "RollbackPair$State" "places" "[F") (by decide +kernel)) rfl dX5_move_115 ?_
          refine lv_iload_n hx hb dX5_move_118 rfl (lv_at hl 4 rfl) ?_
          refine lv_fload hx hb dX5_move_119 (lv_at hl 0 rfl) ?_
          refine m_fast hx hb hK hP hJ hS (k := (k + 1)) (by omega) (f := X) h2 (i := pl) (by omega) (by decide) dX5_move_121 (fun H locs hP hS => ?_)
          obtain ⟨M_1, eM_1⟩ : ∃ z, z = va_up M (k + 1) (eF cs 2 (vf_upd X pl (FP.fadd (BX pl) (mvS (BV pl) (nI j))))) := ⟨_, rfl⟩
          rw [← eM_1] at hP
          have h1_1 : M_1 k = .inr (5, [.ref (ad (k + 1)), .ref (ad (k + 2)), .int h, .double wk]) := by rw [eM_1]; exact (va_up_ne _ _ (by omega)).trans h1
          have h1_2 : M_1 (k + 1) = eF cs 2 (vf_upd X pl (FP.fadd (BX pl) (mvS (BV pl) (nI j)))) := by rw [eM_1]; exact va_up_self _ _ _
          have h1_3 : M_1 (k + 2) = eF cs 2 V := by rw [eM_1]; exact (va_up_ne _ _ (by omega)).trans h3
          have h1_4 : M_1 b = .inr (5, [.ref (ad (b + 1)), .ref (ad (b + 2)), .int bh, .double bw]) := by rw [eM_1]; exact (va_up_ne _ _ (by omega)).trans g1
          have h1_5 : M_1 (b + 1) = eF cs 2 BX := by rw [eM_1]; exact (va_up_ne _ _ (by omega)).trans g2
          have h1_6 : M_1 (b + 2) = eF cs 2 BV := by rw [eM_1]; exact (va_up_ne _ _ (by omega)).trans g3
          refine lv_aload_n hx hb dX5_move_122 rfl (lv_at hl 2 rfl) ?_
          refine m_get hx hb hts inX5 hown hK hP (ci := 5) rfl (k := k) (by omega) h1_1 1 (by decide) (hts (.fieldLink RX5 13 "RollbackPair$State" "speeds" "[F") (by decide +kernel)) rfl dX5_move_123 ?_
          refine lv_iload_n hx hb dX5_move_126 rfl (lv_at hl 4 rfl) ?_
          refine lv_fload hx hb dX5_move_127 (lv_at hl 1 rfl) ?_
          refine m_fast hx hb hK hP hJ hS (k := (k + 2)) (by omega) (f := V) h1_3 (i := pl) (by omega) (by decide) dX5_move_129 (fun H locs hP hS => ?_)
          obtain ⟨M_2, eM_2⟩ : ∃ z, z = va_up M_1 (k + 2) (eF cs 2 (vf_upd V pl (mvS (BV pl) (nI j)))) := ⟨_, rfl⟩
          rw [← eM_2] at hP
          have h2_1 : M_2 k = .inr (5, [.ref (ad (k + 1)), .ref (ad (k + 2)), .int h, .double wk]) := by rw [eM_2]; exact (va_up_ne _ _ (by omega)).trans h1_1
          have h2_2 : M_2 (k + 1) = eF cs 2 (vf_upd X pl (FP.fadd (BX pl) (mvS (BV pl) (nI j)))) := by rw [eM_2]; exact (va_up_ne _ _ (by omega)).trans h1_2
          have h2_3 : M_2 (k + 2) = eF cs 2 (vf_upd V pl (mvS (BV pl) (nI j))) := by rw [eM_2]; exact va_up_self _ _ _
          have h2_4 : M_2 b = .inr (5, [.ref (ad (b + 1)), .ref (ad (b + 2)), .int bh, .double bw]) := by rw [eM_2]; exact (va_up_ne _ _ (by omega)).trans h1_4
          have h2_5 : M_2 (b + 1) = eF cs 2 BX := by rw [eM_2]; exact (va_up_ne _ _ (by omega)).trans h1_5
          have h2_6 : M_2 (b + 2) = eF cs 2 BV := by rw [eM_2]; exact (va_up_ne _ _ (by omega)).trans h1_6
          exact r_v hx hb hr hlocks hK hP hS dX5_move_130 ⟨by rw [mv_e3 c1 c2]; exact h2_2, by rw [mv_e3 c1 c2]; exact h2_3, fun i q1 q2 => by rw [eM_2, va_up_ne _ _ (by omega), eM_1, va_up_ne _ _ (by omega)]⟩
        · refine lv_ldcf hx hb hown (hts (.constantFloat RX5 37 (1115684864)) (by decide +kernel)) dX5_move_99 ?_
          refine lv_fload hx hb dX5_move_101 (lv_at hl 0 rfl) ?_
          refine lv_fsub hx hb dX5_move_103 (mv_64 (mv_x hX (mv_4 hV (nI j))) (mv_gt (mv_x hX (mv_4 hV (nI j))).1 c2)).n ?_
          refine lv_fstore (lv' := [(6, .float (FP.fsub 1115684864 (FP.fadd (BX pl) (mvS (BV pl) (nI j))))), (5, .float (mvS (BV pl) (nI j))), (0, .ref (ad k)), (1, .ref (ad b)), (2, .int (nI pl)), (3, .int (nI j))]) hx hb dX5_move_104 hl (by decide) rfl (fun ls hl => ?_)
          refine lv_fload hx hb dX5_move_106 (lv_at hl 1 rfl) ?_
          refine lv_fneg hx hb dX5_move_108 ?_
          refine lv_ldcf hx hb hown (hts (.constantFloat RX5 35 (1056964608)) (by decide +kernel)) dX5_move_109 ?_
          refine lv_fmul hx hb dX5_move_111 (mv_5 (mv_4 hV (nI j))).n ?_
          refine lv_fstore (lv' := [(5, .float (FP.fmul (FP.fneg (mvS (BV pl) (nI j))) 1056964608)), (6, .float (FP.fsub 1115684864 (FP.fadd (BX pl) (mvS (BV pl) (nI j))))), (0, .ref (ad k)), (1, .ref (ad b)), (2, .int (nI pl)), (3, .int (nI j))]) hx hb dX5_move_112 hl (by decide) rfl (fun ls hl => ?_)
          refine lv_aload_n hx hb dX5_move_114 rfl (lv_at hl 2 rfl) ?_
          refine m_get hx hb hts inX5 hown hK hP (ci := 5) rfl (k := k) (by omega) h1 0 (by decide) (hts (.fieldLink RX5 7 "RollbackPair$State" "places" "[F") (by decide +kernel)) rfl dX5_move_115 ?_
          refine lv_iload_n hx hb dX5_move_118 rfl (lv_at hl 4 rfl) ?_
          refine lv_fload hx hb dX5_move_119 (lv_at hl 1 rfl) ?_
          refine m_fast hx hb hK hP hJ hS (k := (k + 1)) (by omega) (f := X) h2 (i := pl) (by omega) (by decide) dX5_move_121 (fun H locs hP hS => ?_)
          obtain ⟨M_3, eM_3⟩ : ∃ z, z = va_up M (k + 1) (eF cs 2 (vf_upd X pl (FP.fsub 1115684864 (FP.fadd (BX pl) (mvS (BV pl) (nI j)))))) := ⟨_, rfl⟩
          rw [← eM_3] at hP
          have h3_1 : M_3 k = .inr (5, [.ref (ad (k + 1)), .ref (ad (k + 2)), .int h, .double wk]) := by rw [eM_3]; exact (va_up_ne _ _ (by omega)).trans h1
          have h3_2 : M_3 (k + 1) = eF cs 2 (vf_upd X pl (FP.fsub 1115684864 (FP.fadd (BX pl) (mvS (BV pl) (nI j))))) := by rw [eM_3]; exact va_up_self _ _ _
          have h3_3 : M_3 (k + 2) = eF cs 2 V := by rw [eM_3]; exact (va_up_ne _ _ (by omega)).trans h3
          have h3_4 : M_3 b = .inr (5, [.ref (ad (b + 1)), .ref (ad (b + 2)), .int bh, .double bw]) := by rw [eM_3]; exact (va_up_ne _ _ (by omega)).trans g1
          have h3_5 : M_3 (b + 1) = eF cs 2 BX := by rw [eM_3]; exact (va_up_ne _ _ (by omega)).trans g2
          have h3_6 : M_3 (b + 2) = eF cs 2 BV := by rw [eM_3]; exact (va_up_ne _ _ (by omega)).trans g3
          refine lv_aload_n hx hb dX5_move_122 rfl (lv_at hl 2 rfl) ?_
          refine m_get hx hb hts inX5 hown hK hP (ci := 5) rfl (k := k) (by omega) h3_1 1 (by decide) (hts (.fieldLink RX5 13 "RollbackPair$State" "speeds" "[F") (by decide +kernel)) rfl dX5_move_123 ?_
          refine lv_iload_n hx hb dX5_move_126 rfl (lv_at hl 4 rfl) ?_
          refine lv_fload hx hb dX5_move_127 (lv_at hl 0 rfl) ?_
          refine m_fast hx hb hK hP hJ hS (k := (k + 2)) (by omega) (f := V) h3_3 (i := pl) (by omega) (by decide) dX5_move_129 (fun H locs hP hS => ?_)
          obtain ⟨M_4, eM_4⟩ : ∃ z, z = va_up M_3 (k + 2) (eF cs 2 (vf_upd V pl (FP.fmul (FP.fneg (mvS (BV pl) (nI j))) 1056964608))) := ⟨_, rfl⟩
          rw [← eM_4] at hP
          have h4_1 : M_4 k = .inr (5, [.ref (ad (k + 1)), .ref (ad (k + 2)), .int h, .double wk]) := by rw [eM_4]; exact (va_up_ne _ _ (by omega)).trans h3_1
          have h4_2 : M_4 (k + 1) = eF cs 2 (vf_upd X pl (FP.fsub 1115684864 (FP.fadd (BX pl) (mvS (BV pl) (nI j))))) := by rw [eM_4]; exact (va_up_ne _ _ (by omega)).trans h3_2
          have h4_3 : M_4 (k + 2) = eF cs 2 (vf_upd V pl (FP.fmul (FP.fneg (mvS (BV pl) (nI j))) 1056964608)) := by rw [eM_4]; exact va_up_self _ _ _
          have h4_4 : M_4 b = .inr (5, [.ref (ad (b + 1)), .ref (ad (b + 2)), .int bh, .double bw]) := by rw [eM_4]; exact (va_up_ne _ _ (by omega)).trans h3_4
          have h4_5 : M_4 (b + 1) = eF cs 2 BX := by rw [eM_4]; exact (va_up_ne _ _ (by omega)).trans h3_5
          have h4_6 : M_4 (b + 2) = eF cs 2 BV := by rw [eM_4]; exact (va_up_ne _ _ (by omega)).trans h3_6
          exact r_v hx hb hr hlocks hK hP hS dX5_move_130 ⟨by rw [mv_e2 c1 c2]; exact h4_2, by rw [mv_e2 c1 c2]; exact h4_3, fun i q1 q2 => by rw [eM_4, va_up_ne _ _ (by omega), eM_3, va_up_ne _ _ (by omega)]⟩
      · refine lv_fload hx hb dX5_move_75 (lv_at hl 0 rfl) ?_
        refine lv_fneg hx hb dX5_move_77 ?_
        refine lv_fstore (lv' := [(6, .float (FP.fneg (FP.fadd (BX pl) (mvS (BV pl) (nI j))))), (5, .float (mvS (BV pl) (nI j))), (0, .ref (ad k)), (1, .ref (ad b)), (2, .int (nI pl)), (3, .int (nI j))]) hx hb dX5_move_78 hl (by decide) rfl (fun ls hl => ?_)
        refine lv_fload hx hb dX5_move_80 (lv_at hl 1 rfl) ?_
        refine lv_fneg hx hb dX5_move_82 ?_
        refine lv_ldcf hx hb hown (hts (.constantFloat RX5 35 (1056964608)) (by decide +kernel)) dX5_move_83 ?_
        refine lv_fmul hx hb dX5_move_85 (mv_5 (mv_4 hV (nI j))).n ?_
        refine lv_fstore (lv' := [(5, .float (FP.fmul (FP.fneg (mvS (BV pl) (nI j))) 1056964608)), (6, .float (FP.fneg (FP.fadd (BX pl) (mvS (BV pl) (nI j))))), (0, .ref (ad k)), (1, .ref (ad b)), (2, .int (nI pl)), (3, .int (nI j))]) hx hb dX5_move_86 hl (by decide) rfl (fun ls hl => ?_)
        refine lv_goto (tgt := 114) hx hb dX5_move_88 (by decide) ?_
        refine lv_aload_n hx hb dX5_move_114 rfl (lv_at hl 2 rfl) ?_
        refine m_get hx hb hts inX5 hown hK hP (ci := 5) rfl (k := k) (by omega) h1 0 (by decide) (hts (.fieldLink RX5 7 "RollbackPair$State" "places" "[F") (by decide +kernel)) rfl dX5_move_115 ?_
        refine lv_iload_n hx hb dX5_move_118 rfl (lv_at hl 4 rfl) ?_
        refine lv_fload hx hb dX5_move_119 (lv_at hl 1 rfl) ?_
        refine m_fast hx hb hK hP hJ hS (k := (k + 1)) (by omega) (f := X) h2 (i := pl) (by omega) (by decide) dX5_move_121 (fun H locs hP hS => ?_)
        obtain ⟨M_5, eM_5⟩ : ∃ z, z = va_up M (k + 1) (eF cs 2 (vf_upd X pl (FP.fneg (FP.fadd (BX pl) (mvS (BV pl) (nI j)))))) := ⟨_, rfl⟩
        rw [← eM_5] at hP
        have h5_1 : M_5 k = .inr (5, [.ref (ad (k + 1)), .ref (ad (k + 2)), .int h, .double wk]) := by rw [eM_5]; exact (va_up_ne _ _ (by omega)).trans h1
        have h5_2 : M_5 (k + 1) = eF cs 2 (vf_upd X pl (FP.fneg (FP.fadd (BX pl) (mvS (BV pl) (nI j))))) := by rw [eM_5]; exact va_up_self _ _ _
        have h5_3 : M_5 (k + 2) = eF cs 2 V := by rw [eM_5]; exact (va_up_ne _ _ (by omega)).trans h3
        have h5_4 : M_5 b = .inr (5, [.ref (ad (b + 1)), .ref (ad (b + 2)), .int bh, .double bw]) := by rw [eM_5]; exact (va_up_ne _ _ (by omega)).trans g1
        have h5_5 : M_5 (b + 1) = eF cs 2 BX := by rw [eM_5]; exact (va_up_ne _ _ (by omega)).trans g2
        have h5_6 : M_5 (b + 2) = eF cs 2 BV := by rw [eM_5]; exact (va_up_ne _ _ (by omega)).trans g3
        refine lv_aload_n hx hb dX5_move_122 rfl (lv_at hl 2 rfl) ?_
        refine m_get hx hb hts inX5 hown hK hP (ci := 5) rfl (k := k) (by omega) h5_1 1 (by decide) (hts (.fieldLink RX5 13 "RollbackPair$State" "speeds" "[F") (by decide +kernel)) rfl dX5_move_123 ?_
        refine lv_iload_n hx hb dX5_move_126 rfl (lv_at hl 4 rfl) ?_
        refine lv_fload hx hb dX5_move_127 (lv_at hl 0 rfl) ?_
        refine m_fast hx hb hK hP hJ hS (k := (k + 2)) (by omega) (f := V) h5_3 (i := pl) (by omega) (by decide) dX5_move_129 (fun H locs hP hS => ?_)
        obtain ⟨M_6, eM_6⟩ : ∃ z, z = va_up M_5 (k + 2) (eF cs 2 (vf_upd V pl (FP.fmul (FP.fneg (mvS (BV pl) (nI j))) 1056964608))) := ⟨_, rfl⟩
        rw [← eM_6] at hP
        have h6_1 : M_6 k = .inr (5, [.ref (ad (k + 1)), .ref (ad (k + 2)), .int h, .double wk]) := by rw [eM_6]; exact (va_up_ne _ _ (by omega)).trans h5_1
        have h6_2 : M_6 (k + 1) = eF cs 2 (vf_upd X pl (FP.fneg (FP.fadd (BX pl) (mvS (BV pl) (nI j))))) := by rw [eM_6]; exact (va_up_ne _ _ (by omega)).trans h5_2
        have h6_3 : M_6 (k + 2) = eF cs 2 (vf_upd V pl (FP.fmul (FP.fneg (mvS (BV pl) (nI j))) 1056964608)) := by rw [eM_6]; exact va_up_self _ _ _
        have h6_4 : M_6 b = .inr (5, [.ref (ad (b + 1)), .ref (ad (b + 2)), .int bh, .double bw]) := by rw [eM_6]; exact (va_up_ne _ _ (by omega)).trans h5_4
        have h6_5 : M_6 (b + 1) = eF cs 2 BX := by rw [eM_6]; exact (va_up_ne _ _ (by omega)).trans h5_5
        have h6_6 : M_6 (b + 2) = eF cs 2 BV := by rw [eM_6]; exact (va_up_ne _ _ (by omega)).trans h5_6
        exact r_v hx hb hr hlocks hK hP hS dX5_move_130 ⟨by rw [mv_e1 c1]; exact h6_2, by rw [mv_e1 c1]; exact h6_3, fun i q1 q2 => by rw [eM_6, va_up_ne _ _ (by omega), eM_5, va_up_ne _ _ (by omega)]⟩
    · refine lv_aload_n hx hb dX5_move_27 rfl (lv_at hl 2 rfl) ?_
      refine m_get hx hb hts inX5 hown hK hP (ci := 5) rfl (k := b) (by omega) g1 1 (by decide) (hts (.fieldLink RX5 13 "RollbackPair$State" "speeds" "[F") (by decide +kernel)) rfl dX5_move_28 ?_
      refine lv_iload_n hx hb dX5_move_31 rfl (lv_at hl 3 rfl) ?_
      refine m_fald hx hb hK hP (k := (b + 2)) (by omega) (f := BV) g3 (i := pl) (by omega) (by decide) dX5_move_32 ?_
      refine lv_ldcf hx hb hown (hts (.constantFloat RX5 33 (1063256064)) (by decide +kernel)) dX5_move_33 ?_
      refine lv_fmul hx hb dX5_move_35 (mv_1 hV).n ?_
      refine lv_fload hx hb dX5_move_36 (lv_at hl 0 rfl) ?_
      refine lv_ldcf hx hb hown (hts (.constantFloat RX5 34 (1050253722)) (by decide +kernel)) dX5_move_38 ?_
      refine lv_fmul hx hb dX5_move_40 (mv_2 (nI j)).n ?_
      refine lv_fadd hx hb dX5_move_41 (mv_3 hV (nI j)).n ?_
      refine lv_fstore (lv' := [(5, .float (mvV (BV pl) (nI j))), (4, .float (psh (nI j))), (0, .ref (ad k)), (1, .ref (ad b)), (2, .int (nI pl)), (3, .int (nI j))]) hx hb dX5_move_42 hl (by decide) rfl (fun ls hl => ?_)
      refine lv_iload_n hx hb dX5_move_44 rfl (lv_at hl 5 rfl) ?_
      refine lv_iconst (v := nI 4) hx hb dX5_move_45 (by decide) ?_
      refine lv_iand hx hb dX5_move_46 ?_
      refine lv_if_eq (tgt := 57) hx hb dX5_move_47 (by decide) (fun c3 => ?_) (fun c3 => ?_)
      · exact J _ ls ⟨by unfold mvS; rw [if_neg (br_0 j hj c3)], lv_sub hl [0, 2, 3, 4, 5] rfl⟩
      · refine lv_fload hx hb dX5_move_50 (lv_at hl 0 rfl) ?_
        refine lv_ldcf hx hb hown (hts (.constantFloat RX5 35 (1056964608)) (by decide +kernel)) dX5_move_52 ?_
        refine lv_fmul hx hb dX5_move_54 (mv_h (mv_3 hV (nI j))).n ?_
        refine lv_fstore (lv' := [(5, .float (FP.fmul (mvV (BV pl) (nI j)) 1056964608)), (4, .float (psh (nI j))), (0, .ref (ad k)), (1, .ref (ad b)), (2, .int (nI pl)), (3, .int (nI j))]) hx hb dX5_move_55 hl (by decide) rfl (fun ls hl => ?_)
        exact J _ ls ⟨by unfold mvS; rw [if_pos (br_1 j hj c3)], lv_sub hl [0, 2, 3, 4, 5] rfl⟩
  · refine lv_fconst0 hx hb dX5_move_0 ?_
    refine lv_fstore (lv' := [(4, .float FP.fconst0), (0, .ref (ad k)), (1, .ref (ad b)), (2, .int (nI pl)), (3, .int (nI j))]) hx hb dX5_move_1 hl (by decide) rfl (fun ls hl => ?_)
    refine lv_iload_n hx hb dX5_move_3 rfl (lv_at hl 4 rfl) ?_
    refine lv_iconst (v := nI 1) hx hb dX5_move_4 (by decide) ?_
    refine lv_iand hx hb dX5_move_5 ?_
    refine lv_if_eq (tgt := 15) hx hb dX5_move_6 (by decide) (fun cL => ?_) (fun cL => ?_)
    · refine lv_iload_n hx hb dX5_move_15 rfl (lv_at hl 4 rfl) ?_
      refine lv_iconst (v := nI 2) hx hb dX5_move_16 (by decide) ?_
      refine lv_iand hx hb dX5_move_17 ?_
      refine lv_if_eq (tgt := 27) hx hb dX5_move_18 (by decide) (fun cR => ?_) (fun cR => ?_)
      · exact J _ ls ⟨ps_00 j hj cL cR, lv_sub hl [0, 1, 2, 3, 4] rfl⟩
      · refine lv_fload hx hb dX5_move_21 (lv_at hl 0 rfl) ?_
        refine lv_fconst1 hx hb dX5_move_23 ?_
        refine lv_fadd hx hb dX5_move_24 (by first | exact n_fa | exact n_fb) ?_
        refine lv_fstore (lv' := [(4, .float (FP.fadd FP.fconst0 FP.fconst1)), (0, .ref (ad k)), (1, .ref (ad b)), (2, .int (nI pl)), (3, .int (nI j))]) hx hb dX5_move_25 hl (by decide) rfl (fun ls hl => ?_)
        exact J _ ls ⟨ps_01 j hj cL cR, lv_sub hl [0, 1, 2, 3, 4] rfl⟩
    · refine lv_fload hx hb dX5_move_9 (lv_at hl 0 rfl) ?_
      refine lv_fconst1 hx hb dX5_move_11 ?_
      refine lv_fsub hx hb dX5_move_12 n_fs ?_
      refine lv_fstore (lv' := [(4, .float (FP.fsub FP.fconst0 FP.fconst1)), (0, .ref (ad k)), (1, .ref (ad b)), (2, .int (nI pl)), (3, .int (nI j))]) hx hb dX5_move_13 hl (by decide) rfl (fun ls hl => ?_)
      refine lv_iload_n hx hb dX5_move_15 rfl (lv_at hl 4 rfl) ?_
      refine lv_iconst (v := nI 2) hx hb dX5_move_16 (by decide) ?_
      refine lv_iand hx hb dX5_move_17 ?_
      refine lv_if_eq (tgt := 27) hx hb dX5_move_18 (by decide) (fun cR => ?_) (fun cR => ?_)
      · exact J _ ls ⟨ps_10 j hj cL cR, lv_sub hl [0, 1, 2, 3, 4] rfl⟩
      · refine lv_fload hx hb dX5_move_21 (lv_at hl 0 rfl) ?_
        refine lv_fconst1 hx hb dX5_move_23 ?_
        refine lv_fadd hx hb dX5_move_24 (by first | exact n_fa | exact n_fb) ?_
        refine lv_fstore (lv' := [(4, .float (FP.fadd (FP.fsub FP.fconst0 FP.fconst1) FP.fconst1)), (0, .ref (ad k)), (1, .ref (ad b)), (2, .int (nI pl)), (3, .int (nI j))]) hx hb dX5_move_25 hl (by decide) rfl (fun ls hl => ?_)
        exact J _ ls ⟨ps_11 j hj cL cR, lv_sub hl [0, 1, 2, 3, 4] rfl⟩
set_option maxHeartbeats 4000000 in
set_option maxRecDepth 100000 in
/-- State.bounceApart() -/
theorem c_bounce (l : Launch) (D : va_G) (cs : Nat → ClassId) (ad : Nat → Nat) (n : Nat) (hJ : Inj ad n) (M : Nat → va_E) (k : Nat) (X V : Nat → UInt32) (h : Int32) (wk : UInt64) (hk : k + 3 ≤ n) (h1 : M k = oSt ad k h wk) (h2 : M (k + 1) = eF cs 2 X) (h3 : M (k + 2) = eF cs 2 V) (hx0 : Fb (X 0) 0 (256 * e8)) (hx1 : Fb (X 1) 0 (256 * e8)) : CTv l yX5_bounceApart wsX5_bounceApart ({ frames := 0, cells := 0, slots := 0, locals := 0 }) D cs ad n M [.ref (ad k)] (fun M2 => M2 k = oSt ad k (h + nI 1) wk ∧ (∃ X2, M2 (k + 1) = eF cs 2 X2 ∧ X2 0 = FP.fsub (FP.fmul (FP.fadd (X 0) (X 1)) 1056964608) 1056964608 ∧ X2 1 = FP.fadd (FP.fmul (FP.fadd (X 0) (X 1)) 1056964608) 1056964608) ∧ (∃ V2, M2 (k + 2) = eF cs 2 V2 ∧ V2 0 = V 1 ∧ V2 1 = V 0) ∧ ∀ i, (i < k ∨ k + 3 ≤ i) → M2 i = M i) := by
  refine Met.ofW (cc := cX5_bounceApart) (maxL := 3) (ret := none) (by decide) rfl ?_
  intro p e s m args below meth c s₁ B hml hv
  obtain ⟨rfl, hP, hK⟩ := hv
  have hx := B.exec
  have hb := B.bytes
  have hr := B.returns
  have hts := atoms_spec (ws := wsX5_bounceApart) B.pre
  have hown : s.vm.findClass RX5 = some m.cls := findClass_of_methodNamed B.named
  have hlocks := B.notSynchronized
  have hS : va_S (Ad ad n) s.heap s.heap [] := va_S.rf
  have hl := lv_entry ([.ref (ad k)]) (n := 3) (Nat.le_of_ble_eq_true rfl)
  rw [lg_entry_eq]
  generalize (lg_sl ([.ref (ad k)]) ++ List.replicate (3 - (lg_sl ([.ref (ad k)])).length) Slot.unset).toArray = ls at hl ⊢
  have hl : lv_has ls 3 [(0, .ref (ad k))] := hl
  have inX5 : ∀ w ∈ u_ws RX5 TX5 4, w ∈ wsX5_bounceApart := fun w h => List.mem_cons_of_mem _ (List.mem_append_right _ h)
  refine lv_aload_n hx hb dX5_bounceApart_0 rfl (lv_at hl 0 rfl) ?_
  refine m_get hx hb hts inX5 hown hK hP (ci := 5) rfl (k := k) (by omega) h1 1 (by decide) (hts (.fieldLink RX5 13 "RollbackPair$State" "speeds" "[F") (by decide +kernel)) rfl dX5_bounceApart_1 ?_
  refine lv_iconst (v := nI 0) hx hb dX5_bounceApart_4 (by decide) ?_
  refine m_fald hx hb hK hP (k := (k + 2)) (by omega) (f := V) h3 (i := 0) (by omega) (by decide) dX5_bounceApart_5 ?_
  refine lv_fstore_n (lv' := [(1, .float (V 0)), (0, .ref (ad k))]) hx hb dX5_bounceApart_6 rfl hl (by decide) rfl (fun ls hl => ?_)
  refine lv_aload_n hx hb dX5_bounceApart_7 rfl (lv_at hl 1 rfl) ?_
  refine m_get hx hb hts inX5 hown hK hP (ci := 5) rfl (k := k) (by omega) h1 1 (by decide) (hts (.fieldLink RX5 13 "RollbackPair$State" "speeds" "[F") (by decide +kernel)) rfl dX5_bounceApart_8 ?_
  refine lv_iconst (v := nI 0) hx hb dX5_bounceApart_11 (by decide) ?_
  refine lv_aload_n hx hb dX5_bounceApart_12 rfl (lv_at hl 1 rfl) ?_
  refine m_get hx hb hts inX5 hown hK hP (ci := 5) rfl (k := k) (by omega) h1 1 (by decide) (hts (.fieldLink RX5 13 "RollbackPair$State" "speeds" "[F") (by decide +kernel)) rfl dX5_bounceApart_13 ?_
  refine lv_iconst (v := nI 1) hx hb dX5_bounceApart_16 (by decide) ?_
  refine m_fald hx hb hK hP (k := (k + 2)) (by omega) (f := V) h3 (i := 1) (by omega) (by decide) dX5_bounceApart_17 ?_
  refine m_fast hx hb hK hP hJ hS (k := (k + 2)) (by omega) (f := V) h3 (i := 0) (by omega) (by decide) dX5_bounceApart_18 (fun H locs hP hS => ?_)
  obtain ⟨M_1, eM_1⟩ : ∃ z, z = va_up M (k + 2) (eF cs 2 (vf_upd V 0 (V 1))) := ⟨_, rfl⟩
  rw [← eM_1] at hP
  have h1_1 : M_1 k = .inr (5, [.ref (ad (k + 1)), .ref (ad (k + 2)), .int h, .double wk]) := by rw [eM_1]; exact (va_up_ne _ _ (by omega)).trans h1
  have h1_2 : M_1 (k + 1) = eF cs 2 X := by rw [eM_1]; exact (va_up_ne _ _ (by omega)).trans h2
  have h1_3 : M_1 (k + 2) = eF cs 2 (vf_upd V 0 (V 1)) := by rw [eM_1]; exact va_up_self _ _ _
  refine lv_aload_n hx hb dX5_bounceApart_19 rfl (lv_at hl 1 rfl) ?_
  refine m_get hx hb hts inX5 hown hK hP (ci := 5) rfl (k := k) (by omega) h1_1 1 (by decide) (hts (.fieldLink RX5 13 "RollbackPair$State" "speeds" "[F") (by decide +kernel)) rfl dX5_bounceApart_20 ?_
  refine lv_iconst (v := nI 1) hx hb dX5_bounceApart_23 (by decide) ?_
  refine lv_fload_n hx hb dX5_bounceApart_24 rfl (lv_at hl 0 rfl) ?_
  refine m_fast hx hb hK hP hJ hS (k := (k + 2)) (by omega) (f := (vf_upd V 0 (V 1))) h1_3 (i := 1) (by omega) (by decide) dX5_bounceApart_25 (fun H locs hP hS => ?_)
  obtain ⟨M_2, eM_2⟩ : ∃ z, z = va_up M_1 (k + 2) (eF cs 2 (vf_upd (vf_upd V 0 (V 1)) 1 (V 0))) := ⟨_, rfl⟩
  rw [← eM_2] at hP
  have h2_1 : M_2 k = .inr (5, [.ref (ad (k + 1)), .ref (ad (k + 2)), .int h, .double wk]) := by rw [eM_2]; exact (va_up_ne _ _ (by omega)).trans h1_1
  have h2_2 : M_2 (k + 1) = eF cs 2 X := by rw [eM_2]; exact (va_up_ne _ _ (by omega)).trans h1_2
  have h2_3 : M_2 (k + 2) = eF cs 2 (vf_upd (vf_upd V 0 (V 1)) 1 (V 0)) := by rw [eM_2]; exact va_up_self _ _ _
  refine lv_aload_n hx hb dX5_bounceApart_26 rfl (lv_at hl 1 rfl) ?_
  refine m_get hx hb hts inX5 hown hK hP (ci := 5) rfl (k := k) (by omega) h2_1 0 (by decide) (hts (.fieldLink RX5 7 "RollbackPair$State" "places" "[F") (by decide +kernel)) rfl dX5_bounceApart_27 ?_
  refine lv_iconst (v := nI 0) hx hb dX5_bounceApart_30 (by decide) ?_
  refine m_fald hx hb hK hP (k := (k + 1)) (by omega) (f := X) h2_2 (i := 0) (by omega) (by decide) dX5_bounceApart_31 ?_
  refine lv_aload_n hx hb dX5_bounceApart_32 rfl (lv_at hl 1 rfl) ?_
  refine m_get hx hb hts inX5 hown hK hP (ci := 5) rfl (k := k) (by omega) h2_1 0 (by decide) (hts (.fieldLink RX5 7 "RollbackPair$State" "places" "[F") (by decide +kernel)) rfl dX5_bounceApart_33 ?_
  refine lv_iconst (v := nI 1) hx hb dX5_bounceApart_36 (by decide) ?_
  refine m_fald hx hb hK hP (k := (k + 1)) (by omega) (f := X) h2_2 (i := 1) (by omega) (by decide) dX5_bounceApart_37 ?_
  refine lv_fadd hx hb dX5_bounceApart_38 (pl_2 hx0 hx1).n ?_
  refine lv_ldcf hx hb hown (hts (.constantFloat RX5 35 (1056964608)) (by decide +kernel)) dX5_bounceApart_39 ?_
  refine lv_fmul hx hb dX5_bounceApart_41 (pl_3 (pl_2 hx0 hx1)).n ?_
  refine lv_fstore_n (lv' := [(2, .float (FP.fmul (FP.fadd (X 0) (X 1)) 1056964608)), (1, .float (V 0)), (0, .ref (ad k))]) hx hb dX5_bounceApart_42 rfl hl (by decide) rfl (fun ls hl => ?_)
  refine lv_aload_n hx hb dX5_bounceApart_43 rfl (lv_at hl 2 rfl) ?_
  refine m_get hx hb hts inX5 hown hK hP (ci := 5) rfl (k := k) (by omega) h2_1 0 (by decide) (hts (.fieldLink RX5 7 "RollbackPair$State" "places" "[F") (by decide +kernel)) rfl dX5_bounceApart_44 ?_
  refine lv_iconst (v := nI 0) hx hb dX5_bounceApart_47 (by decide) ?_
  refine lv_fload_n hx hb dX5_bounceApart_48 rfl (lv_at hl 0 rfl) ?_
  refine lv_ldcf hx hb hown (hts (.constantFloat RX5 35 (1056964608)) (by decide +kernel)) dX5_bounceApart_49 ?_
  refine lv_fsub hx hb dX5_bounceApart_51 (pl_4 (pl_3 (pl_2 hx0 hx1))).n ?_
  refine m_fast hx hb hK hP hJ hS (k := (k + 1)) (by omega) (f := X) h2_2 (i := 0) (by omega) (by decide) dX5_bounceApart_52 (fun H locs hP hS => ?_)
  obtain ⟨M_3, eM_3⟩ : ∃ z, z = va_up M_2 (k + 1) (eF cs 2 (vf_upd X 0 (FP.fsub (FP.fmul (FP.fadd (X 0) (X 1)) 1056964608) 1056964608))) := ⟨_, rfl⟩
  rw [← eM_3] at hP
  have h3_1 : M_3 k = .inr (5, [.ref (ad (k + 1)), .ref (ad (k + 2)), .int h, .double wk]) := by rw [eM_3]; exact (va_up_ne _ _ (by omega)).trans h2_1
  have h3_2 : M_3 (k + 1) = eF cs 2 (vf_upd X 0 (FP.fsub (FP.fmul (FP.fadd (X 0) (X 1)) 1056964608) 1056964608)) := by rw [eM_3]; exact va_up_self _ _ _
  have h3_3 : M_3 (k + 2) = eF cs 2 (vf_upd (vf_upd V 0 (V 1)) 1 (V 0)) := by rw [eM_3]; exact (va_up_ne _ _ (by omega)).trans h2_3
  refine lv_aload_n hx hb dX5_bounceApart_53 rfl (lv_at hl 2 rfl) ?_
  refine m_get hx hb hts inX5 hown hK hP (ci := 5) rfl (k := k) (by omega) h3_1 0 (by decide) (hts (.fieldLink RX5 7 "RollbackPair$State" "places" "[F") (by decide +kernel)) rfl dX5_bounceApart_54 ?_
  refine lv_iconst (v := nI 1) hx hb dX5_bounceApart_57 (by decide) ?_
  refine lv_fload_n hx hb dX5_bounceApart_58 rfl (lv_at hl 0 rfl) ?_
  refine lv_ldcf hx hb hown (hts (.constantFloat RX5 35 (1056964608)) (by decide +kernel)) dX5_bounceApart_59 ?_
  refine lv_fadd hx hb dX5_bounceApart_61 (pl_5 (pl_3 (pl_2 hx0 hx1))).n ?_
  refine m_fast hx hb hK hP hJ hS (k := (k + 1)) (by omega) (f := (vf_upd X 0 (FP.fsub (FP.fmul (FP.fadd (X 0) (X 1)) 1056964608) 1056964608))) h3_2 (i := 1) (by omega) (by decide) dX5_bounceApart_62 (fun H locs hP hS => ?_)
  obtain ⟨M_4, eM_4⟩ : ∃ z, z = va_up M_3 (k + 1) (eF cs 2 (vf_upd (vf_upd X 0 (FP.fsub (FP.fmul (FP.fadd (X 0) (X 1)) 1056964608) 1056964608)) 1 (FP.fadd (FP.fmul (FP.fadd (X 0) (X 1)) 1056964608) 1056964608))) := ⟨_, rfl⟩
  rw [← eM_4] at hP
  have h4_1 : M_4 k = .inr (5, [.ref (ad (k + 1)), .ref (ad (k + 2)), .int h, .double wk]) := by rw [eM_4]; exact (va_up_ne _ _ (by omega)).trans h3_1
  have h4_2 : M_4 (k + 1) = eF cs 2 (vf_upd (vf_upd X 0 (FP.fsub (FP.fmul (FP.fadd (X 0) (X 1)) 1056964608) 1056964608)) 1 (FP.fadd (FP.fmul (FP.fadd (X 0) (X 1)) 1056964608) 1056964608)) := by rw [eM_4]; exact va_up_self _ _ _
  have h4_3 : M_4 (k + 2) = eF cs 2 (vf_upd (vf_upd V 0 (V 1)) 1 (V 0)) := by rw [eM_4]; exact (va_up_ne _ _ (by omega)).trans h3_3
  refine lv_aload_n hx hb dX5_bounceApart_63 rfl (lv_at hl 2 rfl) ?_
  refine lv_dup hx hb dX5_bounceApart_64 rfl ?_
  refine m_get hx hb hts inX5 hown hK hP (ci := 5) rfl (k := k) (by omega) h4_1 2 (by decide) (hts (.fieldLink RX5 22 "RollbackPair$State" "hitCount" "I") (by decide +kernel)) rfl dX5_bounceApart_65 ?_
  refine lv_iconst (v := nI 1) hx hb dX5_bounceApart_68 (by decide) ?_
  refine lv_iadd hx hb dX5_bounceApart_69 ?_
  refine m_put hx hb hts inX5 tyX5 tyX5_ok nmX5 hown hK hP hJ hS (ci := 5) rfl (k := k) (by omega) h4_1 2 (by decide) (hts (.fieldLink RX5 22 "RollbackPair$State" "hitCount" "I") (by decide +kernel)) rfl rfl rfl (Nat.le_of_ble_eq_true rfl) (fs' := [.ref (ad (k + 1)), .ref (ad (k + 2)), .int (h + (nI 1)), .double wk]) rfl dX5_bounceApart_70 (fun H locs hP hS => ?_)
  obtain ⟨M_5, eM_5⟩ : ∃ z, z = va_up M_4 k (.inr (5, [.ref (ad (k + 1)), .ref (ad (k + 2)), .int (h + (nI 1)), .double wk])) := ⟨_, rfl⟩
  rw [← eM_5] at hP
  have h5_1 : M_5 k = .inr (5, [.ref (ad (k + 1)), .ref (ad (k + 2)), .int (h + (nI 1)), .double wk]) := by rw [eM_5]; exact va_up_self _ _ _
  have h5_2 : M_5 (k + 1) = eF cs 2 (vf_upd (vf_upd X 0 (FP.fsub (FP.fmul (FP.fadd (X 0) (X 1)) 1056964608) 1056964608)) 1 (FP.fadd (FP.fmul (FP.fadd (X 0) (X 1)) 1056964608) 1056964608)) := by rw [eM_5]; exact (va_up_ne _ _ (by omega)).trans h4_2
  have h5_3 : M_5 (k + 2) = eF cs 2 (vf_upd (vf_upd V 0 (V 1)) 1 (V 0)) := by rw [eM_5]; exact (va_up_ne _ _ (by omega)).trans h4_3
  exact r_v hx hb hr hlocks hK hP hS dX5_bounceApart_73 ⟨h5_1, ⟨_, h5_2, rfl, rfl⟩, ⟨_, h5_3, rfl, rfl⟩, fun i hi => by rw [eM_5, va_up_ne _ _ (by omega), eM_4, va_up_ne _ _ (by omega), eM_3, va_up_ne _ _ (by omega), eM_2, va_up_ne _ _ (by omega), eM_1, va_up_ne _ _ (by omega)]⟩
set_option maxHeartbeats 4000000 in
set_option maxRecDepth 100000 in
/-- State.follow(before, a1, a2) -/
theorem c_follow (l : Launch) (D : va_G) (cs : Nat → ClassId) (ad : Nat → Nat) (n : Nat) (hJ : Inj ad n) (M : Nat → va_E) (k : Nat) (X V : Nat → UInt32) (h : Int32) (wk : UInt64) (hk : k + 3 ≤ n) (h1 : M k = oSt ad k h wk) (h2 : M (k + 1) = eF cs 2 X) (h3 : M (k + 2) = eF cs 2 V) (b : Nat) (BX BV : Nat → UInt32) (bh : Int32) (bw : UInt64) (hb0 : b + 3 ≤ n) (hkb : k + 3 ≤ b ∨ b + 3 ≤ k) (g1 : M b = oSt ad b bh bw) (g2 : M (b + 1) = eF cs 2 BX) (g3 : M (b + 2) = eF cs 2 BV) (a1 a2 fc : Nat) (ha1 : a1 < 8) (ha2 : a2 < 8) (hfc : fc ≤ 1000000) (hB : Bd (BX 0) (BV 0) (BX 1) (BV 1) bw fc) : CTv l yX5_follow wsX5_follow ({ frames := 1, cells := 0, slots := 0, locals := 26 }) D cs ad n M [.ref (ad k), .ref (ad b), .int (nI a1), .int (nI a2)] (fun M2 => M2 k = oSt ad k (bh + st_m (mv (BX 0) (BV 0) (nI a1)) (mv (BX 1) (BV 1) (nI a2))) (st_w (mv (BX 0) (BV 0) (nI a1)) (mv (BX 1) (BV 1) (nI a2)) bw) ∧ (∃ X2, M2 (k + 1) = eF cs 2 X2 ∧ X2 0 = st_x (mv (BX 0) (BV 0) (nI a1)) (mv (BX 1) (BV 1) (nI a2)) ∧ X2 1 = st_y (mv (BX 0) (BV 0) (nI a1)) (mv (BX 1) (BV 1) (nI a2))) ∧ (∃ V2, M2 (k + 2) = eF cs 2 V2 ∧ V2 0 = st_s (mv (BX 0) (BV 0) (nI a1)) (mv (BX 1) (BV 1) (nI a2)) ∧ V2 1 = st_t (mv (BX 0) (BV 0) (nI a1)) (mv (BX 1) (BV 1) (nI a2))) ∧ ∀ i, (i < k ∨ k + 3 ≤ i) → M2 i = M i) := by
  refine Met.ofW (cc := cX5_follow) (maxL := 8) (ret := none) (by decide) rfl ?_
  intro p e s m args below meth c s₁ B hml hv
  obtain ⟨rfl, hP, hK⟩ := hv
  have hx := B.exec
  have hb := B.bytes
  have hr := B.returns
  have hts := atoms_spec (ws := wsX5_follow) B.pre
  have hown : s.vm.findClass RX5 = some m.cls := findClass_of_methodNamed B.named
  have hlocks := B.notSynchronized
  have hS : va_S (Ad ad n) s.heap s.heap [] := va_S.rf
  have hl := lv_entry ([.ref (ad k), .ref (ad b), .int (nI a1), .int (nI a2)]) (n := 8) (Nat.le_of_ble_eq_true rfl)
  rw [lg_entry_eq]
  generalize (lg_sl ([.ref (ad k), .ref (ad b), .int (nI a1), .int (nI a2)]) ++ List.replicate (8 - (lg_sl ([.ref (ad k), .ref (ad b), .int (nI a1), .int (nI a2)])).length) Slot.unset).toArray = ls at hl ⊢
  have hl : lv_has ls 8 [(0, .ref (ad k)), (1, .ref (ad b)), (2, .int (nI a1)), (3, .int (nI a2))] := hl
  have inX5 : ∀ w ∈ u_ws RX5 TX5 4, w ∈ wsX5_follow := fun w h => List.mem_cons_of_mem _ (List.mem_append_right _ h)
  have hA1 := mv_b hB.1 hB.2.1 (nI a1)
  have hB1 := mv_b hB.2.2.1 hB.2.2.2.1 (nI a2)
  have hs : Fb (st_s (mv (BX 0) (BV 0) (nI a1)) (mv (BX 1) (BV 1) (nI a2))) (-(32 * e8)) (32 * e8) := by unfold st_s; split; exact hB1.2; exact hA1.2
  have ht : Fb (st_t (mv (BX 0) (BV 0) (nI a1)) (mv (BX 1) (BV 1) (nI a2))) (-(32 * e8)) (32 * e8) := by unfold st_t; split; exact hA1.2; exact hB1.2
  refine lv_aload_n hx hb dX5_follow_0 rfl (lv_at hl 0 rfl) ?_
  refine lv_aload_n hx hb dX5_follow_1 rfl (lv_at hl 1 rfl) ?_
  refine lv_iconst (v := nI 0) hx hb dX5_follow_2 (by decide) ?_
  refine lv_iload_n hx hb dX5_follow_3 rfl (lv_at hl 2 rfl) ?_
  refine k_Vv (As := [.ref (ad b), .int (nI 0), .int (nI a1)]) (rest := []) (k := k) (ci := 5) ⟨hx, hb, hml, hown, hts⟩ hK hP hS Ad_le (c_smove l D cs ad n hJ M k X V h wk hk h1 h2 h3 b BX BV bh bw hb0 hkb g1 g2 g3 0 a1 (by decide) ha1 hB.1 hB.2.1) (cwV 3 hts gX5_follow_X5_move rfl rfl rfl (by decide +kernel) ⟨Nat.le_of_ble_eq_true rfl, Nat.le_of_ble_eq_true rfl⟩) (by omega) h1 rfl rfl rfl hl.1 (Nat.le_of_ble_eq_true rfl) dX5_follow_4 ⟨Nat.le_of_ble_eq_true rfl, Nat.le_of_ble_eq_true rfl⟩ (fun N1 H locs hpo hP hS _ _ => ?_)
  obtain ⟨q01, q02, q0f⟩ := hpo
  have h1_1 : N1 k = .inr (5, [.ref (ad (k + 1)), .ref (ad (k + 2)), .int h, .double wk]) := (q0f _ (by omega) (by omega)).trans h1
  have h1_4 : N1 b = .inr (5, [.ref (ad (b + 1)), .ref (ad (b + 2)), .int bh, .double bw]) := (q0f _ (by omega) (by omega)).trans g1
  have h1_5 : N1 (b + 1) = eF cs 2 BX := (q0f _ (by omega) (by omega)).trans g2
  have h1_6 : N1 (b + 2) = eF cs 2 BV := (q0f _ (by omega) (by omega)).trans g3
  refine lv_aload_n hx hb dX5_follow_7 rfl (lv_at hl 0 rfl) ?_
  refine lv_aload_n hx hb dX5_follow_8 rfl (lv_at hl 1 rfl) ?_
  refine lv_iconst (v := nI 1) hx hb dX5_follow_9 (by decide) ?_
  refine lv_iload_n hx hb dX5_follow_10 rfl (lv_at hl 3 rfl) ?_
  refine k_Vv (As := [.ref (ad b), .int (nI 1), .int (nI a2)]) (rest := []) (k := k) (ci := 5) ⟨hx, hb, hml, hown, hts⟩ hK hP hS Ad_le (c_smove l D cs ad n hJ N1 k (vf_upd X 0 (mv (BX 0) (BV 0) (nI a1)).1) (vf_upd V 0 (mv (BX 0) (BV 0) (nI a1)).2) h wk hk h1_1 q01 q02 b BX BV bh bw hb0 hkb h1_4 h1_5 h1_6 1 a2 (by decide) ha2 hB.2.2.1 hB.2.2.2.1) (cwV 3 hts gX5_follow_X5_move rfl rfl rfl (by decide +kernel) ⟨Nat.le_of_ble_eq_true rfl, Nat.le_of_ble_eq_true rfl⟩) (by omega) h1_1 rfl rfl rfl hl.1 (Nat.le_of_ble_eq_true rfl) dX5_follow_11 ⟨Nat.le_of_ble_eq_true rfl, Nat.le_of_ble_eq_true rfl⟩ (fun N2 H locs hpo hP hS _ _ => ?_)
  obtain ⟨q11, q12, q1f⟩ := hpo
  have h2_1 : N2 k = .inr (5, [.ref (ad (k + 1)), .ref (ad (k + 2)), .int h, .double wk]) := (q1f _ (by omega) (by omega)).trans h1_1
  have h2_4 : N2 b = .inr (5, [.ref (ad (b + 1)), .ref (ad (b + 2)), .int bh, .double bw]) := (q1f _ (by omega) (by omega)).trans h1_4
  have h2_5 : N2 (b + 1) = eF cs 2 BX := (q1f _ (by omega) (by omega)).trans h1_5
  have h2_6 : N2 (b + 2) = eF cs 2 BV := (q1f _ (by omega) (by omega)).trans h1_6
  refine lv_aload_n hx hb dX5_follow_14 rfl (lv_at hl 0 rfl) ?_
  refine lv_aload_n hx hb dX5_follow_15 rfl (lv_at hl 1 rfl) ?_
  refine m_get hx hb hts inX5 hown hK hP (ci := 5) rfl (k := b) (by omega) h2_4 2 (by decide) (hts (.fieldLink RX5 22 "RollbackPair$State" "hitCount" "I") (by decide +kernel)) rfl dX5_follow_16 ?_
  refine m_put hx hb hts inX5 tyX5 tyX5_ok nmX5 hown hK hP hJ hS (ci := 5) rfl (k := k) (by omega) h2_1 2 (by decide) (hts (.fieldLink RX5 22 "RollbackPair$State" "hitCount" "I") (by decide +kernel)) rfl rfl rfl (Nat.le_of_ble_eq_true rfl) (fs' := [.ref (ad (k + 1)), .ref (ad (k + 2)), .int bh, .double wk]) rfl dX5_follow_19 (fun H locs hP hS => ?_)
  obtain ⟨M_3, eM_3⟩ : ∃ z, z = va_up N2 k (.inr (5, [.ref (ad (k + 1)), .ref (ad (k + 2)), .int bh, .double wk])) := ⟨_, rfl⟩
  rw [← eM_3] at hP
  have h3_1 : M_3 k = .inr (5, [.ref (ad (k + 1)), .ref (ad (k + 2)), .int bh, .double wk]) := by rw [eM_3]; exact va_up_self _ _ _
  have h3_2 : M_3 (k + 1) = eF cs 2 (vf_upd (vf_upd X 0 (mv (BX 0) (BV 0) (nI a1)).1) 1 (mv (BX 1) (BV 1) (nI a2)).1) := by rw [eM_3]; exact (va_up_ne _ _ (by omega)).trans q11
  have h3_3 : M_3 (k + 2) = eF cs 2 (vf_upd (vf_upd V 0 (mv (BX 0) (BV 0) (nI a1)).2) 1 (mv (BX 1) (BV 1) (nI a2)).2) := by rw [eM_3]; exact (va_up_ne _ _ (by omega)).trans q12
  have h3_4 : M_3 b = .inr (5, [.ref (ad (b + 1)), .ref (ad (b + 2)), .int bh, .double bw]) := by rw [eM_3]; exact (va_up_ne _ _ (by omega)).trans h2_4
  have h3_5 : M_3 (b + 1) = eF cs 2 BX := by rw [eM_3]; exact (va_up_ne _ _ (by omega)).trans h2_5
  have h3_6 : M_3 (b + 2) = eF cs 2 BV := by rw [eM_3]; exact (va_up_ne _ _ (by omega)).trans h2_6
  refine lv_aload_n hx hb dX5_follow_22 rfl (lv_at hl 0 rfl) ?_
  refine m_get hx hb hts inX5 hown hK hP (ci := 5) rfl (k := k) (by omega) h3_1 0 (by decide) (hts (.fieldLink RX5 7 "RollbackPair$State" "places" "[F") (by decide +kernel)) rfl dX5_follow_23 ?_
  refine lv_iconst (v := nI 1) hx hb dX5_follow_26 (by decide) ?_
  refine m_fald hx hb hK hP (k := (k + 1)) (by omega) (f := (vf_upd (vf_upd X 0 (mv (BX 0) (BV 0) (nI a1)).1) 1 (mv (BX 1) (BV 1) (nI a2)).1)) h3_2 (i := 1) (by omega) (by decide) dX5_follow_27 ?_
  refine f_val (show _ = (mv (BX 1) (BV 1) (nI a2)).1 from rfl) ?_
  refine lv_aload_n hx hb dX5_follow_28 rfl (lv_at hl 0 rfl) ?_
  refine m_get hx hb hts inX5 hown hK hP (ci := 5) rfl (k := k) (by omega) h3_1 0 (by decide) (hts (.fieldLink RX5 7 "RollbackPair$State" "places" "[F") (by decide +kernel)) rfl dX5_follow_29 ?_
  refine lv_iconst (v := nI 0) hx hb dX5_follow_32 (by decide) ?_
  refine m_fald hx hb hK hP (k := (k + 1)) (by omega) (f := (vf_upd (vf_upd X 0 (mv (BX 0) (BV 0) (nI a1)).1) 1 (mv (BX 1) (BV 1) (nI a2)).1)) h3_2 (i := 0) (by omega) (by decide) dX5_follow_33 ?_
  refine f_val (show _ = (mv (BX 0) (BV 0) (nI a1)).1 from rfl) ?_
  refine lv_fsub hx hb dX5_follow_34 (pl_1 hA1.1 hB1.1).n ?_
  refine lv_fconst1 hx hb dX5_follow_35 ?_
  refine lv_fcmp hx hb dX5_follow_36 ?_
  refine lv_if_ge (tgt := 44) hx hb dX5_follow_37 (by decide) (fun c1 => ?_) (fun c1 => ?_)
  · obtain ⟨z1, z2, z3, z4, z5⟩ := st_no (A := (mv (BX 0) (BV 0) (nI a1))) (B := (mv (BX 1) (BV 1) (nI a2))) (fun z => z c1)
    have hsp0 : (vf_upd (vf_upd V 0 (mv (BX 0) (BV 0) (nI a1)).2) 1 (mv (BX 1) (BV 1) (nI a2)).2) 0 = st_s (mv (BX 0) (BV 0) (nI a1)) (mv (BX 1) (BV 1) (nI a2)) := z2.symm
    have hsp1 : (vf_upd (vf_upd V 0 (mv (BX 0) (BV 0) (nI a1)).2) 1 (mv (BX 1) (BV 1) (nI a2)).2) 1 = st_t (mv (BX 0) (BV 0) (nI a1)) (mv (BX 1) (BV 1) (nI a2)) := z4.symm
    refine lv_aload_n hx hb dX5_follow_44 rfl (lv_at hl 0 rfl) ?_
    refine m_get hx hb hts inX5 hown hK hP (ci := 5) rfl (k := k) (by omega) h3_1 1 (by decide) (hts (.fieldLink RX5 13 "RollbackPair$State" "speeds" "[F") (by decide +kernel)) rfl dX5_follow_45 ?_
    refine lv_iconst (v := nI 0) hx hb dX5_follow_48 (by decide) ?_
    refine m_fald hx hb hK hP (k := (k + 2)) (by omega) (f := (vf_upd (vf_upd V 0 (mv (BX 0) (BV 0) (nI a1)).2) 1 (mv (BX 1) (BV 1) (nI a2)).2)) h3_3 (i := 0) (by omega) (by decide) dX5_follow_49 ?_
    refine f_val hsp0 ?_
    refine lv_f2d hx hb dX5_follow_50 (wk_1 hs).n ?_
    refine lv_dstore (lv' := [(4, .double (FP.f2d (st_s (mv (BX 0) (BV 0) (nI a1)) (mv (BX 1) (BV 1) (nI a2))))), (0, .ref (ad k)), (1, .ref (ad b)), (2, .int (nI a1)), (3, .int (nI a2))]) hx hb dX5_follow_51 hl (by decide) rfl (fun ls hl => ?_)
    refine lv_aload_n hx hb dX5_follow_53 rfl (lv_at hl 1 rfl) ?_
    refine m_get hx hb hts inX5 hown hK hP (ci := 5) rfl (k := k) (by omega) h3_1 1 (by decide) (hts (.fieldLink RX5 13 "RollbackPair$State" "speeds" "[F") (by decide +kernel)) rfl dX5_follow_54 ?_
    refine lv_iconst (v := nI 1) hx hb dX5_follow_57 (by decide) ?_
    refine m_fald hx hb hK hP (k := (k + 2)) (by omega) (f := (vf_upd (vf_upd V 0 (mv (BX 0) (BV 0) (nI a1)).2) 1 (mv (BX 1) (BV 1) (nI a2)).2)) h3_3 (i := 1) (by omega) (by decide) dX5_follow_58 ?_
    refine f_val hsp1 ?_
    refine lv_f2d hx hb dX5_follow_59 (wk_1 ht).n ?_
    refine lv_dstore (lv' := [(6, .double (FP.f2d (st_t (mv (BX 0) (BV 0) (nI a1)) (mv (BX 1) (BV 1) (nI a2))))), (4, .double (FP.f2d (st_s (mv (BX 0) (BV 0) (nI a1)) (mv (BX 1) (BV 1) (nI a2))))), (0, .ref (ad k)), (1, .ref (ad b)), (2, .int (nI a1)), (3, .int (nI a2))]) hx hb dX5_follow_60 hl (by decide) rfl (fun ls hl => ?_)
    refine lv_aload_n hx hb dX5_follow_62 rfl (lv_at hl 2 rfl) ?_
    refine lv_aload_n hx hb dX5_follow_63 rfl (lv_at hl 3 rfl) ?_
    refine m_get hx hb hts inX5 hown hK hP (ci := 5) rfl (k := b) (by omega) h3_4 3 (by decide) (hts (.fieldLink RX5 29 "RollbackPair$State" "workDone" "D") (by decide +kernel)) rfl dX5_follow_64 ?_
    refine lv_dload hx hb dX5_follow_67 (lv_at hl 1 rfl) ?_
    refine lv_dload hx hb dX5_follow_69 (lv_at hl 1 rfl) ?_
    refine lv_dmul hx hb dX5_follow_71 (wk_2 (wk_1 hs)).n ?_
    refine lv_dload hx hb dX5_follow_72 (lv_at hl 0 rfl) ?_
    refine lv_dload hx hb dX5_follow_74 (lv_at hl 0 rfl) ?_
    refine lv_dmul hx hb dX5_follow_76 (wk_2 (wk_1 ht)).n ?_
    refine lv_dadd hx hb dX5_follow_77 (wk_3 (wk_2 (wk_1 hs)) (wk_2 (wk_1 ht))).n ?_
    refine lv_dadd hx hb dX5_follow_78 (wk_4 hfc hB.2.2.2.2 (wk_3 (wk_2 (wk_1 hs)) (wk_2 (wk_1 ht)))).n ?_
    refine m_put hx hb hts inX5 tyX5 tyX5_ok nmX5 hown hK hP hJ hS (ci := 5) rfl (k := k) (by omega) h3_1 3 (by decide) (hts (.fieldLink RX5 29 "RollbackPair$State" "workDone" "D") (by decide +kernel)) rfl rfl rfl (Nat.le_of_ble_eq_true rfl) (fs' := [.ref (ad (k + 1)), .ref (ad (k + 2)), .int bh, .double (FP.dadd bw (FP.dadd (FP.dmul (FP.f2d (st_s (mv (BX 0) (BV 0) (nI a1)) (mv (BX 1) (BV 1) (nI a2)))) (FP.f2d (st_s (mv (BX 0) (BV 0) (nI a1)) (mv (BX 1) (BV 1) (nI a2))))) (FP.dmul (FP.f2d (st_t (mv (BX 0) (BV 0) (nI a1)) (mv (BX 1) (BV 1) (nI a2)))) (FP.f2d (st_t (mv (BX 0) (BV 0) (nI a1)) (mv (BX 1) (BV 1) (nI a2)))))))]) rfl dX5_follow_79 (fun H locs hP hS => ?_)
    obtain ⟨M_4, eM_4⟩ : ∃ z, z = va_up M_3 k (.inr (5, [.ref (ad (k + 1)), .ref (ad (k + 2)), .int bh, .double (FP.dadd bw (FP.dadd (FP.dmul (FP.f2d (st_s (mv (BX 0) (BV 0) (nI a1)) (mv (BX 1) (BV 1) (nI a2)))) (FP.f2d (st_s (mv (BX 0) (BV 0) (nI a1)) (mv (BX 1) (BV 1) (nI a2))))) (FP.dmul (FP.f2d (st_t (mv (BX 0) (BV 0) (nI a1)) (mv (BX 1) (BV 1) (nI a2)))) (FP.f2d (st_t (mv (BX 0) (BV 0) (nI a1)) (mv (BX 1) (BV 1) (nI a2)))))))])) := ⟨_, rfl⟩
    rw [← eM_4] at hP
    have h4_1 : M_4 k = .inr (5, [.ref (ad (k + 1)), .ref (ad (k + 2)), .int bh, .double (FP.dadd bw (FP.dadd (FP.dmul (FP.f2d (st_s (mv (BX 0) (BV 0) (nI a1)) (mv (BX 1) (BV 1) (nI a2)))) (FP.f2d (st_s (mv (BX 0) (BV 0) (nI a1)) (mv (BX 1) (BV 1) (nI a2))))) (FP.dmul (FP.f2d (st_t (mv (BX 0) (BV 0) (nI a1)) (mv (BX 1) (BV 1) (nI a2)))) (FP.f2d (st_t (mv (BX 0) (BV 0) (nI a1)) (mv (BX 1) (BV 1) (nI a2)))))))]) := by rw [eM_4]; exact va_up_self _ _ _
    have h4_2 : M_4 (k + 1) = eF cs 2 (vf_upd (vf_upd X 0 (mv (BX 0) (BV 0) (nI a1)).1) 1 (mv (BX 1) (BV 1) (nI a2)).1) := by rw [eM_4]; exact (va_up_ne _ _ (by omega)).trans h3_2
    have h4_3 : M_4 (k + 2) = eF cs 2 (vf_upd (vf_upd V 0 (mv (BX 0) (BV 0) (nI a1)).2) 1 (mv (BX 1) (BV 1) (nI a2)).2) := by rw [eM_4]; exact (va_up_ne _ _ (by omega)).trans h3_3
    have h4_4 : M_4 b = .inr (5, [.ref (ad (b + 1)), .ref (ad (b + 2)), .int bh, .double bw]) := by rw [eM_4]; exact (va_up_ne _ _ (by omega)).trans h3_4
    have h4_5 : M_4 (b + 1) = eF cs 2 BX := by rw [eM_4]; exact (va_up_ne _ _ (by omega)).trans h3_5
    have h4_6 : M_4 (b + 2) = eF cs 2 BV := by rw [eM_4]; exact (va_up_ne _ _ (by omega)).trans h3_6
    exact r_v hx hb hr hlocks hK hP hS dX5_follow_82 ⟨by rw [z5, show bh + nI 0 = bh from Int32.add_zero bh]; exact h4_1, ⟨_, h4_2, z1.symm, z3.symm⟩, ⟨_, h4_3, hsp0, hsp1⟩, fun i hi => by rw [eM_4, va_up_ne _ _ (by omega), eM_3, va_up_ne _ _ (by omega), q1f i (by omega) (by omega), q0f i (by omega) (by omega)]⟩
  · refine lv_aload_n hx hb dX5_follow_40 rfl (lv_at hl 0 rfl) ?_
    refine k_Vv (As := []) (rest := []) (k := k) (ci := 5) ⟨hx, hb, hml, hown, hts⟩ hK hP hS Ad_le (c_bounce l D cs ad n hJ M_3 k (vf_upd (vf_upd X 0 (mv (BX 0) (BV 0) (nI a1)).1) 1 (mv (BX 1) (BV 1) (nI a2)).1) (vf_upd (vf_upd V 0 (mv (BX 0) (BV 0) (nI a1)).2) 1 (mv (BX 1) (BV 1) (nI a2)).2) bh wk hk h3_1 h3_2 h3_3 hA1.1 hB1.1) (cwV 0 hts gX5_follow_X5_bounceApart rfl rfl rfl (by decide +kernel) ⟨Nat.le_of_ble_eq_true rfl, Nat.le_of_ble_eq_true rfl⟩) (by omega) h3_1 rfl rfl rfl hl.1 (Nat.le_of_ble_eq_true rfl) dX5_follow_41 ⟨Nat.le_of_ble_eq_true rfl, Nat.le_of_ble_eq_true rfl⟩ (fun N3 H locs hpo hP hS _ _ => ?_)
    obtain ⟨r1, ⟨X9, r2, r3, r4⟩, ⟨V9, r5, r6, r7⟩, rf⟩ := hpo
    obtain ⟨z1, z2, z3, z4, z5⟩ := st_hit (A := (mv (BX 0) (BV 0) (nI a1))) (B := (mv (BX 1) (BV 1) (nI a2))) c1
    have h5_4 : N3 b = .inr (5, [.ref (ad (b + 1)), .ref (ad (b + 2)), .int bh, .double bw]) := (rf _ (by omega)).trans h3_4
    have h5_5 : N3 (b + 1) = eF cs 2 BX := (rf _ (by omega)).trans h3_5
    have h5_6 : N3 (b + 2) = eF cs 2 BV := (rf _ (by omega)).trans h3_6
    have hsp0 : V9 0 = st_s (mv (BX 0) (BV 0) (nI a1)) (mv (BX 1) (BV 1) (nI a2)) := r6.trans z2.symm
    have hsp1 : V9 1 = st_t (mv (BX 0) (BV 0) (nI a1)) (mv (BX 1) (BV 1) (nI a2)) := r7.trans z4.symm
    refine lv_aload_n hx hb dX5_follow_44 rfl (lv_at hl 0 rfl) ?_
    refine m_get hx hb hts inX5 hown hK hP (ci := 5) rfl (k := k) (by omega) r1 1 (by decide) (hts (.fieldLink RX5 13 "RollbackPair$State" "speeds" "[F") (by decide +kernel)) rfl dX5_follow_45 ?_
    refine lv_iconst (v := nI 0) hx hb dX5_follow_48 (by decide) ?_
    refine m_fald hx hb hK hP (k := (k + 2)) (by omega) (f := V9) r5 (i := 0) (by omega) (by decide) dX5_follow_49 ?_
    refine f_val hsp0 ?_
    refine lv_f2d hx hb dX5_follow_50 (wk_1 hs).n ?_
    refine lv_dstore (lv' := [(4, .double (FP.f2d (st_s (mv (BX 0) (BV 0) (nI a1)) (mv (BX 1) (BV 1) (nI a2))))), (0, .ref (ad k)), (1, .ref (ad b)), (2, .int (nI a1)), (3, .int (nI a2))]) hx hb dX5_follow_51 hl (by decide) rfl (fun ls hl => ?_)
    refine lv_aload_n hx hb dX5_follow_53 rfl (lv_at hl 1 rfl) ?_
    refine m_get hx hb hts inX5 hown hK hP (ci := 5) rfl (k := k) (by omega) r1 1 (by decide) (hts (.fieldLink RX5 13 "RollbackPair$State" "speeds" "[F") (by decide +kernel)) rfl dX5_follow_54 ?_
    refine lv_iconst (v := nI 1) hx hb dX5_follow_57 (by decide) ?_
    refine m_fald hx hb hK hP (k := (k + 2)) (by omega) (f := V9) r5 (i := 1) (by omega) (by decide) dX5_follow_58 ?_
    refine f_val hsp1 ?_
    refine lv_f2d hx hb dX5_follow_59 (wk_1 ht).n ?_
    refine lv_dstore (lv' := [(6, .double (FP.f2d (st_t (mv (BX 0) (BV 0) (nI a1)) (mv (BX 1) (BV 1) (nI a2))))), (4, .double (FP.f2d (st_s (mv (BX 0) (BV 0) (nI a1)) (mv (BX 1) (BV 1) (nI a2))))), (0, .ref (ad k)), (1, .ref (ad b)), (2, .int (nI a1)), (3, .int (nI a2))]) hx hb dX5_follow_60 hl (by decide) rfl (fun ls hl => ?_)
    refine lv_aload_n hx hb dX5_follow_62 rfl (lv_at hl 2 rfl) ?_
    refine lv_aload_n hx hb dX5_follow_63 rfl (lv_at hl 3 rfl) ?_
    refine m_get hx hb hts inX5 hown hK hP (ci := 5) rfl (k := b) (by omega) h5_4 3 (by decide) (hts (.fieldLink RX5 29 "RollbackPair$State" "workDone" "D") (by decide +kernel)) rfl dX5_follow_64 ?_
    refine lv_dload hx hb dX5_follow_67 (lv_at hl 1 rfl) ?_
    refine lv_dload hx hb dX5_follow_69 (lv_at hl 1 rfl) ?_
    refine lv_dmul hx hb dX5_follow_71 (wk_2 (wk_1 hs)).n ?_
    refine lv_dload hx hb dX5_follow_72 (lv_at hl 0 rfl) ?_
    refine lv_dload hx hb dX5_follow_74 (lv_at hl 0 rfl) ?_
    refine lv_dmul hx hb dX5_follow_76 (wk_2 (wk_1 ht)).n ?_
    refine lv_dadd hx hb dX5_follow_77 (wk_3 (wk_2 (wk_1 hs)) (wk_2 (wk_1 ht))).n ?_
    refine lv_dadd hx hb dX5_follow_78 (wk_4 hfc hB.2.2.2.2 (wk_3 (wk_2 (wk_1 hs)) (wk_2 (wk_1 ht)))).n ?_
    refine m_put hx hb hts inX5 tyX5 tyX5_ok nmX5 hown hK hP hJ hS (ci := 5) rfl (k := k) (by omega) r1 3 (by decide) (hts (.fieldLink RX5 29 "RollbackPair$State" "workDone" "D") (by decide +kernel)) rfl rfl rfl (Nat.le_of_ble_eq_true rfl) (fs' := [.ref (ad (k + 1)), .ref (ad (k + 2)), .int (bh + nI 1), .double (FP.dadd bw (FP.dadd (FP.dmul (FP.f2d (st_s (mv (BX 0) (BV 0) (nI a1)) (mv (BX 1) (BV 1) (nI a2)))) (FP.f2d (st_s (mv (BX 0) (BV 0) (nI a1)) (mv (BX 1) (BV 1) (nI a2))))) (FP.dmul (FP.f2d (st_t (mv (BX 0) (BV 0) (nI a1)) (mv (BX 1) (BV 1) (nI a2)))) (FP.f2d (st_t (mv (BX 0) (BV 0) (nI a1)) (mv (BX 1) (BV 1) (nI a2)))))))]) rfl dX5_follow_79 (fun H locs hP hS => ?_)
    obtain ⟨M_6, eM_6⟩ : ∃ z, z = va_up N3 k (.inr (5, [.ref (ad (k + 1)), .ref (ad (k + 2)), .int (bh + nI 1), .double (FP.dadd bw (FP.dadd (FP.dmul (FP.f2d (st_s (mv (BX 0) (BV 0) (nI a1)) (mv (BX 1) (BV 1) (nI a2)))) (FP.f2d (st_s (mv (BX 0) (BV 0) (nI a1)) (mv (BX 1) (BV 1) (nI a2))))) (FP.dmul (FP.f2d (st_t (mv (BX 0) (BV 0) (nI a1)) (mv (BX 1) (BV 1) (nI a2)))) (FP.f2d (st_t (mv (BX 0) (BV 0) (nI a1)) (mv (BX 1) (BV 1) (nI a2)))))))])) := ⟨_, rfl⟩
    rw [← eM_6] at hP
    have h6_1 : M_6 k = .inr (5, [.ref (ad (k + 1)), .ref (ad (k + 2)), .int (bh + nI 1), .double (FP.dadd bw (FP.dadd (FP.dmul (FP.f2d (st_s (mv (BX 0) (BV 0) (nI a1)) (mv (BX 1) (BV 1) (nI a2)))) (FP.f2d (st_s (mv (BX 0) (BV 0) (nI a1)) (mv (BX 1) (BV 1) (nI a2))))) (FP.dmul (FP.f2d (st_t (mv (BX 0) (BV 0) (nI a1)) (mv (BX 1) (BV 1) (nI a2)))) (FP.f2d (st_t (mv (BX 0) (BV 0) (nI a1)) (mv (BX 1) (BV 1) (nI a2)))))))]) := by rw [eM_6]; exact va_up_self _ _ _
    have h6_2 : M_6 (k + 1) = eF cs 2 X9 := by rw [eM_6]; exact (va_up_ne _ _ (by omega)).trans r2
    have h6_3 : M_6 (k + 2) = eF cs 2 V9 := by rw [eM_6]; exact (va_up_ne _ _ (by omega)).trans r5
    have h6_4 : M_6 b = .inr (5, [.ref (ad (b + 1)), .ref (ad (b + 2)), .int bh, .double bw]) := by rw [eM_6]; exact (va_up_ne _ _ (by omega)).trans h5_4
    have h6_5 : M_6 (b + 1) = eF cs 2 BX := by rw [eM_6]; exact (va_up_ne _ _ (by omega)).trans h5_5
    have h6_6 : M_6 (b + 2) = eF cs 2 BV := by rw [eM_6]; exact (va_up_ne _ _ (by omega)).trans h5_6
    exact r_v hx hb hr hlocks hK hP hS dX5_follow_82 ⟨by rw [z5]; exact h6_1, ⟨_, h6_2, r3.trans z1.symm, r4.trans z3.symm⟩, ⟨_, h6_3, hsp0, hsp1⟩, fun i hi => by rw [eM_6, va_up_ne _ _ (by omega), rf i hi, eM_3, va_up_ne _ _ (by omega), q1f i (by omega) (by omega), q0f i (by omega) (by omega)]⟩
set_option maxHeartbeats 4000000 in
set_option maxRecDepth 100000 in
/-- State.total() -/
theorem c_total (l : Launch) (D : va_G) (cs : Nat → ClassId) (ad : Nat → Nat) (n : Nat) (hJ : Inj ad n) (M : Nat → va_E) (k : Nat) (X V : Nat → UInt32) (h : Int32) (wk : UInt64) (hk : k + 3 ≤ n) (h1 : M k = oSt ad k h wk) (h2 : M (k + 1) = eF cs 2 X) (h3 : M (k + 2) = eF cs 2 V) (fc : Nat) (hB : Bd (X 0) (V 0) (X 1) (V 1) wk fc) : CTi l yX5_total wsX5_total ({ frames := 0, cells := 0, slots := 0, locals := 0 }) D cs ad n M [.ref (ad k)] (fun r M2 => M2 = M ∧ r = sumS (X 0) (V 0) (X 1) (V 1) h wk) := by
  refine Met.ofW (cc := cX5_total) (maxL := 3) (ret := (some .int)) (by decide) rfl ?_
  intro p e s m args below meth c s₁ B hml hv
  obtain ⟨rfl, hP, hK⟩ := hv
  have hx := B.exec
  have hb := B.bytes
  have hr := B.returns
  have hts := atoms_spec (ws := wsX5_total) B.pre
  have hown : s.vm.findClass RX5 = some m.cls := findClass_of_methodNamed B.named
  have hlocks := B.notSynchronized
  have hS : va_S (Ad ad n) s.heap s.heap [] := va_S.rf
  have hl := lv_entry ([.ref (ad k)]) (n := 3) (Nat.le_of_ble_eq_true rfl)
  rw [lg_entry_eq]
  generalize (lg_sl ([.ref (ad k)]) ++ List.replicate (3 - (lg_sl ([.ref (ad k)])).length) Slot.unset).toArray = ls at hl ⊢
  have hl : lv_has ls 3 [(0, .ref (ad k))] := hl
  have inX5 : ∀ w ∈ u_ws RX5 TX5 4, w ∈ wsX5_total := fun w h => List.mem_cons_of_mem _ (List.mem_append_right _ h)
  refine lv_bipush (v := nI 17) hx hb dX5_total_0 (by decide) ?_
  refine lv_istore_n (lv' := [(1, .int (nI 17)), (0, .ref (ad k))]) hx hb dX5_total_2 rfl hl (by decide) rfl (fun ls hl => ?_)
  refine lv_iconst (v := nI 0) hx hb dX5_total_3 (by decide) ?_
  refine lv_istore_n (lv' := [(2, .int (nI 0)), (1, .int (nI 17)), (0, .ref (ad k))]) hx hb dX5_total_4 rfl hl (by decide) rfl (fun ls hl => ?_)
  refine lv_iload_n hx hb dX5_total_5 rfl (lv_at hl 0 rfl) ?_
  refine lv_iconst (v := nI 2) hx hb dX5_total_6 (by decide) ?_
  refine n_cmp_ge (tgt := 48) hx hb dX5_total_7 (by decide) (by omega) (by omega) (fun c_1 => absurd c_1 (by decide)) (fun c_1 => ?_)
  refine lv_iload_n hx hb dX5_total_10 rfl (lv_at hl 1 rfl) ?_
  refine lv_bipush (v := nI 31) hx hb dX5_total_11 (by decide) ?_
  refine n_mul hx hb dX5_total_13 ?_
  refine lv_aload_n hx hb dX5_total_14 rfl (lv_at hl 2 rfl) ?_
  refine m_get hx hb hts inX5 hown hK hP (ci := 5) rfl (k := k) (by omega) h1 0 (by decide) (hts (.fieldLink RX5 7 "RollbackPair$State" "places" "[F") (by decide +kernel)) rfl dX5_total_15 ?_
  refine lv_iload_n hx hb dX5_total_18 rfl (lv_at hl 0 rfl) ?_
  refine m_fald hx hb hK hP (k := (k + 1)) (by omega) (f := X) h2 (i := 0) (by omega) (by decide) dX5_total_19 ?_
  refine lv_ldcf hx hb hown (hts (.constantFloat RX5 38 (1166016512)) (by decide +kernel)) dX5_total_20 ?_
  refine lv_fmul hx hb dX5_total_22 (by first | exact fm_n hB.1.1 Fc_4096 | exact fm_n hB.2.2.1.1 Fc_4096) ?_
  refine lv_f2i hx hb dX5_total_23 ?_
  refine lv_iadd hx hb dX5_total_24 ?_
  refine lv_istore_n (lv' := [(1, .int ((nI (17 * 31)) + (FP.f2i (FP.fmul (X 0) 1166016512)))), (2, .int (nI 0)), (0, .ref (ad k))]) hx hb dX5_total_25 rfl hl (by decide) rfl (fun ls hl => ?_)
  refine lv_iload_n hx hb dX5_total_26 rfl (lv_at hl 0 rfl) ?_
  refine lv_bipush (v := nI 31) hx hb dX5_total_27 (by decide) ?_
  refine lv_imul hx hb dX5_total_29 ?_
  refine lv_aload_n hx hb dX5_total_30 rfl (lv_at hl 2 rfl) ?_
  refine m_get hx hb hts inX5 hown hK hP (ci := 5) rfl (k := k) (by omega) h1 1 (by decide) (hts (.fieldLink RX5 13 "RollbackPair$State" "speeds" "[F") (by decide +kernel)) rfl dX5_total_31 ?_
  refine lv_iload_n hx hb dX5_total_34 rfl (lv_at hl 1 rfl) ?_
  refine m_fald hx hb hK hP (k := (k + 2)) (by omega) (f := V) h3 (i := 0) (by omega) (by decide) dX5_total_35 ?_
  refine lv_ldcf hx hb hown (hts (.constantFloat RX5 38 (1166016512)) (by decide +kernel)) dX5_total_36 ?_
  refine lv_fmul hx hb dX5_total_38 (by first | exact fm_n hB.2.1.1 Fc_4096 | exact fm_n hB.2.2.2.1.1 Fc_4096) ?_
  refine lv_f2i hx hb dX5_total_39 ?_
  refine lv_iadd hx hb dX5_total_40 ?_
  refine lv_istore_n (lv' := [(1, .int ((((nI (17 * 31)) + (FP.f2i (FP.fmul (X 0) 1166016512))) * (nI 31)) + (FP.f2i (FP.fmul (V 0) 1166016512)))), (2, .int (nI 0)), (0, .ref (ad k))]) hx hb dX5_total_41 rfl hl (by decide) rfl (fun ls hl => ?_)
  refine lv_iinc (v := nI 1) (lv' := [(2, .int (nI 1)), (1, .int ((((nI (17 * 31)) + (FP.f2i (FP.fmul (X 0) 1166016512))) * (nI 31)) + (FP.f2i (FP.fmul (V 0) 1166016512)))), (0, .ref (ad k))]) hx hb dX5_total_42 hl (k := 1) rfl (nI_1 _) (by decide) rfl (fun ls hl => ?_)
  refine lv_goto (tgt := 5) hx hb dX5_total_45 (by decide) ?_
  refine lv_iload_n hx hb dX5_total_5 rfl (lv_at hl 0 rfl) ?_
  refine lv_iconst (v := nI 2) hx hb dX5_total_6 (by decide) ?_
  refine n_cmp_ge (tgt := 48) hx hb dX5_total_7 (by decide) (by omega) (by omega) (fun c_2 => absurd c_2 (by decide)) (fun c_2 => ?_)
  refine lv_iload_n hx hb dX5_total_10 rfl (lv_at hl 1 rfl) ?_
  refine lv_bipush (v := nI 31) hx hb dX5_total_11 (by decide) ?_
  refine lv_imul hx hb dX5_total_13 ?_
  refine lv_aload_n hx hb dX5_total_14 rfl (lv_at hl 2 rfl) ?_
  refine m_get hx hb hts inX5 hown hK hP (ci := 5) rfl (k := k) (by omega) h1 0 (by decide) (hts (.fieldLink RX5 7 "RollbackPair$State" "places" "[F") (by decide +kernel)) rfl dX5_total_15 ?_
  refine lv_iload_n hx hb dX5_total_18 rfl (lv_at hl 0 rfl) ?_
  refine m_fald hx hb hK hP (k := (k + 1)) (by omega) (f := X) h2 (i := 1) (by omega) (by decide) dX5_total_19 ?_
  refine lv_ldcf hx hb hown (hts (.constantFloat RX5 38 (1166016512)) (by decide +kernel)) dX5_total_20 ?_
  refine lv_fmul hx hb dX5_total_22 (by first | exact fm_n hB.1.1 Fc_4096 | exact fm_n hB.2.2.1.1 Fc_4096) ?_
  refine lv_f2i hx hb dX5_total_23 ?_
  refine lv_iadd hx hb dX5_total_24 ?_
  refine lv_istore_n (lv' := [(1, .int ((((((nI (17 * 31)) + (FP.f2i (FP.fmul (X 0) 1166016512))) * (nI 31)) + (FP.f2i (FP.fmul (V 0) 1166016512))) * (nI 31)) + (FP.f2i (FP.fmul (X 1) 1166016512)))), (2, .int (nI 1)), (0, .ref (ad k))]) hx hb dX5_total_25 rfl hl (by decide) rfl (fun ls hl => ?_)
  refine lv_iload_n hx hb dX5_total_26 rfl (lv_at hl 0 rfl) ?_
  refine lv_bipush (v := nI 31) hx hb dX5_total_27 (by decide) ?_
  refine lv_imul hx hb dX5_total_29 ?_
  refine lv_aload_n hx hb dX5_total_30 rfl (lv_at hl 2 rfl) ?_
  refine m_get hx hb hts inX5 hown hK hP (ci := 5) rfl (k := k) (by omega) h1 1 (by decide) (hts (.fieldLink RX5 13 "RollbackPair$State" "speeds" "[F") (by decide +kernel)) rfl dX5_total_31 ?_
  refine lv_iload_n hx hb dX5_total_34 rfl (lv_at hl 1 rfl) ?_
  refine m_fald hx hb hK hP (k := (k + 2)) (by omega) (f := V) h3 (i := 1) (by omega) (by decide) dX5_total_35 ?_
  refine lv_ldcf hx hb hown (hts (.constantFloat RX5 38 (1166016512)) (by decide +kernel)) dX5_total_36 ?_
  refine lv_fmul hx hb dX5_total_38 (by first | exact fm_n hB.2.1.1 Fc_4096 | exact fm_n hB.2.2.2.1.1 Fc_4096) ?_
  refine lv_f2i hx hb dX5_total_39 ?_
  refine lv_iadd hx hb dX5_total_40 ?_
  refine lv_istore_n (lv' := [(1, .int ((((((((nI (17 * 31)) + (FP.f2i (FP.fmul (X 0) 1166016512))) * (nI 31)) + (FP.f2i (FP.fmul (V 0) 1166016512))) * (nI 31)) + (FP.f2i (FP.fmul (X 1) 1166016512))) * (nI 31)) + (FP.f2i (FP.fmul (V 1) 1166016512)))), (2, .int (nI 1)), (0, .ref (ad k))]) hx hb dX5_total_41 rfl hl (by decide) rfl (fun ls hl => ?_)
  refine lv_iinc (v := nI 2) (lv' := [(2, .int (nI 2)), (1, .int ((((((((nI (17 * 31)) + (FP.f2i (FP.fmul (X 0) 1166016512))) * (nI 31)) + (FP.f2i (FP.fmul (V 0) 1166016512))) * (nI 31)) + (FP.f2i (FP.fmul (X 1) 1166016512))) * (nI 31)) + (FP.f2i (FP.fmul (V 1) 1166016512)))), (0, .ref (ad k))]) hx hb dX5_total_42 hl (k := 1) rfl (nI_1 _) (by decide) rfl (fun ls hl => ?_)
  refine lv_goto (tgt := 5) hx hb dX5_total_45 (by decide) ?_
  refine lv_iload_n hx hb dX5_total_5 rfl (lv_at hl 0 rfl) ?_
  refine lv_iconst (v := nI 2) hx hb dX5_total_6 (by decide) ?_
  refine n_cmp_ge (tgt := 48) hx hb dX5_total_7 (by decide) (by omega) (by omega) (fun c_3 => ?_) (fun c_3 => absurd c_3 (by decide))
  refine lv_iload_n hx hb dX5_total_48 rfl (lv_at hl 1 rfl) ?_
  refine lv_bipush (v := nI 31) hx hb dX5_total_49 (by decide) ?_
  refine lv_imul hx hb dX5_total_51 ?_
  refine lv_aload_n hx hb dX5_total_52 rfl (lv_at hl 2 rfl) ?_
  refine m_get hx hb hts inX5 hown hK hP (ci := 5) rfl (k := k) (by omega) h1 2 (by decide) (hts (.fieldLink RX5 22 "RollbackPair$State" "hitCount" "I") (by decide +kernel)) rfl dX5_total_53 ?_
  refine lv_iadd hx hb dX5_total_56 ?_
  refine lv_istore_n (lv' := [(1, .int ((((((((((nI (17 * 31)) + (FP.f2i (FP.fmul (X 0) 1166016512))) * (nI 31)) + (FP.f2i (FP.fmul (V 0) 1166016512))) * (nI 31)) + (FP.f2i (FP.fmul (X 1) 1166016512))) * (nI 31)) + (FP.f2i (FP.fmul (V 1) 1166016512))) * (nI 31)) + h)), (2, .int (nI 2)), (0, .ref (ad k))]) hx hb dX5_total_57 rfl hl (by decide) rfl (fun ls hl => ?_)
  refine lv_iload_n hx hb dX5_total_58 rfl (lv_at hl 0 rfl) ?_
  refine lv_bipush (v := nI 31) hx hb dX5_total_59 (by decide) ?_
  refine lv_imul hx hb dX5_total_61 ?_
  refine lv_aload_n hx hb dX5_total_62 rfl (lv_at hl 2 rfl) ?_
  refine m_get hx hb hts inX5 hown hK hP (ci := 5) rfl (k := k) (by omega) h1 3 (by decide) (hts (.fieldLink RX5 29 "RollbackPair$State" "workDone" "D") (by decide +kernel)) rfl dX5_total_63 ?_
  refine lv_ldc2d hx hb hown (hts (.constantDouble RX5 39 (4634204016564240384)) (by decide +kernel)) dX5_total_66 ?_
  refine lv_dmul hx hb dX5_total_69 (dm_n hB.2.2.2.2.1 Dc_64) ?_
  refine lv_d2i hx hb dX5_total_70 ?_
  refine lv_iadd hx hb dX5_total_71 ?_
  exact r_i hx hb hr hlocks hK hP hS dX5_total_72 ⟨rfl, rfl⟩
