set_option maxHeartbeats 4000000 in
set_option maxRecDepth 100000 in
/-- move(x, v, i) -/
theorem c_move (l : Launch) (D : va_G) (cs : Nat → ClassId) (ad : Nat → Nat) (hJ : Inj ad 26) (d w : Int32) (S : SS) (np ns : UInt32) (x v : UInt32) (i : Int32) (hX : Fb x (-(8 * e8)) (264 * e8)) (hV : Fb v (-(32 * e8)) (32 * e8)) : CTv l yX7_move wsX7_move ({ frames := 0, cells := 0, slots := 0, locals := 0 }) D cs ad 26 (mm ad cs d w S np ns) [.ref (ad 0), .float x, .float v, .int i] (fun M2 => M2 = mm ad cs d w S (mv x v i).1 (mv x v i).2) := by
  refine Met.ofW (cc := cX7_move) (maxL := 9) (ret := none) (by decide) rfl ?_
  intro p e s m args below meth c s₁ B hml hv
  obtain ⟨rfl, hP, hK⟩ := hv
  have hx := B.exec
  have hb := B.bytes
  have hr := B.returns
  have hts := atoms_spec (ws := wsX7_move) B.pre
  have hown : s.vm.findClass RX7 = some m.cls := findClass_of_methodNamed B.named
  have hlocks := B.notSynchronized
  have hS : va_S (Ad ad 26) s.heap s.heap [] := va_S.rf
  have hl := lv_entry ([.ref (ad 0), .float x, .float v, .int i]) (n := 9) (Nat.le_of_ble_eq_true rfl)
  rw [lg_entry_eq]
  generalize (lg_sl ([.ref (ad 0), .float x, .float v, .int i]) ++ List.replicate (9 - (lg_sl ([.ref (ad 0), .float x, .float v, .int i])).length) Slot.unset).toArray = ls at hl ⊢
  have hl : lv_has ls 9 [(0, .ref (ad 0)), (1, .float x), (2, .float v), (3, .int i)] := hl
  have inX7 : ∀ w ∈ u_ws RX7 TX7 29, w ∈ wsX7_move := by decide +kernel
  refine jn (fun (z : UInt32) ls => z = psh i ∧ lv_has ls 9 [(6, .float z), (0, .ref (ad 0)), (1, .float x), (2, .float v), (3, .int i)]) 52 (fun _ => []) (fun z ls hz => ?_) (fun J => ?_)
  · obtain ⟨rfl, hl⟩ := hz
    refine jn (fun (z : UInt32) ls => z = mvS v i ∧ lv_has ls 9 [(0, .ref (ad 0)), (1, .float x)]) 81 (fun z => [.float z]) (fun z ls hz => ?_) (fun J => ?_)
    · obtain ⟨rfl, hl⟩ := hz
      refine lv_fstore (lv' := [(7, .float (mvS v i)), (0, .ref (ad 0)), (1, .float x)]) hx hb dX7_move_81 hl (by decide) rfl (fun ls hl => ?_)
      refine lv_fload_n hx hb dX7_move_83 rfl (lv_at hl 2 rfl) ?_
      refine lv_fload hx hb dX7_move_84 (lv_at hl 0 rfl) ?_
      refine lv_fadd hx hb dX7_move_86 (mv_x hX (mv_4 hV i)).n ?_
      refine lv_fstore (lv' := [(8, .float (FP.fadd x (mvS v i))), (7, .float (mvS v i)), (0, .ref (ad 0)), (1, .float x)]) hx hb dX7_move_87 hl (by decide) rfl (fun ls hl => ?_)
      refine lv_fload hx hb dX7_move_89 (lv_at hl 0 rfl) ?_
      refine lv_fconst0 hx hb dX7_move_91 ?_
      refine lv_fcmp hx hb dX7_move_92 ?_
      refine lv_if_ge (tgt := 112) hx hb dX7_move_93 (by decide) (fun c1 => ?_) (fun c1 => ?_)
      · refine lv_fload hx hb dX7_move_112 (lv_at hl 0 rfl) ?_
        refine lv_ldcf hx hb hown (hts (.constantFloat RX7 103 (1107296256)) (by decide +kernel)) dX7_move_114 ?_
        refine lv_fcmp hx hb dX7_move_116 ?_
        refine lv_if_le (tgt := 135) hx hb dX7_move_117 (by decide) (fun c2 => ?_) (fun c2 => ?_)
        · refine lv_aload_n hx hb dX7_move_135 rfl (lv_at hl 2 rfl) ?_
          refine lv_fload hx hb dX7_move_136 (lv_at hl 0 rfl) ?_
          refine m_put hx hb hts inX7 tyX7 tyX7_ok nmX7 hown hK hP hJ hS (ci := 7) rfl (k := 0) (by decide) rfl 27 (by decide) (hts (.fieldLink RX7 105 "RollbackPairModel" "newPlace" "F") (by decide +kernel)) rfl rfl rfl (Nat.le_of_ble_eq_true rfl) (fs' := [.int d, .int w, .ref (ad 1), .ref (ad 2), .ref (ad 3), .ref (ad 4), .ref (ad 5), .ref (ad 6), .ref (ad 7), .ref (ad 8), .ref (ad 9), .ref (ad 10), .ref (ad 11), .ref (ad 12), .ref (ad 13), .ref (ad 14), .ref (ad 15), .ref (ad 16), .ref (ad 17), .ref (ad 18), .ref (ad 19), .ref (ad 20), .ref (ad 21), .ref (ad 22), .ref (ad 23), .ref (ad 24), .ref (ad 25), .float (FP.fadd x (mvS v i)), .float ns]) rfl dX7_move_138 (fun H locs hP hS => ?_)
          rw [mm_np] at hP
          refine lv_aload_n hx hb dX7_move_141 rfl (lv_at hl 2 rfl) ?_
          refine lv_fload hx hb dX7_move_142 (lv_at hl 1 rfl) ?_
          refine m_put hx hb hts inX7 tyX7 tyX7_ok nmX7 hown hK hP hJ hS (ci := 7) rfl (k := 0) (by decide) rfl 28 (by decide) (hts (.fieldLink RX7 109 "RollbackPairModel" "newSpeed" "F") (by decide +kernel)) rfl rfl rfl (Nat.le_of_ble_eq_true rfl) (fs' := [.int d, .int w, .ref (ad 1), .ref (ad 2), .ref (ad 3), .ref (ad 4), .ref (ad 5), .ref (ad 6), .ref (ad 7), .ref (ad 8), .ref (ad 9), .ref (ad 10), .ref (ad 11), .ref (ad 12), .ref (ad 13), .ref (ad 14), .ref (ad 15), .ref (ad 16), .ref (ad 17), .ref (ad 18), .ref (ad 19), .ref (ad 20), .ref (ad 21), .ref (ad 22), .ref (ad 23), .ref (ad 24), .ref (ad 25), .float (FP.fadd x (mvS v i)), .float (mvS v i)]) rfl dX7_move_144 (fun H locs hP hS => ?_)
          rw [mm_np] at hP
          exact r_v hx hb hr hlocks hK hP hS dX7_move_147 (by rw [mv_e3 c1 c2])
        · refine lv_ldcf hx hb hown (hts (.constantFloat RX7 104 (1115684864)) (by decide +kernel)) dX7_move_120 ?_
          refine lv_fload hx hb dX7_move_122 (lv_at hl 0 rfl) ?_
          refine lv_fsub hx hb dX7_move_124 (mv_64 (mv_x hX (mv_4 hV i)) (mv_gt (mv_x hX (mv_4 hV i)).1 c2)).n ?_
          refine lv_fstore (lv' := [(8, .float (FP.fsub 1115684864 (FP.fadd x (mvS v i)))), (7, .float (mvS v i)), (0, .ref (ad 0)), (1, .float x)]) hx hb dX7_move_125 hl (by decide) rfl (fun ls hl => ?_)
          refine lv_fload hx hb dX7_move_127 (lv_at hl 1 rfl) ?_
          refine lv_fneg hx hb dX7_move_129 ?_
          refine lv_ldcf hx hb hown (hts (.constantFloat RX7 102 (1056964608)) (by decide +kernel)) dX7_move_130 ?_
          refine lv_fmul hx hb dX7_move_132 (mv_5 (mv_4 hV i)).n ?_
          refine lv_fstore (lv' := [(7, .float (FP.fmul (FP.fneg (mvS v i)) 1056964608)), (8, .float (FP.fsub 1115684864 (FP.fadd x (mvS v i)))), (0, .ref (ad 0)), (1, .float x)]) hx hb dX7_move_133 hl (by decide) rfl (fun ls hl => ?_)
          refine lv_aload_n hx hb dX7_move_135 rfl (lv_at hl 2 rfl) ?_
          refine lv_fload hx hb dX7_move_136 (lv_at hl 1 rfl) ?_
          refine m_put hx hb hts inX7 tyX7 tyX7_ok nmX7 hown hK hP hJ hS (ci := 7) rfl (k := 0) (by decide) rfl 27 (by decide) (hts (.fieldLink RX7 105 "RollbackPairModel" "newPlace" "F") (by decide +kernel)) rfl rfl rfl (Nat.le_of_ble_eq_true rfl) (fs' := [.int d, .int w, .ref (ad 1), .ref (ad 2), .ref (ad 3), .ref (ad 4), .ref (ad 5), .ref (ad 6), .ref (ad 7), .ref (ad 8), .ref (ad 9), .ref (ad 10), .ref (ad 11), .ref (ad 12), .ref (ad 13), .ref (ad 14), .ref (ad 15), .ref (ad 16), .ref (ad 17), .ref (ad 18), .ref (ad 19), .ref (ad 20), .ref (ad 21), .ref (ad 22), .ref (ad 23), .ref (ad 24), .ref (ad 25), .float (FP.fsub 1115684864 (FP.fadd x (mvS v i))), .float ns]) rfl dX7_move_138 (fun H locs hP hS => ?_)
          rw [mm_np] at hP
          refine lv_aload_n hx hb dX7_move_141 rfl (lv_at hl 2 rfl) ?_
          refine lv_fload hx hb dX7_move_142 (lv_at hl 0 rfl) ?_
          refine m_put hx hb hts inX7 tyX7 tyX7_ok nmX7 hown hK hP hJ hS (ci := 7) rfl (k := 0) (by decide) rfl 28 (by decide) (hts (.fieldLink RX7 109 "RollbackPairModel" "newSpeed" "F") (by decide +kernel)) rfl rfl rfl (Nat.le_of_ble_eq_true rfl) (fs' := [.int d, .int w, .ref (ad 1), .ref (ad 2), .ref (ad 3), .ref (ad 4), .ref (ad 5), .ref (ad 6), .ref (ad 7), .ref (ad 8), .ref (ad 9), .ref (ad 10), .ref (ad 11), .ref (ad 12), .ref (ad 13), .ref (ad 14), .ref (ad 15), .ref (ad 16), .ref (ad 17), .ref (ad 18), .ref (ad 19), .ref (ad 20), .ref (ad 21), .ref (ad 22), .ref (ad 23), .ref (ad 24), .ref (ad 25), .float (FP.fsub 1115684864 (FP.fadd x (mvS v i))), .float (FP.fmul (FP.fneg (mvS v i)) 1056964608)]) rfl dX7_move_144 (fun H locs hP hS => ?_)
          rw [mm_np] at hP
          exact r_v hx hb hr hlocks hK hP hS dX7_move_147 (by rw [mv_e2 c1 c2])
      · refine lv_fload hx hb dX7_move_96 (lv_at hl 0 rfl) ?_
        refine lv_fneg hx hb dX7_move_98 ?_
        refine lv_fstore (lv' := [(8, .float (FP.fneg (FP.fadd x (mvS v i)))), (7, .float (mvS v i)), (0, .ref (ad 0)), (1, .float x)]) hx hb dX7_move_99 hl (by decide) rfl (fun ls hl => ?_)
        refine lv_fload hx hb dX7_move_101 (lv_at hl 1 rfl) ?_
        refine lv_fneg hx hb dX7_move_103 ?_
        refine lv_ldcf hx hb hown (hts (.constantFloat RX7 102 (1056964608)) (by decide +kernel)) dX7_move_104 ?_
        refine lv_fmul hx hb dX7_move_106 (mv_5 (mv_4 hV i)).n ?_
        refine lv_fstore (lv' := [(7, .float (FP.fmul (FP.fneg (mvS v i)) 1056964608)), (8, .float (FP.fneg (FP.fadd x (mvS v i)))), (0, .ref (ad 0)), (1, .float x)]) hx hb dX7_move_107 hl (by decide) rfl (fun ls hl => ?_)
        refine lv_goto (tgt := 135) hx hb dX7_move_109 (by decide) ?_
        refine lv_aload_n hx hb dX7_move_135 rfl (lv_at hl 2 rfl) ?_
        refine lv_fload hx hb dX7_move_136 (lv_at hl 1 rfl) ?_
        refine m_put hx hb hts inX7 tyX7 tyX7_ok nmX7 hown hK hP hJ hS (ci := 7) rfl (k := 0) (by decide) rfl 27 (by decide) (hts (.fieldLink RX7 105 "RollbackPairModel" "newPlace" "F") (by decide +kernel)) rfl rfl rfl (Nat.le_of_ble_eq_true rfl) (fs' := [.int d, .int w, .ref (ad 1), .ref (ad 2), .ref (ad 3), .ref (ad 4), .ref (ad 5), .ref (ad 6), .ref (ad 7), .ref (ad 8), .ref (ad 9), .ref (ad 10), .ref (ad 11), .ref (ad 12), .ref (ad 13), .ref (ad 14), .ref (ad 15), .ref (ad 16), .ref (ad 17), .ref (ad 18), .ref (ad 19), .ref (ad 20), .ref (ad 21), .ref (ad 22), .ref (ad 23), .ref (ad 24), .ref (ad 25), .float (FP.fneg (FP.fadd x (mvS v i))), .float ns]) rfl dX7_move_138 (fun H locs hP hS => ?_)
        rw [mm_np] at hP
        refine lv_aload_n hx hb dX7_move_141 rfl (lv_at hl 2 rfl) ?_
        refine lv_fload hx hb dX7_move_142 (lv_at hl 0 rfl) ?_
        refine m_put hx hb hts inX7 tyX7 tyX7_ok nmX7 hown hK hP hJ hS (ci := 7) rfl (k := 0) (by decide) rfl 28 (by decide) (hts (.fieldLink RX7 109 "RollbackPairModel" "newSpeed" "F") (by decide +kernel)) rfl rfl rfl (Nat.le_of_ble_eq_true rfl) (fs' := [.int d, .int w, .ref (ad 1), .ref (ad 2), .ref (ad 3), .ref (ad 4), .ref (ad 5), .ref (ad 6), .ref (ad 7), .ref (ad 8), .ref (ad 9), .ref (ad 10), .ref (ad 11), .ref (ad 12), .ref (ad 13), .ref (ad 14), .ref (ad 15), .ref (ad 16), .ref (ad 17), .ref (ad 18), .ref (ad 19), .ref (ad 20), .ref (ad 21), .ref (ad 22), .ref (ad 23), .ref (ad 24), .ref (ad 25), .float (FP.fneg (FP.fadd x (mvS v i))), .float (FP.fmul (FP.fneg (mvS v i)) 1056964608)]) rfl dX7_move_144 (fun H locs hP hS => ?_)
        rw [mm_np] at hP
        exact r_v hx hb hr hlocks hK hP hS dX7_move_147 (by rw [mv_e1 c1])
    · refine lv_fload_n hx hb dX7_move_52 rfl (lv_at hl 3 rfl) ?_
      refine lv_ldcf hx hb hown (hts (.constantFloat RX7 100 (1063256064)) (by decide +kernel)) dX7_move_53 ?_
      refine lv_fmul hx hb dX7_move_55 (mv_1 hV).n ?_
      refine lv_fload hx hb dX7_move_56 (lv_at hl 0 rfl) ?_
      refine lv_ldcf hx hb hown (hts (.constantFloat RX7 101 (1050253722)) (by decide +kernel)) dX7_move_58 ?_
      refine lv_fmul hx hb dX7_move_60 (mv_2 i).n ?_
      refine lv_fadd hx hb dX7_move_61 (mv_3 hV i).n ?_
      refine lv_fstore (lv' := [(7, .float (mvV v i)), (6, .float (psh i)), (0, .ref (ad 0)), (1, .float x), (2, .float v), (3, .int i)]) hx hb dX7_move_62 hl (by decide) rfl (fun ls hl => ?_)
      refine lv_iload_n hx hb dX7_move_64 rfl (lv_at hl 5 rfl) ?_
      refine lv_iconst (v := nI 4) hx hb dX7_move_65 (by decide) ?_
      refine lv_iand hx hb dX7_move_66 ?_
      refine lv_iconst (v := nI 4) hx hb dX7_move_67 (by decide) ?_
      refine lv_icmp_ne (tgt := 79) hx hb dX7_move_68 (by decide) (fun c3 => ?_) (fun c3 => ?_)
      · refine lv_fload hx hb dX7_move_79 (lv_at hl 0 rfl) ?_
        exact J _ ls ⟨by unfold mvS; rw [if_neg c3], lv_sub hl [2, 3] rfl⟩
      · refine lv_fload hx hb dX7_move_71 (lv_at hl 0 rfl) ?_
        refine lv_ldcf hx hb hown (hts (.constantFloat RX7 102 (1056964608)) (by decide +kernel)) dX7_move_73 ?_
        refine lv_fmul hx hb dX7_move_75 (mv_h (mv_3 hV i)).n ?_
        refine lv_goto (tgt := 81) hx hb dX7_move_76 (by decide) ?_
        exact J _ ls ⟨by unfold mvS; rw [if_pos c3], lv_sub hl [2, 3] rfl⟩
  · refine lv_iload_n hx hb dX7_move_0 rfl (lv_at hl 3 rfl) ?_
    refine lv_iconst (v := nI 1) hx hb dX7_move_1 (by decide) ?_
    refine lv_iand hx hb dX7_move_2 ?_
    refine lv_iconst (v := nI 1) hx hb dX7_move_3 (by decide) ?_
    refine lv_icmp_ne (tgt := 11) hx hb dX7_move_4 (by decide) (fun cL => ?_) (fun cL => ?_)
    · refine lv_iconst (v := nI 0) hx hb dX7_move_11 (by decide) ?_
      refine lv_istore (lv' := [(4, .int (nI 0)), (0, .ref (ad 0)), (1, .float x), (2, .float v), (3, .int i)]) hx hb dX7_move_12 hl (by decide) rfl (fun ls hl => ?_)
      refine lv_iload_n hx hb dX7_move_14 rfl (lv_at hl 4 rfl) ?_
      refine lv_iconst (v := nI 2) hx hb dX7_move_15 (by decide) ?_
      refine lv_iand hx hb dX7_move_16 ?_
      refine lv_iconst (v := nI 2) hx hb dX7_move_17 (by decide) ?_
      refine lv_icmp_ne (tgt := 25) hx hb dX7_move_18 (by decide) (fun cR => ?_) (fun cR => ?_)
      · refine lv_iconst (v := nI 0) hx hb dX7_move_25 (by decide) ?_
        refine lv_istore (lv' := [(5, .int (nI 0)), (4, .int (nI 0)), (0, .ref (ad 0)), (1, .float x), (2, .float v), (3, .int i)]) hx hb dX7_move_26 hl (by decide) rfl (fun ls hl => ?_)
        refine lv_iload hx hb dX7_move_28 (lv_at hl 1 rfl) ?_
        refine lv_iload hx hb dX7_move_30 (lv_at hl 0 rfl) ?_
        refine n_cmp_ne (tgt := 39) hx hb dX7_move_32 (by decide) (by omega) (by omega) (fun c_1 => absurd c_1 (by decide)) (fun c_1 => ?_)
        refine lv_fconst0 hx hb dX7_move_35 ?_
        refine lv_goto (tgt := 50) hx hb dX7_move_36 (by decide) ?_
        refine lv_fstore (lv' := [(6, .float FP.fconst0), (5, .int (nI 0)), (4, .int (nI 0)), (0, .ref (ad 0)), (1, .float x), (2, .float v), (3, .int i)]) hx hb dX7_move_50 hl (by decide) rfl (fun ls hl => ?_)
        exact J _ ls ⟨by unfold psh; simp [cL, cR], lv_sub hl [0, 3, 4, 5, 6] rfl⟩
      · refine lv_iconst (v := nI 1) hx hb dX7_move_21 (by decide) ?_
        refine lv_goto (tgt := 26) hx hb dX7_move_22 (by decide) ?_
        refine lv_istore (lv' := [(5, .int (nI 1)), (4, .int (nI 0)), (0, .ref (ad 0)), (1, .float x), (2, .float v), (3, .int i)]) hx hb dX7_move_26 hl (by decide) rfl (fun ls hl => ?_)
        refine lv_iload hx hb dX7_move_28 (lv_at hl 1 rfl) ?_
        refine lv_iload hx hb dX7_move_30 (lv_at hl 0 rfl) ?_
        refine n_cmp_ne (tgt := 39) hx hb dX7_move_32 (by decide) (by omega) (by omega) (fun c_2 => ?_) (fun c_2 => absurd c_2 (by decide))
        refine lv_iload hx hb dX7_move_39 (lv_at hl 0 rfl) ?_
        refine n_if_eq (tgt := 48) hx hb dX7_move_41 (by decide) (by omega) (fun c_3 => absurd c_3 (by decide)) (fun c_3 => ?_)
        refine lv_fconst1 hx hb dX7_move_44 ?_
        refine lv_goto (tgt := 50) hx hb dX7_move_45 (by decide) ?_
        refine lv_fstore (lv' := [(6, .float FP.fconst1), (5, .int (nI 1)), (4, .int (nI 0)), (0, .ref (ad 0)), (1, .float x), (2, .float v), (3, .int i)]) hx hb dX7_move_50 hl (by decide) rfl (fun ls hl => ?_)
        exact J _ ls ⟨by unfold psh; simp [cL, cR], lv_sub hl [0, 3, 4, 5, 6] rfl⟩
    · refine lv_iconst (v := nI 1) hx hb dX7_move_7 (by decide) ?_
      refine lv_goto (tgt := 12) hx hb dX7_move_8 (by decide) ?_
      refine lv_istore (lv' := [(4, .int (nI 1)), (0, .ref (ad 0)), (1, .float x), (2, .float v), (3, .int i)]) hx hb dX7_move_12 hl (by decide) rfl (fun ls hl => ?_)
      refine lv_iload_n hx hb dX7_move_14 rfl (lv_at hl 4 rfl) ?_
      refine lv_iconst (v := nI 2) hx hb dX7_move_15 (by decide) ?_
      refine lv_iand hx hb dX7_move_16 ?_
      refine lv_iconst (v := nI 2) hx hb dX7_move_17 (by decide) ?_
      refine lv_icmp_ne (tgt := 25) hx hb dX7_move_18 (by decide) (fun cR => ?_) (fun cR => ?_)
      · refine lv_iconst (v := nI 0) hx hb dX7_move_25 (by decide) ?_
        refine lv_istore (lv' := [(5, .int (nI 0)), (4, .int (nI 1)), (0, .ref (ad 0)), (1, .float x), (2, .float v), (3, .int i)]) hx hb dX7_move_26 hl (by decide) rfl (fun ls hl => ?_)
        refine lv_iload hx hb dX7_move_28 (lv_at hl 1 rfl) ?_
        refine lv_iload hx hb dX7_move_30 (lv_at hl 0 rfl) ?_
        refine n_cmp_ne (tgt := 39) hx hb dX7_move_32 (by decide) (by omega) (by omega) (fun c_4 => ?_) (fun c_4 => absurd c_4 (by decide))
        refine lv_iload hx hb dX7_move_39 (lv_at hl 0 rfl) ?_
        refine n_if_eq (tgt := 48) hx hb dX7_move_41 (by decide) (by omega) (fun c_5 => ?_) (fun c_5 => absurd c_5 (by decide))
        refine lv_ldcf hx hb hown (hts (.constantFloat RX7 99 (3212836864)) (by decide +kernel)) dX7_move_48 ?_
        refine lv_fstore (lv' := [(6, .float 3212836864), (5, .int (nI 0)), (4, .int (nI 1)), (0, .ref (ad 0)), (1, .float x), (2, .float v), (3, .int i)]) hx hb dX7_move_50 hl (by decide) rfl (fun ls hl => ?_)
        exact J _ ls ⟨by unfold psh; simp [cL, cR], lv_sub hl [0, 3, 4, 5, 6] rfl⟩
      · refine lv_iconst (v := nI 1) hx hb dX7_move_21 (by decide) ?_
        refine lv_goto (tgt := 26) hx hb dX7_move_22 (by decide) ?_
        refine lv_istore (lv' := [(5, .int (nI 1)), (4, .int (nI 1)), (0, .ref (ad 0)), (1, .float x), (2, .float v), (3, .int i)]) hx hb dX7_move_26 hl (by decide) rfl (fun ls hl => ?_)
        refine lv_iload hx hb dX7_move_28 (lv_at hl 1 rfl) ?_
        refine lv_iload hx hb dX7_move_30 (lv_at hl 0 rfl) ?_
        refine n_cmp_ne (tgt := 39) hx hb dX7_move_32 (by decide) (by omega) (by omega) (fun c_6 => absurd c_6 (by decide)) (fun c_6 => ?_)
        refine lv_fconst0 hx hb dX7_move_35 ?_
        refine lv_goto (tgt := 50) hx hb dX7_move_36 (by decide) ?_
        refine lv_fstore (lv' := [(6, .float FP.fconst0), (5, .int (nI 1)), (4, .int (nI 1)), (0, .ref (ad 0)), (1, .float x), (2, .float v), (3, .int i)]) hx hb dX7_move_50 hl (by decide) rfl (fun ls hl => ?_)
        exact J _ ls ⟨by unfold psh; simp [cL, cR], lv_sub hl [0, 3, 4, 5, 6] rfl⟩
