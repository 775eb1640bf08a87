/-- a frame is played: the inputs used, the next state -/
def mPlay (S : SS) (q f : Nat) : SS :=
  sD (sI (sF (sF (sF (sF (sI (sI S 11 (upd (S.1 11) (1200 * q + f) (mUse S q 0 f))) 11 (upd (upd (S.1 11) (1200 * q + f) (mUse S q 0 f)) (1200 * q + 600 + f) (mUse S q 1 f)))
    13 (vf_upd (S.2.1 13) (600 * q + f + 1) (st_x (mv (S.2.1 13 (600 * q + f)) (S.2.1 14 (600 * q + f)) (mUse S q 0 f)) (mv (S.2.1 15 (600 * q + f)) (S.2.1 16 (600 * q + f)) (mUse S q 1 f))))) 14 (vf_upd (S.2.1 14) (600 * q + f + 1) (st_s (mv (S.2.1 13 (600 * q + f)) (S.2.1 14 (600 * q + f)) (mUse S q 0 f)) (mv (S.2.1 15 (600 * q + f)) (S.2.1 16 (600 * q + f)) (mUse S q 1 f))))) 15 (vf_upd (S.2.1 15) (600 * q + f + 1) (st_y (mv (S.2.1 13 (600 * q + f)) (S.2.1 14 (600 * q + f)) (mUse S q 0 f)) (mv (S.2.1 15 (600 * q + f)) (S.2.1 16 (600 * q + f)) (mUse S q 1 f))))) 16 (vf_upd (S.2.1 16) (600 * q + f + 1) (st_t (mv (S.2.1 13 (600 * q + f)) (S.2.1 14 (600 * q + f)) (mUse S q 0 f)) (mv (S.2.1 15 (600 * q + f)) (S.2.1 16 (600 * q + f)) (mUse S q 1 f)))))
    17 (upd (S.1 17) (600 * q + f + 1) (S.1 17 (600 * q + f) + st_m (mv (S.2.1 13 (600 * q + f)) (S.2.1 14 (600 * q + f)) (mUse S q 0 f)) (mv (S.2.1 15 (600 * q + f)) (S.2.1 16 (600 * q + f)) (mUse S q 1 f))))) (vf_upd S.2.2.2 (600 * q + f + 1) (st_w (mv (S.2.1 13 (600 * q + f)) (S.2.1 14 (600 * q + f)) (mUse S q 0 f)) (mv (S.2.1 15 (600 * q + f)) (S.2.1 16 (600 * q + f)) (mUse S q 1 f)) (S.2.2.2 (600 * q + f))))
/-- the state of peer q ahead of frame f is within its bounds -/
def BdAt (S : SS) (q f : Nat) : Prop := Bd (S.2.1 13 (600 * q + f)) (S.2.1 14 (600 * q + f)) (S.2.1 15 (600 * q + f)) (S.2.1 16 (600 * q + f)) (S.2.2.2 (600 * q + f)) f
set_option maxHeartbeats 4000000 in
set_option maxRecDepth 100000 in
/-- play(q, f) -/
theorem c_play (l : Launch) (D : va_G) (cs : Nat → ClassId) (ad : Nat → Nat) (hJ : Inj ad 26) (d w : Int32) (S : SS) (np ns : UInt32) (q f N0 N1 : Nat) (hq : q < 2) (hf : f < 599) (h0 : S.1 12 (2 * q + 0) = nI N0) (hN0 : N0 ≤ 600) (h1 : S.1 12 (2 * q + 1) = nI N1) (hN1 : N1 ≤ 600) (hB : BdAt S q f) : CTv l yX7_play wsX7_play ({ frames := 1, cells := 0, slots := 0, locals := 28 }) D cs ad 26 (mm ad cs d w S np ns) [.ref (ad 0), .int (nI q), .int (nI f)] (fun M2 => ∃ np2 ns2, M2 = mm ad cs d w (mPlay S q f) np2 ns2) := by
  refine Met.ofW (cc := cX7_play) (maxL := 15) (ret := none) (by decide) rfl ?_
  intro p e s m args below meth c s₁ B hml hv
  obtain ⟨rfl, hP, hK⟩ := hv
  have hx := B.exec
  have hb := B.bytes
  have hr := B.returns
  have hts := atoms_spec (ws := wsX7_play) B.pre
  have hown : s.vm.findClass RX7 = some m.cls := findClass_of_methodNamed B.named
  have hlocks := B.notSynchronized
  have hS : va_S (Ad ad 26) s.heap s.heap [] := va_S.rf
  have hl := lv_entry ([.ref (ad 0), .int (nI q), .int (nI f)]) (n := 15) (Nat.le_of_ble_eq_true rfl)
  rw [lg_entry_eq]
  generalize (lg_sl ([.ref (ad 0), .int (nI q), .int (nI f)]) ++ List.replicate (15 - (lg_sl ([.ref (ad 0), .int (nI q), .int (nI f)])).length) Slot.unset).toArray = ls at hl ⊢
  have hl : lv_has ls 15 [(0, .ref (ad 0)), (1, .int (nI q)), (2, .int (nI f))] := hl
  have inX7 : ∀ w ∈ u_ws RX7 TX7 29, w ∈ wsX7_play := by decide +kernel
  have hA1 := mv_b hB.1 hB.2.1 (mUse S q 0 f)
  have hB1 := mv_b hB.2.2.1 hB.2.2.2.1 (mUse S q 1 f)
  have hs : Fb (st_s (mv (S.2.1 13 (600 * q + f)) (S.2.1 14 (600 * q + f)) (mUse S q 0 f)) (mv (S.2.1 15 (600 * q + f)) (S.2.1 16 (600 * q + f)) (mUse S q 1 f))) (-(32 * e8)) (32 * e8) := by unfold st_s; split; exact hB1.2; exact hA1.2
  have ht : Fb (st_t (mv (S.2.1 13 (600 * q + f)) (S.2.1 14 (600 * q + f)) (mUse S q 0 f)) (mv (S.2.1 15 (600 * q + f)) (S.2.1 16 (600 * q + f)) (mUse S q 1 f))) (-(32 * e8)) (32 * e8) := by unfold st_t; split; exact hA1.2; exact hB1.2
  refine lv_sipush (v := nI 600) hx hb dX7_play_0 (by decide) ?_
  refine lv_iload_n hx hb dX7_play_3 rfl (lv_at hl 1 rfl) ?_
  refine n_mul hx hb dX7_play_4 ?_
  refine lv_iload_n hx hb dX7_play_5 rfl (lv_at hl 2 rfl) ?_
  refine n_add hx hb dX7_play_6 ?_
  refine lv_istore_n (lv' := [(3, .int (nI (600 * q + f))), (0, .ref (ad 0)), (1, .int (nI q)), (2, .int (nI f))]) hx hb dX7_play_7 rfl hl (by decide) rfl (fun ls hl => ?_)
  refine lv_aload_n hx hb dX7_play_8 rfl (lv_at hl 1 rfl) ?_
  refine lv_iload_n hx hb dX7_play_9 rfl (lv_at hl 2 rfl) ?_
  refine lv_iconst (v := nI 0) hx hb dX7_play_10 (by decide) ?_
  refine lv_iload_n hx hb dX7_play_11 rfl (lv_at hl 3 rfl) ?_
  refine k_Vi (As := [.int (nI q), .int (nI 0), .int (nI f)]) (rest := []) (k := 0) (ci := 7) ⟨hx, hb, hml, hown, hts⟩ hK hP hS Ad_le (c_useOf l D cs ad hJ d w S np ns q 0 f N0 hq (by decide) (by omega) h0 hN0) (cwV 3 hts gX7_play_X7_useOf rfl rfl rfl (by decide +kernel) ⟨Nat.le_of_ble_eq_true rfl, Nat.le_of_ble_eq_true rfl⟩) (by decide) rfl rfl rfl rfl hl.1 (Nat.le_of_ble_eq_true rfl) dX7_play_12 ⟨Nat.le_of_ble_eq_true rfl, Nat.le_of_ble_eq_true rfl⟩ (fun r_1 M1 H locs hpo hP hS _ _ => ?_)
  obtain ⟨rfl, rfl⟩ := hpo
  refine lv_istore (lv' := [(4, .int (mUse S q 0 f)), (3, .int (nI (600 * q + f))), (0, .ref (ad 0)), (1, .int (nI q)), (2, .int (nI f))]) hx hb dX7_play_15 hl (by decide) rfl (fun ls hl => ?_)
  refine lv_aload_n hx hb dX7_play_17 rfl (lv_at hl 2 rfl) ?_
  refine lv_iload_n hx hb dX7_play_18 rfl (lv_at hl 3 rfl) ?_
  refine lv_iconst (v := nI 1) hx hb dX7_play_19 (by decide) ?_
  refine lv_iload_n hx hb dX7_play_20 rfl (lv_at hl 4 rfl) ?_
  refine k_Vi (As := [.int (nI q), .int (nI 1), .int (nI f)]) (rest := []) (k := 0) (ci := 7) ⟨hx, hb, hml, hown, hts⟩ hK hP hS Ad_le (c_useOf l D cs ad hJ d w S np ns q 1 f N1 hq (by decide) (by omega) h1 hN1) (cwV 3 hts gX7_play_X7_useOf rfl rfl rfl (by decide +kernel) ⟨Nat.le_of_ble_eq_true rfl, Nat.le_of_ble_eq_true rfl⟩) (by decide) rfl rfl rfl rfl hl.1 (Nat.le_of_ble_eq_true rfl) dX7_play_21 ⟨Nat.le_of_ble_eq_true rfl, Nat.le_of_ble_eq_true rfl⟩ (fun r_2 M1 H locs hpo hP hS _ _ => ?_)
  obtain ⟨rfl, rfl⟩ := hpo
  refine lv_istore (lv' := [(5, .int (mUse S q 1 f)), (4, .int (mUse S q 0 f)), (3, .int (nI (600 * q + f))), (0, .ref (ad 0)), (1, .int (nI q)), (2, .int (nI f))]) hx hb dX7_play_24 hl (by decide) rfl (fun ls hl => ?_)
  refine lv_aload_n hx hb dX7_play_26 rfl (lv_at hl 3 rfl) ?_
  refine m_get hx hb hts inX7 hown hK hP (ci := 7) rfl (k := 0) (by decide) rfl 11 (by decide) (hts (.fieldLink RX7 40 "RollbackPairModel" "uses" "[I") (by decide +kernel)) rfl dX7_play_27 ?_
  refine lv_sipush (v := nI 1200) hx hb dX7_play_30 (by decide) ?_
  refine lv_iload_n hx hb dX7_play_33 rfl (lv_at hl 4 rfl) ?_
  refine n_mul hx hb dX7_play_34 ?_
  refine lv_iload_n hx hb dX7_play_35 rfl (lv_at hl 5 rfl) ?_
  refine n_add hx hb dX7_play_36 ?_
  refine lv_iload hx hb dX7_play_37 (lv_at hl 1 rfl) ?_
  refine m_iast hx hb hK hP hJ hS (k := 10) (by decide) (f := (S.1 11)) rfl (i := 1200 * q + f) (by omega) (by decide) dX7_play_39 (fun H locs hP hS => ?_)
  rw [mm_up11] at hP
  refine lv_aload_n hx hb dX7_play_40 rfl (lv_at hl 3 rfl) ?_
  refine m_get hx hb hts inX7 hown hK hP (ci := 7) rfl (k := 0) (by decide) rfl 11 (by decide) (hts (.fieldLink RX7 40 "RollbackPairModel" "uses" "[I") (by decide +kernel)) rfl dX7_play_41 ?_
  refine lv_sipush (v := nI 1200) hx hb dX7_play_44 (by decide) ?_
  refine lv_iload_n hx hb dX7_play_47 rfl (lv_at hl 4 rfl) ?_
  refine n_mul hx hb dX7_play_48 ?_
  refine lv_sipush (v := nI 600) hx hb dX7_play_49 (by decide) ?_
  refine n_add hx hb dX7_play_52 ?_
  refine lv_iload_n hx hb dX7_play_53 rfl (lv_at hl 5 rfl) ?_
  refine n_add hx hb dX7_play_54 ?_
  refine lv_iload hx hb dX7_play_55 (lv_at hl 0 rfl) ?_
  refine m_iast hx hb hK hP hJ hS (k := 10) (by decide) (f := (upd (S.1 11) (1200 * q + f) (mUse S q 0 f))) rfl (i := 1200 * q + 600 + f) (by omega) (by decide) dX7_play_57 (fun H locs hP hS => ?_)
  rw [mm_up11] at hP
  refine lv_aload_n hx hb dX7_play_58 rfl (lv_at hl 3 rfl) ?_
  refine lv_aload_n hx hb dX7_play_59 rfl (lv_at hl 3 rfl) ?_
  refine m_get hx hb hts inX7 hown hK hP (ci := 7) rfl (k := 0) (by decide) rfl 13 (by decide) (hts (.fieldLink RX7 46 "RollbackPairModel" "place0" "[F") (by decide +kernel)) rfl dX7_play_60 ?_
  refine lv_iload_n hx hb dX7_play_63 rfl (lv_at hl 2 rfl) ?_
  refine m_fald hx hb hK hP (k := 12) (by decide) (f := (S.2.1 13)) rfl (i := 600 * q + f) (by omega) (by decide) dX7_play_64 ?_
  refine lv_aload_n hx hb dX7_play_65 rfl (lv_at hl 3 rfl) ?_
  refine m_get hx hb hts inX7 hown hK hP (ci := 7) rfl (k := 0) (by decide) rfl 14 (by decide) (hts (.fieldLink RX7 49 "RollbackPairModel" "speed0" "[F") (by decide +kernel)) rfl dX7_play_66 ?_
  refine lv_iload_n hx hb dX7_play_69 rfl (lv_at hl 2 rfl) ?_
  refine m_fald hx hb hK hP (k := 13) (by decide) (f := (S.2.1 14)) rfl (i := 600 * q + f) (by omega) (by decide) dX7_play_70 ?_
  refine lv_iload hx hb dX7_play_71 (lv_at hl 1 rfl) ?_
  refine k_Vv (As := [.float ((S.2.1 13) (600 * q + f)), .float ((S.2.1 14) (600 * q + f)), .int (mUse S q 0 f)]) (rest := []) (k := 0) (ci := 7) ⟨hx, hb, hml, hown, hts⟩ hK hP hS Ad_le (c_move l D cs ad hJ d w (sI (sI S 11 (upd (S.1 11) (1200 * q + f) (mUse S q 0 f))) 11 (upd (upd (S.1 11) (1200 * q + f) (mUse S q 0 f)) (1200 * q + 600 + f) (mUse S q 1 f))) np ns (S.2.1 13 (600 * q + f)) (S.2.1 14 (600 * q + f)) (mUse S q 0 f) hB.1 hB.2.1) (cwV 3 hts gX7_play_X7_move rfl rfl rfl (by decide +kernel) ⟨Nat.le_of_ble_eq_true rfl, Nat.le_of_ble_eq_true rfl⟩) (by decide) rfl rfl rfl rfl hl.1 (Nat.le_of_ble_eq_true rfl) dX7_play_73 ⟨Nat.le_of_ble_eq_true rfl, Nat.le_of_ble_eq_true rfl⟩ (fun M1 H locs hpo hP hS _ _ => ?_)
  subst hpo
  refine lv_aload_n hx hb dX7_play_76 rfl (lv_at hl 3 rfl) ?_
  refine m_get hx hb hts inX7 hown hK hP (ci := 7) rfl (k := 0) (by decide) rfl 27 (by decide) (hts (.fieldLink RX7 105 "RollbackPairModel" "newPlace" "F") (by decide +kernel)) rfl dX7_play_77 ?_
  refine lv_fstore (lv' := [(6, .float ((mv (S.2.1 13 (600 * q + f)) (S.2.1 14 (600 * q + f)) (mUse S q 0 f)).1)), (5, .int (mUse S q 1 f)), (4, .int (mUse S q 0 f)), (3, .int (nI (600 * q + f))), (0, .ref (ad 0)), (1, .int (nI q)), (2, .int (nI f))]) hx hb dX7_play_80 hl (by decide) rfl (fun ls hl => ?_)
  refine lv_aload_n hx hb dX7_play_82 rfl (lv_at hl 4 rfl) ?_
  refine m_get hx hb hts inX7 hown hK hP (ci := 7) rfl (k := 0) (by decide) rfl 28 (by decide) (hts (.fieldLink RX7 109 "RollbackPairModel" "newSpeed" "F") (by decide +kernel)) rfl dX7_play_83 ?_
  refine lv_fstore (lv' := [(7, .float ((mv (S.2.1 13 (600 * q + f)) (S.2.1 14 (600 * q + f)) (mUse S q 0 f)).2)), (6, .float ((mv (S.2.1 13 (600 * q + f)) (S.2.1 14 (600 * q + f)) (mUse S q 0 f)).1)), (5, .int (mUse S q 1 f)), (4, .int (mUse S q 0 f)), (3, .int (nI (600 * q + f))), (0, .ref (ad 0)), (1, .int (nI q)), (2, .int (nI f))]) hx hb dX7_play_86 hl (by decide) rfl (fun ls hl => ?_)
  refine lv_aload_n hx hb dX7_play_88 rfl (lv_at hl 5 rfl) ?_
  refine lv_aload_n hx hb dX7_play_89 rfl (lv_at hl 5 rfl) ?_
  refine m_get hx hb hts inX7 hown hK hP (ci := 7) rfl (k := 0) (by decide) rfl 15 (by decide) (hts (.fieldLink RX7 52 "RollbackPairModel" "place1" "[F") (by decide +kernel)) rfl dX7_play_90 ?_
  refine lv_iload_n hx hb dX7_play_93 rfl (lv_at hl 4 rfl) ?_
  refine m_fald hx hb hK hP (k := 14) (by decide) (f := (S.2.1 15)) rfl (i := 600 * q + f) (by omega) (by decide) dX7_play_94 ?_
  refine lv_aload_n hx hb dX7_play_95 rfl (lv_at hl 5 rfl) ?_
  refine m_get hx hb hts inX7 hown hK hP (ci := 7) rfl (k := 0) (by decide) rfl 16 (by decide) (hts (.fieldLink RX7 55 "RollbackPairModel" "speed1" "[F") (by decide +kernel)) rfl dX7_play_96 ?_
  refine lv_iload_n hx hb dX7_play_99 rfl (lv_at hl 4 rfl) ?_
  refine m_fald hx hb hK hP (k := 15) (by decide) (f := (S.2.1 16)) rfl (i := 600 * q + f) (by omega) (by decide) dX7_play_100 ?_
  refine lv_iload hx hb dX7_play_101 (lv_at hl 2 rfl) ?_
  refine k_Vv (As := [.float ((S.2.1 15) (600 * q + f)), .float ((S.2.1 16) (600 * q + f)), .int (mUse S q 1 f)]) (rest := []) (k := 0) (ci := 7) ⟨hx, hb, hml, hown, hts⟩ hK hP hS Ad_le (c_move l D cs ad hJ d w (sI (sI S 11 (upd (S.1 11) (1200 * q + f) (mUse S q 0 f))) 11 (upd (upd (S.1 11) (1200 * q + f) (mUse S q 0 f)) (1200 * q + 600 + f) (mUse S q 1 f))) ((mv (S.2.1 13 (600 * q + f)) (S.2.1 14 (600 * q + f)) (mUse S q 0 f)).1) ((mv (S.2.1 13 (600 * q + f)) (S.2.1 14 (600 * q + f)) (mUse S q 0 f)).2) (S.2.1 15 (600 * q + f)) (S.2.1 16 (600 * q + f)) (mUse S q 1 f) hB.2.2.1 hB.2.2.2.1) (cwV 3 hts gX7_play_X7_move rfl rfl rfl (by decide +kernel) ⟨Nat.le_of_ble_eq_true rfl, Nat.le_of_ble_eq_true rfl⟩) (by decide) rfl rfl rfl rfl hl.1 (Nat.le_of_ble_eq_true rfl) dX7_play_103 ⟨Nat.le_of_ble_eq_true rfl, Nat.le_of_ble_eq_true rfl⟩ (fun M1 H locs hpo hP hS _ _ => ?_)
  subst hpo
  refine lv_aload_n hx hb dX7_play_106 rfl (lv_at hl 5 rfl) ?_
  refine m_get hx hb hts inX7 hown hK hP (ci := 7) rfl (k := 0) (by decide) rfl 27 (by decide) (hts (.fieldLink RX7 105 "RollbackPairModel" "newPlace" "F") (by decide +kernel)) rfl dX7_play_107 ?_
  refine lv_fstore (lv' := [(8, .float ((mv (S.2.1 15 (600 * q + f)) (S.2.1 16 (600 * q + f)) (mUse S q 1 f)).1)), (7, .float ((mv (S.2.1 13 (600 * q + f)) (S.2.1 14 (600 * q + f)) (mUse S q 0 f)).2)), (6, .float ((mv (S.2.1 13 (600 * q + f)) (S.2.1 14 (600 * q + f)) (mUse S q 0 f)).1)), (5, .int (mUse S q 1 f)), (4, .int (mUse S q 0 f)), (3, .int (nI (600 * q + f))), (0, .ref (ad 0)), (1, .int (nI q)), (2, .int (nI f))]) hx hb dX7_play_110 hl (by decide) rfl (fun ls hl => ?_)
  refine lv_aload_n hx hb dX7_play_112 rfl (lv_at hl 6 rfl) ?_
  refine m_get hx hb hts inX7 hown hK hP (ci := 7) rfl (k := 0) (by decide) rfl 28 (by decide) (hts (.fieldLink RX7 109 "RollbackPairModel" "newSpeed" "F") (by decide +kernel)) rfl dX7_play_113 ?_
  refine lv_fstore (lv' := [(9, .float ((mv (S.2.1 15 (600 * q + f)) (S.2.1 16 (600 * q + f)) (mUse S q 1 f)).2)), (8, .float ((mv (S.2.1 15 (600 * q + f)) (S.2.1 16 (600 * q + f)) (mUse S q 1 f)).1)), (7, .float ((mv (S.2.1 13 (600 * q + f)) (S.2.1 14 (600 * q + f)) (mUse S q 0 f)).2)), (6, .float ((mv (S.2.1 13 (600 * q + f)) (S.2.1 14 (600 * q + f)) (mUse S q 0 f)).1)), (5, .int (mUse S q 1 f)), (4, .int (mUse S q 0 f)), (3, .int (nI (600 * q + f))), (0, .ref (ad 0)), (1, .int (nI q)), (2, .int (nI f))]) hx hb dX7_play_116 hl (by decide) rfl (fun ls hl => ?_)
  refine jn (fun (_ : Unit) ls => lv_has ls 15 [(6, .float (st_x (mv (S.2.1 13 (600 * q + f)) (S.2.1 14 (600 * q + f)) (mUse S q 0 f)) (mv (S.2.1 15 (600 * q + f)) (S.2.1 16 (600 * q + f)) (mUse S q 1 f)))), (7, .float (st_s (mv (S.2.1 13 (600 * q + f)) (S.2.1 14 (600 * q + f)) (mUse S q 0 f)) (mv (S.2.1 15 (600 * q + f)) (S.2.1 16 (600 * q + f)) (mUse S q 1 f)))), (8, .float (st_y (mv (S.2.1 13 (600 * q + f)) (S.2.1 14 (600 * q + f)) (mUse S q 0 f)) (mv (S.2.1 15 (600 * q + f)) (S.2.1 16 (600 * q + f)) (mUse S q 1 f)))), (9, .float (st_t (mv (S.2.1 13 (600 * q + f)) (S.2.1 14 (600 * q + f)) (mUse S q 0 f)) (mv (S.2.1 15 (600 * q + f)) (S.2.1 16 (600 * q + f)) (mUse S q 1 f)))), (10, .int (st_m (mv (S.2.1 13 (600 * q + f)) (S.2.1 14 (600 * q + f)) (mUse S q 0 f)) (mv (S.2.1 15 (600 * q + f)) (S.2.1 16 (600 * q + f)) (mUse S q 1 f)))), (0, .ref (ad 0)), (3, .int (nI (600 * q + f)))]) 170 (fun _ => []) (fun _ ls hl => ?_) (fun J => ?_)
  · refine lv_aload_n hx hb dX7_play_170 rfl (lv_at hl 5 rfl) ?_
    refine m_get hx hb hts inX7 hown hK hP (ci := 7) rfl (k := 0) (by decide) rfl 13 (by decide) (hts (.fieldLink RX7 46 "RollbackPairModel" "place0" "[F") (by decide +kernel)) rfl dX7_play_171 ?_
    refine lv_iload_n hx hb dX7_play_174 rfl (lv_at hl 6 rfl) ?_
    refine lv_iconst (v := nI 1) hx hb dX7_play_175 (by decide) ?_
    refine n_add hx hb dX7_play_176 ?_
    refine lv_fload hx hb dX7_play_177 (lv_at hl 0 rfl) ?_
    refine m_fast hx hb hK hP hJ hS (k := 12) (by decide) (f := (S.2.1 13)) rfl (i := 600 * q + f + 1) (by omega) (by decide) dX7_play_179 (fun H locs hP hS => ?_)
    rw [mm_up13] at hP
    refine lv_aload_n hx hb dX7_play_180 rfl (lv_at hl 5 rfl) ?_
    refine m_get hx hb hts inX7 hown hK hP (ci := 7) rfl (k := 0) (by decide) rfl 14 (by decide) (hts (.fieldLink RX7 49 "RollbackPairModel" "speed0" "[F") (by decide +kernel)) rfl dX7_play_181 ?_
    refine lv_iload_n hx hb dX7_play_184 rfl (lv_at hl 6 rfl) ?_
    refine lv_iconst (v := nI 1) hx hb dX7_play_185 (by decide) ?_
    refine n_add hx hb dX7_play_186 ?_
    refine lv_fload hx hb dX7_play_187 (lv_at hl 1 rfl) ?_
    refine m_fast hx hb hK hP hJ hS (k := 13) (by decide) (f := (S.2.1 14)) rfl (i := 600 * q + f + 1) (by omega) (by decide) dX7_play_189 (fun H locs hP hS => ?_)
    rw [mm_up14] at hP
    refine lv_aload_n hx hb dX7_play_190 rfl (lv_at hl 5 rfl) ?_
    refine m_get hx hb hts inX7 hown hK hP (ci := 7) rfl (k := 0) (by decide) rfl 15 (by decide) (hts (.fieldLink RX7 52 "RollbackPairModel" "place1" "[F") (by decide +kernel)) rfl dX7_play_191 ?_
    refine lv_iload_n hx hb dX7_play_194 rfl (lv_at hl 6 rfl) ?_
    refine lv_iconst (v := nI 1) hx hb dX7_play_195 (by decide) ?_
    refine n_add hx hb dX7_play_196 ?_
    refine lv_fload hx hb dX7_play_197 (lv_at hl 2 rfl) ?_
    refine m_fast hx hb hK hP hJ hS (k := 14) (by decide) (f := (S.2.1 15)) rfl (i := 600 * q + f + 1) (by omega) (by decide) dX7_play_199 (fun H locs hP hS => ?_)
    rw [mm_up15] at hP
    refine lv_aload_n hx hb dX7_play_200 rfl (lv_at hl 5 rfl) ?_
    refine m_get hx hb hts inX7 hown hK hP (ci := 7) rfl (k := 0) (by decide) rfl 16 (by decide) (hts (.fieldLink RX7 55 "RollbackPairModel" "speed1" "[F") (by decide +kernel)) rfl dX7_play_201 ?_
    refine lv_iload_n hx hb dX7_play_204 rfl (lv_at hl 6 rfl) ?_
    refine lv_iconst (v := nI 1) hx hb dX7_play_205 (by decide) ?_
    refine n_add hx hb dX7_play_206 ?_
    refine lv_fload hx hb dX7_play_207 (lv_at hl 3 rfl) ?_
    refine m_fast hx hb hK hP hJ hS (k := 15) (by decide) (f := (S.2.1 16)) rfl (i := 600 * q + f + 1) (by omega) (by decide) dX7_play_209 (fun H locs hP hS => ?_)
    rw [mm_up16] at hP
    refine lv_aload_n hx hb dX7_play_210 rfl (lv_at hl 5 rfl) ?_
    refine m_get hx hb hts inX7 hown hK hP (ci := 7) rfl (k := 0) (by decide) rfl 17 (by decide) (hts (.fieldLink RX7 58 "RollbackPairModel" "hits" "[I") (by decide +kernel)) rfl dX7_play_211 ?_
    refine lv_iload_n hx hb dX7_play_214 rfl (lv_at hl 6 rfl) ?_
    refine lv_iconst (v := nI 1) hx hb dX7_play_215 (by decide) ?_
    refine n_add hx hb dX7_play_216 ?_
    refine lv_aload_n hx hb dX7_play_217 rfl (lv_at hl 5 rfl) ?_
    refine m_get hx hb hts inX7 hown hK hP (ci := 7) rfl (k := 0) (by decide) rfl 17 (by decide) (hts (.fieldLink RX7 58 "RollbackPairModel" "hits" "[I") (by decide +kernel)) rfl dX7_play_218 ?_
    refine lv_iload_n hx hb dX7_play_221 rfl (lv_at hl 6 rfl) ?_
    refine m_iald hx hb hK hP (k := 16) (by decide) (f := (S.1 17)) rfl (i := 600 * q + f) (by omega) (by decide) dX7_play_222 ?_
    refine lv_iload hx hb dX7_play_223 (lv_at hl 4 rfl) ?_
    refine lv_iadd hx hb dX7_play_225 ?_
    refine m_iast hx hb hK hP hJ hS (k := 16) (by decide) (f := (S.1 17)) rfl (i := 600 * q + f + 1) (by omega) (by decide) dX7_play_226 (fun H locs hP hS => ?_)
    rw [mm_up17] at hP
    refine lv_fload hx hb dX7_play_227 (lv_at hl 1 rfl) ?_
    refine lv_f2d hx hb dX7_play_229 (wk_1 hs).n ?_
    refine lv_dstore (lv' := [(11, .double (FP.f2d (st_s (mv (S.2.1 13 (600 * q + f)) (S.2.1 14 (600 * q + f)) (mUse S q 0 f)) (mv (S.2.1 15 (600 * q + f)) (S.2.1 16 (600 * q + f)) (mUse S q 1 f))))), (6, .float (st_x (mv (S.2.1 13 (600 * q + f)) (S.2.1 14 (600 * q + f)) (mUse S q 0 f)) (mv (S.2.1 15 (600 * q + f)) (S.2.1 16 (600 * q + f)) (mUse S q 1 f)))), (7, .float (st_s (mv (S.2.1 13 (600 * q + f)) (S.2.1 14 (600 * q + f)) (mUse S q 0 f)) (mv (S.2.1 15 (600 * q + f)) (S.2.1 16 (600 * q + f)) (mUse S q 1 f)))), (8, .float (st_y (mv (S.2.1 13 (600 * q + f)) (S.2.1 14 (600 * q + f)) (mUse S q 0 f)) (mv (S.2.1 15 (600 * q + f)) (S.2.1 16 (600 * q + f)) (mUse S q 1 f)))), (9, .float (st_t (mv (S.2.1 13 (600 * q + f)) (S.2.1 14 (600 * q + f)) (mUse S q 0 f)) (mv (S.2.1 15 (600 * q + f)) (S.2.1 16 (600 * q + f)) (mUse S q 1 f)))), (10, .int (st_m (mv (S.2.1 13 (600 * q + f)) (S.2.1 14 (600 * q + f)) (mUse S q 0 f)) (mv (S.2.1 15 (600 * q + f)) (S.2.1 16 (600 * q + f)) (mUse S q 1 f)))), (0, .ref (ad 0)), (3, .int (nI (600 * q + f)))]) hx hb dX7_play_230 hl (by decide) rfl (fun ls hl => ?_)
    refine lv_fload hx hb dX7_play_232 (lv_at hl 4 rfl) ?_
    refine lv_f2d hx hb dX7_play_234 (wk_1 ht).n ?_
    refine lv_dstore (lv' := [(13, .double (FP.f2d (st_t (mv (S.2.1 13 (600 * q + f)) (S.2.1 14 (600 * q + f)) (mUse S q 0 f)) (mv (S.2.1 15 (600 * q + f)) (S.2.1 16 (600 * q + f)) (mUse S q 1 f))))), (11, .double (FP.f2d (st_s (mv (S.2.1 13 (600 * q + f)) (S.2.1 14 (600 * q + f)) (mUse S q 0 f)) (mv (S.2.1 15 (600 * q + f)) (S.2.1 16 (600 * q + f)) (mUse S q 1 f))))), (6, .float (st_x (mv (S.2.1 13 (600 * q + f)) (S.2.1 14 (600 * q + f)) (mUse S q 0 f)) (mv (S.2.1 15 (600 * q + f)) (S.2.1 16 (600 * q + f)) (mUse S q 1 f)))), (7, .float (st_s (mv (S.2.1 13 (600 * q + f)) (S.2.1 14 (600 * q + f)) (mUse S q 0 f)) (mv (S.2.1 15 (600 * q + f)) (S.2.1 16 (600 * q + f)) (mUse S q 1 f)))), (8, .float (st_y (mv (S.2.1 13 (600 * q + f)) (S.2.1 14 (600 * q + f)) (mUse S q 0 f)) (mv (S.2.1 15 (600 * q + f)) (S.2.1 16 (600 * q + f)) (mUse S q 1 f)))), (9, .float (st_t (mv (S.2.1 13 (600 * q + f)) (S.2.1 14 (600 * q + f)) (mUse S q 0 f)) (mv (S.2.1 15 (600 * q + f)) (S.2.1 16 (600 * q + f)) (mUse S q 1 f)))), (10, .int (st_m (mv (S.2.1 13 (600 * q + f)) (S.2.1 14 (600 * q + f)) (mUse S q 0 f)) (mv (S.2.1 15 (600 * q + f)) (S.2.1 16 (600 * q + f)) (mUse S q 1 f)))), (0, .ref (ad 0)), (3, .int (nI (600 * q + f)))]) hx hb dX7_play_235 hl (by decide) rfl (fun ls hl => ?_)
    refine lv_aload_n hx hb dX7_play_237 rfl (lv_at hl 7 rfl) ?_
    refine m_get hx hb hts inX7 hown hK hP (ci := 7) rfl (k := 0) (by decide) rfl 18 (by decide) (hts (.fieldLink RX7 61 "RollbackPairModel" "work" "[D") (by decide +kernel)) rfl dX7_play_238 ?_
    refine lv_iload_n hx hb dX7_play_241 rfl (lv_at hl 8 rfl) ?_
    refine lv_iconst (v := nI 1) hx hb dX7_play_242 (by decide) ?_
    refine n_add hx hb dX7_play_243 ?_
    refine lv_aload_n hx hb dX7_play_244 rfl (lv_at hl 7 rfl) ?_
    refine m_get hx hb hts inX7 hown hK hP (ci := 7) rfl (k := 0) (by decide) rfl 18 (by decide) (hts (.fieldLink RX7 61 "RollbackPairModel" "work" "[D") (by decide +kernel)) rfl dX7_play_245 ?_
    refine lv_iload_n hx hb dX7_play_248 rfl (lv_at hl 8 rfl) ?_
    refine m_dald hx hb hK hP (k := 17) (by decide) (f := S.2.2.2) rfl (i := 600 * q + f) (by omega) (by decide) dX7_play_249 ?_
    refine lv_dload hx hb dX7_play_250 (lv_at hl 1 rfl) ?_
    refine lv_dload hx hb dX7_play_252 (lv_at hl 1 rfl) ?_
    refine lv_dmul hx hb dX7_play_254 (wk_2 (wk_1 hs)).n ?_
    refine lv_dload hx hb dX7_play_255 (lv_at hl 0 rfl) ?_
    refine lv_dload hx hb dX7_play_257 (lv_at hl 0 rfl) ?_
    refine lv_dmul hx hb dX7_play_259 (wk_2 (wk_1 ht)).n ?_
    refine lv_dadd hx hb dX7_play_260 (wk_3 (wk_2 (wk_1 hs)) (wk_2 (wk_1 ht))).n ?_
    refine lv_dadd hx hb dX7_play_261 (wk_4 (by omega) hB.2.2.2.2 (wk_3 (wk_2 (wk_1 hs)) (wk_2 (wk_1 ht)))).n ?_
    refine m_dast hx hb hK hP hJ hS (k := 17) (by decide) (f := S.2.2.2) rfl (i := 600 * q + f + 1) (by omega) (by decide) dX7_play_262 (fun H locs hP hS => ?_)
    rw [mm_up18] at hP
    exact r_v hx hb hr hlocks hK hP hS dX7_play_263 ⟨_, _, rfl⟩
  · refine lv_iconst (v := nI 0) hx hb dX7_play_118 (by decide) ?_
    refine lv_istore (lv' := [(10, .int (nI 0)), (9, .float ((mv (S.2.1 15 (600 * q + f)) (S.2.1 16 (600 * q + f)) (mUse S q 1 f)).2)), (8, .float ((mv (S.2.1 15 (600 * q + f)) (S.2.1 16 (600 * q + f)) (mUse S q 1 f)).1)), (7, .float ((mv (S.2.1 13 (600 * q + f)) (S.2.1 14 (600 * q + f)) (mUse S q 0 f)).2)), (6, .float ((mv (S.2.1 13 (600 * q + f)) (S.2.1 14 (600 * q + f)) (mUse S q 0 f)).1)), (5, .int (mUse S q 1 f)), (4, .int (mUse S q 0 f)), (3, .int (nI (600 * q + f))), (0, .ref (ad 0)), (1, .int (nI q)), (2, .int (nI f))]) hx hb dX7_play_119 hl (by decide) rfl (fun ls hl => ?_)
    refine lv_fload hx hb dX7_play_121 (lv_at hl 2 rfl) ?_
    refine lv_fload hx hb dX7_play_123 (lv_at hl 4 rfl) ?_
    refine lv_fsub hx hb dX7_play_125 (pl_1 hA1.1 hB1.1).n ?_
    refine lv_fconst1 hx hb dX7_play_126 ?_
    refine lv_fcmp hx hb dX7_play_127 ?_
    refine lv_if_ge (tgt := 170) hx hb dX7_play_128 (by decide) (fun c1 => ?_) (fun c1 => ?_)
    · exact J () ls (by obtain ⟨q1, q2, q3, q4, q5⟩ := st_no (fun z => z c1); rw [q1, q2, q3, q4, q5]; exact lv_sub hl [4, 3, 2, 1, 0, 8, 7] rfl)
    · refine lv_fload hx hb dX7_play_131 (lv_at hl 3 rfl) ?_
      refine lv_fstore (lv' := [(11, .float ((mv (S.2.1 13 (600 * q + f)) (S.2.1 14 (600 * q + f)) (mUse S q 0 f)).2)), (10, .int (nI 0)), (9, .float ((mv (S.2.1 15 (600 * q + f)) (S.2.1 16 (600 * q + f)) (mUse S q 1 f)).2)), (8, .float ((mv (S.2.1 15 (600 * q + f)) (S.2.1 16 (600 * q + f)) (mUse S q 1 f)).1)), (7, .float ((mv (S.2.1 13 (600 * q + f)) (S.2.1 14 (600 * q + f)) (mUse S q 0 f)).2)), (6, .float ((mv (S.2.1 13 (600 * q + f)) (S.2.1 14 (600 * q + f)) (mUse S q 0 f)).1)), (5, .int (mUse S q 1 f)), (4, .int (mUse S q 0 f)), (3, .int (nI (600 * q + f))), (0, .ref (ad 0)), (1, .int (nI q)), (2, .int (nI f))]) hx hb dX7_play_133 hl (by decide) rfl (fun ls hl => ?_)
      refine lv_fload hx hb dX7_play_135 (lv_at hl 2 rfl) ?_
      refine lv_fstore (lv' := [(7, .float ((mv (S.2.1 15 (600 * q + f)) (S.2.1 16 (600 * q + f)) (mUse S q 1 f)).2)), (11, .float ((mv (S.2.1 13 (600 * q + f)) (S.2.1 14 (600 * q + f)) (mUse S q 0 f)).2)), (10, .int (nI 0)), (9, .float ((mv (S.2.1 15 (600 * q + f)) (S.2.1 16 (600 * q + f)) (mUse S q 1 f)).2)), (8, .float ((mv (S.2.1 15 (600 * q + f)) (S.2.1 16 (600 * q + f)) (mUse S q 1 f)).1)), (6, .float ((mv (S.2.1 13 (600 * q + f)) (S.2.1 14 (600 * q + f)) (mUse S q 0 f)).1)), (5, .int (mUse S q 1 f)), (4, .int (mUse S q 0 f)), (3, .int (nI (600 * q + f))), (0, .ref (ad 0)), (1, .int (nI q)), (2, .int (nI f))]) hx hb dX7_play_137 hl (by decide) rfl (fun ls hl => ?_)
      refine lv_fload hx hb dX7_play_139 (lv_at hl 1 rfl) ?_
      refine lv_fstore (lv' := [(9, .float ((mv (S.2.1 13 (600 * q + f)) (S.2.1 14 (600 * q + f)) (mUse S q 0 f)).2)), (7, .float ((mv (S.2.1 15 (600 * q + f)) (S.2.1 16 (600 * q + f)) (mUse S q 1 f)).2)), (11, .float ((mv (S.2.1 13 (600 * q + f)) (S.2.1 14 (600 * q + f)) (mUse S q 0 f)).2)), (10, .int (nI 0)), (8, .float ((mv (S.2.1 15 (600 * q + f)) (S.2.1 16 (600 * q + f)) (mUse S q 1 f)).1)), (6, .float ((mv (S.2.1 13 (600 * q + f)) (S.2.1 14 (600 * q + f)) (mUse S q 0 f)).1)), (5, .int (mUse S q 1 f)), (4, .int (mUse S q 0 f)), (3, .int (nI (600 * q + f))), (0, .ref (ad 0)), (1, .int (nI q)), (2, .int (nI f))]) hx hb dX7_play_141 hl (by decide) rfl (fun ls hl => ?_)
      refine lv_fload hx hb dX7_play_143 (lv_at hl 5 rfl) ?_
      refine lv_fload hx hb dX7_play_145 (lv_at hl 4 rfl) ?_
      refine lv_fadd hx hb dX7_play_147 (pl_2 hA1.1 hB1.1).n ?_
      refine lv_ldcf hx hb hown (hts (.constantFloat RX7 102 (1056964608)) (by decide +kernel)) dX7_play_148 ?_
      refine lv_fmul hx hb dX7_play_150 (pl_3 (pl_2 hA1.1 hB1.1)).n ?_
      refine lv_fstore (lv' := [(12, .float (FP.fmul (FP.fadd ((mv (S.2.1 13 (600 * q + f)) (S.2.1 14 (600 * q + f)) (mUse S q 0 f)).1) ((mv (S.2.1 15 (600 * q + f)) (S.2.1 16 (600 * q + f)) (mUse S q 1 f)).1)) 1056964608)), (9, .float ((mv (S.2.1 13 (600 * q + f)) (S.2.1 14 (600 * q + f)) (mUse S q 0 f)).2)), (7, .float ((mv (S.2.1 15 (600 * q + f)) (S.2.1 16 (600 * q + f)) (mUse S q 1 f)).2)), (11, .float ((mv (S.2.1 13 (600 * q + f)) (S.2.1 14 (600 * q + f)) (mUse S q 0 f)).2)), (10, .int (nI 0)), (8, .float ((mv (S.2.1 15 (600 * q + f)) (S.2.1 16 (600 * q + f)) (mUse S q 1 f)).1)), (6, .float ((mv (S.2.1 13 (600 * q + f)) (S.2.1 14 (600 * q + f)) (mUse S q 0 f)).1)), (5, .int (mUse S q 1 f)), (4, .int (mUse S q 0 f)), (3, .int (nI (600 * q + f))), (0, .ref (ad 0)), (1, .int (nI q)), (2, .int (nI f))]) hx hb dX7_play_151 hl (by decide) rfl (fun ls hl => ?_)
      refine lv_fload hx hb dX7_play_153 (lv_at hl 0 rfl) ?_
      refine lv_ldcf hx hb hown (hts (.constantFloat RX7 102 (1056964608)) (by decide +kernel)) dX7_play_155 ?_
      refine lv_fsub hx hb dX7_play_157 (pl_4 (pl_3 (pl_2 hA1.1 hB1.1))).n ?_
      refine lv_fstore (lv' := [(6, .float (FP.fsub (FP.fmul (FP.fadd ((mv (S.2.1 13 (600 * q + f)) (S.2.1 14 (600 * q + f)) (mUse S q 0 f)).1) ((mv (S.2.1 15 (600 * q + f)) (S.2.1 16 (600 * q + f)) (mUse S q 1 f)).1)) 1056964608) 1056964608)), (12, .float (FP.fmul (FP.fadd ((mv (S.2.1 13 (600 * q + f)) (S.2.1 14 (600 * q + f)) (mUse S q 0 f)).1) ((mv (S.2.1 15 (600 * q + f)) (S.2.1 16 (600 * q + f)) (mUse S q 1 f)).1)) 1056964608)), (9, .float ((mv (S.2.1 13 (600 * q + f)) (S.2.1 14 (600 * q + f)) (mUse S q 0 f)).2)), (7, .float ((mv (S.2.1 15 (600 * q + f)) (S.2.1 16 (600 * q + f)) (mUse S q 1 f)).2)), (11, .float ((mv (S.2.1 13 (600 * q + f)) (S.2.1 14 (600 * q + f)) (mUse S q 0 f)).2)), (10, .int (nI 0)), (8, .float ((mv (S.2.1 15 (600 * q + f)) (S.2.1 16 (600 * q + f)) (mUse S q 1 f)).1)), (5, .int (mUse S q 1 f)), (4, .int (mUse S q 0 f)), (3, .int (nI (600 * q + f))), (0, .ref (ad 0)), (1, .int (nI q)), (2, .int (nI f))]) hx hb dX7_play_158 hl (by decide) rfl (fun ls hl => ?_)
      refine lv_fload hx hb dX7_play_160 (lv_at hl 1 rfl) ?_
      refine lv_ldcf hx hb hown (hts (.constantFloat RX7 102 (1056964608)) (by decide +kernel)) dX7_play_162 ?_
      refine lv_fadd hx hb dX7_play_164 (pl_5 (pl_3 (pl_2 hA1.1 hB1.1))).n ?_
      refine lv_fstore (lv' := [(8, .float (FP.fadd (FP.fmul (FP.fadd ((mv (S.2.1 13 (600 * q + f)) (S.2.1 14 (600 * q + f)) (mUse S q 0 f)).1) ((mv (S.2.1 15 (600 * q + f)) (S.2.1 16 (600 * q + f)) (mUse S q 1 f)).1)) 1056964608) 1056964608)), (6, .float (FP.fsub (FP.fmul (FP.fadd ((mv (S.2.1 13 (600 * q + f)) (S.2.1 14 (600 * q + f)) (mUse S q 0 f)).1) ((mv (S.2.1 15 (600 * q + f)) (S.2.1 16 (600 * q + f)) (mUse S q 1 f)).1)) 1056964608) 1056964608)), (12, .float (FP.fmul (FP.fadd ((mv (S.2.1 13 (600 * q + f)) (S.2.1 14 (600 * q + f)) (mUse S q 0 f)).1) ((mv (S.2.1 15 (600 * q + f)) (S.2.1 16 (600 * q + f)) (mUse S q 1 f)).1)) 1056964608)), (9, .float ((mv (S.2.1 13 (600 * q + f)) (S.2.1 14 (600 * q + f)) (mUse S q 0 f)).2)), (7, .float ((mv (S.2.1 15 (600 * q + f)) (S.2.1 16 (600 * q + f)) (mUse S q 1 f)).2)), (11, .float ((mv (S.2.1 13 (600 * q + f)) (S.2.1 14 (600 * q + f)) (mUse S q 0 f)).2)), (10, .int (nI 0)), (5, .int (mUse S q 1 f)), (4, .int (mUse S q 0 f)), (3, .int (nI (600 * q + f))), (0, .ref (ad 0)), (1, .int (nI q)), (2, .int (nI f))]) hx hb dX7_play_165 hl (by decide) rfl (fun ls hl => ?_)
      refine lv_iconst (v := nI 1) hx hb dX7_play_167 (by decide) ?_
      refine lv_istore (lv' := [(10, .int (nI 1)), (8, .float (FP.fadd (FP.fmul (FP.fadd ((mv (S.2.1 13 (600 * q + f)) (S.2.1 14 (600 * q + f)) (mUse S q 0 f)).1) ((mv (S.2.1 15 (600 * q + f)) (S.2.1 16 (600 * q + f)) (mUse S q 1 f)).1)) 1056964608) 1056964608)), (6, .float (FP.fsub (FP.fmul (FP.fadd ((mv (S.2.1 13 (600 * q + f)) (S.2.1 14 (600 * q + f)) (mUse S q 0 f)).1) ((mv (S.2.1 15 (600 * q + f)) (S.2.1 16 (600 * q + f)) (mUse S q 1 f)).1)) 1056964608) 1056964608)), (12, .float (FP.fmul (FP.fadd ((mv (S.2.1 13 (600 * q + f)) (S.2.1 14 (600 * q + f)) (mUse S q 0 f)).1) ((mv (S.2.1 15 (600 * q + f)) (S.2.1 16 (600 * q + f)) (mUse S q 1 f)).1)) 1056964608)), (9, .float ((mv (S.2.1 13 (600 * q + f)) (S.2.1 14 (600 * q + f)) (mUse S q 0 f)).2)), (7, .float ((mv (S.2.1 15 (600 * q + f)) (S.2.1 16 (600 * q + f)) (mUse S q 1 f)).2)), (11, .float ((mv (S.2.1 13 (600 * q + f)) (S.2.1 14 (600 * q + f)) (mUse S q 0 f)).2)), (5, .int (mUse S q 1 f)), (4, .int (mUse S q 0 f)), (3, .int (nI (600 * q + f))), (0, .ref (ad 0)), (1, .int (nI q)), (2, .int (nI f))]) hx hb dX7_play_168 hl (by decide) rfl (fun ls hl => ?_)
      exact J () ls (by obtain ⟨q1, q2, q3, q4, q5⟩ := st_hit c1; rw [q1, q2, q3, q4, q5]; exact lv_sub hl [2, 5, 1, 4, 0, 10, 9] rfl)
