/-! packets -/
theorem nar_sh {x : Int32} (h : sh x) : narrow .short (.int x) = .int x := by
  have e := pk_ns x
  unfold sh at h
  rw [h] at e
  exact e
theorem fit_sh {x : Int32} (h : sh x) : fits .short (.int x) = true := by
  have e := pk_fs x
  unfold sh at h
  rw [h] at e
  exact e
theorem sh_i (x : Int32) : sh x.toInt16.toInt32 := pk_vs x
abbrev oPk (nu fr ak fi cn : Int32) (bt : Int64) (ch : Int32) : va_E := .inr (2, [.int nu, .int fr, .int ak, .int fi, .int cn, .long bt, .int ch])
theorem t32_bit (y : Int64) (i : Nat) (hi : i < 32) : y.toInt32.toBitVec[i] = y.toBitVec.getLsbD i := by
  show (BitVec.signExtend 32 y.toBitVec)[i] = _
  rw [BitVec.getElem_signExtend]
  simp [show i < 64 by omega]
theorem us_bit (x : Int64) (t i : Nat) (ht : t < 64) (sf : UInt64) (hs : sf.toBitVec.toNat = t) : (x.toUInt64 >>> sf).toInt64.toBitVec.getLsbD i = x.toBitVec.getLsbD (t + i) := by
  show (x.toBitVec >>> (sf.toBitVec % 64)).getLsbD i = _
  have h : (sf.toBitVec % 64).toNat = t := by
    rw [BitVec.toNat_umod, hs]
    exact Nat.mod_eq_of_lt ht
  rw [BitVec.ushiftRight_eq', BitVec.getLsbD_ushiftRight, h]
theorem ss_bit (x : Int64) (t i : Nat) (sf : Int64) (hs : (sf.toBitVec.smod 64).toNat = t) (hi : t + i < 64) : (x >>> sf).toBitVec.getLsbD i = x.toBitVec.getLsbD (t + i) := by
  rw [Int64.toBitVec_shiftRight, BitVec.sshiftRight_eq', BitVec.getLsbD_sshiftRight, hs]
  simp [hi, show i < 64 by omega]
theorem hi_eq (x : Int64) : (x.toUInt64 >>> ((nI 32).toInt64.toUInt64 &&& Int64.toUInt64 63)).toInt64.toInt32 = hi32 x := by
  unfold hi32
  apply Int32.toBitVec_inj.mp
  ext i hi
  rw [t32_bit _ _ hi, t32_bit _ _ hi, us_bit x 32 i (by decide) _ (by decide), ss_bit x 32 i _ (by decide) (by omega)]
theorem sf_u : ∀ j, j < 16 → ((nI (3 * j)).toInt64.toUInt64 &&& Int64.toUInt64 63).toBitVec.toNat = 3 * j := by decide
theorem sf_s : ∀ j, j < 16 → (((nI (3 * j)).toInt64 &&& 63).toBitVec.smod 64).toNat = 3 * j := by decide
theorem min_n {c2 y : Nat} (h : c2 = min 16 y) (hy : y < 2 ^ 31) : (if nI y < nI 16 then nI y else nI 16) = nI c2 := by
  by_cases h2 : y < 16
  · rw [if_pos (nI_lt h2 (by decide)), h, Nat.min_eq_right (by omega)]
  · rw [if_neg (nI_nlt (by omega) hy), h, Nat.min_eq_left (by omega)]
theorem bt3_eq (x : Int64) (j : Nat) (hj : j < 16) : (x.toUInt64 >>> ((nI (3 * j)).toInt64.toUInt64 &&& Int64.toUInt64 63)).toInt64.toInt32 &&& nI 7 = bt3 x j := by
  unfold bt3
  apply Int32.toBitVec_inj.mp
  ext i hi
  rw [t32_bit _ _ hi, Int32.toBitVec_and, Int64.toBitVec_and, BitVec.getElem_and, BitVec.getLsbD_and, t32_bit _ _ hi, us_bit x (3 * j) i (by omega) _ (sf_u j hj)]
  by_cases h : i < 3
  · rw [ss_bit x (3 * j) i _ (sf_s j hj) (by omega)]
    congr 1
  · have h1 : (nI 7).toBitVec[i] = false := by
      have : ∀ i, (h : i < 32) → ¬ i < 3 → (nI 7).toBitVec[i] = false := by decide
      exact this i hi h
    have h2 : (7 : Int64).toBitVec.getLsbD i = false := by
      have : ∀ i, i < 32 → ¬ i < 3 → (7 : Int64).toBitVec.getLsbD i = false := by decide
      exact this i hi h
    rw [h1, h2, Bool.and_false, Bool.and_false]

set_option maxHeartbeats 4000000 in
set_option maxRecDepth 100000 in
/-- Packet.input(j) -/
theorem c_pinput (l : Launch) (D : va_G) (cs : Nat → ClassId) (ad : Nat → Nat) (n : Nat) (hJ : Inj ad n) (M : Nat → va_E) (k : Nat) (nu fr ak fi cn : Int32) (bt : Int64) (ch : Int32) (hk : k < n) (h1 : M k = oPk nu fr ak fi cn bt ch) (j : Nat) (hj : j < 16) : CTi l yX2_input wsX2_input ({ frames := 0, cells := 0, slots := 0, locals := 0 }) D cs ad n M [.ref (ad k), .int (nI j)] (fun r M2 => M2 = M ∧ r = bt3 bt j) := by
  refine Met.ofW (cc := cX2_input) (maxL := 2) (ret := (some .int)) (by decide) rfl ?_
  intro p e s m args below meth c s₁ B hml hv
  obtain ⟨rfl, hP, hK⟩ := hv
  have hx := B.exec
  have hb := B.bytes
  have hr := B.returns
  have hts := atoms_spec (ws := wsX2_input) B.pre
  have hown : s.vm.findClass RX2 = some m.cls := findClass_of_methodNamed B.named
  have hlocks := B.notSynchronized
  have hS : va_S (Ad ad n) s.heap s.heap [] := va_S.rf
  have hl := lv_entry ([.ref (ad k), .int (nI j)]) (n := 2) (Nat.le_of_ble_eq_true rfl)
  rw [lg_entry_eq]
  generalize (lg_sl ([.ref (ad k), .int (nI j)]) ++ List.replicate (2 - (lg_sl ([.ref (ad k), .int (nI j)])).length) Slot.unset).toArray = ls at hl ⊢
  have hl : lv_has ls 2 [(0, .ref (ad k)), (1, .int (nI j))] := hl
  have inX2 : ∀ w ∈ u_ws RX2 TX2 7, w ∈ wsX2_input := fun w h => List.mem_cons_of_mem _ (List.mem_append_right _ h)
  refine lv_aload_n hx hb dX2_input_0 rfl (lv_at hl 0 rfl) ?_
  refine m_get hx hb hts inX2 hown hK hP (ci := 2) rfl (k := k) (by omega) h1 5 (by decide) (hts (.fieldLink RX2 27 "RollbackPair$Packet" "bits" "J") (by decide +kernel)) rfl dX2_input_1 ?_
  refine lv_iconst (v := nI 3) hx hb dX2_input_4 (by decide) ?_
  refine lv_iload_n hx hb dX2_input_5 rfl (lv_at hl 1 rfl) ?_
  refine n_mul hx hb dX2_input_6 ?_
  refine lv_lushr hx hb dX2_input_7 rfl ?_
  refine lv_l2i hx hb dX2_input_8 rfl ?_
  refine lv_bipush (v := nI 7) hx hb dX2_input_9 (by decide) ?_
  refine lv_iand hx hb dX2_input_11 ?_
  exact r_i hx hb hr hlocks hK hP hS dX2_input_12 ⟨rfl, bt3_eq bt j hj⟩
set_option maxHeartbeats 4000000 in
set_option maxRecDepth 100000 in
/-- Packet.rightCheck() -/
theorem c_rightCheck (l : Launch) (D : va_G) (cs : Nat → ClassId) (ad : Nat → Nat) (n : Nat) (hJ : Inj ad n) (M : Nat → va_E) (k : Nat) (nu fr ak fi cn : Int32) (bt : Int64) (ch : Int32) (hk : k < n) (h1 : M k = oPk nu fr ak fi cn bt ch) : CTi l yX2_rightCheck wsX2_rightCheck ({ frames := 0, cells := 0, slots := 0, locals := 0 }) D cs ad n M [.ref (ad k)] (fun r M2 => M2 = M ∧ r = ck nu fr ak fi cn bt.toInt32 (hi32 bt)) := by
  refine Met.ofW (cc := cX2_rightCheck) (maxL := 2) (ret := (some .int)) (by decide) rfl ?_
  intro p e s m args below meth c s₁ B hml hv
  obtain ⟨rfl, hP, hK⟩ := hv
  have hx := B.exec
  have hb := B.bytes
  have hr := B.returns
  have hts := atoms_spec (ws := wsX2_rightCheck) B.pre
  have hown : s.vm.findClass RX2 = some m.cls := findClass_of_methodNamed B.named
  have hlocks := B.notSynchronized
  have hS : va_S (Ad ad n) s.heap s.heap [] := va_S.rf
  have hl := lv_entry ([.ref (ad k)]) (n := 2) (Nat.le_of_ble_eq_true rfl)
  rw [lg_entry_eq]
  generalize (lg_sl ([.ref (ad k)]) ++ List.replicate (2 - (lg_sl ([.ref (ad k)])).length) Slot.unset).toArray = ls at hl ⊢
  have hl : lv_has ls 2 [(0, .ref (ad k))] := hl
  have inX2 : ∀ w ∈ u_ws RX2 TX2 7, w ∈ wsX2_rightCheck := fun w h => List.mem_cons_of_mem _ (List.mem_append_right _ h)
  refine lv_bipush (v := nI 23) hx hb dX2_rightCheck_0 (by decide) ?_
  refine lv_istore_n (lv' := [(1, .int (nI 23)), (0, .ref (ad k))]) hx hb dX2_rightCheck_2 rfl hl (by decide) rfl (fun ls hl => ?_)
  refine lv_iload_n hx hb dX2_rightCheck_3 rfl (lv_at hl 0 rfl) ?_
  refine lv_bipush (v := nI 37) hx hb dX2_rightCheck_4 (by decide) ?_
  refine n_mul hx hb dX2_rightCheck_6 ?_
  refine lv_aload_n hx hb dX2_rightCheck_7 rfl (lv_at hl 1 rfl) ?_
  refine m_get hx hb hts inX2 hown hK hP (ci := 2) rfl (k := k) (by omega) h1 0 (by decide) (hts (.fieldLink RX2 35 "RollbackPair$Packet" "number" "S") (by decide +kernel)) rfl dX2_rightCheck_8 ?_
  refine lv_iadd hx hb dX2_rightCheck_11 ?_
  refine lv_istore_n (lv' := [(1, .int ((nI (23 * 37)) + nu)), (0, .ref (ad k))]) hx hb dX2_rightCheck_12 rfl hl (by decide) rfl (fun ls hl => ?_)
  refine lv_iload_n hx hb dX2_rightCheck_13 rfl (lv_at hl 0 rfl) ?_
  refine lv_bipush (v := nI 37) hx hb dX2_rightCheck_14 (by decide) ?_
  refine lv_imul hx hb dX2_rightCheck_16 ?_
  refine lv_aload_n hx hb dX2_rightCheck_17 rfl (lv_at hl 1 rfl) ?_
  refine m_get hx hb hts inX2 hown hK hP (ci := 2) rfl (k := k) (by omega) h1 1 (by decide) (hts (.fieldLink RX2 39 "RollbackPair$Packet" "frame" "I") (by decide +kernel)) rfl dX2_rightCheck_18 ?_
  refine lv_iadd hx hb dX2_rightCheck_21 ?_
  refine lv_istore_n (lv' := [(1, .int ((((nI (23 * 37)) + nu) * (nI 37)) + fr)), (0, .ref (ad k))]) hx hb dX2_rightCheck_22 rfl hl (by decide) rfl (fun ls hl => ?_)
  refine lv_iload_n hx hb dX2_rightCheck_23 rfl (lv_at hl 0 rfl) ?_
  refine lv_bipush (v := nI 37) hx hb dX2_rightCheck_24 (by decide) ?_
  refine lv_imul hx hb dX2_rightCheck_26 ?_
  refine lv_aload_n hx hb dX2_rightCheck_27 rfl (lv_at hl 1 rfl) ?_
  refine m_get hx hb hts inX2 hown hK hP (ci := 2) rfl (k := k) (by omega) h1 2 (by decide) (hts (.fieldLink RX2 42 "RollbackPair$Packet" "ack" "I") (by decide +kernel)) rfl dX2_rightCheck_28 ?_
  refine lv_iadd hx hb dX2_rightCheck_31 ?_
  refine lv_istore_n (lv' := [(1, .int ((((((nI (23 * 37)) + nu) * (nI 37)) + fr) * (nI 37)) + ak)), (0, .ref (ad k))]) hx hb dX2_rightCheck_32 rfl hl (by decide) rfl (fun ls hl => ?_)
  refine lv_iload_n hx hb dX2_rightCheck_33 rfl (lv_at hl 0 rfl) ?_
  refine lv_bipush (v := nI 37) hx hb dX2_rightCheck_34 (by decide) ?_
  refine lv_imul hx hb dX2_rightCheck_36 ?_
  refine lv_aload_n hx hb dX2_rightCheck_37 rfl (lv_at hl 1 rfl) ?_
  refine m_get hx hb hts inX2 hown hK hP (ci := 2) rfl (k := k) (by omega) h1 3 (by decide) (hts (.fieldLink RX2 9 "RollbackPair$Packet" "first" "I") (by decide +kernel)) rfl dX2_rightCheck_38 ?_
  refine lv_iadd hx hb dX2_rightCheck_41 ?_
  refine lv_istore_n (lv' := [(1, .int ((((((((nI (23 * 37)) + nu) * (nI 37)) + fr) * (nI 37)) + ak) * (nI 37)) + fi)), (0, .ref (ad k))]) hx hb dX2_rightCheck_42 rfl hl (by decide) rfl (fun ls hl => ?_)
  refine lv_iload_n hx hb dX2_rightCheck_43 rfl (lv_at hl 0 rfl) ?_
  refine lv_bipush (v := nI 37) hx hb dX2_rightCheck_44 (by decide) ?_
  refine lv_imul hx hb dX2_rightCheck_46 ?_
  refine lv_aload_n hx hb dX2_rightCheck_47 rfl (lv_at hl 1 rfl) ?_
  refine m_get hx hb hts inX2 hown hK hP (ci := 2) rfl (k := k) (by omega) h1 4 (by decide) (hts (.fieldLink RX2 26 "RollbackPair$Packet" "count" "I") (by decide +kernel)) rfl dX2_rightCheck_48 ?_
  refine lv_iadd hx hb dX2_rightCheck_51 ?_
  refine lv_istore_n (lv' := [(1, .int ((((((((((nI (23 * 37)) + nu) * (nI 37)) + fr) * (nI 37)) + ak) * (nI 37)) + fi) * (nI 37)) + cn)), (0, .ref (ad k))]) hx hb dX2_rightCheck_52 rfl hl (by decide) rfl (fun ls hl => ?_)
  refine lv_iload_n hx hb dX2_rightCheck_53 rfl (lv_at hl 0 rfl) ?_
  refine lv_bipush (v := nI 37) hx hb dX2_rightCheck_54 (by decide) ?_
  refine lv_imul hx hb dX2_rightCheck_56 ?_
  refine lv_aload_n hx hb dX2_rightCheck_57 rfl (lv_at hl 1 rfl) ?_
  refine m_get hx hb hts inX2 hown hK hP (ci := 2) rfl (k := k) (by omega) h1 5 (by decide) (hts (.fieldLink RX2 27 "RollbackPair$Packet" "bits" "J") (by decide +kernel)) rfl dX2_rightCheck_58 ?_
  refine lv_l2i hx hb dX2_rightCheck_61 rfl ?_
  refine lv_iadd hx hb dX2_rightCheck_62 ?_
  refine lv_istore_n (lv' := [(1, .int ((((((((((((nI (23 * 37)) + nu) * (nI 37)) + fr) * (nI 37)) + ak) * (nI 37)) + fi) * (nI 37)) + cn) * (nI 37)) + bt.toInt32)), (0, .ref (ad k))]) hx hb dX2_rightCheck_63 rfl hl (by decide) rfl (fun ls hl => ?_)
  refine lv_iload_n hx hb dX2_rightCheck_64 rfl (lv_at hl 0 rfl) ?_
  refine lv_bipush (v := nI 37) hx hb dX2_rightCheck_65 (by decide) ?_
  refine lv_imul hx hb dX2_rightCheck_67 ?_
  refine lv_aload_n hx hb dX2_rightCheck_68 rfl (lv_at hl 1 rfl) ?_
  refine m_get hx hb hts inX2 hown hK hP (ci := 2) rfl (k := k) (by omega) h1 5 (by decide) (hts (.fieldLink RX2 27 "RollbackPair$Packet" "bits" "J") (by decide +kernel)) rfl dX2_rightCheck_69 ?_
  refine lv_bipush (v := nI 32) hx hb dX2_rightCheck_72 (by decide) ?_
  refine lv_lushr hx hb dX2_rightCheck_74 rfl ?_
  refine lv_l2i hx hb dX2_rightCheck_75 rfl ?_
  refine lv_iadd hx hb dX2_rightCheck_76 ?_
  exact r_i hx hb hr hlocks hK hP hS dX2_rightCheck_77 ⟨rfl, by rw [← hi_eq]; rfl⟩
set_option maxHeartbeats 4000000 in
set_option maxRecDepth 100000 in
/-- Packet.copyOf(b) -/
theorem c_copyOf (l : Launch) (D : va_G) (cs : Nat → ClassId) (ad : Nat → Nat) (n : Nat) (hJ : Inj ad n) (M : Nat → va_E) (k : Nat) (nu fr ak fi cn : Int32) (bt : Int64) (ch : Int32) (hk : k < n) (h1 : M k = oPk nu fr ak fi cn bt ch) (b : Nat) (nu2 fr2 ak2 fi2 cn2 : Int32) (bt2 : Int64) (ch2 : Int32) (hb0 : b < n) (hkb : k ≠ b) (g1 : M b = oPk nu2 fr2 ak2 fi2 cn2 bt2 ch2) (hsh : sh nu2) : CTv l yX2_copyOf wsX2_copyOf ({ frames := 0, cells := 0, slots := 0, locals := 0 }) D cs ad n M [.ref (ad k), .ref (ad b)] (fun M2 => M2 k = oPk nu2 fr2 ak2 fi2 cn2 bt2 ch2 ∧ ∀ i, i ≠ k → M2 i = M i) := by
  refine Met.ofW (cc := cX2_copyOf) (maxL := 2) (ret := none) (by decide) rfl ?_
  intro p e s m args below meth c s₁ B hml hv
  obtain ⟨rfl, hP, hK⟩ := hv
  have hx := B.exec
  have hb := B.bytes
  have hr := B.returns
  have hts := atoms_spec (ws := wsX2_copyOf) B.pre
  have hown : s.vm.findClass RX2 = some m.cls := findClass_of_methodNamed B.named
  have hlocks := B.notSynchronized
  have hS : va_S (Ad ad n) s.heap s.heap [] := va_S.rf
  have hl := lv_entry ([.ref (ad k), .ref (ad b)]) (n := 2) (Nat.le_of_ble_eq_true rfl)
  rw [lg_entry_eq]
  generalize (lg_sl ([.ref (ad k), .ref (ad b)]) ++ List.replicate (2 - (lg_sl ([.ref (ad k), .ref (ad b)])).length) Slot.unset).toArray = ls at hl ⊢
  have hl : lv_has ls 2 [(0, .ref (ad k)), (1, .ref (ad b))] := hl
  have inX2 : ∀ w ∈ u_ws RX2 TX2 7, w ∈ wsX2_copyOf := fun w h => List.mem_cons_of_mem _ (List.mem_append_right _ h)
  refine lv_aload_n hx hb dX2_copyOf_0 rfl (lv_at hl 0 rfl) ?_
  refine lv_aload_n hx hb dX2_copyOf_1 rfl (lv_at hl 1 rfl) ?_
  refine m_get hx hb hts inX2 hown hK hP (ci := 2) rfl (k := b) (by omega) g1 0 (by decide) (hts (.fieldLink RX2 35 "RollbackPair$Packet" "number" "S") (by decide +kernel)) rfl dX2_copyOf_2 ?_
  refine m_put hx hb hts inX2 tyX2 tyX2_ok nmX2 hown hK hP hJ hS (ci := 2) rfl (k := k) (by omega) h1 0 (by decide) (hts (.fieldLink RX2 35 "RollbackPair$Packet" "number" "S") (by decide +kernel)) rfl (nar_sh hsh) (fit_sh hsh) (Nat.le_of_ble_eq_true rfl) (fs' := [.int nu2, .int fr, .int ak, .int fi, .int cn, .long bt, .int ch]) rfl dX2_copyOf_5 (fun H locs hP hS => ?_)
  obtain ⟨M_1, eM_1⟩ : ∃ z, z = va_up M k (.inr (2, [.int nu2, .int fr, .int ak, .int fi, .int cn, .long bt, .int ch])) := ⟨_, rfl⟩
  rw [← eM_1] at hP
  have h1_1 : M_1 k = .inr (2, [.int nu2, .int fr, .int ak, .int fi, .int cn, .long bt, .int ch]) := by rw [eM_1]; exact va_up_self _ _ _
  have h1_2 : M_1 b = .inr (2, [.int nu2, .int fr2, .int ak2, .int fi2, .int cn2, .long bt2, .int ch2]) := by rw [eM_1]; exact (va_up_ne _ _ (by omega)).trans g1
  refine lv_aload_n hx hb dX2_copyOf_8 rfl (lv_at hl 0 rfl) ?_
  refine lv_aload_n hx hb dX2_copyOf_9 rfl (lv_at hl 1 rfl) ?_
  refine m_get hx hb hts inX2 hown hK hP (ci := 2) rfl (k := b) (by omega) h1_2 1 (by decide) (hts (.fieldLink RX2 39 "RollbackPair$Packet" "frame" "I") (by decide +kernel)) rfl dX2_copyOf_10 ?_
  refine m_put hx hb hts inX2 tyX2 tyX2_ok nmX2 hown hK hP hJ hS (ci := 2) rfl (k := k) (by omega) h1_1 1 (by decide) (hts (.fieldLink RX2 39 "RollbackPair$Packet" "frame" "I") (by decide +kernel)) rfl rfl rfl (Nat.le_of_ble_eq_true rfl) (fs' := [.int nu2, .int fr2, .int ak, .int fi, .int cn, .long bt, .int ch]) rfl dX2_copyOf_13 (fun H locs hP hS => ?_)
  obtain ⟨M_2, eM_2⟩ : ∃ z, z = va_up M_1 k (.inr (2, [.int nu2, .int fr2, .int ak, .int fi, .int cn, .long bt, .int ch])) := ⟨_, rfl⟩
  rw [← eM_2] at hP
  have h2_1 : M_2 k = .inr (2, [.int nu2, .int fr2, .int ak, .int fi, .int cn, .long bt, .int ch]) := by rw [eM_2]; exact va_up_self _ _ _
  have h2_2 : M_2 b = .inr (2, [.int nu2, .int fr2, .int ak2, .int fi2, .int cn2, .long bt2, .int ch2]) := by rw [eM_2]; exact (va_up_ne _ _ (by omega)).trans h1_2
  refine lv_aload_n hx hb dX2_copyOf_16 rfl (lv_at hl 0 rfl) ?_
  refine lv_aload_n hx hb dX2_copyOf_17 rfl (lv_at hl 1 rfl) ?_
  refine m_get hx hb hts inX2 hown hK hP (ci := 2) rfl (k := b) (by omega) h2_2 2 (by decide) (hts (.fieldLink RX2 42 "RollbackPair$Packet" "ack" "I") (by decide +kernel)) rfl dX2_copyOf_18 ?_
  refine m_put hx hb hts inX2 tyX2 tyX2_ok nmX2 hown hK hP hJ hS (ci := 2) rfl (k := k) (by omega) h2_1 2 (by decide) (hts (.fieldLink RX2 42 "RollbackPair$Packet" "ack" "I") (by decide +kernel)) rfl rfl rfl (Nat.le_of_ble_eq_true rfl) (fs' := [.int nu2, .int fr2, .int ak2, .int fi, .int cn, .long bt, .int ch]) rfl dX2_copyOf_21 (fun H locs hP hS => ?_)
  obtain ⟨M_3, eM_3⟩ : ∃ z, z = va_up M_2 k (.inr (2, [.int nu2, .int fr2, .int ak2, .int fi, .int cn, .long bt, .int ch])) := ⟨_, rfl⟩
  rw [← eM_3] at hP
  have h3_1 : M_3 k = .inr (2, [.int nu2, .int fr2, .int ak2, .int fi, .int cn, .long bt, .int ch]) := by rw [eM_3]; exact va_up_self _ _ _
  have h3_2 : M_3 b = .inr (2, [.int nu2, .int fr2, .int ak2, .int fi2, .int cn2, .long bt2, .int ch2]) := by rw [eM_3]; exact (va_up_ne _ _ (by omega)).trans h2_2
  refine lv_aload_n hx hb dX2_copyOf_24 rfl (lv_at hl 0 rfl) ?_
  refine lv_aload_n hx hb dX2_copyOf_25 rfl (lv_at hl 1 rfl) ?_
  refine m_get hx hb hts inX2 hown hK hP (ci := 2) rfl (k := b) (by omega) h3_2 3 (by decide) (hts (.fieldLink RX2 9 "RollbackPair$Packet" "first" "I") (by decide +kernel)) rfl dX2_copyOf_26 ?_
  refine m_put hx hb hts inX2 tyX2 tyX2_ok nmX2 hown hK hP hJ hS (ci := 2) rfl (k := k) (by omega) h3_1 3 (by decide) (hts (.fieldLink RX2 9 "RollbackPair$Packet" "first" "I") (by decide +kernel)) rfl rfl rfl (Nat.le_of_ble_eq_true rfl) (fs' := [.int nu2, .int fr2, .int ak2, .int fi2, .int cn, .long bt, .int ch]) rfl dX2_copyOf_29 (fun H locs hP hS => ?_)
  obtain ⟨M_4, eM_4⟩ : ∃ z, z = va_up M_3 k (.inr (2, [.int nu2, .int fr2, .int ak2, .int fi2, .int cn, .long bt, .int ch])) := ⟨_, rfl⟩
  rw [← eM_4] at hP
  have h4_1 : M_4 k = .inr (2, [.int nu2, .int fr2, .int ak2, .int fi2, .int cn, .long bt, .int ch]) := by rw [eM_4]; exact va_up_self _ _ _
  have h4_2 : M_4 b = .inr (2, [.int nu2, .int fr2, .int ak2, .int fi2, .int cn2, .long bt2, .int ch2]) := by rw [eM_4]; exact (va_up_ne _ _ (by omega)).trans h3_2
  refine lv_aload_n hx hb dX2_copyOf_32 rfl (lv_at hl 0 rfl) ?_
  refine lv_aload_n hx hb dX2_copyOf_33 rfl (lv_at hl 1 rfl) ?_
  refine m_get hx hb hts inX2 hown hK hP (ci := 2) rfl (k := b) (by omega) h4_2 4 (by decide) (hts (.fieldLink RX2 26 "RollbackPair$Packet" "count" "I") (by decide +kernel)) rfl dX2_copyOf_34 ?_
  refine m_put hx hb hts inX2 tyX2 tyX2_ok nmX2 hown hK hP hJ hS (ci := 2) rfl (k := k) (by omega) h4_1 4 (by decide) (hts (.fieldLink RX2 26 "RollbackPair$Packet" "count" "I") (by decide +kernel)) rfl rfl rfl (Nat.le_of_ble_eq_true rfl) (fs' := [.int nu2, .int fr2, .int ak2, .int fi2, .int cn2, .long bt, .int ch]) rfl dX2_copyOf_37 (fun H locs hP hS => ?_)
  obtain ⟨M_5, eM_5⟩ : ∃ z, z = va_up M_4 k (.inr (2, [.int nu2, .int fr2, .int ak2, .int fi2, .int cn2, .long bt, .int ch])) := ⟨_, rfl⟩
  rw [← eM_5] at hP
  have h5_1 : M_5 k = .inr (2, [.int nu2, .int fr2, .int ak2, .int fi2, .int cn2, .long bt, .int ch]) := by rw [eM_5]; exact va_up_self _ _ _
  have h5_2 : M_5 b = .inr (2, [.int nu2, .int fr2, .int ak2, .int fi2, .int cn2, .long bt2, .int ch2]) := by rw [eM_5]; exact (va_up_ne _ _ (by omega)).trans h4_2
  refine lv_aload_n hx hb dX2_copyOf_40 rfl (lv_at hl 0 rfl) ?_
  refine lv_aload_n hx hb dX2_copyOf_41 rfl (lv_at hl 1 rfl) ?_
  refine m_get hx hb hts inX2 hown hK hP (ci := 2) rfl (k := b) (by omega) h5_2 5 (by decide) (hts (.fieldLink RX2 27 "RollbackPair$Packet" "bits" "J") (by decide +kernel)) rfl dX2_copyOf_42 ?_
  refine m_put hx hb hts inX2 tyX2 tyX2_ok nmX2 hown hK hP hJ hS (ci := 2) rfl (k := k) (by omega) h5_1 5 (by decide) (hts (.fieldLink RX2 27 "RollbackPair$Packet" "bits" "J") (by decide +kernel)) rfl rfl rfl (Nat.le_of_ble_eq_true rfl) (fs' := [.int nu2, .int fr2, .int ak2, .int fi2, .int cn2, .long bt2, .int ch]) rfl dX2_copyOf_45 (fun H locs hP hS => ?_)
  obtain ⟨M_6, eM_6⟩ : ∃ z, z = va_up M_5 k (.inr (2, [.int nu2, .int fr2, .int ak2, .int fi2, .int cn2, .long bt2, .int ch])) := ⟨_, rfl⟩
  rw [← eM_6] at hP
  have h6_1 : M_6 k = .inr (2, [.int nu2, .int fr2, .int ak2, .int fi2, .int cn2, .long bt2, .int ch]) := by rw [eM_6]; exact va_up_self _ _ _
  have h6_2 : M_6 b = .inr (2, [.int nu2, .int fr2, .int ak2, .int fi2, .int cn2, .long bt2, .int ch2]) := by rw [eM_6]; exact (va_up_ne _ _ (by omega)).trans h5_2
  refine lv_aload_n hx hb dX2_copyOf_48 rfl (lv_at hl 0 rfl) ?_
  refine lv_aload_n hx hb dX2_copyOf_49 rfl (lv_at hl 1 rfl) ?_
  refine m_get hx hb hts inX2 hown hK hP (ci := 2) rfl (k := b) (by omega) h6_2 6 (by decide) (hts (.fieldLink RX2 45 "RollbackPair$Packet" "check" "I") (by decide +kernel)) rfl dX2_copyOf_50 ?_
  refine m_put hx hb hts inX2 tyX2 tyX2_ok nmX2 hown hK hP hJ hS (ci := 2) rfl (k := k) (by omega) h6_1 6 (by decide) (hts (.fieldLink RX2 45 "RollbackPair$Packet" "check" "I") (by decide +kernel)) rfl rfl rfl (Nat.le_of_ble_eq_true rfl) (fs' := [.int nu2, .int fr2, .int ak2, .int fi2, .int cn2, .long bt2, .int ch2]) rfl dX2_copyOf_53 (fun H locs hP hS => ?_)
  obtain ⟨M_7, eM_7⟩ : ∃ z, z = va_up M_6 k (.inr (2, [.int nu2, .int fr2, .int ak2, .int fi2, .int cn2, .long bt2, .int ch2])) := ⟨_, rfl⟩
  rw [← eM_7] at hP
  have h7_1 : M_7 k = .inr (2, [.int nu2, .int fr2, .int ak2, .int fi2, .int cn2, .long bt2, .int ch2]) := by rw [eM_7]; exact va_up_self _ _ _
  have h7_2 : M_7 b = .inr (2, [.int nu2, .int fr2, .int ak2, .int fi2, .int cn2, .long bt2, .int ch2]) := by rw [eM_7]; exact (va_up_ne _ _ (by omega)).trans h6_2
  exact r_v hx hb hr hlocks hK hP hS dX2_copyOf_56 ⟨h7_1, fun i hi => by rw [eM_7, va_up_ne _ _ (by omega), eM_6, va_up_ne _ _ (by omega), eM_5, va_up_ne _ _ (by omega), eM_4, va_up_ne _ _ (by omega), eM_3, va_up_ne _ _ (by omega), eM_2, va_up_ne _ _ (by omega), eM_1, va_up_ne _ _ (by omega)]⟩
abbrev oFl (nu fr ak fi cn : Int32) (bt : Int64) (ch : Int32) (j : Nat) (bits : Int32) : va_E := oPk (if j = 0 then (nu ^^^ bits).toInt16.toInt32 else nu) (if j = 1 then fr ^^^ bits else fr) (if j = 2 then ak ^^^ bits else ak) (if j = 3 then fi ^^^ bits else fi) (if j = 4 then cn ^^^ bits else cn) (if j = 5 then bt ^^^ (bits.toInt64 &&& (4294967295 : Int64)) else bt) (if j = 6 then ch ^^^ bits else ch)
set_option maxHeartbeats 4000000 in
set_option maxRecDepth 100000 in
/-- Packet.flip(j, bits) -/
theorem c_flip (l : Launch) (D : va_G) (cs : Nat → ClassId) (ad : Nat → Nat) (n : Nat) (hJ : Inj ad n) (M : Nat → va_E) (k : Nat) (nu fr ak fi cn : Int32) (bt : Int64) (ch : Int32) (hk : k < n) (h1 : M k = oPk nu fr ak fi cn bt ch) (j : Nat) (bits : Int32) (hj : j ≤ 6) : CTi l yX2_flip wsX2_flip ({ frames := 0, cells := 0, slots := 0, locals := 0 }) D cs ad n M [.ref (ad k), .int (nI j), .int bits] (fun r M2 => r = nI 1 ∧ M2 k = oFl nu fr ak fi cn bt ch j bits ∧ ∀ i, i ≠ k → M2 i = M i) := by
  refine Met.ofW (cc := cX2_flip) (maxL := 3) (ret := (some .boolean)) (by decide) rfl ?_
  intro p e s m args below meth c s₁ B hml hv
  obtain ⟨rfl, hP, hK⟩ := hv
  have hx := B.exec
  have hb := B.bytes
  have hr := B.returns
  have hts := atoms_spec (ws := wsX2_flip) B.pre
  have hown : s.vm.findClass RX2 = some m.cls := findClass_of_methodNamed B.named
  have hlocks := B.notSynchronized
  have hS : va_S (Ad ad n) s.heap s.heap [] := va_S.rf
  have hl := lv_entry ([.ref (ad k), .int (nI j), .int bits]) (n := 3) (Nat.le_of_ble_eq_true rfl)
  rw [lg_entry_eq]
  generalize (lg_sl ([.ref (ad k), .int (nI j), .int bits]) ++ List.replicate (3 - (lg_sl ([.ref (ad k), .int (nI j), .int bits])).length) Slot.unset).toArray = ls at hl ⊢
  have hl : lv_has ls 3 [(0, .ref (ad k)), (1, .int (nI j)), (2, .int bits)] := hl
  have inX2 : ∀ w ∈ u_ws RX2 TX2 7, w ∈ wsX2_flip := fun w h => List.mem_cons_of_mem _ (List.mem_append_right _ h)
  rcases (show j = 0 ∨ j = 1 ∨ j = 2 ∨ j = 3 ∨ j = 4 ∨ j = 5 ∨ j = 6 by omega) with rfl | rfl | rfl | rfl | rfl | rfl | rfl
  · refine lv_iload_n hx hb dX2_flip_0 rfl (lv_at hl 1 rfl) ?_
    refine lv_tableIn (off := 43) (tgt := 44) hx hb dX2_flip_1 (by decide) (by decide) (by decide) (by decide) ?_
    refine lv_aload_n hx hb dX2_flip_44 rfl (lv_at hl 0 rfl) ?_
    refine lv_aload_n hx hb dX2_flip_45 rfl (lv_at hl 0 rfl) ?_
    refine m_get hx hb hts inX2 hown hK hP (ci := 2) rfl (k := k) (by omega) h1 0 (by decide) (hts (.fieldLink RX2 35 "RollbackPair$Packet" "number" "S") (by decide +kernel)) rfl dX2_flip_46 ?_
    refine lv_iload_n hx hb dX2_flip_49 rfl (lv_at hl 2 rfl) ?_
    refine lv_ixor hx hb dX2_flip_50 ?_
    refine lv_i2s hx hb dX2_flip_51 rfl ?_
    refine m_put hx hb hts inX2 tyX2 tyX2_ok nmX2 hown hK hP hJ hS (ci := 2) rfl (k := k) (by omega) h1 0 (by decide) (hts (.fieldLink RX2 35 "RollbackPair$Packet" "number" "S") (by decide +kernel)) rfl (nar_sh (sh_i _)) (fit_sh (sh_i _)) (Nat.le_of_ble_eq_true rfl) (fs' := [.int ((nu ^^^ bits).toInt16.toInt32), .int fr, .int ak, .int fi, .int cn, .long bt, .int ch]) rfl dX2_flip_52 (fun H locs hP hS => ?_)
    obtain ⟨M_1, eM_1⟩ : ∃ z, z = va_up M k (.inr (2, [.int ((nu ^^^ bits).toInt16.toInt32), .int fr, .int ak, .int fi, .int cn, .long bt, .int ch])) := ⟨_, rfl⟩
    rw [← eM_1] at hP
    have h1_1 : M_1 k = .inr (2, [.int ((nu ^^^ bits).toInt16.toInt32), .int fr, .int ak, .int fi, .int cn, .long bt, .int ch]) := by rw [eM_1]; exact va_up_self _ _ _
    refine lv_iconst (v := nI 1) hx hb dX2_flip_55 (by decide) ?_
    exact r_z hx hb hr hlocks hK hP hS dX2_flip_56 (by first | rfl | decide) ⟨rfl, h1_1, fun i hi => by rw [eM_1, va_up_ne _ _ (by omega)]⟩
  · refine lv_iload_n hx hb dX2_flip_0 rfl (lv_at hl 1 rfl) ?_
    refine lv_tableIn (off := 56) (tgt := 57) hx hb dX2_flip_1 (by decide) (by decide) (by decide) (by decide) ?_
    refine lv_aload_n hx hb dX2_flip_57 rfl (lv_at hl 0 rfl) ?_
    refine lv_dup hx hb dX2_flip_58 rfl ?_
    refine m_get hx hb hts inX2 hown hK hP (ci := 2) rfl (k := k) (by omega) h1 1 (by decide) (hts (.fieldLink RX2 39 "RollbackPair$Packet" "frame" "I") (by decide +kernel)) rfl dX2_flip_59 ?_
    refine lv_iload_n hx hb dX2_flip_62 rfl (lv_at hl 2 rfl) ?_
    refine lv_ixor hx hb dX2_flip_63 ?_
    refine m_put hx hb hts inX2 tyX2 tyX2_ok nmX2 hown hK hP hJ hS (ci := 2) rfl (k := k) (by omega) h1 1 (by decide) (hts (.fieldLink RX2 39 "RollbackPair$Packet" "frame" "I") (by decide +kernel)) rfl rfl rfl (Nat.le_of_ble_eq_true rfl) (fs' := [.int nu, .int (fr ^^^ bits), .int ak, .int fi, .int cn, .long bt, .int ch]) rfl dX2_flip_64 (fun H locs hP hS => ?_)
    obtain ⟨M_1, eM_1⟩ : ∃ z, z = va_up M k (.inr (2, [.int nu, .int (fr ^^^ bits), .int ak, .int fi, .int cn, .long bt, .int ch])) := ⟨_, rfl⟩
    rw [← eM_1] at hP
    have h1_1 : M_1 k = .inr (2, [.int nu, .int (fr ^^^ bits), .int ak, .int fi, .int cn, .long bt, .int ch]) := by rw [eM_1]; exact va_up_self _ _ _
    refine lv_iconst (v := nI 1) hx hb dX2_flip_67 (by decide) ?_
    exact r_z hx hb hr hlocks hK hP hS dX2_flip_68 (by first | rfl | decide) ⟨rfl, h1_1, fun i hi => by rw [eM_1, va_up_ne _ _ (by omega)]⟩
  · refine lv_iload_n hx hb dX2_flip_0 rfl (lv_at hl 1 rfl) ?_
    refine lv_tableIn (off := 68) (tgt := 69) hx hb dX2_flip_1 (by decide) (by decide) (by decide) (by decide) ?_
    refine lv_aload_n hx hb dX2_flip_69 rfl (lv_at hl 0 rfl) ?_
    refine lv_dup hx hb dX2_flip_70 rfl ?_
    refine m_get hx hb hts inX2 hown hK hP (ci := 2) rfl (k := k) (by omega) h1 2 (by decide) (hts (.fieldLink RX2 42 "RollbackPair$Packet" "ack" "I") (by decide +kernel)) rfl dX2_flip_71 ?_
    refine lv_iload_n hx hb dX2_flip_74 rfl (lv_at hl 2 rfl) ?_
    refine lv_ixor hx hb dX2_flip_75 ?_
    refine m_put hx hb hts inX2 tyX2 tyX2_ok nmX2 hown hK hP hJ hS (ci := 2) rfl (k := k) (by omega) h1 2 (by decide) (hts (.fieldLink RX2 42 "RollbackPair$Packet" "ack" "I") (by decide +kernel)) rfl rfl rfl (Nat.le_of_ble_eq_true rfl) (fs' := [.int nu, .int fr, .int (ak ^^^ bits), .int fi, .int cn, .long bt, .int ch]) rfl dX2_flip_76 (fun H locs hP hS => ?_)
    obtain ⟨M_1, eM_1⟩ : ∃ z, z = va_up M k (.inr (2, [.int nu, .int fr, .int (ak ^^^ bits), .int fi, .int cn, .long bt, .int ch])) := ⟨_, rfl⟩
    rw [← eM_1] at hP
    have h1_1 : M_1 k = .inr (2, [.int nu, .int fr, .int (ak ^^^ bits), .int fi, .int cn, .long bt, .int ch]) := by rw [eM_1]; exact va_up_self _ _ _
    refine lv_iconst (v := nI 1) hx hb dX2_flip_79 (by decide) ?_
    exact r_z hx hb hr hlocks hK hP hS dX2_flip_80 (by first | rfl | decide) ⟨rfl, h1_1, fun i hi => by rw [eM_1, va_up_ne _ _ (by omega)]⟩
  · refine lv_iload_n hx hb dX2_flip_0 rfl (lv_at hl 1 rfl) ?_
    refine lv_tableIn (off := 80) (tgt := 81) hx hb dX2_flip_1 (by decide) (by decide) (by decide) (by decide) ?_
    refine lv_aload_n hx hb dX2_flip_81 rfl (lv_at hl 0 rfl) ?_
    refine lv_dup hx hb dX2_flip_82 rfl ?_
    refine m_get hx hb hts inX2 hown hK hP (ci := 2) rfl (k := k) (by omega) h1 3 (by decide) (hts (.fieldLink RX2 9 "RollbackPair$Packet" "first" "I") (by decide +kernel)) rfl dX2_flip_83 ?_
    refine lv_iload_n hx hb dX2_flip_86 rfl (lv_at hl 2 rfl) ?_
    refine lv_ixor hx hb dX2_flip_87 ?_
    refine m_put hx hb hts inX2 tyX2 tyX2_ok nmX2 hown hK hP hJ hS (ci := 2) rfl (k := k) (by omega) h1 3 (by decide) (hts (.fieldLink RX2 9 "RollbackPair$Packet" "first" "I") (by decide +kernel)) rfl rfl rfl (Nat.le_of_ble_eq_true rfl) (fs' := [.int nu, .int fr, .int ak, .int (fi ^^^ bits), .int cn, .long bt, .int ch]) rfl dX2_flip_88 (fun H locs hP hS => ?_)
    obtain ⟨M_1, eM_1⟩ : ∃ z, z = va_up M k (.inr (2, [.int nu, .int fr, .int ak, .int (fi ^^^ bits), .int cn, .long bt, .int ch])) := ⟨_, rfl⟩
    rw [← eM_1] at hP
    have h1_1 : M_1 k = .inr (2, [.int nu, .int fr, .int ak, .int (fi ^^^ bits), .int cn, .long bt, .int ch]) := by rw [eM_1]; exact va_up_self _ _ _
    refine lv_iconst (v := nI 1) hx hb dX2_flip_91 (by decide) ?_
    exact r_z hx hb hr hlocks hK hP hS dX2_flip_92 (by first | rfl | decide) ⟨rfl, h1_1, fun i hi => by rw [eM_1, va_up_ne _ _ (by omega)]⟩
  · refine lv_iload_n hx hb dX2_flip_0 rfl (lv_at hl 1 rfl) ?_
    refine lv_tableIn (off := 92) (tgt := 93) hx hb dX2_flip_1 (by decide) (by decide) (by decide) (by decide) ?_
    refine lv_aload_n hx hb dX2_flip_93 rfl (lv_at hl 0 rfl) ?_
    refine lv_dup hx hb dX2_flip_94 rfl ?_
    refine m_get hx hb hts inX2 hown hK hP (ci := 2) rfl (k := k) (by omega) h1 4 (by decide) (hts (.fieldLink RX2 26 "RollbackPair$Packet" "count" "I") (by decide +kernel)) rfl dX2_flip_95 ?_
    refine lv_iload_n hx hb dX2_flip_98 rfl (lv_at hl 2 rfl) ?_
    refine lv_ixor hx hb dX2_flip_99 ?_
    refine m_put hx hb hts inX2 tyX2 tyX2_ok nmX2 hown hK hP hJ hS (ci := 2) rfl (k := k) (by omega) h1 4 (by decide) (hts (.fieldLink RX2 26 "RollbackPair$Packet" "count" "I") (by decide +kernel)) rfl rfl rfl (Nat.le_of_ble_eq_true rfl) (fs' := [.int nu, .int fr, .int ak, .int fi, .int (cn ^^^ bits), .long bt, .int ch]) rfl dX2_flip_100 (fun H locs hP hS => ?_)
    obtain ⟨M_1, eM_1⟩ : ∃ z, z = va_up M k (.inr (2, [.int nu, .int fr, .int ak, .int fi, .int (cn ^^^ bits), .long bt, .int ch])) := ⟨_, rfl⟩
    rw [← eM_1] at hP
    have h1_1 : M_1 k = .inr (2, [.int nu, .int fr, .int ak, .int fi, .int (cn ^^^ bits), .long bt, .int ch]) := by rw [eM_1]; exact va_up_self _ _ _
    refine lv_iconst (v := nI 1) hx hb dX2_flip_103 (by decide) ?_
    exact r_z hx hb hr hlocks hK hP hS dX2_flip_104 (by first | rfl | decide) ⟨rfl, h1_1, fun i hi => by rw [eM_1, va_up_ne _ _ (by omega)]⟩
  · refine lv_iload_n hx hb dX2_flip_0 rfl (lv_at hl 1 rfl) ?_
    refine lv_tableIn (off := 104) (tgt := 105) hx hb dX2_flip_1 (by decide) (by decide) (by decide) (by decide) ?_
    refine lv_aload_n hx hb dX2_flip_105 rfl (lv_at hl 0 rfl) ?_
    refine lv_dup hx hb dX2_flip_106 rfl ?_
    refine m_get hx hb hts inX2 hown hK hP (ci := 2) rfl (k := k) (by omega) h1 5 (by decide) (hts (.fieldLink RX2 27 "RollbackPair$Packet" "bits" "J") (by decide +kernel)) rfl dX2_flip_107 ?_
    refine lv_iload_n hx hb dX2_flip_110 rfl (lv_at hl 2 rfl) ?_
    refine lv_i2l hx hb dX2_flip_111 rfl ?_
    refine lv_ldc2 hx hb hown (hts (.constantLong RX2 48 (4294967295)) (by decide +kernel)) dX2_flip_112 ?_
    refine lv_land hx hb dX2_flip_115 ?_
    refine lv_lxor hx hb dX2_flip_116 ?_
    refine m_put hx hb hts inX2 tyX2 tyX2_ok nmX2 hown hK hP hJ hS (ci := 2) rfl (k := k) (by omega) h1 5 (by decide) (hts (.fieldLink RX2 27 "RollbackPair$Packet" "bits" "J") (by decide +kernel)) rfl rfl rfl (Nat.le_of_ble_eq_true rfl) (fs' := [.int nu, .int fr, .int ak, .int fi, .int cn, .long (bt ^^^ (bits.toInt64 &&& (4294967295 : Int64))), .int ch]) rfl dX2_flip_117 (fun H locs hP hS => ?_)
    obtain ⟨M_1, eM_1⟩ : ∃ z, z = va_up M k (.inr (2, [.int nu, .int fr, .int ak, .int fi, .int cn, .long (bt ^^^ (bits.toInt64 &&& (4294967295 : Int64))), .int ch])) := ⟨_, rfl⟩
    rw [← eM_1] at hP
    have h1_1 : M_1 k = .inr (2, [.int nu, .int fr, .int ak, .int fi, .int cn, .long (bt ^^^ (bits.toInt64 &&& (4294967295 : Int64))), .int ch]) := by rw [eM_1]; exact va_up_self _ _ _
    refine lv_iconst (v := nI 1) hx hb dX2_flip_120 (by decide) ?_
    exact r_z hx hb hr hlocks hK hP hS dX2_flip_121 (by first | rfl | decide) ⟨rfl, h1_1, fun i hi => by rw [eM_1, va_up_ne _ _ (by omega)]⟩
  · refine lv_iload_n hx hb dX2_flip_0 rfl (lv_at hl 1 rfl) ?_
    refine lv_tableIn (off := 121) (tgt := 122) hx hb dX2_flip_1 (by decide) (by decide) (by decide) (by decide) ?_
    refine lv_aload_n hx hb dX2_flip_122 rfl (lv_at hl 0 rfl) ?_
    refine lv_dup hx hb dX2_flip_123 rfl ?_
    refine m_get hx hb hts inX2 hown hK hP (ci := 2) rfl (k := k) (by omega) h1 6 (by decide) (hts (.fieldLink RX2 45 "RollbackPair$Packet" "check" "I") (by decide +kernel)) rfl dX2_flip_124 ?_
    refine lv_iload_n hx hb dX2_flip_127 rfl (lv_at hl 2 rfl) ?_
    refine lv_ixor hx hb dX2_flip_128 ?_
    refine m_put hx hb hts inX2 tyX2 tyX2_ok nmX2 hown hK hP hJ hS (ci := 2) rfl (k := k) (by omega) h1 6 (by decide) (hts (.fieldLink RX2 45 "RollbackPair$Packet" "check" "I") (by decide +kernel)) rfl rfl rfl (Nat.le_of_ble_eq_true rfl) (fs' := [.int nu, .int fr, .int ak, .int fi, .int cn, .long bt, .int (ch ^^^ bits)]) rfl dX2_flip_129 (fun H locs hP hS => ?_)
    obtain ⟨M_1, eM_1⟩ : ∃ z, z = va_up M k (.inr (2, [.int nu, .int fr, .int ak, .int fi, .int cn, .long bt, .int (ch ^^^ bits)])) := ⟨_, rfl⟩
    rw [← eM_1] at hP
    have h1_1 : M_1 k = .inr (2, [.int nu, .int fr, .int ak, .int fi, .int cn, .long bt, .int (ch ^^^ bits)]) := by rw [eM_1]; exact va_up_self _ _ _
    refine lv_iconst (v := nI 1) hx hb dX2_flip_132 (by decide) ?_
    exact r_z hx hb hr hlocks hK hP hS dX2_flip_133 (by first | rfl | decide) ⟨rfl, h1_1, fun i hi => by rw [eM_1, va_up_ne _ _ (by omega)]⟩
set_option maxHeartbeats 4000000 in
set_option maxRecDepth 100000 in
/-- Packet.flip, refused -/
theorem c_flip_no (l : Launch) (D : va_G) (cs : Nat → ClassId) (ad : Nat → Nat) (n : Nat) (hJ : Inj ad n) (M : Nat → va_E) (k : Nat) (x bits : Int32) (hz : x < 0 ∨ nI 6 < x) : CTi l yX2_flip wsX2_flip ({ frames := 0, cells := 0, slots := 0, locals := 0 }) D cs ad n M [.ref (ad k), .int x, .int bits] (fun r M2 => M2 = M ∧ r = nI 0) := by
  refine Met.ofW (cc := cX2_flip) (maxL := 3) (ret := (some .boolean)) (by decide) rfl ?_
  intro p e s m args below meth c s₁ B hml hv
  obtain ⟨rfl, hP, hK⟩ := hv
  have hx := B.exec
  have hb := B.bytes
  have hr := B.returns
  have hts := atoms_spec (ws := wsX2_flip) B.pre
  have hown : s.vm.findClass RX2 = some m.cls := findClass_of_methodNamed B.named
  have hlocks := B.notSynchronized
  have hS : va_S (Ad ad n) s.heap s.heap [] := va_S.rf
  have hl := lv_entry ([.ref (ad k), .int x, .int bits]) (n := 3) (Nat.le_of_ble_eq_true rfl)
  rw [lg_entry_eq]
  generalize (lg_sl ([.ref (ad k), .int x, .int bits]) ++ List.replicate (3 - (lg_sl ([.ref (ad k), .int x, .int bits])).length) Slot.unset).toArray = ls at hl ⊢
  have hl : lv_has ls 3 [(0, .ref (ad k)), (1, .int x), (2, .int bits)] := hl
  have inX2 : ∀ w ∈ u_ws RX2 TX2 7, w ∈ wsX2_flip := fun w h => List.mem_cons_of_mem _ (List.mem_append_right _ h)
  refine lv_iload_n hx hb dX2_flip_0 rfl (lv_at hl 1 rfl) ?_
  refine lv_tableOut (tgt := 134) hx hb dX2_flip_1 (hz.elim (fun z => Or.inl (Int32.lt_iff_toInt_lt.mp z)) (fun z => Or.inr (Int32.lt_iff_toInt_lt.mp z))) (by decide) ?_
  refine lv_iconst (v := nI 0) hx hb dX2_flip_134 (by decide) ?_
  exact r_z hx hb hr hlocks hK hP hS dX2_flip_135 (by first | rfl | decide) ⟨rfl, rfl⟩
set_option maxHeartbeats 4000000 in
set_option maxRecDepth 100000 in
/-- Packet.carry(inputs, t) -/
theorem c_carry (l : Launch) (D : va_G) (cs : Nat → ClassId) (ad : Nat → Nat) (n : Nat) (hJ : Inj ad n) (M : Nat → va_E) (k : Nat) (nu fr ak fi cn : Int32) (bt : Int64) (ch : Int32) (hk : k < n) (h1 : M k = oPk nu fr ak fi cn bt ch) (ki kj N b ct : Nat) (g : Nat → Int32) (ed : Int32) (hki : ki < n) (hkj : kj < n) (hne : ki ≠ kj) (hne2 : k ≠ ki) (hne3 : k ≠ kj) (hN : N = 2 ^ b) (hb0 : b ≤ 20) (hct : ct < 2 ^ 20) (g1 : M ki = .inr (1, [.ref (ad kj), .int (nI ct), .int ed])) (g2 : M kj = eB cs N g) (tt : Nat) (htt : tt ≤ ct) : CTv l yX2_carry wsX2_carry ({ frames := 1, cells := 0, slots := 0, locals := 21 }) D cs ad n M [.ref (ad k), .ref (ad ki), .int (nI tt)] (fun M2 => M2 k = oPk nu fr ak (nI tt) (nI (min 16 (ct - tt))) (pkB (inU N ct g ed) tt (min 16 (ct - tt))) ch ∧ ∀ i, i ≠ k → M2 i = M i) := by
  refine Met.ofW (cc := cX2_carry) (maxL := 4) (ret := none) (by decide) rfl ?_
  intro p e s m args below meth c s₁ B hml hv
  obtain ⟨rfl, hP, hK⟩ := hv
  have hx := B.exec
  have hb := B.bytes
  have hr := B.returns
  have hts := atoms_spec (ws := wsX2_carry) B.pre
  have hown : s.vm.findClass RX2 = some m.cls := findClass_of_methodNamed B.named
  have hlocks := B.notSynchronized
  have hS : va_S (Ad ad n) s.heap s.heap [] := va_S.rf
  have hl := lv_entry ([.ref (ad k), .ref (ad ki), .int (nI tt)]) (n := 4) (Nat.le_of_ble_eq_true rfl)
  rw [lg_entry_eq]
  generalize (lg_sl ([.ref (ad k), .ref (ad ki), .int (nI tt)]) ++ List.replicate (4 - (lg_sl ([.ref (ad k), .ref (ad ki), .int (nI tt)])).length) Slot.unset).toArray = ls at hl ⊢
  have hl : lv_has ls 4 [(0, .ref (ad k)), (1, .ref (ad ki)), (2, .int (nI tt))] := hl
  have inX2 : ∀ w ∈ u_ws RX2 TX2 7, w ∈ wsX2_carry := fun w h => List.mem_cons_of_mem _ (List.mem_append_left _ (List.mem_append_right _ h))
  have inX1 : ∀ w ∈ u_ws RX1 TX1 3, w ∈ wsX2_carry := fun w h => List.mem_cons_of_mem _ (List.mem_append_right _ h)
  obtain ⟨cc2, hcc⟩ : ∃ z, z = min 16 (ct - tt) := ⟨_, rfl⟩
  rw [← hcc]
  refine lv_aload_n hx hb dX2_carry_0 rfl (lv_at hl 0 rfl) ?_
  refine lv_iload_n hx hb dX2_carry_1 rfl (lv_at hl 2 rfl) ?_
  refine m_put hx hb hts inX2 tyX2 tyX2_ok nmX2 hown hK hP hJ hS (ci := 2) rfl (k := k) (by omega) h1 3 (by decide) (hts (.fieldLink RX2 9 "RollbackPair$Packet" "first" "I") (by decide +kernel)) rfl rfl rfl (Nat.le_of_ble_eq_true rfl) (fs' := [.int nu, .int fr, .int ak, .int (nI tt), .int cn, .long bt, .int ch]) rfl dX2_carry_2 (fun H locs hP hS => ?_)
  obtain ⟨M_1, eM_1⟩ : ∃ z, z = va_up M k (.inr (2, [.int nu, .int fr, .int ak, .int (nI tt), .int cn, .long bt, .int ch])) := ⟨_, rfl⟩
  rw [← eM_1] at hP
  have h1_1 : M_1 k = .inr (2, [.int nu, .int fr, .int ak, .int (nI tt), .int cn, .long bt, .int ch]) := by rw [eM_1]; exact va_up_self _ _ _
  have h1_2 : M_1 ki = .inr (1, [.ref (ad kj), .int (nI ct), .int ed]) := by rw [eM_1]; exact (va_up_ne _ _ (by omega)).trans g1
  have h1_3 : M_1 kj = eB cs N g := by rw [eM_1]; exact (va_up_ne _ _ (by omega)).trans g2
  refine lv_aload_n hx hb dX2_carry_5 rfl (lv_at hl 0 rfl) ?_
  refine lv_bipush (v := nI 16) hx hb dX2_carry_6 (by decide) ?_
  refine lv_aload_n hx hb dX2_carry_8 rfl (lv_at hl 1 rfl) ?_
  refine m_get hx hb hts inX1 hown hK hP (ci := 1) rfl (k := ki) (by omega) h1_2 1 (by decide) (hts (.fieldLink RX2 15 "RollbackPair$Inputs" "count" "I") (by decide +kernel)) rfl dX2_carry_9 ?_
  refine lv_iload_n hx hb dX2_carry_12 rfl (lv_at hl 2 rfl) ?_
  refine n_sub hx hb htt dX2_carry_13 ?_
  refine va_mmin hx hb (hml.trans hl.1.symm) hown (hts (.methodLink RX2 20 Lib.Math.min.name) (by decide +kernel)) (hts (.static Lib.Math.min.name) (by decide +kernel)) (hts (.initialized "java/lang/Math") (by decide +kernel)) (hts (.code Lib.Math.min.name Lib.Math.min.code 2 (some .int)) (by decide +kernel)) (Nat.le_of_ble_eq_true rfl) (Nat.le_of_ble_eq_true rfl) (Nat.zero_le _) (Nat.zero_le _) dX2_carry_14 ?_
  refine n_val (show _ = nI cc2 from min_n hcc (by omega)) ?_
  refine m_put hx hb hts inX2 tyX2 tyX2_ok nmX2 hown hK hP hJ hS (ci := 2) rfl (k := k) (by omega) h1_1 4 (by decide) (hts (.fieldLink RX2 26 "RollbackPair$Packet" "count" "I") (by decide +kernel)) rfl rfl rfl (Nat.le_of_ble_eq_true rfl) (fs' := [.int nu, .int fr, .int ak, .int (nI tt), .int (nI cc2), .long bt, .int ch]) rfl dX2_carry_17 (fun H locs hP hS => ?_)
  obtain ⟨M_2, eM_2⟩ : ∃ z, z = va_up M_1 k (.inr (2, [.int nu, .int fr, .int ak, .int (nI tt), .int (nI cc2), .long bt, .int ch])) := ⟨_, rfl⟩
  rw [← eM_2] at hP
  have h2_1 : M_2 k = .inr (2, [.int nu, .int fr, .int ak, .int (nI tt), .int (nI cc2), .long bt, .int ch]) := by rw [eM_2]; exact va_up_self _ _ _
  have h2_2 : M_2 ki = .inr (1, [.ref (ad kj), .int (nI ct), .int ed]) := by rw [eM_2]; exact (va_up_ne _ _ (by omega)).trans h1_2
  have h2_3 : M_2 kj = eB cs N g := by rw [eM_2]; exact (va_up_ne _ _ (by omega)).trans h1_3
  refine lv_aload_n hx hb dX2_carry_20 rfl (lv_at hl 0 rfl) ?_
  refine lv_lconst (v := 0) hx hb dX2_carry_21 (by decide) ?_
  refine m_put hx hb hts inX2 tyX2 tyX2_ok nmX2 hown hK hP hJ hS (ci := 2) rfl (k := k) (by omega) h2_1 5 (by decide) (hts (.fieldLink RX2 27 "RollbackPair$Packet" "bits" "J") (by decide +kernel)) rfl rfl rfl (Nat.le_of_ble_eq_true rfl) (fs' := [.int nu, .int fr, .int ak, .int (nI tt), .int (nI cc2), .long (0 : Int64), .int ch]) rfl dX2_carry_22 (fun H locs hP hS => ?_)
  obtain ⟨M_3, eM_3⟩ : ∃ z, z = va_up M_2 k (.inr (2, [.int nu, .int fr, .int ak, .int (nI tt), .int (nI cc2), .long (0 : Int64), .int ch])) := ⟨_, rfl⟩
  rw [← eM_3] at hP
  have h3_1 : M_3 k = .inr (2, [.int nu, .int fr, .int ak, .int (nI tt), .int (nI cc2), .long (0 : Int64), .int ch]) := by rw [eM_3]; exact va_up_self _ _ _
  have h3_2 : M_3 ki = .inr (1, [.ref (ad kj), .int (nI ct), .int ed]) := by rw [eM_3]; exact (va_up_ne _ _ (by omega)).trans h2_2
  have h3_3 : M_3 kj = eB cs N g := by rw [eM_3]; exact (va_up_ne _ _ (by omega)).trans h2_3
  refine lv_iconst (v := nI 0) hx hb dX2_carry_25 (by decide) ?_
  refine lv_istore_n (lv' := [(3, .int (nI 0)), (0, .ref (ad k)), (1, .ref (ad ki)), (2, .int (nI tt))]) hx hb dX2_carry_26 rfl hl (by decide) rfl (fun ls hl => ?_)
  refine lpW (fun i (x : Nat × (Nat → va_E)) ls H locs => x.1 ≤ cc2 ∧ i = cc2 - x.1 ∧ x.2 k = oPk nu fr ak (nI tt) (nI cc2) (pkB (inU N ct g ed) tt x.1) ch ∧ (∀ i, i ≠ k → x.2 i = M i) ∧ lv_has ls 4 [(3, .int (nI x.1)), (0, .ref (ad k)), (1, .ref (ad ki)), (2, .int (nI tt))] ∧ va_P D vwCl (sg ad n x.2) H ∧ va_S (Ad ad n) s.heap H locs) 27 (fun _ => []) (fun i x ls H locs hC ih => ?_) cc2 (0, M_3) ls _ _ ⟨Nat.zero_le _, rfl, h3_1, fun i hi => show M_3 i = M i from by rw [eM_3, va_up_ne _ _ (by omega), eM_2, va_up_ne _ _ (by omega), eM_1, va_up_ne _ _ (by omega)], lv_sub hl [0, 1, 2, 3] rfl, hP, hS⟩
  obtain ⟨j, Mj⟩ := x
  obtain ⟨i1, i2, i3, i4, hl, hP, hS⟩ := hC
  dsimp only at i1 i2 i3 i4 hl hP hS ih ⊢
  have f1 : Mj ki = .inr (1, [.ref (ad kj), .int (nI ct), .int ed]) := (i4 _ (by omega)).trans g1
  have f2 : Mj kj = eB cs N g := (i4 _ (by omega)).trans g2
  refine lv_iload_n hx hb dX2_carry_27 rfl (lv_at hl 0 rfl) ?_
  refine lv_aload_n hx hb dX2_carry_28 rfl (lv_at hl 1 rfl) ?_
  refine m_get hx hb hts inX2 hown hK hP (ci := 2) rfl (k := k) (by omega) i3 4 (by decide) (hts (.fieldLink RX2 26 "RollbackPair$Packet" "count" "I") (by decide +kernel)) rfl dX2_carry_29 ?_
  refine n_cmp_ge (tgt := 62) hx hb dX2_carry_32 (by decide) (by omega) (by omega) (fun c1 => ?_) (fun c1 => ?_)
  · exact r_v hx hb hr hlocks hK hP hS dX2_carry_62 ⟨by rw [i3, show j = cc2 by omega], i4⟩
  · refine lv_aload_n hx hb dX2_carry_35 rfl (lv_at hl 1 rfl) ?_
    refine lv_dup hx hb dX2_carry_36 rfl ?_
    refine m_get hx hb hts inX2 hown hK hP (ci := 2) rfl (k := k) (by omega) i3 5 (by decide) (hts (.fieldLink RX2 27 "RollbackPair$Packet" "bits" "J") (by decide +kernel)) rfl dX2_carry_37 ?_
    refine lv_aload_n hx hb dX2_carry_40 rfl (lv_at hl 2 rfl) ?_
    refine lv_iload_n hx hb dX2_carry_41 rfl (lv_at hl 3 rfl) ?_
    refine lv_iload_n hx hb dX2_carry_42 rfl (lv_at hl 0 rfl) ?_
    refine n_add hx hb dX2_carry_43 ?_
    refine k_Vi (As := [.int (nI (tt + j))]) (rest := [.long (pkB (inU N ct g ed) tt j), .ref (ad k)]) (k := ki) (ci := 1) ⟨hx, hb, hml, hown, hts⟩ hK hP hS Ad_le (c_use l D cs ad n hJ Mj ki kj N b ct g ed hki hkj hne hN hb0 (by omega) f1 f2 (tt + j) (by omega)) (cwV 1 hts gX2_carry_X1_use rfl rfl rfl (by decide +kernel) ⟨Nat.le_of_ble_eq_true rfl, Nat.le_of_ble_eq_true rfl⟩) (by omega) f1 rfl rfl rfl hl.1 (Nat.le_of_ble_eq_true rfl) dX2_carry_44 ⟨Nat.le_of_ble_eq_true rfl, Nat.le_of_ble_eq_true rfl⟩ (fun r_1 M1 H locs hpo hP hS _ _ => ?_)
    obtain ⟨hMe, rfl⟩ := hpo
    rw [hMe] at hP
    refine lv_i2l hx hb dX2_carry_47 rfl ?_
    refine lv_iconst (v := nI 3) hx hb dX2_carry_48 (by decide) ?_
    refine lv_iload_n hx hb dX2_carry_49 rfl (lv_at hl 0 rfl) ?_
    refine n_mul hx hb dX2_carry_50 ?_
    refine lv_lshl hx hb dX2_carry_51 rfl ?_
    refine lv_lor hx hb dX2_carry_52 ?_
    refine m_put hx hb hts inX2 tyX2 tyX2_ok nmX2 hown hK hP hJ hS (ci := 2) rfl (k := k) (by omega) i3 5 (by decide) (hts (.fieldLink RX2 27 "RollbackPair$Packet" "bits" "J") (by decide +kernel)) rfl rfl rfl (Nat.le_of_ble_eq_true rfl) (fs' := [.int nu, .int fr, .int ak, .int (nI tt), .int (nI cc2), .long ((pkB (inU N ct g ed) tt j) ||| (((inU N ct g ed (tt + j)).toInt64) <<< ((nI (3 * j)).toInt64 &&& 63))), .int ch]) rfl dX2_carry_53 (fun H locs hP hS => ?_)
    obtain ⟨M_51, eM_51⟩ : ∃ z, z = va_up Mj k (.inr (2, [.int nu, .int fr, .int ak, .int (nI tt), .int (nI cc2), .long ((pkB (inU N ct g ed) tt j) ||| (((inU N ct g ed (tt + j)).toInt64) <<< ((nI (3 * j)).toInt64 &&& 63))), .int ch])) := ⟨_, rfl⟩
    rw [← eM_51] at hP
    have h51_1 : M_51 k = .inr (2, [.int nu, .int fr, .int ak, .int (nI tt), .int (nI cc2), .long ((pkB (inU N ct g ed) tt j) ||| (((inU N ct g ed (tt + j)).toInt64) <<< ((nI (3 * j)).toInt64 &&& 63))), .int ch]) := by rw [eM_51]; exact va_up_self _ _ _
    have h51_2 : M_51 ki = .inr (1, [.ref (ad kj), .int (nI ct), .int ed]) := by rw [eM_51]; exact (va_up_ne _ _ (by omega)).trans f1
    have h51_3 : M_51 kj = eB cs N g := by rw [eM_51]; exact (va_up_ne _ _ (by omega)).trans f2
    refine lv_iinc (v := nI (j + 1)) (lv' := [(3, .int (nI (j + 1))), (0, .ref (ad k)), (1, .ref (ad ki)), (2, .int (nI tt))]) hx hb dX2_carry_56 hl (k := 0) rfl (nI_1 _) (by decide) rfl (fun ls hl => ?_)
    refine lv_goto (tgt := 27) hx hb dX2_carry_59 (by decide) ?_
    exact ih (cc2 - (j + 1)) (by omega) (j + 1, M_51) ls H locs ⟨by omega, rfl, h51_1, fun i hi => (by rw [eM_51, va_up_ne _ _ hi] : M_51 i = Mj i).trans (i4 i hi), lv_sub hl [0, 1, 2, 3] rfl, hP, hS⟩
