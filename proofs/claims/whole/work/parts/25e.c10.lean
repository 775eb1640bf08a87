theorem lr_same {J : Int} {i n a : Nat} (hn : n ≤ a + 20) (h : ¬ (i : Int) - J = lrN J i n a ∨ a + 20 ≤ n + lrN J i n a) : lrN J ((i + 1 : Nat) : Int) n a = lrN J i n a := by
  unfold lrN at *
  split at h <;> rename_i z
  · rw [if_pos z, if_pos z]; omega
  · rw [if_neg z, if_neg z]
theorem lr_next {J : Int} {i n a : Nat} (h : (i : Int) - J = lrN J i n a) (h2 : n + lrN J i n a < a + 20) : lrN J ((i + 1 : Nat) : Int) n a = lrN J i n a + 1 ∧ J.toNat + lrN J i n a = i := by
  unfold lrN at *
  split at h <;> rename_i z
  · rw [if_pos z] at h2
    rw [if_pos z, if_pos z]; omega
  · omega
theorem lr_le {J : Int} {i n a : Nat} (hn : n ≤ a + 20) : n + lrN J i n a ≤ a + 20 := by
  unfold lrN
  split <;> omega
theorem mLr_snoc {q : Nat} : ∀ (c : Nat) (S : SS) (n j : Nat), mLr S q (c + 1) n j = mLr1 (mLr S q c n j) q (n + c) (j + c)
  | 0, _, _, _ => rfl
  | c + 1, S, n, j => by
    show mLr (mLr1 S q n j) q (c + 1) (n + 1) (j + 1) = mLr1 (mLr (mLr1 S q n j) q c (n + 1) (j + 1)) q (n + (c + 1)) (j + (c + 1))
    rw [mLr_snoc c, show n + 1 + c = n + (c + 1) by omega, show j + 1 + c = j + (c + 1) by omega]
theorem OtS_lr {V : SS} {q m i : Nat} {gi : Nat → Int32} (h : OtS V q m gi) : OtS (mLr1 V q m i) q (m + 1) (upd gi (m % 32) (bt3 (V.2.2.1 24) i)) := by
  intro f h1 h2
  show upd gi (m % 32) _ (f % 32) = upd (V.1 10) (1200 * q + 600 * (1 - q) + m) _ (1200 * q + 600 * (1 - q) + f)
  by_cases e : f = m
  · subst e; unfold upd; rw [if_pos rfl, if_pos rfl]
  · rw [upd_ne' (by omega), upd_ne' (by omega)]; exact h f (by omega) (by omega)
theorem fi_eq {x : Int32} {i m : Nat} (hi : i ≤ 100) (hm : m ≤ 1000) : x + nI i = nI m ↔ x.toInt + i = m := by
  have h1 := x.toInt_lt
  have h2 := x.le_toInt
  rw [← Int32.toInt_inj, Int32.toInt_add, nI_toInt (by omega), nI_toInt (by omega)]
  unfold Int.bmod
  dsimp only
  split <;> omega
theorem bt3_s (x : Int64) (j : Nat) : ∃ r, r < 8 ∧ bt3 x j = nI r := by
  unfold bt3
  generalize x >>> ((nI (3 * j)).toInt64 &&& 63) = y
  refine ⟨y.toBitVec.toNat % 8, Nat.mod_lt _ (by decide), ?_⟩
  have h : y &&& 7 = Int64.ofNat (y.toBitVec.toNat % 8) := by
    rw [← Int64.toBitVec_inj]
    apply BitVec.eq_of_toNat_eq
    show (y.toBitVec &&& (7 : BitVec 64)).toNat = (BitVec.ofNat 64 (y.toBitVec.toNat % 8)).toNat
    rw [BitVec.toNat_and, BitVec.toNat_ofNat, show ((7 : BitVec 64)).toNat = 2 ^ 3 - 1 from rfl, Nat.and_two_pow_sub_one_eq_mod]
    omega
  rw [h]
  have h8 : y.toBitVec.toNat % 8 < 8 := Nat.mod_lt _ (by decide)
  generalize y.toBitVec.toNat % 8 = r at h8
  rcases (show r = 0 ∨ r = 1 ∨ r = 2 ∨ r = 3 ∨ r = 4 ∨ r = 5 ∨ r = 6 ∨ r = 7 by omega) with rfl | rfl | rfl | rfl | rfl | rfl | rfl | rfl <;> decide
theorem bt3_8 (x : Int64) (j : Nat) : (bt3 x j).toInt8.toInt32 = bt3 x j := by
  obtain ⟨r, h, e⟩ := bt3_s x j
  rw [e]; exact i8_nI h
theorem mo_eq (S : SS) : (if S.1 24 24 < nI 16 then S.1 24 24 else nI 16) = mo24 S := by
  unfold mo24
  by_cases h : S.1 24 24 < nI 16
  · rw [if_pos h, if_pos (Int32.le_of_lt h)]
  · rw [if_neg h]
    by_cases h2 : S.1 24 24 ≤ nI 16
    · rw [if_pos h2]
      exact (Int32.le_antisymm h2 (Int32.not_lt.mp h)).symm
    · rw [if_neg h2]
set_option maxHeartbeats 4000000 in
set_option maxRecDepth 100000 in
/-- Peer.takes(packet) -/
theorem c_takes (l : Launch) (D : va_G) (cs : Nat → ClassId) (ad : Nat → Nat) (n : Nat) (hJ : Inj ad n) (M : Nat → va_E) (k r1 r2 q ww a nt pp : Nat) (S : SS) (hk : k + 58 ≤ n) (hpp : pp < k) (h1 : M k = oPe ad k r1 r2 q ww a (S.1 3 q) (S.1 5 q) (S.1 8 q) (S.1 7 q) (S.1 6 q) (S.2.1 9 q)) (h4 : M (k + 56) = oIn ad (k + 57) nt (edOf S q)) (hp : M pp = oT (spk S 24)) : CTi l yX3_takes wsX3_takes ({ frames := 1, cells := 0, slots := 0, locals := 23 }) D cs ad n M [.ref (ad k), .ref (ad pp)] (fun r M2 => M2 = M ∧ r = if dropP S q then nI 0 else nI 1) := by
  refine Met.ofW (cc := cX3_takes) (maxL := 2) (ret := (some .boolean)) (by decide) rfl ?_
  intro p e s m args below meth c s₁ B hml hv
  obtain ⟨rfl, hP, hK⟩ := hv
  have hx := B.exec
  have hb := B.bytes
  have hr := B.returns
  have hts := atoms_spec (ws := wsX3_takes) B.pre
  have hown : s.vm.findClass RX3 = some m.cls := findClass_of_methodNamed B.named
  have hlocks := B.notSynchronized
  have hS : va_S (Ad ad n) s.heap s.heap [] := va_S.rf
  have hl := lv_entry ([.ref (ad k), .ref (ad pp)]) (n := 2) (Nat.le_of_ble_eq_true rfl)
  rw [lg_entry_eq]
  generalize (lg_sl ([.ref (ad k), .ref (ad pp)]) ++ List.replicate (2 - (lg_sl ([.ref (ad k), .ref (ad pp)])).length) Slot.unset).toArray = ls at hl ⊢
  have hl : lv_has ls 2 [(0, .ref (ad k)), (1, .ref (ad pp))] := hl
  have inX3 : ∀ w ∈ u_ws RX3 TX3 14, w ∈ wsX3_takes := fun w h => List.mem_cons_of_mem _ (List.mem_append_left _ (List.mem_append_left _ (List.mem_append_right _ h)))
  have inX1 : ∀ w ∈ u_ws RX1 TX1 3, w ∈ wsX3_takes := fun w h => List.mem_cons_of_mem _ (List.mem_append_left _ (List.mem_append_right _ h))
  have inX2 : ∀ w ∈ u_ws RX2 TX2 7, w ∈ wsX3_takes := fun w h => List.mem_cons_of_mem _ (List.mem_append_right _ h)
  have hed : ¬ edOf S q = 0 ↔ 0 ≤ S.1 4 q := (edOf_0 S q).trans Int32.not_lt
  refine lv_aload_n hx hb dX3_takes_0 rfl (lv_at hl 0 rfl) ?_
  refine m_get hx hb hts inX3 hown hK hP (ci := 3) rfl (k := k) (by omega) h1 5 (by decide) (hts (.fieldLink RX3 41 "RollbackPair$Peer" "others" "LRollbackPair$Inputs;") (by decide +kernel)) rfl dX3_takes_1 ?_
  refine m_get hx hb hts inX1 hown hK hP (ci := 1) rfl (k := (k + 56)) (by omega) h4 2 (by decide) (hts (.fieldLink RX3 61 "RollbackPair$Inputs" "ended" "Z") (by decide +kernel)) rfl dX3_takes_4 ?_
  refine lv_if_ne (tgt := 21) hx hb dX3_takes_7 (by decide) (fun c1 => ?_) (fun c1 => ?_)
  · refine lv_iconst (v := nI 0) hx hb dX3_takes_21 (by decide) ?_
    have hE : (if dropP S q then nI 0 else nI 1) = nI 0 := by exact if_pos (Or.inr (Or.inl (hed.mp c1)))
    exact r_z hx hb hr hlocks hK hP hS dX3_takes_22 (by first | rfl | decide) ⟨rfl, hE.symm⟩
  · refine lv_aload_n hx hb dX3_takes_10 rfl (lv_at hl 1 rfl) ?_
    refine m_get hx hb hts inX2 hown hK hP (ci := 2) rfl (k := pp) (by omega) hp 6 (by decide) (hts (.fieldLink RX3 131 "RollbackPair$Packet" "check" "I") (by decide +kernel)) rfl dX3_takes_11 ?_
    refine lv_aload_n hx hb dX3_takes_14 rfl (lv_at hl 1 rfl) ?_
    refine k_Vi (As := []) (rest := [.int (S.1 26 24)]) (k := pp) (ci := 2) ⟨hx, hb, hml, hown, hts⟩ hK hP hS Ad_le (c_rightCheck l D cs ad n hJ M pp (S.1 20 24) (S.1 21 24) (S.1 22 24) (S.1 23 24) (S.1 24 24) (S.2.2.1 24) (S.1 26 24) (by omega) hp) (cwV 0 hts gX3_takes_X2_rightCheck rfl rfl rfl (by decide +kernel) ⟨Nat.le_of_ble_eq_true rfl, Nat.le_of_ble_eq_true rfl⟩) (by omega) hp rfl rfl rfl hl.1 (Nat.le_of_ble_eq_true rfl) dX3_takes_15 ⟨Nat.le_of_ble_eq_true rfl, Nat.le_of_ble_eq_true rfl⟩ (fun r_1 M1 H locs hpo hP hS _ _ => ?_)
    obtain ⟨hMe, rfl⟩ := hpo
    rw [hMe] at hP
    refine lv_icmp_eq (tgt := 23) hx hb dX3_takes_18 (by decide) (fun c2 => ?_) (fun c2 => ?_)
    · refine lv_aload_n hx hb dX3_takes_23 rfl (lv_at hl 0 rfl) ?_
      refine m_get hx hb hts inX3 hown hK hP (ci := 3) rfl (k := k) (by omega) h1 12 (by decide) (hts (.fieldLink RX3 138 "RollbackPair$Peer" "hasTaken" "Z") (by decide +kernel)) rfl dX3_takes_24 ?_
      refine lv_if_eq (tgt := 43) hx hb dX3_takes_27 (by decide) (fun c3 => ?_) (fun c3 => ?_)
      · refine lv_iconst (v := nI 1) hx hb dX3_takes_43 (by decide) ?_
        refine lv_goto (tgt := 48) hx hb dX3_takes_44 (by decide) ?_
        have hE : (if dropP S q then nI 0 else nI 1) = nI 1 := by exact if_neg (fun z => z.elim (fun z => z c2) (fun z => z.elim (fun z => hed.mpr z c1) (fun z => z.1 c3)))
        exact r_z hx hb hr hlocks hK hP hS dX3_takes_48 (by first | rfl | decide) ⟨rfl, hE.symm⟩
      · refine lv_aload_n hx hb dX3_takes_30 rfl (lv_at hl 1 rfl) ?_
        refine m_get hx hb hts inX2 hown hK hP (ci := 2) rfl (k := pp) (by omega) hp 0 (by decide) (hts (.fieldLink RX3 112 "RollbackPair$Packet" "number" "S") (by decide +kernel)) rfl dX3_takes_31 ?_
        refine lv_aload_n hx hb dX3_takes_34 rfl (lv_at hl 0 rfl) ?_
        refine m_get hx hb hts inX3 hown hK hP (ci := 3) rfl (k := k) (by omega) h1 11 (by decide) (hts (.fieldLink RX3 141 "RollbackPair$Peer" "latestNumber" "S") (by decide +kernel)) rfl dX3_takes_35 ?_
        refine lv_isub hx hb dX3_takes_38 ?_
        refine lv_i2s hx hb dX3_takes_39 rfl ?_
        refine lv_if_le (tgt := 47) hx hb dX3_takes_40 (by decide) (fun c4 => ?_) (fun c4 => ?_)
        · refine lv_iconst (v := nI 0) hx hb dX3_takes_47 (by decide) ?_
          have hE : (if dropP S q then nI 0 else nI 1) = nI 0 := by exact if_pos (Or.inr (Or.inr ⟨c3, Int32.not_lt.mpr c4⟩))
          exact r_z hx hb hr hlocks hK hP hS dX3_takes_48 (by first | rfl | decide) ⟨rfl, hE.symm⟩
        · refine lv_iconst (v := nI 1) hx hb dX3_takes_43 (by decide) ?_
          refine lv_goto (tgt := 48) hx hb dX3_takes_44 (by decide) ?_
          have hE : (if dropP S q then nI 0 else nI 1) = nI 1 := by exact if_neg (fun z => z.elim (fun z => z c2) (fun z => z.elim (fun z => hed.mpr z c1) (fun z => z.2 (Int32.not_le.mp c4))))
          exact r_z hx hb hr hlocks hK hP hS dX3_takes_48 (by first | rfl | decide) ⟨rfl, hE.symm⟩
    · refine lv_iconst (v := nI 0) hx hb dX3_takes_21 (by decide) ?_
      have hE : (if dropP S q then nI 0 else nI 1) = nI 0 := by exact if_pos (Or.inl c2)
      exact r_z hx hb hr hlocks hK hP hS dX3_takes_22 (by first | rfl | decide) ⟨rfl, hE.symm⟩
set_option maxHeartbeats 4000000 in
set_option maxRecDepth 100000 in
/-- Peer.learnFrom(packet) -/
theorem c_learnFrom (l : Launch) (D : va_G) (cs : Nat → ClassId) (ad : Nat → Nat) (n : Nat) (hJ : Inj ad n) (M : Nat → va_E) (k r1 r2 q ww a nt pp : Nat) (S : SS) (ed : Int32) (gT : Nat → Int32) (hq : q < 2) (hk : k + 58 ≤ n) (hpp : pp < k) (ha : a ≤ 560) (hnt : nt ≤ a + 20) (h1 : M k = oPe ad k r1 r2 q ww a (S.1 3 q) (S.1 5 q) (S.1 8 q) (S.1 7 q) (S.1 6 q) (S.2.1 9 q)) (h4 : M (k + 56) = oIn ad (k + 57) nt ed) (h5 : M (k + 57) = eB cs 32 gT) (hOt : OtS S q nt gT) (hk12 : S.1 12 (2 * q + (1 - q)) = nI nt) (hp : M pp = oT (spk S 24)) : CTv l yX3_learnFrom wsX3_learnFrom ({ frames := 1, cells := 0, slots := 0, locals := 23 }) D cs ad n M [.ref (ad k), .ref (ad pp)] (fun M2 => ∃ gT2, M2 (k + 56) = oIn ad (k + 57) (nt + lrC S nt a) ed ∧ M2 (k + 57) = eB cs 32 gT2 ∧ OtS (mLrn S q nt a) q (nt + lrC S nt a) gT2 ∧ ∀ j, j ≠ k + 56 → j ≠ k + 57 → M2 j = M j) := by
  refine Met.ofW (cc := cX3_learnFrom) (maxL := 5) (ret := none) (by decide) rfl ?_
  intro p e s m args below meth c s₁ B hml hv
  obtain ⟨rfl, hP, hK⟩ := hv
  have hx := B.exec
  have hb := B.bytes
  have hr := B.returns
  have hts := atoms_spec (ws := wsX3_learnFrom) B.pre
  have hown : s.vm.findClass RX3 = some m.cls := findClass_of_methodNamed B.named
  have hlocks := B.notSynchronized
  have hS : va_S (Ad ad n) s.heap s.heap [] := va_S.rf
  have hl := lv_entry ([.ref (ad k), .ref (ad pp)]) (n := 5) (Nat.le_of_ble_eq_true rfl)
  rw [lg_entry_eq]
  generalize (lg_sl ([.ref (ad k), .ref (ad pp)]) ++ List.replicate (5 - (lg_sl ([.ref (ad k), .ref (ad pp)])).length) Slot.unset).toArray = ls at hl ⊢
  have hl : lv_has ls 5 [(0, .ref (ad k)), (1, .ref (ad pp))] := hl
  have inX3 : ∀ w ∈ u_ws RX3 TX3 14, w ∈ wsX3_learnFrom := fun w h => List.mem_cons_of_mem _ (List.mem_append_left _ (List.mem_append_right _ h))
  have inX1 : ∀ w ∈ u_ws RX1 TX1 3, w ∈ wsX3_learnFrom := fun w h => List.mem_cons_of_mem _ (List.mem_append_right _ h)
  have inX2 : ∀ w ∈ u_ws RX2 TX2 7, w ∈ wsX3_learnFrom := fun w h => List.mem_cons_of_mem _ (List.mem_append_left _ (List.mem_append_left _ (List.mem_append_right _ h)))
  have hmo := mo24_le S
  obtain ⟨J, hJe⟩ : ∃ J, J = (nt : Int) - (S.1 23 24).toInt := ⟨_, rfl⟩
  have hLr : mLrn S q nt a = mLr S q (lrN J (mo24 S).toInt nt a) nt J.toNat := by unfold mLrn lrC; rw [← hJe]
  have hLc : lrC S nt a = lrN J (mo24 S).toInt nt a := by unfold lrC; rw [← hJe]
  rw [hLr, hLc]
  refine lv_bipush (v := nI 16) hx hb dX3_learnFrom_0 (by decide) ?_
  refine lv_aload_n hx hb dX3_learnFrom_2 rfl (lv_at hl 1 rfl) ?_
  refine m_get hx hb hts inX2 hown hK hP (ci := 2) rfl (k := pp) (by omega) hp 4 (by decide) (hts (.fieldLink RX3 154 "RollbackPair$Packet" "count" "I") (by decide +kernel)) rfl dX3_learnFrom_3 ?_
  refine va_mmin hx hb (hml.trans hl.1.symm) hown (hts (.methodLink RX3 65 Lib.Math.min.name) (by decide +kernel)) (hts (.static Lib.Math.min.name) (by decide +kernel)) (hts (.initialized "java/lang/Math") (by decide +kernel)) (hts (.code Lib.Math.min.name Lib.Math.min.code 2 (some .int)) (by decide +kernel)) (Nat.le_of_ble_eq_true rfl) (Nat.le_of_ble_eq_true rfl) (Nat.zero_le _) (Nat.zero_le _) dX3_learnFrom_6 ?_
  refine n_val (mo_eq S) ?_
  refine lv_istore_n (lv' := [(2, .int (mo24 S)), (0, .ref (ad k)), (1, .ref (ad pp))]) hx hb dX3_learnFrom_9 rfl hl (by decide) rfl (fun ls hl => ?_)
  refine lv_iconst (v := nI 0) hx hb dX3_learnFrom_10 (by decide) ?_
  refine lv_istore_n (lv' := [(3, .int (nI 0)), (2, .int (mo24 S)), (0, .ref (ad k)), (1, .ref (ad pp))]) hx hb dX3_learnFrom_11 rfl hl (by decide) rfl (fun ls hl => ?_)
  have hz0 : lrN J ((0 : Nat) : Int) nt a = 0 := by unfold lrN; split <;> omega
  refine lpW (fun y (x : Nat × (Nat → va_E) × (Nat → Int32)) ls H locs => x.1 ≤ 16 ∧ ((x.1 : Int) ≤ (mo24 S).toInt ∨ x.1 = 0) ∧ y = 16 - x.1 ∧ x.2.1 (k + 56) = oIn ad (k + 57) (nt + lrN J x.1 nt a) ed ∧ x.2.1 (k + 57) = eB cs 32 x.2.2 ∧ OtS (mLr S q (lrN J x.1 nt a) nt J.toNat) q (nt + lrN J x.1 nt a) x.2.2 ∧ (∀ j, j ≠ k + 56 → j ≠ k + 57 → x.2.1 j = M j) ∧ lv_has ls 5 [(3, .int (nI x.1)), (0, .ref (ad k)), (1, .ref (ad pp)), (2, .int (mo24 S))] ∧ va_P D vwCl (sg ad n x.2.1) H ∧ va_S (Ad ad n) s.heap H locs) 12 (fun _ => []) (fun y x ls H locs hC ih => ?_) 16 (0, M, gT) ls _ _ ⟨Nat.zero_le _, Or.inr rfl, rfl, by rw [hz0]; exact h4, h5, by rw [hz0]; exact hOt, fun _ _ _ => rfl, lv_sub hl [0, 2, 3, 1] rfl, hP, hS⟩
  obtain ⟨i, Mi, gi⟩ := x
  obtain ⟨i1, i2, i3, i4, i5, i6, i7, hl, hP, hS⟩ := hC
  dsimp only at i1 i2 i3 i4 i5 i6 i7 hl hP hS ih ⊢
  have hle := lr_le (J := J) (i := i) hnt
  obtain ⟨ci, hci⟩ : ∃ z, z = lrN J i nt a := ⟨_, rfl⟩
  rw [← hci] at i4 i6 hle
  have f1_ : Mi k = oPe ad k r1 r2 q ww a (S.1 3 q) (S.1 5 q) (S.1 8 q) (S.1 7 q) (S.1 6 q) (S.2.1 9 q) := (i7 _ (by omega) (by omega)).trans h1
  have f2_ : Mi pp = oT (spk S 24) := (i7 _ (by omega) (by omega)).trans hp
  refine lv_iload_n hx hb dX3_learnFrom_12 rfl (lv_at hl 0 rfl) ?_
  refine lv_iload_n hx hb dX3_learnFrom_13 rfl (lv_at hl 3 rfl) ?_
  refine lv_icmp_ge (tgt := 67) hx hb dX3_learnFrom_14 (by decide) (fun c1 => ?_) (fun c1 => ?_)
  · have c1i : (mo24 S).toInt ≤ i := by have z := Int32.le_iff_toInt_le.mp c1; rw [nI_toInt (by omega)] at z; exact z
    have he : lrN J (mo24 S).toInt nt a = ci := by rw [hci]; unfold lrN; split <;> omega
    rw [he]
    exact r_v hx hb hr hlocks hK hP hS dX3_learnFrom_67 ⟨gi, i4, i5, i6, i7⟩
  · have c1i : (i : Int) < (mo24 S).toInt := by have z := Int32.lt_iff_toInt_lt.mp (Int32.not_le.mp c1); rw [nI_toInt (by omega)] at z; exact z
    refine lv_aload_n hx hb dX3_learnFrom_17 rfl (lv_at hl 2 rfl) ?_
    refine m_get hx hb hts inX2 hown hK hP (ci := 2) rfl (k := pp) (by omega) f2_ 3 (by decide) (hts (.fieldLink RX3 155 "RollbackPair$Packet" "first" "I") (by decide +kernel)) rfl dX3_learnFrom_18 ?_
    refine lv_iload_n hx hb dX3_learnFrom_21 rfl (lv_at hl 0 rfl) ?_
    refine lv_iadd hx hb dX3_learnFrom_22 ?_
    refine lv_istore (lv' := [(4, .int ((S.1 23 24) + (nI i))), (3, .int (nI i)), (0, .ref (ad k)), (1, .ref (ad pp)), (2, .int (mo24 S))]) hx hb dX3_learnFrom_23 hl (by decide) rfl (fun ls hl => ?_)
    refine lv_iload hx hb dX3_learnFrom_25 (lv_at hl 0 rfl) ?_
    refine lv_aload_n hx hb dX3_learnFrom_27 rfl (lv_at hl 2 rfl) ?_
    refine m_get hx hb hts inX3 hown hK hP (ci := 3) rfl (k := k) (by omega) f1_ 5 (by decide) (hts (.fieldLink RX3 41 "RollbackPair$Peer" "others" "LRollbackPair$Inputs;") (by decide +kernel)) rfl dX3_learnFrom_28 ?_
    refine m_get hx hb hts inX1 hown hK hP (ci := 1) rfl (k := (k + 56)) (by omega) i4 1 (by decide) (hts (.fieldLink RX3 58 "RollbackPair$Inputs" "count" "I") (by decide +kernel)) rfl dX3_learnFrom_31 ?_
    refine lv_icmp_ne (tgt := 61) hx hb dX3_learnFrom_34 (by decide) (fun c2 => ?_) (fun c2 => ?_)
    · refine lv_iinc (v := nI (i + 1)) (lv' := [(3, .int (nI (i + 1))), (4, .int ((S.1 23 24) + (nI i))), (0, .ref (ad k)), (1, .ref (ad pp)), (2, .int (mo24 S))]) hx hb dX3_learnFrom_61 hl (k := 1) rfl (nI_1 _) (by decide) rfl (fun ls hl => ?_)
      refine lv_goto (tgt := 12) hx hb dX3_learnFrom_64 (by decide) ?_
      have hs := lr_same (J := J) (i := i) hnt (Or.inl (by rw [← hci]; intro z; exact c2 ((fi_eq (by omega) (by omega)).mpr (by omega))))
      rw [← hci] at hs
      exact ih (16 - (i + 1)) (by omega) (i + 1, Mi, gi) ls H locs ⟨by omega, by omega, rfl, by rw [hs]; exact i4, i5, by rw [hs]; exact i6, i7, lv_sub hl [0, 2, 3, 4] rfl, hP, hS⟩
    · refine lv_iload hx hb dX3_learnFrom_37 (lv_at hl 0 rfl) ?_
      refine lv_aload_n hx hb dX3_learnFrom_39 rfl (lv_at hl 2 rfl) ?_
      refine m_get hx hb hts inX3 hown hK hP (ci := 3) rfl (k := k) (by omega) f1_ 7 (by decide) (hts (.fieldLink RX3 51 "RollbackPair$Peer" "at" "I") (by decide +kernel)) rfl dX3_learnFrom_40 ?_
      refine lv_isub hx hb dX3_learnFrom_43 ?_
      refine lv_bipush (v := nI 20) hx hb dX3_learnFrom_44 (by decide) ?_
      refine lv_icmp_ge (tgt := 61) hx hb dX3_learnFrom_46 (by decide) (fun c3 => ?_) (fun c3 => ?_)
      · refine lv_iinc (v := nI (i + 1)) (lv' := [(3, .int (nI (i + 1))), (4, .int ((S.1 23 24) + (nI i))), (0, .ref (ad k)), (1, .ref (ad pp)), (2, .int (mo24 S))]) hx hb dX3_learnFrom_61 hl (k := 1) rfl (nI_1 _) (by decide) rfl (fun ls hl => ?_)
        refine lv_goto (tgt := 12) hx hb dX3_learnFrom_64 (by decide) ?_
        rw [c2] at c3
        have hs := lr_same (J := J) (i := i) hnt (Or.inr (by rw [← hci]; have z : ¬ (((nt + ci : Nat) : Int) - (a : Int) < ((20 : Nat) : Int)) := fun z => Int32.not_lt.mpr c3 ((st_le (a := nt + ci) (n := a) (ww := 20) (by omega) (by omega) (by omega)).mpr z); omega))
        rw [← hci] at hs
        exact ih (16 - (i + 1)) (by omega) (i + 1, Mi, gi) ls H locs ⟨by omega, by omega, rfl, by rw [hs]; exact i4, i5, by rw [hs]; exact i6, i7, lv_sub hl [0, 2, 3, 4] rfl, hP, hS⟩
      · have c2i := (fi_eq (by omega) (by omega)).mp c2
        rw [c2] at c3
        have c3i := (st_le (a := nt + ci) (n := a) (ww := 20) (by omega) (by omega) (by omega)).mp (Int32.not_le.mp c3)
        have hs := lr_next (J := J) (i := i) (n := nt) (a := a) (by rw [← hci]; omega) (by rw [← hci]; omega)
        refine lv_aload_n hx hb dX3_learnFrom_49 rfl (lv_at hl 2 rfl) ?_
        refine m_get hx hb hts inX3 hown hK hP (ci := 3) rfl (k := k) (by omega) f1_ 5 (by decide) (hts (.fieldLink RX3 41 "RollbackPair$Peer" "others" "LRollbackPair$Inputs;") (by decide +kernel)) rfl dX3_learnFrom_50 ?_
        refine lv_aload_n hx hb dX3_learnFrom_53 rfl (lv_at hl 3 rfl) ?_
        refine lv_iload_n hx hb dX3_learnFrom_54 rfl (lv_at hl 1 rfl) ?_
        refine k_Vi (As := [.int (nI i)]) (rest := [.ref (ad (k + 56))]) (k := pp) (ci := 2) ⟨hx, hb, hml, hown, hts⟩ hK hP hS Ad_le (c_pinput l D cs ad n hJ Mi pp (S.1 20 24) (S.1 21 24) (S.1 22 24) (S.1 23 24) (S.1 24 24) (S.2.2.1 24) (S.1 26 24) (by omega) f2_ i (by omega)) (cwV 1 hts gX3_learnFrom_X2_input rfl rfl rfl (by decide +kernel) ⟨Nat.le_of_ble_eq_true rfl, Nat.le_of_ble_eq_true rfl⟩) (by omega) f2_ rfl rfl rfl hl.1 (Nat.le_of_ble_eq_true rfl) dX3_learnFrom_55 ⟨Nat.le_of_ble_eq_true rfl, Nat.le_of_ble_eq_true rfl⟩ (fun r_1 M1 H locs hpo hP hS _ _ => ?_)
        obtain ⟨hMe, rfl⟩ := hpo
        rw [hMe] at hP
        refine k_Vv (As := [.int (bt3 (S.2.2.1 24) i)]) (rest := []) (k := (k + 56)) (ci := 1) ⟨hx, hb, hml, hown, hts⟩ hK hP hS Ad_le (c_learn l D cs ad n hJ Mi (k + 56) (k + 57) 32 5 (nt + ci) gi ed (by omega) (by omega) (by omega) rfl (by decide) (by omega) i4 i5 (bt3 (S.2.2.1 24) i) (bt3_8 _ _)) (cwV 1 hts gX3_learnFrom_X1_learn rfl rfl rfl (by decide +kernel) ⟨Nat.le_of_ble_eq_true rfl, Nat.le_of_ble_eq_true rfl⟩) (by omega) i4 rfl rfl rfl hl.1 (Nat.le_of_ble_eq_true rfl) dX3_learnFrom_58 ⟨Nat.le_of_ble_eq_true rfl, Nat.le_of_ble_eq_true rfl⟩ (fun N1 H locs hpo hP hS _ _ => ?_)
        have b1 : N1 (k + 56) = oIn ad (k + 57) (nt + ci + 1) ed := by rw [hpo]; exact va_up_self _ _ _
        have b2 : N1 (k + 57) = eB cs 32 (upd gi ((nt + ci) % 32) (bt3 (S.2.2.1 24) i)) := by rw [hpo, va_up_ne _ _ (by omega)]; exact va_up_self _ _ _
        have b3 : ∀ j, j ≠ k + 56 → j ≠ k + 57 → N1 j = Mi j := fun j z1 z2 => by rw [hpo, va_up_ne _ _ z1, va_up_ne _ _ z2]
        refine lv_iinc (v := nI (i + 1)) (lv' := [(3, .int (nI (i + 1))), (4, .int ((S.1 23 24) + (nI i))), (0, .ref (ad k)), (1, .ref (ad pp)), (2, .int (mo24 S))]) hx hb dX3_learnFrom_61 hl (k := 1) rfl (nI_1 _) (by decide) rfl (fun ls hl => ?_)
        refine lv_goto (tgt := 12) hx hb dX3_learnFrom_64 (by decide) ?_
        rw [← hci] at hs
        exact ih (16 - (i + 1)) (by omega) (i + 1, N1, upd gi ((nt + ci) % 32) (bt3 (S.2.2.1 24) i)) ls H locs ⟨by omega, by omega, rfl, by rw [hs.1]; exact b1, b2, by rw [hs.1, mLr_snoc, hs.2]; have z9 := OtS_lr (i := i) i6; rw [show (mLr S q ci nt J.toNat).2.2.1 = S.2.2.1 by rw [(mLr_k (q := q) hq ci S nt J.toNat hk12).2.2.2]] at z9; exact z9, fun j z1 z2 => (b3 j z1 z2).trans (i7 j z1 z2), lv_sub hl [0, 2, 3, 4] rfl, hP, hS⟩
