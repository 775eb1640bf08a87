def tn (x : Int32) : Nat := x.toNatClampNeg
theorem tn_nI {n : Nat} (h : n < 2 ^ 31) : tn (nI n) = n := nI_clamp h
/-- the input of player pl that peer q uses for the frame f -/
def mUse (S : SS) (q pl f : Nat) : Int32 :=
  if f < tn (S.1 12 (2 * q + pl)) then S.1 10 (1200 * q + 600 * pl + f)
  else if (pl ≠ q ∧ ¬ S.1 4 q < 0) ∨ tn (S.1 12 (2 * q + pl)) = 0 then 0 else S.1 10 (1200 * q + 600 * pl + tn (S.1 12 (2 * q + pl)) - 1)
theorem mUse_eq {S : SS} {q pl f N : Nat} (hn : S.1 12 (2 * q + pl) = nI N) (hN : N ≤ 600) : mUse S q pl f = if f < N then S.1 10 (1200 * q + 600 * pl + f) else if (pl ≠ q ∧ ¬ S.1 4 q < 0) ∨ N = 0 then 0 else S.1 10 (1200 * q + 600 * pl + N - 1) := by
  unfold mUse
  rw [hn, tn_nI (by omega)]
/-- the check of a packet -/
def ck (a b c d e f g : Int32) : Int32 := ((((((nI (23 * 37) + a) * nI 37 + b) * nI 37 + c) * nI 37 + d) * nI 37 + e) * nI 37 + f) * nI 37 + g
def hi32 (x : Int64) : Int32 := (x >>> ((nI 32).toInt64 &&& 63)).toInt32
def mChk (S : SS) (k : Nat) : Int32 := ck (S.1 20 k) (S.1 21 k) (S.1 22 k) (S.1 23 k) (S.1 24 k) (S.2.2.1 k).toInt32 (hi32 (S.2.2.1 k))
def mCopy (S : SS) (a b : Nat) : SS := sI (sB (sI (sI (sI (sI (sI S 20 (upd (S.1 20) b (S.1 20 a))) 21 (upd (S.1 21) b (S.1 21 a))) 22 (upd (S.1 22) b (S.1 22 a))) 23 (upd (S.1 23) b (S.1 23 a))) 24 (upd (S.1 24) b (S.1 24 a))) (vp_updL S.2.2.1 b (S.2.2.1 a))) 26 (upd (S.1 26) b (S.1 26 a))
def sh (x : Int32) : Prop := x.toInt16.toInt32 = x
set_option maxHeartbeats 4000000 in
set_option maxRecDepth 100000 in
/-- isTwo(k) -/
theorem c_isTwo (l : Launch) (D : va_G) (cs : Nat → ClassId) (ad : Nat → Nat) (n : Nat) (M : Nat → va_E) (k : Int32) : CTi l yX7_isTwo wsX7_isTwo ({ frames := 0, cells := 0, slots := 0, locals := 0 }) D cs ad n M [.int k] (fun r M2 => M2 = M ∧ r = if k = 0 ∨ k = 1 then 1 else 0) := by
  refine Met.ofW (cc := cX7_isTwo) (maxL := 1) (ret := (some .boolean)) (by decide) rfl ?_
  intro p e s m args below meth c s₁ B hml hv
  obtain ⟨rfl, hP, hK⟩ := hv
  have hx := B.exec
  have hb := B.bytes
  have hr := B.returns
  have hts := atoms_spec (ws := wsX7_isTwo) B.pre
  have hown : s.vm.findClass RX7 = some m.cls := findClass_of_methodNamed B.named
  have hlocks := B.notSynchronized
  have hS : va_S (Ad ad n) s.heap s.heap [] := va_S.rf
  have hl := lv_entry ([.int k]) (n := 1) (Nat.le_of_ble_eq_true rfl)
  rw [lg_entry_eq]
  generalize (lg_sl ([.int k]) ++ List.replicate (1 - (lg_sl ([.int k])).length) Slot.unset).toArray = ls at hl ⊢
  have hl : lv_has ls 1 [(0, .int k)] := hl
  refine lv_iload_n hx hb dX7_isTwo_0 rfl (lv_at hl 0 rfl) ?_
  refine lv_if_eq (tgt := 9) hx hb dX7_isTwo_1 (by decide) (fun c_1 => ?_) (fun c_1 => ?_)
  · refine lv_iconst (v := nI 1) hx hb dX7_isTwo_9 (by decide) ?_
    refine lv_goto (tgt := 14) hx hb dX7_isTwo_10 (by decide) ?_
    exact r_z hx hb hr hlocks hK hP hS dX7_isTwo_14 (by first | rfl | decide) ⟨rfl, (if_pos (by first | exact Or.inl c_1 | exact Or.inr c_2)).symm⟩
  · refine lv_iload_n hx hb dX7_isTwo_4 rfl (lv_at hl 0 rfl) ?_
    refine lv_iconst (v := nI 1) hx hb dX7_isTwo_5 (by decide) ?_
    refine lv_icmp_ne (tgt := 13) hx hb dX7_isTwo_6 (by decide) (fun c_2 => ?_) (fun c_2 => ?_)
    · refine lv_iconst (v := nI 0) hx hb dX7_isTwo_13 (by decide) ?_
      exact r_z hx hb hr hlocks hK hP hS dX7_isTwo_14 (by first | rfl | decide) ⟨rfl, (if_neg (fun z => z.elim c_1 c_2)).symm⟩
    · refine lv_iconst (v := nI 1) hx hb dX7_isTwo_9 (by decide) ?_
      refine lv_goto (tgt := 14) hx hb dX7_isTwo_10 (by decide) ?_
      exact r_z hx hb hr hlocks hK hP hS dX7_isTwo_14 (by first | rfl | decide) ⟨rfl, (if_pos (by first | exact Or.inl c_1 | exact Or.inr c_2)).symm⟩
set_option maxHeartbeats 4000000 in
set_option maxRecDepth 100000 in
/-- useOf(q, pl, f) -/
theorem c_useOf (l : Launch) (D : va_G) (cs : Nat → ClassId) (ad : Nat → Nat) (hJ : Inj ad 26) (d w : Int32) (S : SS) (np ns : UInt32) (q pl f N : Nat) (hq : q < 2) (hp : pl < 2) (hf : f < 600) (hn : S.1 12 (2 * q + pl) = nI N) (hN : N ≤ 600) : CTi l yX7_useOf wsX7_useOf ({ frames := 0, cells := 0, slots := 0, locals := 0 }) D cs ad 26 (mm ad cs d w S np ns) [.ref (ad 0), .int (nI q), .int (nI pl), .int (nI f)] (fun r M2 => M2 = (mm ad cs d w S np ns) ∧ r = mUse S q pl f) := by
  refine Met.ofW (cc := cX7_useOf) (maxL := 6) (ret := (some .int)) (by decide) rfl ?_
  intro p e s m args below meth c s₁ B hml hv
  obtain ⟨rfl, hP, hK⟩ := hv
  have hx := B.exec
  have hb := B.bytes
  have hr := B.returns
  have hts := atoms_spec (ws := wsX7_useOf) B.pre
  have hown : s.vm.findClass RX7 = some m.cls := findClass_of_methodNamed B.named
  have hlocks := B.notSynchronized
  have hS : va_S (Ad ad 26) s.heap s.heap [] := va_S.rf
  have hl := lv_entry ([.ref (ad 0), .int (nI q), .int (nI pl), .int (nI f)]) (n := 6) (Nat.le_of_ble_eq_true rfl)
  rw [lg_entry_eq]
  generalize (lg_sl ([.ref (ad 0), .int (nI q), .int (nI pl), .int (nI f)]) ++ List.replicate (6 - (lg_sl ([.ref (ad 0), .int (nI q), .int (nI pl), .int (nI f)])).length) Slot.unset).toArray = ls at hl ⊢
  have hl : lv_has ls 6 [(0, .ref (ad 0)), (1, .int (nI q)), (2, .int (nI pl)), (3, .int (nI f))] := hl
  have inX7 : ∀ w ∈ u_ws RX7 TX7 29, w ∈ wsX7_useOf := by decide +kernel
  refine lv_aload_n hx hb dX7_useOf_0 rfl (lv_at hl 0 rfl) ?_
  refine m_get hx hb hts inX7 hown hK hP (ci := 7) rfl (k := 0) (by decide) rfl 12 (by decide) (hts (.fieldLink RX7 43 "RollbackPairModel" "known" "[I") (by decide +kernel)) rfl dX7_useOf_1 ?_
  refine lv_iconst (v := nI 2) hx hb dX7_useOf_4 (by decide) ?_
  refine lv_iload_n hx hb dX7_useOf_5 rfl (lv_at hl 1 rfl) ?_
  refine n_mul hx hb dX7_useOf_6 ?_
  refine lv_iload_n hx hb dX7_useOf_7 rfl (lv_at hl 2 rfl) ?_
  refine n_add hx hb dX7_useOf_8 ?_
  refine m_iald hx hb hK hP (k := 11) (by decide) (f := (S.1 12)) rfl (i := 2 * q + pl) (by omega) (by decide) dX7_useOf_9 ?_
  refine n_val hn ?_
  refine lv_istore (lv' := [(4, .int (nI N)), (0, .ref (ad 0)), (1, .int (nI q)), (2, .int (nI pl)), (3, .int (nI f))]) hx hb dX7_useOf_10 hl (by decide) rfl (fun ls hl => ?_)
  refine lv_sipush (v := nI 1200) hx hb dX7_useOf_12 (by decide) ?_
  refine lv_iload_n hx hb dX7_useOf_15 rfl (lv_at hl 2 rfl) ?_
  refine n_mul hx hb dX7_useOf_16 ?_
  refine lv_sipush (v := nI 600) hx hb dX7_useOf_17 (by decide) ?_
  refine lv_iload_n hx hb dX7_useOf_20 rfl (lv_at hl 3 rfl) ?_
  refine n_mul hx hb dX7_useOf_21 ?_
  refine n_add hx hb dX7_useOf_22 ?_
  refine lv_istore (lv' := [(5, .int (nI (1200 * q + (600 * pl)))), (4, .int (nI N)), (0, .ref (ad 0)), (1, .int (nI q)), (2, .int (nI pl)), (3, .int (nI f))]) hx hb dX7_useOf_23 hl (by decide) rfl (fun ls hl => ?_)
  refine lv_iload_n hx hb dX7_useOf_25 rfl (lv_at hl 5 rfl) ?_
  refine lv_iload hx hb dX7_useOf_26 (lv_at hl 1 rfl) ?_
  refine n_cmp_ge (tgt := 41) hx hb dX7_useOf_28 (by decide) (by omega) (by omega) (fun c_1 => ?_) (fun c_1 => ?_)
  · refine lv_iload_n hx hb dX7_useOf_41 rfl (lv_at hl 4 rfl) ?_
    refine lv_iload_n hx hb dX7_useOf_42 rfl (lv_at hl 3 rfl) ?_
    refine n_cmp_eq (tgt := 55) hx hb dX7_useOf_43 (by decide) (by omega) (by omega) (fun c_2 => ?_) (fun c_2 => ?_)
    · refine lv_iload hx hb dX7_useOf_55 (lv_at hl 1 rfl) ?_
      refine n_if_ne (tgt := 62) hx hb dX7_useOf_57 (by decide) (by omega) (fun c_3 => ?_) (fun c_3 => ?_)
      · refine lv_aload_n hx hb dX7_useOf_62 rfl (lv_at hl 2 rfl) ?_
        refine m_get hx hb hts inX7 hown hK hP (ci := 7) rfl (k := 0) (by decide) rfl 10 (by decide) (hts (.fieldLink RX7 37 "RollbackPairModel" "input" "[I") (by decide +kernel)) rfl dX7_useOf_63 ?_
        refine lv_iload hx hb dX7_useOf_66 (lv_at hl 0 rfl) ?_
        refine lv_iload hx hb dX7_useOf_68 (lv_at hl 1 rfl) ?_
        refine n_add hx hb dX7_useOf_70 ?_
        refine lv_iconst (v := nI 1) hx hb dX7_useOf_71 (by decide) ?_
        refine n_sub hx hb (by omega) dX7_useOf_72 ?_
        refine m_iald hx hb hK hP (k := 9) (by decide) (f := (S.1 10)) rfl (i := 1200 * q + (600 * pl) + N - 1) (by omega) (by decide) dX7_useOf_73 ?_
        have hE := mUse_eq (f := f) hn hN
        exact r_i hx hb hr hlocks hK hP hS dX7_useOf_74 ⟨rfl, by rw [hE]; by_cases hh : f < N <;> simp [hh, nI_0, *] <;> omega⟩
      · refine lv_iconst (v := nI 0) hx hb dX7_useOf_60 (by decide) ?_
        have hE := mUse_eq (f := f) hn hN
        exact r_i hx hb hr hlocks hK hP hS dX7_useOf_61 ⟨rfl, by rw [hE]; by_cases hh : f < N <;> simp [hh, nI_0, *] <;> omega⟩
    · refine lv_aload_n hx hb dX7_useOf_46 rfl (lv_at hl 2 rfl) ?_
      refine m_get hx hb hts inX7 hown hK hP (ci := 7) rfl (k := 0) (by decide) rfl 4 (by decide) (hts (.fieldLink RX7 16 "RollbackPairModel" "cut" "[I") (by decide +kernel)) rfl dX7_useOf_47 ?_
      refine lv_iload_n hx hb dX7_useOf_50 rfl (lv_at hl 3 rfl) ?_
      refine m_iald hx hb hK hP (k := 3) (by decide) (f := (S.1 4)) rfl (i := q) (by omega) (by decide) dX7_useOf_51 ?_
      refine lv_if_ge (tgt := 60) hx hb dX7_useOf_52 (by decide) (fun c_4 => ?_) (fun c_4 => ?_)
      · refine lv_iconst (v := nI 0) hx hb dX7_useOf_60 (by decide) ?_
        have hE := mUse_eq (f := f) hn hN
        exact r_i hx hb hr hlocks hK hP hS dX7_useOf_61 ⟨rfl, by rw [hE]; by_cases hh : f < N <;> simp [hh, nI_0, *] <;> omega⟩
      · refine lv_iload hx hb dX7_useOf_55 (lv_at hl 1 rfl) ?_
        refine n_if_ne (tgt := 62) hx hb dX7_useOf_57 (by decide) (by omega) (fun c_5 => ?_) (fun c_5 => ?_)
        · refine lv_aload_n hx hb dX7_useOf_62 rfl (lv_at hl 2 rfl) ?_
          refine m_get hx hb hts inX7 hown hK hP (ci := 7) rfl (k := 0) (by decide) rfl 10 (by decide) (hts (.fieldLink RX7 37 "RollbackPairModel" "input" "[I") (by decide +kernel)) rfl dX7_useOf_63 ?_
          refine lv_iload hx hb dX7_useOf_66 (lv_at hl 0 rfl) ?_
          refine lv_iload hx hb dX7_useOf_68 (lv_at hl 1 rfl) ?_
          refine n_add hx hb dX7_useOf_70 ?_
          refine lv_iconst (v := nI 1) hx hb dX7_useOf_71 (by decide) ?_
          refine n_sub hx hb (by omega) dX7_useOf_72 ?_
          refine m_iald hx hb hK hP (k := 9) (by decide) (f := (S.1 10)) rfl (i := 1200 * q + (600 * pl) + N - 1) (by omega) (by decide) dX7_useOf_73 ?_
          have hE := mUse_eq (f := f) hn hN
          exact r_i hx hb hr hlocks hK hP hS dX7_useOf_74 ⟨rfl, by rw [hE]; by_cases hh : f < N <;> simp [hh, nI_0, *] <;> omega⟩
        · refine lv_iconst (v := nI 0) hx hb dX7_useOf_60 (by decide) ?_
          have hE := mUse_eq (f := f) hn hN
          exact r_i hx hb hr hlocks hK hP hS dX7_useOf_61 ⟨rfl, by rw [hE]; by_cases hh : f < N <;> simp [hh, nI_0, *] <;> omega⟩
  · refine lv_aload_n hx hb dX7_useOf_31 rfl (lv_at hl 2 rfl) ?_
    refine m_get hx hb hts inX7 hown hK hP (ci := 7) rfl (k := 0) (by decide) rfl 10 (by decide) (hts (.fieldLink RX7 37 "RollbackPairModel" "input" "[I") (by decide +kernel)) rfl dX7_useOf_32 ?_
    refine lv_iload hx hb dX7_useOf_35 (lv_at hl 0 rfl) ?_
    refine lv_iload_n hx hb dX7_useOf_37 rfl (lv_at hl 5 rfl) ?_
    refine n_add hx hb dX7_useOf_38 ?_
    refine m_iald hx hb hK hP (k := 9) (by decide) (f := (S.1 10)) rfl (i := 1200 * q + (600 * pl) + f) (by omega) (by decide) dX7_useOf_39 ?_
    have hE := mUse_eq (f := f) hn hN
    exact r_i hx hb hr hlocks hK hP hS dX7_useOf_40 ⟨rfl, by rw [hE]; by_cases hh : f < N <;> simp [hh, nI_0, *] <;> omega⟩
set_option maxHeartbeats 4000000 in
set_option maxRecDepth 100000 in
/-- check(k) -/
theorem c_check (l : Launch) (D : va_G) (cs : Nat → ClassId) (ad : Nat → Nat) (hJ : Inj ad 26) (d w : Int32) (S : SS) (np ns : UInt32) (k : Nat) (hk : k < 25) : CTi l yX7_check wsX7_check ({ frames := 0, cells := 0, slots := 0, locals := 0 }) D cs ad 26 (mm ad cs d w S np ns) [.ref (ad 0), .int (nI k)] (fun r M2 => M2 = (mm ad cs d w S np ns) ∧ r = mChk S k) := by
  refine Met.ofW (cc := cX7_check) (maxL := 3) (ret := (some .int)) (by decide) rfl ?_
  intro p e s m args below meth c s₁ B hml hv
  obtain ⟨rfl, hP, hK⟩ := hv
  have hx := B.exec
  have hb := B.bytes
  have hr := B.returns
  have hts := atoms_spec (ws := wsX7_check) B.pre
  have hown : s.vm.findClass RX7 = some m.cls := findClass_of_methodNamed B.named
  have hlocks := B.notSynchronized
  have hS : va_S (Ad ad 26) s.heap s.heap [] := va_S.rf
  have hl := lv_entry ([.ref (ad 0), .int (nI k)]) (n := 3) (Nat.le_of_ble_eq_true rfl)
  rw [lg_entry_eq]
  generalize (lg_sl ([.ref (ad 0), .int (nI k)]) ++ List.replicate (3 - (lg_sl ([.ref (ad 0), .int (nI k)])).length) Slot.unset).toArray = ls at hl ⊢
  have hl : lv_has ls 3 [(0, .ref (ad 0)), (1, .int (nI k))] := hl
  have inX7 : ∀ w ∈ u_ws RX7 TX7 29, w ∈ wsX7_check := by decide +kernel
  refine lv_bipush (v := nI 23) hx hb dX7_check_0 (by decide) ?_
  refine lv_istore_n (lv' := [(2, .int (nI 23)), (0, .ref (ad 0)), (1, .int (nI k))]) hx hb dX7_check_2 rfl hl (by decide) rfl (fun ls hl => ?_)
  refine lv_iload_n hx hb dX7_check_3 rfl (lv_at hl 0 rfl) ?_
  refine lv_bipush (v := nI 37) hx hb dX7_check_4 (by decide) ?_
  refine n_mul hx hb dX7_check_6 ?_
  refine lv_aload_n hx hb dX7_check_7 rfl (lv_at hl 1 rfl) ?_
  refine m_get hx hb hts inX7 hown hK hP (ci := 7) rfl (k := 0) (by decide) rfl 20 (by decide) (hts (.fieldLink RX7 68 "RollbackPairModel" "pNumber" "[S") (by decide +kernel)) rfl dX7_check_8 ?_
  refine lv_iload_n hx hb dX7_check_11 rfl (lv_at hl 2 rfl) ?_
  refine m_sald hx hb hK hP (k := 19) (by decide) (f := (S.1 20)) rfl (i := k) (by omega) (by decide) dX7_check_12 ?_
  refine lv_iadd hx hb dX7_check_13 ?_
  refine lv_istore_n (lv' := [(2, .int ((nI (23 * 37)) + ((S.1 20) k))), (0, .ref (ad 0)), (1, .int (nI k))]) hx hb dX7_check_14 rfl hl (by decide) rfl (fun ls hl => ?_)
  refine lv_iload_n hx hb dX7_check_15 rfl (lv_at hl 0 rfl) ?_
  refine lv_bipush (v := nI 37) hx hb dX7_check_16 (by decide) ?_
  refine lv_imul hx hb dX7_check_18 ?_
  refine lv_aload_n hx hb dX7_check_19 rfl (lv_at hl 1 rfl) ?_
  refine m_get hx hb hts inX7 hown hK hP (ci := 7) rfl (k := 0) (by decide) rfl 21 (by decide) (hts (.fieldLink RX7 71 "RollbackPairModel" "pFrame" "[I") (by decide +kernel)) rfl dX7_check_20 ?_
  refine lv_iload_n hx hb dX7_check_23 rfl (lv_at hl 2 rfl) ?_
  refine m_iald hx hb hK hP (k := 20) (by decide) (f := (S.1 21)) rfl (i := k) (by omega) (by decide) dX7_check_24 ?_
  refine lv_iadd hx hb dX7_check_25 ?_
  refine lv_istore_n (lv' := [(2, .int ((((nI (23 * 37)) + ((S.1 20) k)) * (nI 37)) + ((S.1 21) k))), (0, .ref (ad 0)), (1, .int (nI k))]) hx hb dX7_check_26 rfl hl (by decide) rfl (fun ls hl => ?_)
  refine lv_iload_n hx hb dX7_check_27 rfl (lv_at hl 0 rfl) ?_
  refine lv_bipush (v := nI 37) hx hb dX7_check_28 (by decide) ?_
  refine lv_imul hx hb dX7_check_30 ?_
  refine lv_aload_n hx hb dX7_check_31 rfl (lv_at hl 1 rfl) ?_
  refine m_get hx hb hts inX7 hown hK hP (ci := 7) rfl (k := 0) (by decide) rfl 22 (by decide) (hts (.fieldLink RX7 74 "RollbackPairModel" "pAck" "[I") (by decide +kernel)) rfl dX7_check_32 ?_
  refine lv_iload_n hx hb dX7_check_35 rfl (lv_at hl 2 rfl) ?_
  refine m_iald hx hb hK hP (k := 21) (by decide) (f := (S.1 22)) rfl (i := k) (by omega) (by decide) dX7_check_36 ?_
  refine lv_iadd hx hb dX7_check_37 ?_
  refine lv_istore_n (lv' := [(2, .int ((((((nI (23 * 37)) + ((S.1 20) k)) * (nI 37)) + ((S.1 21) k)) * (nI 37)) + ((S.1 22) k))), (0, .ref (ad 0)), (1, .int (nI k))]) hx hb dX7_check_38 rfl hl (by decide) rfl (fun ls hl => ?_)
  refine lv_iload_n hx hb dX7_check_39 rfl (lv_at hl 0 rfl) ?_
  refine lv_bipush (v := nI 37) hx hb dX7_check_40 (by decide) ?_
  refine lv_imul hx hb dX7_check_42 ?_
  refine lv_aload_n hx hb dX7_check_43 rfl (lv_at hl 1 rfl) ?_
  refine m_get hx hb hts inX7 hown hK hP (ci := 7) rfl (k := 0) (by decide) rfl 23 (by decide) (hts (.fieldLink RX7 77 "RollbackPairModel" "pFirst" "[I") (by decide +kernel)) rfl dX7_check_44 ?_
  refine lv_iload_n hx hb dX7_check_47 rfl (lv_at hl 2 rfl) ?_
  refine m_iald hx hb hK hP (k := 22) (by decide) (f := (S.1 23)) rfl (i := k) (by omega) (by decide) dX7_check_48 ?_
  refine lv_iadd hx hb dX7_check_49 ?_
  refine lv_istore_n (lv' := [(2, .int ((((((((nI (23 * 37)) + ((S.1 20) k)) * (nI 37)) + ((S.1 21) k)) * (nI 37)) + ((S.1 22) k)) * (nI 37)) + ((S.1 23) k))), (0, .ref (ad 0)), (1, .int (nI k))]) hx hb dX7_check_50 rfl hl (by decide) rfl (fun ls hl => ?_)
  refine lv_iload_n hx hb dX7_check_51 rfl (lv_at hl 0 rfl) ?_
  refine lv_bipush (v := nI 37) hx hb dX7_check_52 (by decide) ?_
  refine lv_imul hx hb dX7_check_54 ?_
  refine lv_aload_n hx hb dX7_check_55 rfl (lv_at hl 1 rfl) ?_
  refine m_get hx hb hts inX7 hown hK hP (ci := 7) rfl (k := 0) (by decide) rfl 24 (by decide) (hts (.fieldLink RX7 80 "RollbackPairModel" "pCount" "[I") (by decide +kernel)) rfl dX7_check_56 ?_
  refine lv_iload_n hx hb dX7_check_59 rfl (lv_at hl 2 rfl) ?_
  refine m_iald hx hb hK hP (k := 23) (by decide) (f := (S.1 24)) rfl (i := k) (by omega) (by decide) dX7_check_60 ?_
  refine lv_iadd hx hb dX7_check_61 ?_
  refine lv_istore_n (lv' := [(2, .int ((((((((((nI (23 * 37)) + ((S.1 20) k)) * (nI 37)) + ((S.1 21) k)) * (nI 37)) + ((S.1 22) k)) * (nI 37)) + ((S.1 23) k)) * (nI 37)) + ((S.1 24) k))), (0, .ref (ad 0)), (1, .int (nI k))]) hx hb dX7_check_62 rfl hl (by decide) rfl (fun ls hl => ?_)
  refine lv_iload_n hx hb dX7_check_63 rfl (lv_at hl 0 rfl) ?_
  refine lv_bipush (v := nI 37) hx hb dX7_check_64 (by decide) ?_
  refine lv_imul hx hb dX7_check_66 ?_
  refine lv_aload_n hx hb dX7_check_67 rfl (lv_at hl 1 rfl) ?_
  refine m_get hx hb hts inX7 hown hK hP (ci := 7) rfl (k := 0) (by decide) rfl 25 (by decide) (hts (.fieldLink RX7 83 "RollbackPairModel" "pBits" "[J") (by decide +kernel)) rfl dX7_check_68 ?_
  refine lv_iload_n hx hb dX7_check_71 rfl (lv_at hl 2 rfl) ?_
  refine m_lald hx hb hK hP (k := 24) (by decide) (f := S.2.2.1) rfl (i := k) (by omega) (by decide) dX7_check_72 ?_
  refine lv_l2i hx hb dX7_check_73 rfl ?_
  refine lv_iadd hx hb dX7_check_74 ?_
  refine lv_istore_n (lv' := [(2, .int ((((((((((((nI (23 * 37)) + ((S.1 20) k)) * (nI 37)) + ((S.1 21) k)) * (nI 37)) + ((S.1 22) k)) * (nI 37)) + ((S.1 23) k)) * (nI 37)) + ((S.1 24) k)) * (nI 37)) + ((S.2.2.1 k).toInt32))), (0, .ref (ad 0)), (1, .int (nI k))]) hx hb dX7_check_75 rfl hl (by decide) rfl (fun ls hl => ?_)
  refine lv_iload_n hx hb dX7_check_76 rfl (lv_at hl 0 rfl) ?_
  refine lv_bipush (v := nI 37) hx hb dX7_check_77 (by decide) ?_
  refine lv_imul hx hb dX7_check_79 ?_
  refine lv_aload_n hx hb dX7_check_80 rfl (lv_at hl 1 rfl) ?_
  refine m_get hx hb hts inX7 hown hK hP (ci := 7) rfl (k := 0) (by decide) rfl 25 (by decide) (hts (.fieldLink RX7 83 "RollbackPairModel" "pBits" "[J") (by decide +kernel)) rfl dX7_check_81 ?_
  refine lv_iload_n hx hb dX7_check_84 rfl (lv_at hl 2 rfl) ?_
  refine m_lald hx hb hK hP (k := 24) (by decide) (f := S.2.2.1) rfl (i := k) (by omega) (by decide) dX7_check_85 ?_
  refine lv_bipush (v := nI 32) hx hb dX7_check_86 (by decide) ?_
  refine lv_lshr hx hb dX7_check_88 rfl ?_
  refine lv_l2i hx hb dX7_check_89 rfl ?_
  refine lv_iadd hx hb dX7_check_90 ?_
  exact r_i hx hb hr hlocks hK hP hS dX7_check_91 ⟨rfl, rfl⟩
set_option maxHeartbeats 4000000 in
set_option maxRecDepth 100000 in
/-- copy(a, b) -/
theorem c_copy (l : Launch) (D : va_G) (cs : Nat → ClassId) (ad : Nat → Nat) (hJ : Inj ad 26) (d w : Int32) (S : SS) (np ns : UInt32) (a b : Nat) (ha : a < 25) (hb0 : b < 25) (hsh : sh (S.1 20 a)) : CTv l yX7_copy wsX7_copy ({ frames := 0, cells := 0, slots := 0, locals := 0 }) D cs ad 26 (mm ad cs d w S np ns) [.ref (ad 0), .int (nI a), .int (nI b)] (fun M2 => M2 = mm ad cs d w (mCopy S a b) np ns) := by
  refine Met.ofW (cc := cX7_copy) (maxL := 3) (ret := none) (by decide) rfl ?_
  intro p e s m args below meth c s₁ B hml hv
  obtain ⟨rfl, hP, hK⟩ := hv
  have hx := B.exec
  have hb := B.bytes
  have hr := B.returns
  have hts := atoms_spec (ws := wsX7_copy) B.pre
  have hown : s.vm.findClass RX7 = some m.cls := findClass_of_methodNamed B.named
  have hlocks := B.notSynchronized
  have hS : va_S (Ad ad 26) s.heap s.heap [] := va_S.rf
  have hl := lv_entry ([.ref (ad 0), .int (nI a), .int (nI b)]) (n := 3) (Nat.le_of_ble_eq_true rfl)
  rw [lg_entry_eq]
  generalize (lg_sl ([.ref (ad 0), .int (nI a), .int (nI b)]) ++ List.replicate (3 - (lg_sl ([.ref (ad 0), .int (nI a), .int (nI b)])).length) Slot.unset).toArray = ls at hl ⊢
  have hl : lv_has ls 3 [(0, .ref (ad 0)), (1, .int (nI a)), (2, .int (nI b))] := hl
  have inX7 : ∀ w ∈ u_ws RX7 TX7 29, w ∈ wsX7_copy := by decide +kernel
  refine lv_aload_n hx hb dX7_copy_0 rfl (lv_at hl 0 rfl) ?_
  refine m_get hx hb hts inX7 hown hK hP (ci := 7) rfl (k := 0) (by decide) rfl 20 (by decide) (hts (.fieldLink RX7 68 "RollbackPairModel" "pNumber" "[S") (by decide +kernel)) rfl dX7_copy_1 ?_
  refine lv_iload_n hx hb dX7_copy_4 rfl (lv_at hl 2 rfl) ?_
  refine lv_aload_n hx hb dX7_copy_5 rfl (lv_at hl 0 rfl) ?_
  refine m_get hx hb hts inX7 hown hK hP (ci := 7) rfl (k := 0) (by decide) rfl 20 (by decide) (hts (.fieldLink RX7 68 "RollbackPairModel" "pNumber" "[S") (by decide +kernel)) rfl dX7_copy_6 ?_
  refine lv_iload_n hx hb dX7_copy_9 rfl (lv_at hl 1 rfl) ?_
  refine m_sald hx hb hK hP (k := 19) (by decide) (f := (S.1 20)) rfl (i := a) (by omega) (by decide) dX7_copy_10 ?_
  refine m_sast hx hb hK hP hJ hS (k := 19) (by decide) (f := (S.1 20)) rfl (i := b) (y := S.1 20 a) (by omega) (by decide) hsh dX7_copy_11 (fun H locs hP hS => ?_)
  rw [mm_up20] at hP
  refine lv_aload_n hx hb dX7_copy_12 rfl (lv_at hl 0 rfl) ?_
  refine m_get hx hb hts inX7 hown hK hP (ci := 7) rfl (k := 0) (by decide) rfl 21 (by decide) (hts (.fieldLink RX7 71 "RollbackPairModel" "pFrame" "[I") (by decide +kernel)) rfl dX7_copy_13 ?_
  refine lv_iload_n hx hb dX7_copy_16 rfl (lv_at hl 2 rfl) ?_
  refine lv_aload_n hx hb dX7_copy_17 rfl (lv_at hl 0 rfl) ?_
  refine m_get hx hb hts inX7 hown hK hP (ci := 7) rfl (k := 0) (by decide) rfl 21 (by decide) (hts (.fieldLink RX7 71 "RollbackPairModel" "pFrame" "[I") (by decide +kernel)) rfl dX7_copy_18 ?_
  refine lv_iload_n hx hb dX7_copy_21 rfl (lv_at hl 1 rfl) ?_
  refine m_iald hx hb hK hP (k := 20) (by decide) (f := (S.1 21)) rfl (i := a) (by omega) (by decide) dX7_copy_22 ?_
  refine m_iast hx hb hK hP hJ hS (k := 20) (by decide) (f := (S.1 21)) rfl (i := b) (by omega) (by decide) dX7_copy_23 (fun H locs hP hS => ?_)
  rw [mm_up21] at hP
  refine lv_aload_n hx hb dX7_copy_24 rfl (lv_at hl 0 rfl) ?_
  refine m_get hx hb hts inX7 hown hK hP (ci := 7) rfl (k := 0) (by decide) rfl 22 (by decide) (hts (.fieldLink RX7 74 "RollbackPairModel" "pAck" "[I") (by decide +kernel)) rfl dX7_copy_25 ?_
  refine lv_iload_n hx hb dX7_copy_28 rfl (lv_at hl 2 rfl) ?_
  refine lv_aload_n hx hb dX7_copy_29 rfl (lv_at hl 0 rfl) ?_
  refine m_get hx hb hts inX7 hown hK hP (ci := 7) rfl (k := 0) (by decide) rfl 22 (by decide) (hts (.fieldLink RX7 74 "RollbackPairModel" "pAck" "[I") (by decide +kernel)) rfl dX7_copy_30 ?_
  refine lv_iload_n hx hb dX7_copy_33 rfl (lv_at hl 1 rfl) ?_
  refine m_iald hx hb hK hP (k := 21) (by decide) (f := (S.1 22)) rfl (i := a) (by omega) (by decide) dX7_copy_34 ?_
  refine m_iast hx hb hK hP hJ hS (k := 21) (by decide) (f := (S.1 22)) rfl (i := b) (by omega) (by decide) dX7_copy_35 (fun H locs hP hS => ?_)
  rw [mm_up22] at hP
  refine lv_aload_n hx hb dX7_copy_36 rfl (lv_at hl 0 rfl) ?_
  refine m_get hx hb hts inX7 hown hK hP (ci := 7) rfl (k := 0) (by decide) rfl 23 (by decide) (hts (.fieldLink RX7 77 "RollbackPairModel" "pFirst" "[I") (by decide +kernel)) rfl dX7_copy_37 ?_
  refine lv_iload_n hx hb dX7_copy_40 rfl (lv_at hl 2 rfl) ?_
  refine lv_aload_n hx hb dX7_copy_41 rfl (lv_at hl 0 rfl) ?_
  refine m_get hx hb hts inX7 hown hK hP (ci := 7) rfl (k := 0) (by decide) rfl 23 (by decide) (hts (.fieldLink RX7 77 "RollbackPairModel" "pFirst" "[I") (by decide +kernel)) rfl dX7_copy_42 ?_
  refine lv_iload_n hx hb dX7_copy_45 rfl (lv_at hl 1 rfl) ?_
  refine m_iald hx hb hK hP (k := 22) (by decide) (f := (S.1 23)) rfl (i := a) (by omega) (by decide) dX7_copy_46 ?_
  refine m_iast hx hb hK hP hJ hS (k := 22) (by decide) (f := (S.1 23)) rfl (i := b) (by omega) (by decide) dX7_copy_47 (fun H locs hP hS => ?_)
  rw [mm_up23] at hP
  refine lv_aload_n hx hb dX7_copy_48 rfl (lv_at hl 0 rfl) ?_
  refine m_get hx hb hts inX7 hown hK hP (ci := 7) rfl (k := 0) (by decide) rfl 24 (by decide) (hts (.fieldLink RX7 80 "RollbackPairModel" "pCount" "[I") (by decide +kernel)) rfl dX7_copy_49 ?_
  refine lv_iload_n hx hb dX7_copy_52 rfl (lv_at hl 2 rfl) ?_
  refine lv_aload_n hx hb dX7_copy_53 rfl (lv_at hl 0 rfl) ?_
  refine m_get hx hb hts inX7 hown hK hP (ci := 7) rfl (k := 0) (by decide) rfl 24 (by decide) (hts (.fieldLink RX7 80 "RollbackPairModel" "pCount" "[I") (by decide +kernel)) rfl dX7_copy_54 ?_
  refine lv_iload_n hx hb dX7_copy_57 rfl (lv_at hl 1 rfl) ?_
  refine m_iald hx hb hK hP (k := 23) (by decide) (f := (S.1 24)) rfl (i := a) (by omega) (by decide) dX7_copy_58 ?_
  refine m_iast hx hb hK hP hJ hS (k := 23) (by decide) (f := (S.1 24)) rfl (i := b) (by omega) (by decide) dX7_copy_59 (fun H locs hP hS => ?_)
  rw [mm_up24] at hP
  refine lv_aload_n hx hb dX7_copy_60 rfl (lv_at hl 0 rfl) ?_
  refine m_get hx hb hts inX7 hown hK hP (ci := 7) rfl (k := 0) (by decide) rfl 25 (by decide) (hts (.fieldLink RX7 83 "RollbackPairModel" "pBits" "[J") (by decide +kernel)) rfl dX7_copy_61 ?_
  refine lv_iload_n hx hb dX7_copy_64 rfl (lv_at hl 2 rfl) ?_
  refine lv_aload_n hx hb dX7_copy_65 rfl (lv_at hl 0 rfl) ?_
  refine m_get hx hb hts inX7 hown hK hP (ci := 7) rfl (k := 0) (by decide) rfl 25 (by decide) (hts (.fieldLink RX7 83 "RollbackPairModel" "pBits" "[J") (by decide +kernel)) rfl dX7_copy_66 ?_
  refine lv_iload_n hx hb dX7_copy_69 rfl (lv_at hl 1 rfl) ?_
  refine m_lald hx hb hK hP (k := 24) (by decide) (f := S.2.2.1) rfl (i := a) (by omega) (by decide) dX7_copy_70 ?_
  refine m_last hx hb hK hP hJ hS (k := 24) (by decide) (f := S.2.2.1) rfl (i := b) (by omega) (by decide) dX7_copy_71 (fun H locs hP hS => ?_)
  rw [mm_up25] at hP
  refine lv_aload_n hx hb dX7_copy_72 rfl (lv_at hl 0 rfl) ?_
  refine m_get hx hb hts inX7 hown hK hP (ci := 7) rfl (k := 0) (by decide) rfl 26 (by decide) (hts (.fieldLink RX7 87 "RollbackPairModel" "pCheck" "[I") (by decide +kernel)) rfl dX7_copy_73 ?_
  refine lv_iload_n hx hb dX7_copy_76 rfl (lv_at hl 2 rfl) ?_
  refine lv_aload_n hx hb dX7_copy_77 rfl (lv_at hl 0 rfl) ?_
  refine m_get hx hb hts inX7 hown hK hP (ci := 7) rfl (k := 0) (by decide) rfl 26 (by decide) (hts (.fieldLink RX7 87 "RollbackPairModel" "pCheck" "[I") (by decide +kernel)) rfl dX7_copy_78 ?_
  refine lv_iload_n hx hb dX7_copy_81 rfl (lv_at hl 1 rfl) ?_
  refine m_iald hx hb hK hP (k := 25) (by decide) (f := (S.1 26)) rfl (i := a) (by omega) (by decide) dX7_copy_82 ?_
  refine m_iast hx hb hK hP hJ hS (k := 25) (by decide) (f := (S.1 26)) rfl (i := b) (by omega) (by decide) dX7_copy_83 (fun H locs hP hS => ?_)
  rw [mm_up26] at hP
  exact r_v hx hb hr hlocks hK hP hS dX7_copy_84 rfl
