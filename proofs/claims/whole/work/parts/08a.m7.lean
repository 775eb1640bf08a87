theorem two_ok {q : Nat} (h : q < 2) : (if nI q = 0 ∨ nI q = 1 then (1 : Int32) else 0) = nI 1 := by
  rcases (show q = 0 ∨ q = 1 by omega) with rfl | rfl <;> decide
/-- the peer has stalled once more -/
def mSt1 (S : SS) (q : Nat) : SS := sI S 3 (upd (S.1 3) q (S.1 3 q + nI 1))
def mCut (S : SS) (q : Nat) : SS := sI (mSt1 S q) 4 (upd (S.1 4) q (S.1 12 (2 * q + (1 - q))))
/-- played again from fr on, where another input was used -/
def mAgain (S : SS) (q a fr : Nat) : SS := mPlays S q (a - mFw S q (a - fr) fr) (mFw S q (a - fr) fr)
def mOwn (dd : Nat) (S : SS) (q a : Nat) (i : Int32) : SS := sI (sI S 10 (upd (S.1 10) (1200 * q + 600 * q + a + dd) i)) 12 (upd (S.1 12) (2 * q + q) (nI (a + dd + 1)))
def mGo (dd : Nat) (S : SS) (q a : Nat) (i : Int32) : SS := sI (mPlay (mOwn dd S q a i) q a) 2 (upd (S.1 2) q (nI (a + 1)))
/-- the peer has to wait -/
abbrev mStall (ww : Nat) (S : SS) (q : Nat) : Prop := ¬ 0 ≤ S.1 4 q ∧ ¬ S.1 2 q - S.1 12 (2 * q + (1 - q)) < nI ww
def mAdv (dd ww : Nat) (S : SS) (q : Nat) (i : Int32) : SS :=
  if mStall ww S q then (if S.1 3 q + nI 1 = nI 12 then mAgain (mCut S q) q (tn (S.1 2 q)) (tn (S.1 12 (2 * q + (1 - q)))) else mSt1 S q)
  else mSend (mGo dd S q (tn (S.1 2 q)) i) q
def rAdv (ww : Nat) (S : SS) (q : Nat) : Int32 := if mStall ww S q then -1 else S.1 2 q
theorem st_le {a n ww : Nat} (ha : a < 2 ^ 30) (hn : n < 2 ^ 30) (hw : ww < 2 ^ 30) : nI a - nI n < nI ww ↔ (a : Int) - n < ww := by
  rw [Int32.lt_iff_toInt_lt, pk_sub_toInt ha hn, nI_toInt (by omega)]
theorem mSend_at (S : SS) (q : Nat) : (mSend S q).1 2 = S.1 2 := by
  unfold mSend
  split <;> rfl
theorem BdAt_of {S S2 : SS} {q f : Nat} (h : S2.2 = S.2) (hb : BdAt S q f) : BdAt S2 q f := by
  unfold BdAt at *
  rw [h]
  exact hb
theorem two_kn {f : Nat → Int32} {q x y : Nat} (hq : q < 2) (h1 : f (2 * q + q) = nI x) (h2 : f (2 * q + (1 - q)) = nI y) (hx : x ≤ 600) (hy : y ≤ 600) : ∃ N0 N1, f (2 * q + 0) = nI N0 ∧ N0 ≤ 600 ∧ f (2 * q + 1) = nI N1 ∧ N1 ≤ 600 := by
  rcases (show q = 0 ∨ q = 1 by omega) with rfl | rfl
  · exact ⟨x, y, h1, hx, h2, hy⟩
  · exact ⟨y, x, h2, hy, h1, hx⟩
set_option maxHeartbeats 4000000 in
set_option maxRecDepth 100000 in
/-- advance, refused -/
theorem c_advance_no (l : Launch) (D : va_G) (cs : Nat → ClassId) (ad : Nat → Nat) (hJ : Inj ad 26) (d w : Int32) (S : SS) (np ns : UInt32) (pe i : Int32) (hno : ¬ (pe = 0 ∨ pe = 1) ∨ i < 0 ∨ ¬ i ≤ nI 7) : CTi l yX7_advance wsX7_advance ({ frames := 1, cells := 0, slots := 0, locals := 20 }) D cs ad 26 (mm ad cs d w S np ns) [.ref (ad 0), .int pe, .int i] (fun r M2 => M2 = (mm ad cs d w S np ns) ∧ r = -2) := by
  refine Met.ofW (cc := cX7_advance) (maxL := 5) (ret := (some .int)) (by decide) rfl ?_
  intro p e s m args below meth c s₁ B hml hv
  obtain ⟨rfl, hP, hK⟩ := hv
  have hx := B.exec
  have hb := B.bytes
  have hr := B.returns
  have hts := atoms_spec (ws := wsX7_advance) B.pre
  have hown : s.vm.findClass RX7 = some m.cls := findClass_of_methodNamed B.named
  have hlocks := B.notSynchronized
  have hS : va_S (Ad ad 26) s.heap s.heap [] := va_S.rf
  have hl := lv_entry ([.ref (ad 0), .int pe, .int i]) (n := 5) (Nat.le_of_ble_eq_true rfl)
  rw [lg_entry_eq]
  generalize (lg_sl ([.ref (ad 0), .int pe, .int i]) ++ List.replicate (5 - (lg_sl ([.ref (ad 0), .int pe, .int i])).length) Slot.unset).toArray = ls at hl ⊢
  have hl : lv_has ls 5 [(0, .ref (ad 0)), (1, .int pe), (2, .int i)] := hl
  have inX7 : ∀ w ∈ u_ws RX7 TX7 29, w ∈ wsX7_advance := fun w h => List.mem_cons_of_mem _ (List.mem_append_right _ h)
  refine lv_iload_n hx hb dX7_advance_0 rfl (lv_at hl 1 rfl) ?_
  refine k_Si (As := [.int pe]) (rest := []) ⟨hx, hb, hml, hown, hts⟩ hK hP hS Ad_le (c_isTwo l D cs ad 26 (mm ad cs d w S np ns) pe) (va_cwS 1 hts gX7_advance_X7_isTwo rfl rfl rfl (by decide +kernel) ⟨Nat.le_of_ble_eq_true rfl, Nat.le_of_ble_eq_true rfl⟩) rfl rfl hl.1 (Nat.le_of_ble_eq_true rfl) dX7_advance_1 ⟨Nat.le_of_ble_eq_true rfl, Nat.le_of_ble_eq_true rfl⟩ (fun r_1 M1 H locs hpo hP hS _ _ => ?_)
  obtain ⟨rfl, rfl⟩ := hpo
  refine lv_if_eq (tgt := 17) hx hb dX7_advance_4 (by decide) (fun c1 => ?_) (fun c1 => ?_)
  · refine lv_bipush (v := (-2)) hx hb dX7_advance_17 (by decide) ?_
    exact r_i hx hb hr hlocks hK hP hS dX7_advance_19 ⟨rfl, rfl⟩
  · refine lv_iload_n hx hb dX7_advance_7 rfl (lv_at hl 2 rfl) ?_
    refine lv_if_lt (tgt := 17) hx hb dX7_advance_8 (by decide) (fun c2 => ?_) (fun c2 => ?_)
    · refine lv_bipush (v := (-2)) hx hb dX7_advance_17 (by decide) ?_
      exact r_i hx hb hr hlocks hK hP hS dX7_advance_19 ⟨rfl, rfl⟩
    · refine lv_iload_n hx hb dX7_advance_11 rfl (lv_at hl 2 rfl) ?_
      refine lv_bipush (v := nI 7) hx hb dX7_advance_12 (by decide) ?_
      refine lv_icmp_le (tgt := 20) hx hb dX7_advance_14 (by decide) (fun c3 => ?_) (fun c3 => ?_)
      · exact absurd hno (fun z => z.elim (fun z => c1 (if_neg z)) (fun z => z.elim c2 (fun z => z c3)))
      · refine lv_bipush (v := (-2)) hx hb dX7_advance_17 (by decide) ?_
        exact r_i hx hb hr hlocks hK hP hS dX7_advance_19 ⟨rfl, rfl⟩
set_option maxHeartbeats 4000000 in
set_option maxRecDepth 100000 in
/-- advance(q, i) -/
theorem c_advance (l : Launch) (D : va_G) (cs : Nat → ClassId) (ad : Nat → Nat) (hJ : Inj ad 26) (dd ww : Nat) (S : SS) (np ns : UInt32) (q a n r t : Nat) (i : Int32) (hq : q < 2) (hdd : dd ≤ 4) (hw1 : 1 ≤ ww) (hw2 : ww ≤ 8) (hat : S.1 2 q = nI a) (ha : a ≤ 590) (hn : S.1 12 (2 * q + (1 - q)) = nI n) (hn2 : n ≤ 598) (ho : S.1 12 (2 * q + q) = nI (a + dd)) (ht : S.1 5 q = nI t) (ht2 : t ≤ a + dd) (hr0 : S.1 19 (1 - q) = nI r) (hr2 : r ≤ 12) (hsh : sh (S.1 8 q)) (hB : ∀ f, f ≤ a → BdAt S q f) (hi1 : ¬ i < 0) (hi2 : i ≤ nI 7) : CTi l yX7_advance wsX7_advance ({ frames := 3, cells := 0, slots := 0, locals := 88 }) D cs ad 26 (mm ad cs (nI dd) (nI ww) S np ns) [.ref (ad 0), .int (nI q), .int i] (fun r M2 => r = rAdv ww S q ∧ ∃ np2 ns2, M2 = mm ad cs (nI dd) (nI ww) (mAdv dd ww S q i) np2 ns2) := by
  refine Met.ofW (cc := cX7_advance) (maxL := 5) (ret := (some .int)) (by decide) rfl ?_
  intro p e s m args below meth c s₁ B hml hv
  obtain ⟨rfl, hP, hK⟩ := hv
  have hx := B.exec
  have hb := B.bytes
  have hr := B.returns
  have hts := atoms_spec (ws := wsX7_advance) B.pre
  have hown : s.vm.findClass RX7 = some m.cls := findClass_of_methodNamed B.named
  have hlocks := B.notSynchronized
  have hS : va_S (Ad ad 26) s.heap s.heap [] := va_S.rf
  have hl := lv_entry ([.ref (ad 0), .int (nI q), .int i]) (n := 5) (Nat.le_of_ble_eq_true rfl)
  rw [lg_entry_eq]
  generalize (lg_sl ([.ref (ad 0), .int (nI q), .int i]) ++ List.replicate (5 - (lg_sl ([.ref (ad 0), .int (nI q), .int i])).length) Slot.unset).toArray = ls at hl ⊢
  have hl : lv_has ls 5 [(0, .ref (ad 0)), (1, .int (nI q)), (2, .int i)] := hl
  have inX7 : ∀ w ∈ u_ws RX7 TX7 29, w ∈ wsX7_advance := fun w h => List.mem_cons_of_mem _ (List.mem_append_right _ h)
  refine lv_iload_n hx hb dX7_advance_0 rfl (lv_at hl 1 rfl) ?_
  refine k_Si (As := [.int (nI q)]) (rest := []) ⟨hx, hb, hml, hown, hts⟩ hK hP hS Ad_le (c_isTwo l D cs ad 26 (mm ad cs (nI dd) (nI ww) S np ns) (nI q)) (va_cwS 1 hts gX7_advance_X7_isTwo rfl rfl rfl (by decide +kernel) ⟨Nat.le_of_ble_eq_true rfl, Nat.le_of_ble_eq_true rfl⟩) rfl rfl hl.1 (Nat.le_of_ble_eq_true rfl) dX7_advance_1 ⟨Nat.le_of_ble_eq_true rfl, Nat.le_of_ble_eq_true rfl⟩ (fun r_1 M1 H locs hpo hP hS _ _ => ?_)
  obtain ⟨rfl, rfl⟩ := hpo
  refine n_val (two_ok hq) ?_
  refine n_if_eq (tgt := 17) hx hb dX7_advance_4 (by decide) (by omega) (fun c_2 => absurd c_2 (by decide)) (fun c_2 => ?_)
  refine lv_iload_n hx hb dX7_advance_7 rfl (lv_at hl 2 rfl) ?_
  refine lv_if_lt (tgt := 17) hx hb dX7_advance_8 (by decide) (fun c2 => absurd c2 hi1) (fun c2 => ?_)
  refine lv_iload_n hx hb dX7_advance_11 rfl (lv_at hl 2 rfl) ?_
  refine lv_bipush (v := nI 7) hx hb dX7_advance_12 (by decide) ?_
  refine lv_icmp_le (tgt := 20) hx hb dX7_advance_14 (by decide) (fun c3 => ?_) (fun c3 => absurd hi2 c3)
  refine lv_iconst (v := nI 1) hx hb dX7_advance_20 (by decide) ?_
  refine lv_iload_n hx hb dX7_advance_21 rfl (lv_at hl 1 rfl) ?_
  refine n_sub hx hb (by omega) dX7_advance_22 ?_
  refine lv_istore_n (lv' := [(3, .int (nI (1 - q))), (0, .ref (ad 0)), (1, .int (nI q)), (2, .int i)]) hx hb dX7_advance_23 rfl hl (by decide) rfl (fun ls hl => ?_)
  refine lv_aload_n hx hb dX7_advance_24 rfl (lv_at hl 1 rfl) ?_
  refine m_get hx hb hts inX7 hown hK hP (ci := 7) rfl (k := 0) (by decide) rfl 4 (by decide) (hts (.fieldLink RX7 16 "RollbackPairModel" "cut" "[I") (by decide +kernel)) rfl dX7_advance_25 ?_
  refine lv_iload_n hx hb dX7_advance_28 rfl (lv_at hl 2 rfl) ?_
  refine m_iald hx hb hK hP (k := 3) (by decide) (f := (S.1 4)) rfl (i := q) (by omega) (by decide) dX7_advance_29 ?_
  refine lv_if_ge (tgt := 109) hx hb dX7_advance_30 (by decide) (fun c4 => ?_) (fun c4 => ?_)
  · refine lv_aload_n hx hb dX7_advance_109 rfl (lv_at hl 1 rfl) ?_
    refine m_get hx hb hts inX7 hown hK hP (ci := 7) rfl (k := 0) (by decide) rfl 10 (by decide) (hts (.fieldLink RX7 37 "RollbackPairModel" "input" "[I") (by decide +kernel)) rfl dX7_advance_110 ?_
    refine lv_sipush (v := nI 1200) hx hb dX7_advance_113 (by decide) ?_
    refine lv_iload_n hx hb dX7_advance_116 rfl (lv_at hl 2 rfl) ?_
    refine n_mul hx hb dX7_advance_117 ?_
    refine lv_sipush (v := nI 600) hx hb dX7_advance_118 (by decide) ?_
    refine lv_iload_n hx hb dX7_advance_121 rfl (lv_at hl 2 rfl) ?_
    refine n_mul hx hb dX7_advance_122 ?_
    refine n_add hx hb dX7_advance_123 ?_
    refine lv_aload_n hx hb dX7_advance_124 rfl (lv_at hl 1 rfl) ?_
    refine m_get hx hb hts inX7 hown hK hP (ci := 7) rfl (k := 0) (by decide) rfl 2 (by decide) (hts (.fieldLink RX7 7 "RollbackPairModel" "at" "[I") (by decide +kernel)) rfl dX7_advance_125 ?_
    refine lv_iload_n hx hb dX7_advance_128 rfl (lv_at hl 2 rfl) ?_
    refine m_iald hx hb hK hP (k := 1) (by decide) (f := (S.1 2)) rfl (i := q) (by omega) (by decide) dX7_advance_129 ?_
    refine n_val hat ?_
    refine n_add hx hb dX7_advance_130 ?_
    refine lv_aload_n hx hb dX7_advance_131 rfl (lv_at hl 1 rfl) ?_
    refine m_get hx hb hts inX7 hown hK hP (ci := 7) rfl (k := 0) (by decide) rfl 0 (by decide) (hts (.fieldLink RX7 90 "RollbackPairModel" "delay" "I") (by decide +kernel)) rfl dX7_advance_132 ?_
    refine n_add hx hb dX7_advance_135 ?_
    refine lv_iload_n hx hb dX7_advance_136 rfl (lv_at hl 3 rfl) ?_
    refine m_iast hx hb hK hP hJ hS (k := 9) (by decide) (f := (S.1 10)) rfl (i := 1200 * q + (600 * q) + a + dd) (by omega) (by decide) dX7_advance_137 (fun H locs hP hS => ?_)
    rw [mm_up10] at hP
    refine lv_aload_n hx hb dX7_advance_138 rfl (lv_at hl 1 rfl) ?_
    refine m_get hx hb hts inX7 hown hK hP (ci := 7) rfl (k := 0) (by decide) rfl 12 (by decide) (hts (.fieldLink RX7 43 "RollbackPairModel" "known" "[I") (by decide +kernel)) rfl dX7_advance_139 ?_
    refine lv_iconst (v := nI 2) hx hb dX7_advance_142 (by decide) ?_
    refine lv_iload_n hx hb dX7_advance_143 rfl (lv_at hl 2 rfl) ?_
    refine n_mul hx hb dX7_advance_144 ?_
    refine lv_iload_n hx hb dX7_advance_145 rfl (lv_at hl 2 rfl) ?_
    refine n_add hx hb dX7_advance_146 ?_
    refine lv_aload_n hx hb dX7_advance_147 rfl (lv_at hl 1 rfl) ?_
    refine m_get hx hb hts inX7 hown hK hP (ci := 7) rfl (k := 0) (by decide) rfl 2 (by decide) (hts (.fieldLink RX7 7 "RollbackPairModel" "at" "[I") (by decide +kernel)) rfl dX7_advance_148 ?_
    refine lv_iload_n hx hb dX7_advance_151 rfl (lv_at hl 2 rfl) ?_
    refine m_iald hx hb hK hP (k := 1) (by decide) (f := (S.1 2)) rfl (i := q) (by omega) (by decide) dX7_advance_152 ?_
    refine n_val hat ?_
    refine lv_aload_n hx hb dX7_advance_153 rfl (lv_at hl 1 rfl) ?_
    refine m_get hx hb hts inX7 hown hK hP (ci := 7) rfl (k := 0) (by decide) rfl 0 (by decide) (hts (.fieldLink RX7 90 "RollbackPairModel" "delay" "I") (by decide +kernel)) rfl dX7_advance_154 ?_
    refine n_add hx hb dX7_advance_157 ?_
    refine lv_iconst (v := nI 1) hx hb dX7_advance_158 (by decide) ?_
    refine n_add hx hb dX7_advance_159 ?_
    refine m_iast hx hb hK hP hJ hS (k := 11) (by decide) (f := (S.1 12)) rfl (i := 2 * q + q) (by omega) (by decide) dX7_advance_160 (fun H locs hP hS => ?_)
    rw [mm_up12] at hP
    refine lv_aload_n hx hb dX7_advance_161 rfl (lv_at hl 1 rfl) ?_
    refine lv_iload_n hx hb dX7_advance_162 rfl (lv_at hl 2 rfl) ?_
    refine lv_aload_n hx hb dX7_advance_163 rfl (lv_at hl 1 rfl) ?_
    refine m_get hx hb hts inX7 hown hK hP (ci := 7) rfl (k := 0) (by decide) rfl 2 (by decide) (hts (.fieldLink RX7 7 "RollbackPairModel" "at" "[I") (by decide +kernel)) rfl dX7_advance_164 ?_
    refine lv_iload_n hx hb dX7_advance_167 rfl (lv_at hl 2 rfl) ?_
    refine m_iald hx hb hK hP (k := 1) (by decide) (f := (S.1 2)) rfl (i := q) (by omega) (by decide) dX7_advance_168 ?_
    refine n_val hat ?_
    obtain ⟨N0, N1, k0, k1, k2, k3⟩ := two_kn (f := (mOwn dd S q a i).1 12) hq (show _ = nI (a + dd + 1) from if_pos rfl) (show _ = nI n from (if_neg (by omega)).trans hn) (by omega) (by omega)
    refine k_Vv (As := [.int (nI q), .int (nI a)]) (rest := []) (k := 0) (ci := 7) ⟨hx, hb, hml, hown, hts⟩ hK hP hS Ad_le (c_play l D cs ad hJ (nI dd) (nI ww) (mOwn dd S q a i) np ns q a N0 N1 hq (by omega) k0 k1 k2 k3 (BdAt_of rfl (hB a (Nat.le_refl a)))) (cwV 2 hts gX7_advance_X7_play rfl rfl rfl (by decide +kernel) ⟨Nat.le_of_ble_eq_true rfl, Nat.le_of_ble_eq_true rfl⟩) (by decide) rfl rfl rfl rfl hl.1 (Nat.le_of_ble_eq_true rfl) dX7_advance_169 ⟨Nat.le_of_ble_eq_true rfl, Nat.le_of_ble_eq_true rfl⟩ (fun M1 H locs hpo hP hS _ _ => ?_)
    obtain ⟨np3, ns3, rfl⟩ := hpo
    refine lv_aload_n hx hb dX7_advance_172 rfl (lv_at hl 1 rfl) ?_
    refine m_get hx hb hts inX7 hown hK hP (ci := 7) rfl (k := 0) (by decide) rfl 2 (by decide) (hts (.fieldLink RX7 7 "RollbackPairModel" "at" "[I") (by decide +kernel)) rfl dX7_advance_173 ?_
    refine lv_iload_n hx hb dX7_advance_176 rfl (lv_at hl 2 rfl) ?_
    refine lv_dup2_11 hx hb dX7_advance_177 rfl rfl ?_
    refine m_iald hx hb hK hP (k := 1) (by decide) (f := (S.1 2)) rfl (i := q) (by omega) (by decide) dX7_advance_178 ?_
    refine n_val hat ?_
    refine lv_iconst (v := nI 1) hx hb dX7_advance_179 (by decide) ?_
    refine n_add hx hb dX7_advance_180 ?_
    refine m_iast hx hb hK hP hJ hS (k := 1) (by decide) (f := (S.1 2)) rfl (i := q) (by omega) (by decide) dX7_advance_181 (fun H locs hP hS => ?_)
    rw [mm_up2] at hP
    refine lv_aload_n hx hb dX7_advance_182 rfl (lv_at hl 1 rfl) ?_
    refine lv_iload_n hx hb dX7_advance_183 rfl (lv_at hl 2 rfl) ?_
    refine k_Vv (As := [.int (nI q)]) (rest := []) (k := 0) (ci := 7) ⟨hx, hb, hml, hown, hts⟩ hK hP hS Ad_le (c_send l D cs ad hJ (nI dd) (nI ww) (mGo dd S q a i) np3 ns3 q r (a + dd + 1) t hq hr0 hr2 (show _ = nI (a + dd + 1) from if_pos rfl) (by omega) ht (by omega) hsh) (cwV 1 hts gX7_advance_X7_send rfl rfl rfl (by decide +kernel) ⟨Nat.le_of_ble_eq_true rfl, Nat.le_of_ble_eq_true rfl⟩) (by decide) rfl rfl rfl rfl hl.1 (Nat.le_of_ble_eq_true rfl) dX7_advance_184 ⟨Nat.le_of_ble_eq_true rfl, Nat.le_of_ble_eq_true rfl⟩ (fun M1 H locs hpo hP hS _ _ => ?_)
    subst hpo
    refine lv_aload_n hx hb dX7_advance_187 rfl (lv_at hl 1 rfl) ?_
    refine m_get hx hb hts inX7 hown hK hP (ci := 7) rfl (k := 0) (by decide) rfl 2 (by decide) (hts (.fieldLink RX7 7 "RollbackPairModel" "at" "[I") (by decide +kernel)) rfl dX7_advance_188 ?_
    refine lv_iload_n hx hb dX7_advance_191 rfl (lv_at hl 2 rfl) ?_
    refine m_iald hx hb hK hP (k := 1) (by decide) (f := ((mSend (mGo dd S q a i) q).1 2)) rfl (i := q) (by omega) (by decide) dX7_advance_192 ?_
    refine n_val (show _ = nI (a + 1) from by rw [mSend_at]; exact if_pos rfl) ?_
    refine lv_iconst (v := nI 1) hx hb dX7_advance_193 (by decide) ?_
    refine n_sub hx hb (by omega) dX7_advance_194 ?_
    have hst : ¬ mStall ww S q := fun z => z.1 c4
    exact r_i hx hb hr hlocks hK hP hS dX7_advance_195 ⟨by unfold rAdv; rw [if_neg hst, hat]; rfl, np3, ns3, by unfold mAdv; rw [if_neg hst, hat, tn_nI (by omega)]⟩
  · refine lv_aload_n hx hb dX7_advance_33 rfl (lv_at hl 1 rfl) ?_
    refine m_get hx hb hts inX7 hown hK hP (ci := 7) rfl (k := 0) (by decide) rfl 2 (by decide) (hts (.fieldLink RX7 7 "RollbackPairModel" "at" "[I") (by decide +kernel)) rfl dX7_advance_34 ?_
    refine lv_iload_n hx hb dX7_advance_37 rfl (lv_at hl 2 rfl) ?_
    refine m_iald hx hb hK hP (k := 1) (by decide) (f := (S.1 2)) rfl (i := q) (by omega) (by decide) dX7_advance_38 ?_
    refine n_val hat ?_
    refine lv_aload_n hx hb dX7_advance_39 rfl (lv_at hl 1 rfl) ?_
    refine m_get hx hb hts inX7 hown hK hP (ci := 7) rfl (k := 0) (by decide) rfl 12 (by decide) (hts (.fieldLink RX7 43 "RollbackPairModel" "known" "[I") (by decide +kernel)) rfl dX7_advance_40 ?_
    refine lv_iconst (v := nI 2) hx hb dX7_advance_43 (by decide) ?_
    refine lv_iload_n hx hb dX7_advance_44 rfl (lv_at hl 2 rfl) ?_
    refine n_mul hx hb dX7_advance_45 ?_
    refine lv_iload_n hx hb dX7_advance_46 rfl (lv_at hl 0 rfl) ?_
    refine n_add hx hb dX7_advance_47 ?_
    refine m_iald hx hb hK hP (k := 11) (by decide) (f := (S.1 12)) rfl (i := 2 * q + (1 - q)) (by omega) (by decide) dX7_advance_48 ?_
    refine n_val hn ?_
    refine lv_isub hx hb dX7_advance_49 ?_
    refine lv_aload_n hx hb dX7_advance_50 rfl (lv_at hl 1 rfl) ?_
    refine m_get hx hb hts inX7 hown hK hP (ci := 7) rfl (k := 0) (by decide) rfl 1 (by decide) (hts (.fieldLink RX7 94 "RollbackPairModel" "window" "I") (by decide +kernel)) rfl dX7_advance_51 ?_
    refine lv_icmp_lt (tgt := 109) hx hb dX7_advance_54 (by decide) (fun c5 => ?_) (fun c5 => ?_)
    · refine lv_aload_n hx hb dX7_advance_109 rfl (lv_at hl 1 rfl) ?_
      refine m_get hx hb hts inX7 hown hK hP (ci := 7) rfl (k := 0) (by decide) rfl 10 (by decide) (hts (.fieldLink RX7 37 "RollbackPairModel" "input" "[I") (by decide +kernel)) rfl dX7_advance_110 ?_
      refine lv_sipush (v := nI 1200) hx hb dX7_advance_113 (by decide) ?_
      refine lv_iload_n hx hb dX7_advance_116 rfl (lv_at hl 2 rfl) ?_
      refine n_mul hx hb dX7_advance_117 ?_
      refine lv_sipush (v := nI 600) hx hb dX7_advance_118 (by decide) ?_
      refine lv_iload_n hx hb dX7_advance_121 rfl (lv_at hl 2 rfl) ?_
      refine n_mul hx hb dX7_advance_122 ?_
      refine n_add hx hb dX7_advance_123 ?_
      refine lv_aload_n hx hb dX7_advance_124 rfl (lv_at hl 1 rfl) ?_
      refine m_get hx hb hts inX7 hown hK hP (ci := 7) rfl (k := 0) (by decide) rfl 2 (by decide) (hts (.fieldLink RX7 7 "RollbackPairModel" "at" "[I") (by decide +kernel)) rfl dX7_advance_125 ?_
      refine lv_iload_n hx hb dX7_advance_128 rfl (lv_at hl 2 rfl) ?_
      refine m_iald hx hb hK hP (k := 1) (by decide) (f := (S.1 2)) rfl (i := q) (by omega) (by decide) dX7_advance_129 ?_
      refine n_val hat ?_
      refine n_add hx hb dX7_advance_130 ?_
      refine lv_aload_n hx hb dX7_advance_131 rfl (lv_at hl 1 rfl) ?_
      refine m_get hx hb hts inX7 hown hK hP (ci := 7) rfl (k := 0) (by decide) rfl 0 (by decide) (hts (.fieldLink RX7 90 "RollbackPairModel" "delay" "I") (by decide +kernel)) rfl dX7_advance_132 ?_
      refine n_add hx hb dX7_advance_135 ?_
      refine lv_iload_n hx hb dX7_advance_136 rfl (lv_at hl 3 rfl) ?_
      refine m_iast hx hb hK hP hJ hS (k := 9) (by decide) (f := (S.1 10)) rfl (i := 1200 * q + (600 * q) + a + dd) (by omega) (by decide) dX7_advance_137 (fun H locs hP hS => ?_)
      rw [mm_up10] at hP
      refine lv_aload_n hx hb dX7_advance_138 rfl (lv_at hl 1 rfl) ?_
      refine m_get hx hb hts inX7 hown hK hP (ci := 7) rfl (k := 0) (by decide) rfl 12 (by decide) (hts (.fieldLink RX7 43 "RollbackPairModel" "known" "[I") (by decide +kernel)) rfl dX7_advance_139 ?_
      refine lv_iconst (v := nI 2) hx hb dX7_advance_142 (by decide) ?_
      refine lv_iload_n hx hb dX7_advance_143 rfl (lv_at hl 2 rfl) ?_
      refine n_mul hx hb dX7_advance_144 ?_
      refine lv_iload_n hx hb dX7_advance_145 rfl (lv_at hl 2 rfl) ?_
      refine n_add hx hb dX7_advance_146 ?_
      refine lv_aload_n hx hb dX7_advance_147 rfl (lv_at hl 1 rfl) ?_
      refine m_get hx hb hts inX7 hown hK hP (ci := 7) rfl (k := 0) (by decide) rfl 2 (by decide) (hts (.fieldLink RX7 7 "RollbackPairModel" "at" "[I") (by decide +kernel)) rfl dX7_advance_148 ?_
      refine lv_iload_n hx hb dX7_advance_151 rfl (lv_at hl 2 rfl) ?_
      refine m_iald hx hb hK hP (k := 1) (by decide) (f := (S.1 2)) rfl (i := q) (by omega) (by decide) dX7_advance_152 ?_
      refine n_val hat ?_
      refine lv_aload_n hx hb dX7_advance_153 rfl (lv_at hl 1 rfl) ?_
      refine m_get hx hb hts inX7 hown hK hP (ci := 7) rfl (k := 0) (by decide) rfl 0 (by decide) (hts (.fieldLink RX7 90 "RollbackPairModel" "delay" "I") (by decide +kernel)) rfl dX7_advance_154 ?_
      refine n_add hx hb dX7_advance_157 ?_
      refine lv_iconst (v := nI 1) hx hb dX7_advance_158 (by decide) ?_
      refine n_add hx hb dX7_advance_159 ?_
      refine m_iast hx hb hK hP hJ hS (k := 11) (by decide) (f := (S.1 12)) rfl (i := 2 * q + q) (by omega) (by decide) dX7_advance_160 (fun H locs hP hS => ?_)
      rw [mm_up12] at hP
      refine lv_aload_n hx hb dX7_advance_161 rfl (lv_at hl 1 rfl) ?_
      refine lv_iload_n hx hb dX7_advance_162 rfl (lv_at hl 2 rfl) ?_
      refine lv_aload_n hx hb dX7_advance_163 rfl (lv_at hl 1 rfl) ?_
      refine m_get hx hb hts inX7 hown hK hP (ci := 7) rfl (k := 0) (by decide) rfl 2 (by decide) (hts (.fieldLink RX7 7 "RollbackPairModel" "at" "[I") (by decide +kernel)) rfl dX7_advance_164 ?_
      refine lv_iload_n hx hb dX7_advance_167 rfl (lv_at hl 2 rfl) ?_
      refine m_iald hx hb hK hP (k := 1) (by decide) (f := (S.1 2)) rfl (i := q) (by omega) (by decide) dX7_advance_168 ?_
      refine n_val hat ?_
      obtain ⟨N0, N1, k0, k1, k2, k3⟩ := two_kn (f := (mOwn dd S q a i).1 12) hq (show _ = nI (a + dd + 1) from if_pos rfl) (show _ = nI n from (if_neg (by omega)).trans hn) (by omega) (by omega)
      refine k_Vv (As := [.int (nI q), .int (nI a)]) (rest := []) (k := 0) (ci := 7) ⟨hx, hb, hml, hown, hts⟩ hK hP hS Ad_le (c_play l D cs ad hJ (nI dd) (nI ww) (mOwn dd S q a i) np ns q a N0 N1 hq (by omega) k0 k1 k2 k3 (BdAt_of rfl (hB a (Nat.le_refl a)))) (cwV 2 hts gX7_advance_X7_play rfl rfl rfl (by decide +kernel) ⟨Nat.le_of_ble_eq_true rfl, Nat.le_of_ble_eq_true rfl⟩) (by decide) rfl rfl rfl rfl hl.1 (Nat.le_of_ble_eq_true rfl) dX7_advance_169 ⟨Nat.le_of_ble_eq_true rfl, Nat.le_of_ble_eq_true rfl⟩ (fun M1 H locs hpo hP hS _ _ => ?_)
      obtain ⟨np3, ns3, rfl⟩ := hpo
      refine lv_aload_n hx hb dX7_advance_172 rfl (lv_at hl 1 rfl) ?_
      refine m_get hx hb hts inX7 hown hK hP (ci := 7) rfl (k := 0) (by decide) rfl 2 (by decide) (hts (.fieldLink RX7 7 "RollbackPairModel" "at" "[I") (by decide +kernel)) rfl dX7_advance_173 ?_
      refine lv_iload_n hx hb dX7_advance_176 rfl (lv_at hl 2 rfl) ?_
      refine lv_dup2_11 hx hb dX7_advance_177 rfl rfl ?_
      refine m_iald hx hb hK hP (k := 1) (by decide) (f := (S.1 2)) rfl (i := q) (by omega) (by decide) dX7_advance_178 ?_
      refine n_val hat ?_
      refine lv_iconst (v := nI 1) hx hb dX7_advance_179 (by decide) ?_
      refine n_add hx hb dX7_advance_180 ?_
      refine m_iast hx hb hK hP hJ hS (k := 1) (by decide) (f := (S.1 2)) rfl (i := q) (by omega) (by decide) dX7_advance_181 (fun H locs hP hS => ?_)
      rw [mm_up2] at hP
      refine lv_aload_n hx hb dX7_advance_182 rfl (lv_at hl 1 rfl) ?_
      refine lv_iload_n hx hb dX7_advance_183 rfl (lv_at hl 2 rfl) ?_
      refine k_Vv (As := [.int (nI q)]) (rest := []) (k := 0) (ci := 7) ⟨hx, hb, hml, hown, hts⟩ hK hP hS Ad_le (c_send l D cs ad hJ (nI dd) (nI ww) (mGo dd S q a i) np3 ns3 q r (a + dd + 1) t hq hr0 hr2 (show _ = nI (a + dd + 1) from if_pos rfl) (by omega) ht (by omega) hsh) (cwV 1 hts gX7_advance_X7_send rfl rfl rfl (by decide +kernel) ⟨Nat.le_of_ble_eq_true rfl, Nat.le_of_ble_eq_true rfl⟩) (by decide) rfl rfl rfl rfl hl.1 (Nat.le_of_ble_eq_true rfl) dX7_advance_184 ⟨Nat.le_of_ble_eq_true rfl, Nat.le_of_ble_eq_true rfl⟩ (fun M1 H locs hpo hP hS _ _ => ?_)
      subst hpo
      refine lv_aload_n hx hb dX7_advance_187 rfl (lv_at hl 1 rfl) ?_
      refine m_get hx hb hts inX7 hown hK hP (ci := 7) rfl (k := 0) (by decide) rfl 2 (by decide) (hts (.fieldLink RX7 7 "RollbackPairModel" "at" "[I") (by decide +kernel)) rfl dX7_advance_188 ?_
      refine lv_iload_n hx hb dX7_advance_191 rfl (lv_at hl 2 rfl) ?_
      refine m_iald hx hb hK hP (k := 1) (by decide) (f := ((mSend (mGo dd S q a i) q).1 2)) rfl (i := q) (by omega) (by decide) dX7_advance_192 ?_
      refine n_val (show _ = nI (a + 1) from by rw [mSend_at]; exact if_pos rfl) ?_
      refine lv_iconst (v := nI 1) hx hb dX7_advance_193 (by decide) ?_
      refine n_sub hx hb (by omega) dX7_advance_194 ?_
      have hst : ¬ mStall ww S q := fun z => z.2 (by rw [hat, hn]; exact c5)
      exact r_i hx hb hr hlocks hK hP hS dX7_advance_195 ⟨by unfold rAdv; rw [if_neg hst, hat]; rfl, np3, ns3, by unfold mAdv; rw [if_neg hst, hat, tn_nI (by omega)]⟩
    · refine lv_aload_n hx hb dX7_advance_57 rfl (lv_at hl 1 rfl) ?_
      refine m_get hx hb hts inX7 hown hK hP (ci := 7) rfl (k := 0) (by decide) rfl 3 (by decide) (hts (.fieldLink RX7 13 "RollbackPairModel" "stalls" "[I") (by decide +kernel)) rfl dX7_advance_58 ?_
      refine lv_iload_n hx hb dX7_advance_61 rfl (lv_at hl 2 rfl) ?_
      refine lv_dup2_11 hx hb dX7_advance_62 rfl rfl ?_
      refine m_iald hx hb hK hP (k := 2) (by decide) (f := (S.1 3)) rfl (i := q) (by omega) (by decide) dX7_advance_63 ?_
      refine lv_iconst (v := nI 1) hx hb dX7_advance_64 (by decide) ?_
      refine lv_iadd hx hb dX7_advance_65 ?_
      refine m_iast hx hb hK hP hJ hS (k := 2) (by decide) (f := (S.1 3)) rfl (i := q) (by omega) (by decide) dX7_advance_66 (fun H locs hP hS => ?_)
      rw [mm_up3] at hP
      refine lv_aload_n hx hb dX7_advance_67 rfl (lv_at hl 1 rfl) ?_
      refine m_get hx hb hts inX7 hown hK hP (ci := 7) rfl (k := 0) (by decide) rfl 3 (by decide) (hts (.fieldLink RX7 13 "RollbackPairModel" "stalls" "[I") (by decide +kernel)) rfl dX7_advance_68 ?_
      refine lv_iload_n hx hb dX7_advance_71 rfl (lv_at hl 2 rfl) ?_
      refine m_iald hx hb hK hP (k := 2) (by decide) (f := (upd (S.1 3) q (((S.1 3) q) + (nI 1)))) rfl (i := q) (by omega) (by decide) dX7_advance_72 ?_
      refine n_val (show _ = S.1 3 q + nI 1 from if_pos rfl) ?_
      refine lv_bipush (v := nI 12) hx hb dX7_advance_73 (by decide) ?_
      refine lv_icmp_ne (tgt := 107) hx hb dX7_advance_75 (by decide) (fun c6 => ?_) (fun c6 => ?_)
      · refine lv_iconst (v := (-1)) hx hb dX7_advance_107 (by decide) ?_
        have hst : mStall ww S q := ⟨c4, by rw [hat, hn]; exact c5⟩
        exact r_i hx hb hr hlocks hK hP hS dX7_advance_108 ⟨by unfold rAdv; rw [if_pos hst], np, ns, by unfold mAdv; rw [if_pos hst, if_neg c6]; rfl⟩
      · refine lv_aload_n hx hb dX7_advance_78 rfl (lv_at hl 1 rfl) ?_
        refine m_get hx hb hts inX7 hown hK hP (ci := 7) rfl (k := 0) (by decide) rfl 4 (by decide) (hts (.fieldLink RX7 16 "RollbackPairModel" "cut" "[I") (by decide +kernel)) rfl dX7_advance_79 ?_
        refine lv_iload_n hx hb dX7_advance_82 rfl (lv_at hl 2 rfl) ?_
        refine lv_aload_n hx hb dX7_advance_83 rfl (lv_at hl 1 rfl) ?_
        refine m_get hx hb hts inX7 hown hK hP (ci := 7) rfl (k := 0) (by decide) rfl 12 (by decide) (hts (.fieldLink RX7 43 "RollbackPairModel" "known" "[I") (by decide +kernel)) rfl dX7_advance_84 ?_
        refine lv_iconst (v := nI 2) hx hb dX7_advance_87 (by decide) ?_
        refine lv_iload_n hx hb dX7_advance_88 rfl (lv_at hl 2 rfl) ?_
        refine n_mul hx hb dX7_advance_89 ?_
        refine lv_iload_n hx hb dX7_advance_90 rfl (lv_at hl 0 rfl) ?_
        refine n_add hx hb dX7_advance_91 ?_
        refine m_iald hx hb hK hP (k := 11) (by decide) (f := (S.1 12)) rfl (i := 2 * q + (1 - q)) (by omega) (by decide) dX7_advance_92 ?_
        refine n_val hn ?_
        refine m_iast hx hb hK hP hJ hS (k := 3) (by decide) (f := (S.1 4)) rfl (i := q) (by omega) (by decide) dX7_advance_93 (fun H locs hP hS => ?_)
        rw [mm_up4] at hP
        refine lv_aload_n hx hb dX7_advance_94 rfl (lv_at hl 1 rfl) ?_
        refine lv_iload_n hx hb dX7_advance_95 rfl (lv_at hl 2 rfl) ?_
        refine lv_aload_n hx hb dX7_advance_96 rfl (lv_at hl 1 rfl) ?_
        refine m_get hx hb hts inX7 hown hK hP (ci := 7) rfl (k := 0) (by decide) rfl 4 (by decide) (hts (.fieldLink RX7 16 "RollbackPairModel" "cut" "[I") (by decide +kernel)) rfl dX7_advance_97 ?_
        refine lv_iload_n hx hb dX7_advance_100 rfl (lv_at hl 2 rfl) ?_
        refine m_iald hx hb hK hP (k := 3) (by decide) (f := (upd (S.1 4) q (nI n))) rfl (i := q) (by omega) (by decide) dX7_advance_101 ?_
        refine n_val (show _ = nI n from if_pos rfl) ?_
        have hc5 : ¬ ((a : Int) - n < ww) := fun z => c5 ((st_le (by omega) (by omega) (by omega)).mpr z)
        have hS2 : mCut S q = sI (sI S 3 (upd (S.1 3) q (S.1 3 q + nI 1))) 4 (upd (S.1 4) q (nI n)) := by unfold mCut mSt1; rw [hn]
        rw [← hS2] at hP
        obtain ⟨N0, N1, k0, k1, k2, k3⟩ := two_kn (f := (mCut S q).1 12) hq ho hn (by omega) (by omega)
        refine k_Vi (As := [.int (nI q), .int (nI n)]) (rest := []) (k := 0) (ci := 7) ⟨hx, hb, hml, hown, hts⟩ hK hP hS Ad_le (c_again l D cs ad hJ (nI dd) (nI ww) (mCut S q) np ns q n a N0 N1 hq hat (by omega) (by omega) k0 k1 k2 k3 (fun f hf => BdAt_of rfl (hB f hf))) (cwV 2 hts gX7_advance_X7_again rfl rfl rfl (by decide +kernel) ⟨Nat.le_of_ble_eq_true rfl, Nat.le_of_ble_eq_true rfl⟩) (by decide) rfl rfl rfl rfl hl.1 (Nat.le_of_ble_eq_true rfl) dX7_advance_102 ⟨Nat.le_of_ble_eq_true rfl, Nat.le_of_ble_eq_true rfl⟩ (fun r_7 M1 H locs hpo hP hS _ _ => ?_)
        obtain ⟨-, np3, ns3, rfl⟩ := hpo
        refine lv_istore (lv' := [(4, .int r_7), (3, .int (nI (1 - q))), (0, .ref (ad 0)), (1, .int (nI q)), (2, .int i)]) hx hb dX7_advance_105 hl (by decide) rfl (fun ls hl => ?_)
        refine lv_iconst (v := (-1)) hx hb dX7_advance_107 (by decide) ?_
        have hst : mStall ww S q := ⟨c4, by rw [hat, hn]; exact c5⟩
        exact r_i hx hb hr hlocks hK hP hS dX7_advance_108 ⟨by unfold rAdv; rw [if_pos hst], np3, ns3, by unfold mAdv; rw [if_pos hst, if_pos c6, hat, hn, tn_nI (by omega), tn_nI (by omega)]; rfl⟩
