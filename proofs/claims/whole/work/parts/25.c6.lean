/-! a peer -/
abbrev oPe (ad : Nat → Nat) (k r1 r2 q ww a : Nat) (st to nn ln ht : Int32) (le : UInt32) : va_E := .inr (3, [.int (nI q), .int (nI ww), .ref (ad r1), .ref (ad r2), .ref (ad (k + 54)), .ref (ad (k + 56)), .ref (ad (k + 1)), .int (nI a), .int st, .int to, .int nn, .int ln, .int ht, .float le])
abbrev oIn (ad : Nat → Nat) (k2 ct : Nat) (ed : Int32) : va_E := .inr (1, [.ref (ad k2), .int (nI ct), .int ed])
theorem min_nn {x y : Nat} (hx : x < 2 ^ 31) (hy : y < 2 ^ 31) : (if nI y < nI x then nI y else nI x) = nI (min x y) := by
  by_cases h : y < x
  · rw [if_pos (nI_lt h hx), Nat.min_eq_right (by omega)]
  · rw [if_neg (nI_nlt (by omega) hy), Nat.min_eq_left (by omega)]
theorem mUse_c {S S2 : SS} (h10 : S2.1 10 = S.1 10) (h12 : S2.1 12 = S.1 12) (h4 : S2.1 4 = S.1 4) (q pl f : Nat) : mUse S2 q pl f = mUse S q pl f := by
  unfold mUse
  rw [h10, h12, h4]
/-- what is kept of peer q's states from frame lo to hi, and of its inputs from lo to hi - 1, is what S has -/
def HR (S : SS) (q lo hi : Nat) (X V : Nat → Nat → UInt32) (hh : Nat → Int32) (wk : Nat → UInt64) (U : Nat → Nat → Int32) : Prop :=
  (∀ f, lo ≤ f → f ≤ hi → X (f % 16) 0 = S.2.1 13 (600 * q + f) ∧ V (f % 16) 0 = S.2.1 14 (600 * q + f) ∧ X (f % 16) 1 = S.2.1 15 (600 * q + f) ∧ V (f % 16) 1 = S.2.1 16 (600 * q + f) ∧ hh (f % 16) = S.1 17 (600 * q + f) ∧ wk (f % 16) = S.2.2.2 (600 * q + f)) ∧
  ∀ pl f, pl < 2 → lo ≤ f → f < hi → U pl (f % 16) = S.1 11 (1200 * q + 600 * pl + f)
theorem mPlay_ne {S : SS} {q f j : Nat} (h : j ≠ 600 * q + f + 1) : (mPlay S q f).2.1 13 j = S.2.1 13 j ∧ (mPlay S q f).2.1 14 j = S.2.1 14 j ∧ (mPlay S q f).2.1 15 j = S.2.1 15 j ∧ (mPlay S q f).2.1 16 j = S.2.1 16 j ∧ (mPlay S q f).1 17 j = S.1 17 j ∧ (mPlay S q f).2.2.2 j = S.2.2.2 j :=
  ⟨if_neg h, if_neg h, if_neg h, if_neg h, if_neg h, if_neg h⟩
theorem mPlay_k (S : SS) (q f : Nat) {j : Nat} (h : j ≠ 11 ∧ j ≠ 17) : (mPlay S q f).1 j = S.1 j := by
  simp [mPlay, sD, sI, sF, va_up, h]
theorem mPlay_u1 (S : SS) (q f pl : Nat) (hf : f < 600) (hp : pl < 2) : (mPlay S q f).1 11 (1200 * q + 600 * pl + f) = mUse S q pl f := by
  show upd (upd (S.1 11) (1200 * q + f) (mUse S q 0 f)) (1200 * q + 600 + f) (mUse S q 1 f) (1200 * q + 600 * pl + f) = _
  unfold upd
  rcases (show pl = 0 ∨ pl = 1 by omega) with rfl | rfl
  · rw [if_neg (by omega), if_pos (by omega)]
  · rw [if_pos (by omega)]
theorem mPlay_u2 (S : SS) (q f pl g : Nat) (hf : f < 600) (hp : pl < 2) (hg : g < 600) (h : g ≠ f) : (mPlay S q f).1 11 (1200 * q + 600 * pl + g) = S.1 11 (1200 * q + 600 * pl + g) := by
  show upd (upd (S.1 11) (1200 * q + f) (mUse S q 0 f)) (1200 * q + 600 + f) (mUse S q 1 f) (1200 * q + 600 * pl + g) = _
  unfold upd
  rw [if_neg (by omega), if_neg (by omega)]
theorem HR_play {S : SS} {q lo hi f a1 a2 : Nat} {X V X2 V2 : Nat → Nat → UInt32} {hh hh2 : Nat → Int32} {wk wk2 : Nat → UInt64} {U U2 : Nat → Nat → Int32} (hq : q < 2) (h : HR S q lo hi X V hh wk U) (hp : HiP X V hh wk U f a1 a2 X2 V2 hh2 wk2 U2) (e1 : mUse S q 0 f = nI a1) (e2 : mUse S q 1 f = nI a2) (h1 : lo ≤ f) (h2 : f ≤ hi) (h3 : hi ≤ lo + 15) (h4 : hi < 590) :
    HR (mPlay S q f) q (max lo (f + 1 - 15)) (max hi (f + 1)) X2 V2 hh2 wk2 U2 := by
  obtain ⟨p1, p2, p3, p4, p5, p6, p7, p8, p9⟩ := hp
  obtain ⟨z1, z2, z3, z4, z5, z6⟩ := h.1 f h1 h2
  obtain ⟨m1, m2, m3, m4, m5, m6⟩ := mPlay_st S q f
  refine ⟨fun g g1 g2 => ?_, fun pl g hpl g1 g2 => ?_⟩
  · by_cases hg : g = f + 1
    · subst hg
      rw [show 600 * q + (f + 1) = 600 * q + f + 1 by omega, m1, m2, m3, m4, m5, m6, p1, p2, p3, p4, p5, p6, z1, z2, z3, z4, z5, z6]
      unfold pA pB
      rw [e1, e2]
      exact ⟨rfl, rfl, rfl, rfl, rfl, rfl⟩
    · obtain ⟨y1, y2, y3, y4, y5, y6⟩ := h.1 g (by omega) (by omega)
      obtain ⟨w1, w2, w3, w4⟩ := p7 (g % 16) (by omega)
      obtain ⟨n1, n2, n3, n4, n5, n6⟩ := mPlay_ne (S := S) (q := q) (f := f) (j := 600 * q + g) (by omega)
      rw [n1, n2, n3, n4, n5, n6, w1, w2, w3, w4]
      exact ⟨y1, y2, y3, y4, y5, y6⟩
  · by_cases hg : g = f
    · subst hg
      rw [mPlay_u1 S q g pl (by omega) hpl]
      rcases (show pl = 0 ∨ pl = 1 by omega) with rfl | rfl
      · rw [p8, e1]; exact if_pos rfl
      · rw [p9, e2]; exact if_pos rfl
    · rw [mPlay_u2 S q f pl g (by omega) hpl (by omega) hg, ← h.2 pl g hpl (by omega) (by omega)]
      rcases (show pl = 0 ∨ pl = 1 by omega) with rfl | rfl
      · rw [p8]; exact if_neg (by omega)
      · rw [p9]; exact if_neg (by omega)
set_option maxHeartbeats 4000000 in
set_option maxRecDepth 100000 in
/-- Peer.inputsOf(wh) -/
theorem c_inputsOf (l : Launch) (D : va_G) (cs : Nat → ClassId) (ad : Nat → Nat) (n : Nat) (hJ : Inj ad n) (M : Nat → va_E) (k r1 r2 q ww a : Nat) (st to nn ln ht : Int32) (le : UInt32) (hk : k + 58 ≤ n) (hq : q < 2) (ha : a ≤ 580) (h1 : M k = oPe ad k r1 r2 q ww a st to nn ln ht le) (wh : Nat) (hw : wh < 2) : CTq l yX3_inputsOf wsX3_inputsOf ({ frames := 0, cells := 0, slots := 0, locals := 0 }) D cs ad n M [.ref (ad k), .int (nI wh)] (fun r M2 => M2 = M ∧ r = some (ad (if wh = q then k + 54 else k + 56))) := by
  refine Met.ofW (cc := cX3_inputsOf) (maxL := 2) (ret := (some (.object "RollbackPair$Inputs"))) (by decide) rfl ?_
  intro p e s m args below meth c s₁ B hml hv
  obtain ⟨rfl, hP, hK⟩ := hv
  have hx := B.exec
  have hb := B.bytes
  have hr := B.returns
  have hts := atoms_spec (ws := wsX3_inputsOf) B.pre
  have hown : s.vm.findClass RX3 = some m.cls := findClass_of_methodNamed B.named
  have hlocks := B.notSynchronized
  have hS : va_S (Ad ad n) s.heap s.heap [] := va_S.rf
  have hl := lv_entry ([.ref (ad k), .int (nI wh)]) (n := 2) (Nat.le_of_ble_eq_true rfl)
  rw [lg_entry_eq]
  generalize (lg_sl ([.ref (ad k), .int (nI wh)]) ++ List.replicate (2 - (lg_sl ([.ref (ad k), .int (nI wh)])).length) Slot.unset).toArray = ls at hl ⊢
  have hl : lv_has ls 2 [(0, .ref (ad k)), (1, .int (nI wh))] := hl
  have inX3 : ∀ w ∈ u_ws RX3 TX3 14, w ∈ wsX3_inputsOf := fun w h => List.mem_cons_of_mem _ (List.mem_append_right _ h)
  refine lv_iload_n hx hb dX3_inputsOf_0 rfl (lv_at hl 1 rfl) ?_
  refine lv_aload_n hx hb dX3_inputsOf_1 rfl (lv_at hl 0 rfl) ?_
  refine m_get hx hb hts inX3 hown hK hP (ci := 3) rfl (k := k) (by omega) h1 0 (by decide) (hts (.fieldLink RX3 18 "RollbackPair$Peer" "player" "I") (by decide +kernel)) rfl dX3_inputsOf_2 ?_
  refine n_cmp_ne (tgt := 15) hx hb dX3_inputsOf_5 (by decide) (by omega) (by omega) (fun c1 => ?_) (fun c1 => ?_)
  · refine lv_aload_n hx hb dX3_inputsOf_15 rfl (lv_at hl 0 rfl) ?_
    refine m_get hx hb hts inX3 hown hK hP (ci := 3) rfl (k := k) (by omega) h1 5 (by decide) (hts (.fieldLink RX3 41 "RollbackPair$Peer" "others" "LRollbackPair$Inputs;") (by decide +kernel)) rfl dX3_inputsOf_16 ?_
    exact r_q hx hb hr hlocks hK hP hS dX3_inputsOf_19 (v := some (ad (k + 56))) ⟨rfl, by rw [if_neg c1]⟩
  · refine lv_aload_n hx hb dX3_inputsOf_8 rfl (lv_at hl 0 rfl) ?_
    refine m_get hx hb hts inX3 hown hK hP (ci := 3) rfl (k := k) (by omega) h1 4 (by decide) (hts (.fieldLink RX3 37 "RollbackPair$Peer" "own" "LRollbackPair$Inputs;") (by decide +kernel)) rfl dX3_inputsOf_9 ?_
    refine lv_goto (tgt := 19) hx hb dX3_inputsOf_12 (by decide) ?_
    exact r_q hx hb hr hlocks hK hP hS dX3_inputsOf_19 (v := some (ad (k + 54))) ⟨rfl, by rw [if_pos c1]⟩
set_option maxHeartbeats 4000000 in
set_option maxRecDepth 100000 in
/-- Peer.state() -/
theorem c_pstate (l : Launch) (D : va_G) (cs : Nat → ClassId) (ad : Nat → Nat) (n : Nat) (hJ : Inj ad n) (M : Nat → va_E) (k r1 r2 q ww a : Nat) (st to nn ln ht : Int32) (le : UInt32) (hk : k + 58 ≤ n) (hq : q < 2) (ha : a ≤ 580) (h1 : M k = oPe ad k r1 r2 q ww a st to nn ln ht le) (X V : Nat → Nat → UInt32) (hh : Nat → Int32) (wk : Nat → UInt64) (U : Nat → Nat → Int32) (hH : HiA ad cs (k + 1) M X V hh wk U) : CTq l yX3_state wsX3_state ({ frames := 1, cells := 0, slots := 0, locals := 21 }) D cs ad n M [.ref (ad k)] (fun r M2 => M2 = M ∧ r = some (ad (k + 1 + 5 + 3 * (a % 16)))) := by
  refine Met.ofW (cc := cX3_state) (maxL := 1) (ret := (some (.object "RollbackPair$State"))) (by decide) rfl ?_
  intro p e s m args below meth c s₁ B hml hv
  obtain ⟨rfl, hP, hK⟩ := hv
  have hx := B.exec
  have hb := B.bytes
  have hr := B.returns
  have hts := atoms_spec (ws := wsX3_state) B.pre
  have hown : s.vm.findClass RX3 = some m.cls := findClass_of_methodNamed B.named
  have hlocks := B.notSynchronized
  have hS : va_S (Ad ad n) s.heap s.heap [] := va_S.rf
  have hl := lv_entry ([.ref (ad k)]) (n := 1) (Nat.le_of_ble_eq_true rfl)
  rw [lg_entry_eq]
  generalize (lg_sl ([.ref (ad k)]) ++ List.replicate (1 - (lg_sl ([.ref (ad k)])).length) Slot.unset).toArray = ls at hl ⊢
  have hl : lv_has ls 1 [(0, .ref (ad k))] := hl
  have inX3 : ∀ w ∈ u_ws RX3 TX3 14, w ∈ wsX3_state := fun w h => List.mem_cons_of_mem _ (List.mem_append_left _ (List.mem_append_right _ h))
  have inX0 : ∀ w ∈ u_ws RX0 TX0 2, w ∈ wsX3_state := fun w h => List.mem_cons_of_mem _ (List.mem_append_right _ h)
  obtain ⟨y1, ⟨g, y2, hg⟩, ⟨g2, y3, hg0, hg1⟩, y4, y5, hst⟩ := id hH
  refine lv_aload_n hx hb dX3_state_0 rfl (lv_at hl 0 rfl) ?_
  refine m_get hx hb hts inX3 hown hK hP (ci := 3) rfl (k := k) (by omega) h1 6 (by decide) (hts (.fieldLink RX3 12 "RollbackPair$Peer" "history" "LRollbackPair$History;") (by decide +kernel)) rfl dX3_state_1 ?_
  refine lv_aload_n hx hb dX3_state_4 rfl (lv_at hl 0 rfl) ?_
  refine m_get hx hb hts inX3 hown hK hP (ci := 3) rfl (k := k) (by omega) h1 7 (by decide) (hts (.fieldLink RX3 51 "RollbackPair$Peer" "at" "I") (by decide +kernel)) rfl dX3_state_5 ?_
  refine k_Vq (As := [.int (nI a)]) (rest := []) (k := (k + 1)) (ci := 0) ⟨hx, hb, hml, hown, hts⟩ hK hP hS Ad_le (c_before l D cs ad n hJ M (k + 1) g (by omega) y1 y2 hg a (by omega)) (cwV 1 hts gX3_state_X0_before rfl rfl rfl (by decide +kernel) ⟨Nat.le_of_ble_eq_true rfl, Nat.le_of_ble_eq_true rfl⟩) (by omega) y1 rfl rfl rfl hl.1 (Nat.le_of_ble_eq_true rfl) dX3_state_8 ⟨Nat.le_of_ble_eq_true rfl, Nat.le_of_ble_eq_true rfl⟩ (fun r_1 M1 H locs hpo hP hS _ _ => ?_)
  obtain ⟨hMe, rfl⟩ := hpo
  rw [hMe] at hP
  exact r_q hx hb hr hlocks hK hP hS dX3_state_11 (v := some (ad (k + 1 + 5 + 3 * (a % 16)))) ⟨rfl, rfl⟩
set_option maxHeartbeats 4000000 in
set_option maxRecDepth 100000 in
/-- Peer.confirmed() -/
theorem c_confirmed (l : Launch) (D : va_G) (cs : Nat → ClassId) (ad : Nat → Nat) (n : Nat) (hJ : Inj ad n) (M : Nat → va_E) (k r1 r2 q ww a : Nat) (st to nn ln ht : Int32) (le : UInt32) (hk : k + 58 ≤ n) (hq : q < 2) (ha : a ≤ 580) (h1 : M k = oPe ad k r1 r2 q ww a st to nn ln ht le) (no nt : Nat) (ed : Int32) (gO gT : Nat → Int32) (hno : no ≤ 600) (hnt : nt ≤ 600) (h2 : M (k + 54) = oIn ad (k + 55) no 0) (h3 : M (k + 55) = eB cs 1024 gO) (h4 : M (k + 56) = oIn ad (k + 57) nt ed) (h5 : M (k + 57) = eB cs 32 gT) : CTi l yX3_confirmed wsX3_confirmed ({ frames := 1, cells := 0, slots := 0, locals := 16 }) D cs ad n M [.ref (ad k)] (fun r M2 => M2 = M ∧ r = nI (min a (min no (if ed = 0 then nt else a)))) := by
  refine Met.ofW (cc := cX3_confirmed) (maxL := 2) (ret := (some .int)) (by decide) rfl ?_
  intro p e s m args below meth c s₁ B hml hv
  obtain ⟨rfl, hP, hK⟩ := hv
  have hx := B.exec
  have hb := B.bytes
  have hr := B.returns
  have hts := atoms_spec (ws := wsX3_confirmed) B.pre
  have hown : s.vm.findClass RX3 = some m.cls := findClass_of_methodNamed B.named
  have hlocks := B.notSynchronized
  have hS : va_S (Ad ad n) s.heap s.heap [] := va_S.rf
  have hl := lv_entry ([.ref (ad k)]) (n := 2) (Nat.le_of_ble_eq_true rfl)
  rw [lg_entry_eq]
  generalize (lg_sl ([.ref (ad k)]) ++ List.replicate (2 - (lg_sl ([.ref (ad k)])).length) Slot.unset).toArray = ls at hl ⊢
  have hl : lv_has ls 2 [(0, .ref (ad k))] := hl
  have inX3 : ∀ w ∈ u_ws RX3 TX3 14, w ∈ wsX3_confirmed := fun w h => List.mem_cons_of_mem _ (List.mem_append_left _ (List.mem_append_right _ h))
  have inX1 : ∀ w ∈ u_ws RX1 TX1 3, w ∈ wsX3_confirmed := fun w h => List.mem_cons_of_mem _ (List.mem_append_right _ h)
  refine lv_aload_n hx hb dX3_confirmed_0 rfl (lv_at hl 0 rfl) ?_
  refine m_get hx hb hts inX3 hown hK hP (ci := 3) rfl (k := k) (by omega) h1 4 (by decide) (hts (.fieldLink RX3 37 "RollbackPair$Peer" "own" "LRollbackPair$Inputs;") (by decide +kernel)) rfl dX3_confirmed_1 ?_
  refine m_get hx hb hts inX1 hown hK hP (ci := 1) rfl (k := (k + 54)) (by omega) h2 1 (by decide) (hts (.fieldLink RX3 58 "RollbackPair$Inputs" "count" "I") (by decide +kernel)) rfl dX3_confirmed_4 ?_
  refine lv_aload_n hx hb dX3_confirmed_7 rfl (lv_at hl 0 rfl) ?_
  refine m_get hx hb hts inX3 hown hK hP (ci := 3) rfl (k := k) (by omega) h1 5 (by decide) (hts (.fieldLink RX3 41 "RollbackPair$Peer" "others" "LRollbackPair$Inputs;") (by decide +kernel)) rfl dX3_confirmed_8 ?_
  refine m_get hx hb hts inX1 hown hK hP (ci := 1) rfl (k := (k + 56)) (by omega) h4 2 (by decide) (hts (.fieldLink RX3 61 "RollbackPair$Inputs" "ended" "Z") (by decide +kernel)) rfl dX3_confirmed_11 ?_
  refine lv_if_eq (tgt := 24) hx hb dX3_confirmed_14 (by decide) (fun c1 => ?_) (fun c1 => ?_)
  · refine lv_aload_n hx hb dX3_confirmed_24 rfl (lv_at hl 0 rfl) ?_
    refine m_get hx hb hts inX3 hown hK hP (ci := 3) rfl (k := k) (by omega) h1 5 (by decide) (hts (.fieldLink RX3 41 "RollbackPair$Peer" "others" "LRollbackPair$Inputs;") (by decide +kernel)) rfl dX3_confirmed_25 ?_
    refine m_get hx hb hts inX1 hown hK hP (ci := 1) rfl (k := (k + 56)) (by omega) h4 1 (by decide) (hts (.fieldLink RX3 58 "RollbackPair$Inputs" "count" "I") (by decide +kernel)) rfl dX3_confirmed_28 ?_
    refine va_mmin hx hb (hml.trans hl.1.symm) hown (hts (.methodLink RX3 65 Lib.Math.min.name) (by decide +kernel)) (hts (.static Lib.Math.min.name) (by decide +kernel)) (hts (.initialized "java/lang/Math") (by decide +kernel)) (hts (.code Lib.Math.min.name Lib.Math.min.code 2 (some .int)) (by decide +kernel)) (Nat.le_of_ble_eq_true rfl) (Nat.le_of_ble_eq_true rfl) (Nat.zero_le _) (Nat.zero_le _) dX3_confirmed_31 ?_
    refine n_val (min_nn (by omega) (by omega)) ?_
    refine lv_istore_n (lv' := [(1, .int (nI (min no nt))), (0, .ref (ad k))]) hx hb dX3_confirmed_34 rfl hl (by decide) rfl (fun ls hl => ?_)
    refine lv_aload_n hx hb dX3_confirmed_35 rfl (lv_at hl 1 rfl) ?_
    refine m_get hx hb hts inX3 hown hK hP (ci := 3) rfl (k := k) (by omega) h1 7 (by decide) (hts (.fieldLink RX3 51 "RollbackPair$Peer" "at" "I") (by decide +kernel)) rfl dX3_confirmed_36 ?_
    refine lv_iload_n hx hb dX3_confirmed_39 rfl (lv_at hl 0 rfl) ?_
    refine va_mmin hx hb (hml.trans hl.1.symm) hown (hts (.methodLink RX3 65 Lib.Math.min.name) (by decide +kernel)) (hts (.static Lib.Math.min.name) (by decide +kernel)) (hts (.initialized "java/lang/Math") (by decide +kernel)) (hts (.code Lib.Math.min.name Lib.Math.min.code 2 (some .int)) (by decide +kernel)) (Nat.le_of_ble_eq_true rfl) (Nat.le_of_ble_eq_true rfl) (Nat.zero_le _) (Nat.zero_le _) dX3_confirmed_40 ?_
    refine n_val (min_nn (by omega) (by omega)) ?_
    exact r_i hx hb hr hlocks hK hP hS dX3_confirmed_43 ⟨rfl, by rw [if_pos c1]⟩
  · refine lv_aload_n hx hb dX3_confirmed_17 rfl (lv_at hl 0 rfl) ?_
    refine m_get hx hb hts inX3 hown hK hP (ci := 3) rfl (k := k) (by omega) h1 7 (by decide) (hts (.fieldLink RX3 51 "RollbackPair$Peer" "at" "I") (by decide +kernel)) rfl dX3_confirmed_18 ?_
    refine lv_goto (tgt := 31) hx hb dX3_confirmed_21 (by decide) ?_
    refine va_mmin hx hb (hml.trans hl.1.symm) hown (hts (.methodLink RX3 65 Lib.Math.min.name) (by decide +kernel)) (hts (.static Lib.Math.min.name) (by decide +kernel)) (hts (.initialized "java/lang/Math") (by decide +kernel)) (hts (.code Lib.Math.min.name Lib.Math.min.code 2 (some .int)) (by decide +kernel)) (Nat.le_of_ble_eq_true rfl) (Nat.le_of_ble_eq_true rfl) (Nat.zero_le _) (Nat.zero_le _) dX3_confirmed_31 ?_
    refine n_val (min_nn (by omega) (by omega)) ?_
    refine lv_istore_n (lv' := [(1, .int (nI (min no a))), (0, .ref (ad k))]) hx hb dX3_confirmed_34 rfl hl (by decide) rfl (fun ls hl => ?_)
    refine lv_aload_n hx hb dX3_confirmed_35 rfl (lv_at hl 1 rfl) ?_
    refine m_get hx hb hts inX3 hown hK hP (ci := 3) rfl (k := k) (by omega) h1 7 (by decide) (hts (.fieldLink RX3 51 "RollbackPair$Peer" "at" "I") (by decide +kernel)) rfl dX3_confirmed_36 ?_
    refine lv_iload_n hx hb dX3_confirmed_39 rfl (lv_at hl 0 rfl) ?_
    refine va_mmin hx hb (hml.trans hl.1.symm) hown (hts (.methodLink RX3 65 Lib.Math.min.name) (by decide +kernel)) (hts (.static Lib.Math.min.name) (by decide +kernel)) (hts (.initialized "java/lang/Math") (by decide +kernel)) (hts (.code Lib.Math.min.name Lib.Math.min.code 2 (some .int)) (by decide +kernel)) (Nat.le_of_ble_eq_true rfl) (Nat.le_of_ble_eq_true rfl) (Nat.zero_le _) (Nat.zero_le _) dX3_confirmed_40 ?_
    refine n_val (min_nn (by omega) (by omega)) ?_
    exact r_i hx hb hr hlocks hK hP hS dX3_confirmed_43 ⟨rfl, by rw [if_neg c1]⟩
set_option maxHeartbeats 4000000 in
set_option maxRecDepth 100000 in
/-- Peer.firstWrong(f0) -/
theorem c_firstWrong (l : Launch) (D : va_G) (cs : Nat → ClassId) (ad : Nat → Nat) (n : Nat) (hJ : Inj ad n) (M : Nat → va_E) (k r1 r2 q ww a : Nat) (st to nn ln ht : Int32) (le : UInt32) (hk : k + 58 ≤ n) (hq : q < 2) (ha : a ≤ 580) (h1 : M k = oPe ad k r1 r2 q ww a st to nn ln ht le) (no nt : Nat) (ed : Int32) (gO gT : Nat → Int32) (hno : no ≤ 600) (hnt : nt ≤ 600) (h2 : M (k + 54) = oIn ad (k + 55) no 0) (h3 : M (k + 55) = eB cs 1024 gO) (h4 : M (k + 56) = oIn ad (k + 57) nt ed) (h5 : M (k + 57) = eB cs 32 gT) (X V : Nat → Nat → UInt32) (hh : Nat → Int32) (wk : Nat → UInt64) (U : Nat → Nat → Int32) (hH : HiA ad cs (k + 1) M X V hh wk U) (S : SS) (f0 : Nat) (hU : ∀ f, f < a → f0 ≤ f → U (1 - q) (f % 16) = S.1 11 (1200 * q + 600 * (1 - q) + f)) (hT : ∀ f, f0 ≤ f → f < a → inU 32 nt gT ed f = mUse S q (1 - q) f) (hf0 : a ≤ f0 + 15) (hfa : f0 ≤ a) : CTi l yX3_firstWrong wsX3_firstWrong ({ frames := 1, cells := 0, slots := 0, locals := 23 }) D cs ad n M [.ref (ad k), .int (nI f0)] (fun r M2 => M2 = M ∧ r = nI (mFw S q (a - f0) f0)) := by
  refine Met.ofW (cc := cX3_firstWrong) (maxL := 3) (ret := (some .int)) (by decide) rfl ?_
  intro p e s m args below meth c s₁ B hml hv
  obtain ⟨rfl, hP, hK⟩ := hv
  have hx := B.exec
  have hb := B.bytes
  have hr := B.returns
  have hts := atoms_spec (ws := wsX3_firstWrong) B.pre
  have hown : s.vm.findClass RX3 = some m.cls := findClass_of_methodNamed B.named
  have hlocks := B.notSynchronized
  have hS : va_S (Ad ad n) s.heap s.heap [] := va_S.rf
  have hl := lv_entry ([.ref (ad k), .int (nI f0)]) (n := 3) (Nat.le_of_ble_eq_true rfl)
  rw [lg_entry_eq]
  generalize (lg_sl ([.ref (ad k), .int (nI f0)]) ++ List.replicate (3 - (lg_sl ([.ref (ad k), .int (nI f0)])).length) Slot.unset).toArray = ls at hl ⊢
  have hl : lv_has ls 3 [(0, .ref (ad k)), (1, .int (nI f0))] := hl
  have inX3 : ∀ w ∈ u_ws RX3 TX3 14, w ∈ wsX3_firstWrong := fun w h => List.mem_cons_of_mem _ (List.mem_append_left _ (List.mem_append_left _ (List.mem_append_right _ h)))
  have inX0 : ∀ w ∈ u_ws RX0 TX0 2, w ∈ wsX3_firstWrong := fun w h => List.mem_cons_of_mem _ (List.mem_append_left _ (List.mem_append_right _ h))
  have inX1 : ∀ w ∈ u_ws RX1 TX1 3, w ∈ wsX3_firstWrong := fun w h => List.mem_cons_of_mem _ (List.mem_append_right _ h)
  obtain ⟨y1, ⟨g, y2, hg⟩, ⟨g2, y3, hg0, hg1⟩, y4, y5, hst⟩ := id hH
  generalize hG : mFw S q (a - f0) f0 = G
  refine lv_iload_n hx hb dX3_firstWrong_0 rfl (lv_at hl 1 rfl) ?_
  refine lv_istore_n (lv' := [(2, .int (nI f0)), (0, .ref (ad k)), (1, .int (nI f0))]) hx hb dX3_firstWrong_1 rfl hl (by decide) rfl (fun ls hl => ?_)
  refine lpW (fun y (f : Nat) ls H locs => f0 ≤ f ∧ f ≤ a ∧ y = a - f ∧ mFw S q (a - f) f = G ∧ lv_has ls 3 [(2, .int (nI f)), (0, .ref (ad k))] ∧ va_P D vwCl (sg ad n M) H ∧ va_S (Ad ad n) s.heap H locs) 2 (fun _ => []) (fun y f ls H locs hC ih => ?_) (a - f0) f0 ls _ _ ⟨Nat.le_refl _, hfa, rfl, hG, lv_sub hl [0, 1] rfl, hP, hS⟩
  obtain ⟨i1, i2, i3, i4, hl, hP, hS⟩ := hC
  refine lv_iload_n hx hb dX3_firstWrong_2 rfl (lv_at hl 0 rfl) ?_
  refine lv_aload_n hx hb dX3_firstWrong_3 rfl (lv_at hl 1 rfl) ?_
  refine m_get hx hb hts inX3 hown hK hP (ci := 3) rfl (k := k) (by omega) h1 7 (by decide) (hts (.fieldLink RX3 51 "RollbackPair$Peer" "at" "I") (by decide +kernel)) rfl dX3_firstWrong_4 ?_
  refine n_cmp_ge (tgt := 47) hx hb dX3_firstWrong_7 (by decide) (by omega) (by omega) (fun c1 => ?_) (fun c1 => ?_)
  · refine lv_aload_n hx hb dX3_firstWrong_47 rfl (lv_at hl 1 rfl) ?_
    refine m_get hx hb hts inX3 hown hK hP (ci := 3) rfl (k := k) (by omega) h1 7 (by decide) (hts (.fieldLink RX3 51 "RollbackPair$Peer" "at" "I") (by decide +kernel)) rfl dX3_firstWrong_48 ?_
    exact r_i hx hb hr hlocks hK hP hS dX3_firstWrong_51 ⟨rfl, by rw [← i4, show a - f = 0 by omega]; show nI a = nI f; congr 1; omega⟩
  · refine lv_aload_n hx hb dX3_firstWrong_10 rfl (lv_at hl 1 rfl) ?_
    refine m_get hx hb hts inX3 hown hK hP (ci := 3) rfl (k := k) (by omega) h1 6 (by decide) (hts (.fieldLink RX3 12 "RollbackPair$Peer" "history" "LRollbackPair$History;") (by decide +kernel)) rfl dX3_firstWrong_11 ?_
    refine lv_iconst (v := nI 1) hx hb dX3_firstWrong_14 (by decide) ?_
    refine lv_aload_n hx hb dX3_firstWrong_15 rfl (lv_at hl 1 rfl) ?_
    refine m_get hx hb hts inX3 hown hK hP (ci := 3) rfl (k := k) (by omega) h1 0 (by decide) (hts (.fieldLink RX3 18 "RollbackPair$Peer" "player" "I") (by decide +kernel)) rfl dX3_firstWrong_16 ?_
    refine n_sub hx hb (by omega) dX3_firstWrong_19 ?_
    refine lv_iload_n hx hb dX3_firstWrong_20 rfl (lv_at hl 0 rfl) ?_
    refine lv_aload_n hx hb dX3_firstWrong_21 rfl (lv_at hl 1 rfl) ?_
    refine m_get hx hb hts inX3 hown hK hP (ci := 3) rfl (k := k) (by omega) h1 7 (by decide) (hts (.fieldLink RX3 51 "RollbackPair$Peer" "at" "I") (by decide +kernel)) rfl dX3_firstWrong_22 ?_
    refine k_Vi (As := [.int (nI (1 - q)), .int (nI f), .int (nI a)]) (rest := []) (k := (k + 1)) (ci := 0) ⟨hx, hb, hml, hown, hts⟩ hK hP hS Ad_le (c_inputPlayed l D cs ad n hJ M (k + 1) X V hh wk U (by omega) hH (1 - q) a (nI f) (by omega) (by omega)) (cwV 3 hts gX3_firstWrong_X0_inputPlayed rfl rfl rfl (by decide +kernel) ⟨Nat.le_of_ble_eq_true rfl, Nat.le_of_ble_eq_true rfl⟩) (by omega) y1 rfl rfl rfl hl.1 (Nat.le_of_ble_eq_true rfl) dX3_firstWrong_25 ⟨Nat.le_of_ble_eq_true rfl, Nat.le_of_ble_eq_true rfl⟩ (fun r_1 M1 H locs hpo hP hS _ _ => ?_)
    obtain ⟨hMe, rfl⟩ := hpo
    rw [hMe] at hP
    refine n_val (show hiU U (1 - q) (nI f) a = S.1 11 (1200 * q + 600 * (1 - q) + f) from by unfold hiU; rw [tn_nI (by omega), if_pos ⟨nI_pos (by omega), by omega, by omega⟩]; exact hU f (by omega) (by omega)) ?_
    refine lv_aload_n hx hb dX3_firstWrong_28 rfl (lv_at hl 1 rfl) ?_
    refine m_get hx hb hts inX3 hown hK hP (ci := 3) rfl (k := k) (by omega) h1 5 (by decide) (hts (.fieldLink RX3 41 "RollbackPair$Peer" "others" "LRollbackPair$Inputs;") (by decide +kernel)) rfl dX3_firstWrong_29 ?_
    refine lv_iload_n hx hb dX3_firstWrong_32 rfl (lv_at hl 0 rfl) ?_
    refine k_Vi (As := [.int (nI f)]) (rest := [.int (S.1 11 (1200 * q + 600 * (1 - q) + f))]) (k := (k + 56)) (ci := 1) ⟨hx, hb, hml, hown, hts⟩ hK hP hS Ad_le (c_use l D cs ad n hJ M (k + 56) (k + 57) 32 5 nt gT ed (by omega) (by omega) (by omega) rfl (by decide) (by omega) h4 h5 f (by omega)) (cwV 1 hts gX3_firstWrong_X1_use rfl rfl rfl (by decide +kernel) ⟨Nat.le_of_ble_eq_true rfl, Nat.le_of_ble_eq_true rfl⟩) (by omega) h4 rfl rfl rfl hl.1 (Nat.le_of_ble_eq_true rfl) dX3_firstWrong_33 ⟨Nat.le_of_ble_eq_true rfl, Nat.le_of_ble_eq_true rfl⟩ (fun r_2 M1 H locs hpo hP hS _ _ => ?_)
    obtain ⟨hMe, rfl⟩ := hpo
    rw [hMe] at hP
    refine n_val (hT f (by omega) (by omega)) ?_
    refine lv_icmp_eq (tgt := 41) hx hb dX3_firstWrong_36 (by decide) (fun c2 => ?_) (fun c2 => ?_)
    · refine lv_iinc (v := nI (f + 1)) (lv' := [(2, .int (nI (f + 1))), (0, .ref (ad k))]) hx hb dX3_firstWrong_41 hl (k := 0) rfl (nI_1 _) (by decide) rfl (fun ls hl => ?_)
      refine lv_goto (tgt := 2) hx hb dX3_firstWrong_44 (by decide) ?_
      exact ih (a - (f + 1)) (by omega) (f + 1) ls H locs ⟨by omega, by omega, rfl, by rw [← i4, show a - f = (a - (f + 1)) + 1 by omega, mFw_s, if_pos c2], lv_sub hl [0, 1] rfl, hP, hS⟩
    · refine lv_iload_n hx hb dX3_firstWrong_39 rfl (lv_at hl 0 rfl) ?_
      exact r_i hx hb hr hlocks hK hP hS dX3_firstWrong_40 ⟨rfl, by rw [← i4, show a - f = (a - (f + 1)) + 1 by omega, mFw_s, if_neg c2]⟩
set_option maxHeartbeats 4000000 in
set_option maxRecDepth 100000 in
/-- Peer.firstWrong(f0), beyond -/
theorem c_firstWrong_gt (l : Launch) (D : va_G) (cs : Nat → ClassId) (ad : Nat → Nat) (n : Nat) (hJ : Inj ad n) (M : Nat → va_E) (k r1 r2 q ww a : Nat) (st to nn ln ht : Int32) (le : UInt32) (hk : k + 58 ≤ n) (hq : q < 2) (ha : a ≤ 580) (h1 : M k = oPe ad k r1 r2 q ww a st to nn ln ht le) (f0 : Nat) (hf0 : f0 ≤ 1000) (hfa : a ≤ f0) : CTi l yX3_firstWrong wsX3_firstWrong ({ frames := 1, cells := 0, slots := 0, locals := 23 }) D cs ad n M [.ref (ad k), .int (nI f0)] (fun r M2 => M2 = M ∧ r = nI a) := by
  refine Met.ofW (cc := cX3_firstWrong) (maxL := 3) (ret := (some .int)) (by decide) rfl ?_
  intro p e s m args below meth c s₁ B hml hv
  obtain ⟨rfl, hP, hK⟩ := hv
  have hx := B.exec
  have hb := B.bytes
  have hr := B.returns
  have hts := atoms_spec (ws := wsX3_firstWrong) B.pre
  have hown : s.vm.findClass RX3 = some m.cls := findClass_of_methodNamed B.named
  have hlocks := B.notSynchronized
  have hS : va_S (Ad ad n) s.heap s.heap [] := va_S.rf
  have hl := lv_entry ([.ref (ad k), .int (nI f0)]) (n := 3) (Nat.le_of_ble_eq_true rfl)
  rw [lg_entry_eq]
  generalize (lg_sl ([.ref (ad k), .int (nI f0)]) ++ List.replicate (3 - (lg_sl ([.ref (ad k), .int (nI f0)])).length) Slot.unset).toArray = ls at hl ⊢
  have hl : lv_has ls 3 [(0, .ref (ad k)), (1, .int (nI f0))] := hl
  have inX3 : ∀ w ∈ u_ws RX3 TX3 14, w ∈ wsX3_firstWrong := fun w h => List.mem_cons_of_mem _ (List.mem_append_left _ (List.mem_append_left _ (List.mem_append_right _ h)))
  refine lv_iload_n hx hb dX3_firstWrong_0 rfl (lv_at hl 1 rfl) ?_
  refine lv_istore_n (lv' := [(2, .int (nI f0)), (0, .ref (ad k)), (1, .int (nI f0))]) hx hb dX3_firstWrong_1 rfl hl (by decide) rfl (fun ls hl => ?_)
  refine lv_iload_n hx hb dX3_firstWrong_2 rfl (lv_at hl 0 rfl) ?_
  refine lv_aload_n hx hb dX3_firstWrong_3 rfl (lv_at hl 1 rfl) ?_
  refine m_get hx hb hts inX3 hown hK hP (ci := 3) rfl (k := k) (by omega) h1 7 (by decide) (hts (.fieldLink RX3 51 "RollbackPair$Peer" "at" "I") (by decide +kernel)) rfl dX3_firstWrong_4 ?_
  refine n_cmp_ge (tgt := 47) hx hb dX3_firstWrong_7 (by decide) (by omega) (by omega) (fun c1 => ?_) (fun c1 => absurd c1 (by omega))
  refine lv_aload_n hx hb dX3_firstWrong_47 rfl (lv_at hl 1 rfl) ?_
  refine m_get hx hb hts inX3 hown hK hP (ci := 3) rfl (k := k) (by omega) h1 7 (by decide) (hts (.fieldLink RX3 51 "RollbackPair$Peer" "at" "I") (by decide +kernel)) rfl dX3_firstWrong_48 ?_
  exact r_i hx hb hr hlocks hK hP hS dX3_firstWrong_51 ⟨rfl, rfl⟩
set_option maxHeartbeats 4000000 in
set_option maxRecDepth 100000 in
/-- Peer.playFrames(f0, f1) -/
theorem c_playFrames (l : Launch) (D : va_G) (cs : Nat → ClassId) (ad : Nat → Nat) (n : Nat) (hJ : Inj ad n) (M : Nat → va_E) (k r1 r2 q ww a : Nat) (st to nn ln ht : Int32) (le : UInt32) (hk : k + 58 ≤ n) (hq : q < 2) (ha : a ≤ 580) (h1 : M k = oPe ad k r1 r2 q ww a st to nn ln ht le) (no nt : Nat) (ed : Int32) (gO gT : Nat → Int32) (hno : no ≤ 600) (hnt : nt ≤ 600) (h2 : M (k + 54) = oIn ad (k + 55) no 0) (h3 : M (k + 55) = eB cs 1024 gO) (h4 : M (k + 56) = oIn ad (k + 57) nt ed) (h5 : M (k + 57) = eB cs 32 gT) (X V : Nat → Nat → UInt32) (hh : Nat → Int32) (wk : Nat → UInt64) (U : Nat → Nat → Int32) (hH : HiA ad cs (k + 1) M X V hh wk U) (S : SS) (f0 f1 lo hi : Nat) (hR : HR S q lo hi X V hh wk U) (hlo : lo ≤ f0) (hf0 : f0 ≤ hi) (hf1 : f1 ≤ hi + 1) (hw : hi ≤ lo + 15) (hhi : hi < 580) (hO : ∀ f, f0 ≤ f → f < f1 → inU 1024 no gO 0 f = mUse S q q f) (hT : ∀ f, f0 ≤ f → f < f1 → inU 32 nt gT ed f = mUse S q (1 - q) f) (hj : ∀ pl f, pl < 2 → f0 ≤ f → f < f1 → ∃ j, j < 8 ∧ mUse S q pl f = nI j) (hB : BdAt S q f0) : CTv l yX3_playFrames wsX3_playFrames ({ frames := 3, cells := 0, slots := 0, locals := 76 }) D cs ad n M [.ref (ad k), .int (nI f0), .int (nI f1)] (fun M2 => ∃ X2 V2 hh2 wk2 U2, HiA ad cs (k + 1) M2 X2 V2 hh2 wk2 U2 ∧ HR (mPlays S q (f1 - f0) f0) q (max lo (f1 - 15)) (max hi f1) X2 V2 hh2 wk2 U2 ∧ ∀ j, (j < k + 1 ∨ k + 54 ≤ j) → M2 j = M j) := by
  refine Met.ofW (cc := cX3_playFrames) (maxL := 4) (ret := none) (by decide) rfl ?_
  intro p e s m args below meth c s₁ B hml hv
  obtain ⟨rfl, hP, hK⟩ := hv
  have hx := B.exec
  have hb := B.bytes
  have hr := B.returns
  have hts := atoms_spec (ws := wsX3_playFrames) B.pre
  have hown : s.vm.findClass RX3 = some m.cls := findClass_of_methodNamed B.named
  have hlocks := B.notSynchronized
  have hS : va_S (Ad ad n) s.heap s.heap [] := va_S.rf
  have hl := lv_entry ([.ref (ad k), .int (nI f0), .int (nI f1)]) (n := 4) (Nat.le_of_ble_eq_true rfl)
  rw [lg_entry_eq]
  generalize (lg_sl ([.ref (ad k), .int (nI f0), .int (nI f1)]) ++ List.replicate (4 - (lg_sl ([.ref (ad k), .int (nI f0), .int (nI f1)])).length) Slot.unset).toArray = ls at hl ⊢
  have hl : lv_has ls 4 [(0, .ref (ad k)), (1, .int (nI f0)), (2, .int (nI f1))] := hl
  have inX3 : ∀ w ∈ u_ws RX3 TX3 14, w ∈ wsX3_playFrames := fun w h => List.mem_cons_of_mem _ (List.mem_append_left _ (List.mem_append_left _ (List.mem_append_left _ (List.mem_append_right _ h))))
  have inX0 : ∀ w ∈ u_ws RX0 TX0 2, w ∈ wsX3_playFrames := fun w h => List.mem_cons_of_mem _ (List.mem_append_left _ (List.mem_append_right _ h))
  have inX1 : ∀ w ∈ u_ws RX1 TX1 3, w ∈ wsX3_playFrames := fun w h => List.mem_cons_of_mem _ (List.mem_append_left _ (List.mem_append_left _ (List.mem_append_right _ h)))
  rcases (show q = 0 ∨ q = 1 by omega) with rfl | rfl
  · refine lv_iload_n hx hb dX3_playFrames_0 rfl (lv_at hl 1 rfl) ?_
    refine lv_istore_n (lv' := [(3, .int (nI f0)), (0, .ref (ad k)), (1, .int (nI f0)), (2, .int (nI f1))]) hx hb dX3_playFrames_1 rfl hl (by decide) rfl (fun ls hl => ?_)
    refine lpW (fun y (x : Nat × SS × (Nat → va_E) × (Nat → Nat → UInt32) × (Nat → Nat → UInt32) × (Nat → Int32) × (Nat → UInt64) × (Nat → Nat → Int32)) ls H locs => f0 ≤ x.1 ∧ (x.1 ≤ f1 ∨ x.1 = f0) ∧ y = f1 - x.1 ∧ mPlays x.2.1 0 (f1 - x.1) x.1 = mPlays S 0 (f1 - f0) f0 ∧ (x.2.1.1 10 = S.1 10 ∧ x.2.1.1 12 = S.1 12 ∧ x.2.1.1 4 = S.1 4) ∧ BdAt x.2.1 0 x.1 ∧ HiA ad cs (k + 1) x.2.2.1 x.2.2.2.1 x.2.2.2.2.1 x.2.2.2.2.2.1 x.2.2.2.2.2.2.1 x.2.2.2.2.2.2.2 ∧ HR x.2.1 0 (max lo (x.1 - 15)) (max hi x.1) x.2.2.2.1 x.2.2.2.2.1 x.2.2.2.2.2.1 x.2.2.2.2.2.2.1 x.2.2.2.2.2.2.2 ∧ (∀ j, (j < k + 1 ∨ k + 54 ≤ j) → x.2.2.1 j = M j) ∧ lv_has ls 4 [(3, .int (nI x.1)), (0, .ref (ad k)), (2, .int (nI f1))] ∧ va_P D vwCl (sg ad n x.2.2.1) H ∧ va_S (Ad ad n) s.heap H locs) 2 (fun _ => []) (fun y x ls H locs hC ih => ?_) (f1 - f0) (f0, S, M, X, V, hh, wk, U) ls _ _ ⟨Nat.le_refl _, Or.inr rfl, rfl, rfl, ⟨rfl, rfl, rfl⟩, hB, hH, by show HR S 0 (max lo (f0 - 15)) (max hi f0) X V hh wk U; rw [show max lo (f0 - 15) = lo by omega, show max hi f0 = hi by omega]; exact hR, fun _ _ => rfl, lv_sub hl [0, 1, 3] rfl, hP, hS⟩
    obtain ⟨f, Sf, Mf, Xf, Vf, hf, wf, Uf⟩ := x
    obtain ⟨i1, i2, i3, i4, ⟨i5, i6, i7⟩, i8, i9, i10, i11, hl, hP, hS⟩ := hC
    dsimp only at i1 i2 i3 i4 i5 i6 i7 i8 i9 i10 i11 hl hP hS ih ⊢
    have f1_ : Mf k = oPe ad k r1 r2 0 ww a st to nn ln ht le := (i11 _ (by omega)).trans h1
    have f2_ : Mf (k + 54) = oIn ad (k + 55) no 0 := (i11 _ (by omega)).trans h2
    have f3_ : Mf (k + 55) = eB cs 1024 gO := (i11 _ (by omega)).trans h3
    have f4_ : Mf (k + 56) = oIn ad (k + 57) nt ed := (i11 _ (by omega)).trans h4
    have f5_ : Mf (k + 57) = eB cs 32 gT := (i11 _ (by omega)).trans h5
    have f6_ := i9.1
    refine lv_iload_n hx hb dX3_playFrames_2 rfl (lv_at hl 0 rfl) ?_
    refine lv_iload_n hx hb dX3_playFrames_3 rfl (lv_at hl 2 rfl) ?_
    refine n_cmp_ge (tgt := 39) hx hb dX3_playFrames_4 (by decide) (by omega) (by omega) (fun c1 => ?_) (fun c1 => ?_)
    · refine r_v hx hb hr hlocks hK hP hS dX3_playFrames_39 ⟨Xf, Vf, hf, wf, Uf, i9, ?_, i11⟩
      rw [← i4, show f1 - f = 0 by omega, show max lo (f1 - 15) = max lo (f - 15) by omega, show max hi f1 = max hi f by omega]
      exact i10
    · obtain ⟨j0, hj0, v0⟩ := hj 0 f (by decide) i1 c1
      obtain ⟨j1, hj1, v1⟩ := hj 1 f (by decide) i1 c1
      have u0 : mUse Sf 0 0 f = nI j0 := (mUse_c i5 i6 i7 0 0 f).trans v0
      have u1 : mUse Sf 0 1 f = nI j1 := (mUse_c i5 i6 i7 0 1 f).trans v1
      obtain ⟨z1, z2, z3, z4, z5, z6⟩ := i10.1 f (by omega) (by omega)
      have hBf : Bd (Xf (f % 16) 0) (Vf (f % 16) 0) (Xf (f % 16) 1) (Vf (f % 16) 1) (wf (f % 16)) f := by rw [z1, z2, z3, z4, z6]; exact i8
      have w0 := (hO f i1 c1).trans v0
      have w1 := (hT f i1 c1).trans v1
      refine lv_aload_n hx hb dX3_playFrames_7 rfl (lv_at hl 1 rfl) ?_
      refine m_get hx hb hts inX3 hown hK hP (ci := 3) rfl (k := k) (by omega) f1_ 6 (by decide) (hts (.fieldLink RX3 12 "RollbackPair$Peer" "history" "LRollbackPair$History;") (by decide +kernel)) rfl dX3_playFrames_8 ?_
      refine lv_iload_n hx hb dX3_playFrames_11 rfl (lv_at hl 0 rfl) ?_
      refine lv_aload_n hx hb dX3_playFrames_12 rfl (lv_at hl 1 rfl) ?_
      refine lv_iconst (v := nI 0) hx hb dX3_playFrames_13 (by decide) ?_
      refine k_Vq (As := [.int (nI 0)]) (rest := [.int (nI f), .ref (ad (k + 1))]) (k := k) (ci := 3) ⟨hx, hb, hml, hown, hts⟩ hK hP hS Ad_le (c_inputsOf l D cs ad n hJ Mf k r1 r2 0 ww a st to nn ln ht le hk hq ha f1_ 0 (by decide)) (cwV 1 hts gX3_playFrames_X3_inputsOf rfl rfl rfl (by decide +kernel) ⟨Nat.le_of_ble_eq_true rfl, Nat.le_of_ble_eq_true rfl⟩) (by omega) f1_ rfl rfl rfl hl.1 (Nat.le_of_ble_eq_true rfl) dX3_playFrames_14 ⟨Nat.le_of_ble_eq_true rfl, Nat.le_of_ble_eq_true rfl⟩ (fun r_1 M1 H locs hpo hP hS _ _ => ?_)
      obtain ⟨hMe, rfl⟩ := hpo
      rw [hMe] at hP
      refine lv_iload_n hx hb dX3_playFrames_17 rfl (lv_at hl 0 rfl) ?_
      refine k_Vi (As := [.int (nI f)]) (rest := [.int (nI f), .ref (ad (k + 1))]) (k := (k + 54)) (ci := 1) ⟨hx, hb, hml, hown, hts⟩ hK hP hS Ad_le (c_use l D cs ad n hJ Mf (k + 54) (k + 55) 1024 10 no gO 0 (by omega) (by omega) (by omega) rfl (by decide) (by omega) f2_ f3_ f (by omega)) (cwV 1 hts gX3_playFrames_X1_use rfl rfl rfl (by decide +kernel) ⟨Nat.le_of_ble_eq_true rfl, Nat.le_of_ble_eq_true rfl⟩) (by omega) f2_ rfl rfl rfl hl.1 (Nat.le_of_ble_eq_true rfl) dX3_playFrames_18 ⟨Nat.le_of_ble_eq_true rfl, Nat.le_of_ble_eq_true rfl⟩ (fun r_2 M1 H locs hpo hP hS _ _ => ?_)
      obtain ⟨hMe, rfl⟩ := hpo
      rw [hMe] at hP
      refine n_val w0 ?_
      refine lv_aload_n hx hb dX3_playFrames_21 rfl (lv_at hl 1 rfl) ?_
      refine lv_iconst (v := nI 1) hx hb dX3_playFrames_22 (by decide) ?_
      refine k_Vq (As := [.int (nI 1)]) (rest := [.int (nI j0), .int (nI f), .ref (ad (k + 1))]) (k := k) (ci := 3) ⟨hx, hb, hml, hown, hts⟩ hK hP hS Ad_le (c_inputsOf l D cs ad n hJ Mf k r1 r2 0 ww a st to nn ln ht le hk hq ha f1_ 1 (by decide)) (cwV 1 hts gX3_playFrames_X3_inputsOf rfl rfl rfl (by decide +kernel) ⟨Nat.le_of_ble_eq_true rfl, Nat.le_of_ble_eq_true rfl⟩) (by omega) f1_ rfl rfl rfl hl.1 (Nat.le_of_ble_eq_true rfl) dX3_playFrames_23 ⟨Nat.le_of_ble_eq_true rfl, Nat.le_of_ble_eq_true rfl⟩ (fun r_3 M1 H locs hpo hP hS _ _ => ?_)
      obtain ⟨hMe, rfl⟩ := hpo
      rw [hMe] at hP
      refine lv_iload_n hx hb dX3_playFrames_26 rfl (lv_at hl 0 rfl) ?_
      refine k_Vi (As := [.int (nI f)]) (rest := [.int (nI j0), .int (nI f), .ref (ad (k + 1))]) (k := (k + 56)) (ci := 1) ⟨hx, hb, hml, hown, hts⟩ hK hP hS Ad_le (c_use l D cs ad n hJ Mf (k + 56) (k + 57) 32 5 nt gT ed (by omega) (by omega) (by omega) rfl (by decide) (by omega) f4_ f5_ f (by omega)) (cwV 1 hts gX3_playFrames_X1_use rfl rfl rfl (by decide +kernel) ⟨Nat.le_of_ble_eq_true rfl, Nat.le_of_ble_eq_true rfl⟩) (by omega) f4_ rfl rfl rfl hl.1 (Nat.le_of_ble_eq_true rfl) dX3_playFrames_27 ⟨Nat.le_of_ble_eq_true rfl, Nat.le_of_ble_eq_true rfl⟩ (fun r_4 M1 H locs hpo hP hS _ _ => ?_)
      obtain ⟨hMe, rfl⟩ := hpo
      rw [hMe] at hP
      refine n_val w1 ?_
      refine k_Vv (As := [.int (nI f), .int (nI j0), .int (nI j1)]) (rest := []) (k := (k + 1)) (ci := 0) ⟨hx, hb, hml, hown, hts⟩ hK hP hS Ad_le (c_hplay l D cs ad n hJ Mf (k + 1) Xf Vf hf wf Uf (by omega) i9 f j0 j1 f (by omega) hj0 hj1 (by omega) hBf) (cwV 3 hts gX3_playFrames_X0_play rfl rfl rfl (by decide +kernel) ⟨Nat.le_of_ble_eq_true rfl, Nat.le_of_ble_eq_true rfl⟩) (by omega) f6_ rfl rfl rfl hl.1 (Nat.le_of_ble_eq_true rfl) dX3_playFrames_30 ⟨Nat.le_of_ble_eq_true rfl, Nat.le_of_ble_eq_true rfl⟩ (fun N1 H locs hpo hP hS _ _ => ?_)
      obtain ⟨X2, V2, hh2, wk2, U2, q1, q2, q3⟩ := hpo
      refine lv_iinc (v := nI (f + 1)) (lv' := [(3, .int (nI (f + 1))), (0, .ref (ad k)), (2, .int (nI f1))]) hx hb dX3_playFrames_33 hl (k := 0) rfl (nI_1 _) (by decide) rfl (fun ls hl => ?_)
      refine lv_goto (tgt := 2) hx hb dX3_playFrames_36 (by decide) ?_
      exact ih (f1 - (f + 1)) (by omega) (f + 1, mPlay Sf 0 f, N1, X2, V2, hh2, wk2, U2) ls H locs ⟨by omega, by omega, rfl, by rw [← i4, show f1 - f = (f1 - (f + 1)) + 1 by omega]; rfl, ⟨(mPlay_k Sf 0 f (by decide)).trans i5, (mPlay_k Sf 0 f (by decide)).trans i6, (mPlay_k Sf 0 f (by decide)).trans i7⟩, mPlay_Bd (by omega) i8, q1, by show HR (mPlay Sf 0 f) 0 (max lo (f + 1 - 15)) (max hi (f + 1)) X2 V2 hh2 wk2 U2; have h9 := HR_play hq i10 q2 u0 u1 (by omega) (by omega) (by omega) (by omega); rw [show max (max lo (f - 15)) (f + 1 - 15) = max lo (f + 1 - 15) by omega, show max (max hi f) (f + 1) = max hi (f + 1) by omega] at h9; exact h9, fun j hj => (q3 j (by omega)).trans (i11 j hj), lv_sub hl [0, 1, 2] rfl, hP, hS⟩
  · refine lv_iload_n hx hb dX3_playFrames_0 rfl (lv_at hl 1 rfl) ?_
    refine lv_istore_n (lv' := [(3, .int (nI f0)), (0, .ref (ad k)), (1, .int (nI f0)), (2, .int (nI f1))]) hx hb dX3_playFrames_1 rfl hl (by decide) rfl (fun ls hl => ?_)
    refine lpW (fun y (x : Nat × SS × (Nat → va_E) × (Nat → Nat → UInt32) × (Nat → Nat → UInt32) × (Nat → Int32) × (Nat → UInt64) × (Nat → Nat → Int32)) ls H locs => f0 ≤ x.1 ∧ (x.1 ≤ f1 ∨ x.1 = f0) ∧ y = f1 - x.1 ∧ mPlays x.2.1 1 (f1 - x.1) x.1 = mPlays S 1 (f1 - f0) f0 ∧ (x.2.1.1 10 = S.1 10 ∧ x.2.1.1 12 = S.1 12 ∧ x.2.1.1 4 = S.1 4) ∧ BdAt x.2.1 1 x.1 ∧ HiA ad cs (k + 1) x.2.2.1 x.2.2.2.1 x.2.2.2.2.1 x.2.2.2.2.2.1 x.2.2.2.2.2.2.1 x.2.2.2.2.2.2.2 ∧ HR x.2.1 1 (max lo (x.1 - 15)) (max hi x.1) x.2.2.2.1 x.2.2.2.2.1 x.2.2.2.2.2.1 x.2.2.2.2.2.2.1 x.2.2.2.2.2.2.2 ∧ (∀ j, (j < k + 1 ∨ k + 54 ≤ j) → x.2.2.1 j = M j) ∧ lv_has ls 4 [(3, .int (nI x.1)), (0, .ref (ad k)), (2, .int (nI f1))] ∧ va_P D vwCl (sg ad n x.2.2.1) H ∧ va_S (Ad ad n) s.heap H locs) 2 (fun _ => []) (fun y x ls H locs hC ih => ?_) (f1 - f0) (f0, S, M, X, V, hh, wk, U) ls _ _ ⟨Nat.le_refl _, Or.inr rfl, rfl, rfl, ⟨rfl, rfl, rfl⟩, hB, hH, by show HR S 1 (max lo (f0 - 15)) (max hi f0) X V hh wk U; rw [show max lo (f0 - 15) = lo by omega, show max hi f0 = hi by omega]; exact hR, fun _ _ => rfl, lv_sub hl [0, 1, 3] rfl, hP, hS⟩
    obtain ⟨f, Sf, Mf, Xf, Vf, hf, wf, Uf⟩ := x
    obtain ⟨i1, i2, i3, i4, ⟨i5, i6, i7⟩, i8, i9, i10, i11, hl, hP, hS⟩ := hC
    dsimp only at i1 i2 i3 i4 i5 i6 i7 i8 i9 i10 i11 hl hP hS ih ⊢
    have f1_ : Mf k = oPe ad k r1 r2 1 ww a st to nn ln ht le := (i11 _ (by omega)).trans h1
    have f2_ : Mf (k + 54) = oIn ad (k + 55) no 0 := (i11 _ (by omega)).trans h2
    have f3_ : Mf (k + 55) = eB cs 1024 gO := (i11 _ (by omega)).trans h3
    have f4_ : Mf (k + 56) = oIn ad (k + 57) nt ed := (i11 _ (by omega)).trans h4
    have f5_ : Mf (k + 57) = eB cs 32 gT := (i11 _ (by omega)).trans h5
    have f6_ := i9.1
    refine lv_iload_n hx hb dX3_playFrames_2 rfl (lv_at hl 0 rfl) ?_
    refine lv_iload_n hx hb dX3_playFrames_3 rfl (lv_at hl 2 rfl) ?_
    refine n_cmp_ge (tgt := 39) hx hb dX3_playFrames_4 (by decide) (by omega) (by omega) (fun c1 => ?_) (fun c1 => ?_)
    · refine r_v hx hb hr hlocks hK hP hS dX3_playFrames_39 ⟨Xf, Vf, hf, wf, Uf, i9, ?_, i11⟩
      rw [← i4, show f1 - f = 0 by omega, show max lo (f1 - 15) = max lo (f - 15) by omega, show max hi f1 = max hi f by omega]
      exact i10
    · obtain ⟨j0, hj0, v0⟩ := hj 0 f (by decide) i1 c1
      obtain ⟨j1, hj1, v1⟩ := hj 1 f (by decide) i1 c1
      have u0 : mUse Sf 1 0 f = nI j0 := (mUse_c i5 i6 i7 1 0 f).trans v0
      have u1 : mUse Sf 1 1 f = nI j1 := (mUse_c i5 i6 i7 1 1 f).trans v1
      obtain ⟨z1, z2, z3, z4, z5, z6⟩ := i10.1 f (by omega) (by omega)
      have hBf : Bd (Xf (f % 16) 0) (Vf (f % 16) 0) (Xf (f % 16) 1) (Vf (f % 16) 1) (wf (f % 16)) f := by rw [z1, z2, z3, z4, z6]; exact i8
      have w0 := (hT f i1 c1).trans v0
      have w1 := (hO f i1 c1).trans v1
      refine lv_aload_n hx hb dX3_playFrames_7 rfl (lv_at hl 1 rfl) ?_
      refine m_get hx hb hts inX3 hown hK hP (ci := 3) rfl (k := k) (by omega) f1_ 6 (by decide) (hts (.fieldLink RX3 12 "RollbackPair$Peer" "history" "LRollbackPair$History;") (by decide +kernel)) rfl dX3_playFrames_8 ?_
      refine lv_iload_n hx hb dX3_playFrames_11 rfl (lv_at hl 0 rfl) ?_
      refine lv_aload_n hx hb dX3_playFrames_12 rfl (lv_at hl 1 rfl) ?_
      refine lv_iconst (v := nI 0) hx hb dX3_playFrames_13 (by decide) ?_
      refine k_Vq (As := [.int (nI 0)]) (rest := [.int (nI f), .ref (ad (k + 1))]) (k := k) (ci := 3) ⟨hx, hb, hml, hown, hts⟩ hK hP hS Ad_le (c_inputsOf l D cs ad n hJ Mf k r1 r2 1 ww a st to nn ln ht le hk hq ha f1_ 0 (by decide)) (cwV 1 hts gX3_playFrames_X3_inputsOf rfl rfl rfl (by decide +kernel) ⟨Nat.le_of_ble_eq_true rfl, Nat.le_of_ble_eq_true rfl⟩) (by omega) f1_ rfl rfl rfl hl.1 (Nat.le_of_ble_eq_true rfl) dX3_playFrames_14 ⟨Nat.le_of_ble_eq_true rfl, Nat.le_of_ble_eq_true rfl⟩ (fun r_1 M1 H locs hpo hP hS _ _ => ?_)
      obtain ⟨hMe, rfl⟩ := hpo
      rw [hMe] at hP
      refine lv_iload_n hx hb dX3_playFrames_17 rfl (lv_at hl 0 rfl) ?_
      refine k_Vi (As := [.int (nI f)]) (rest := [.int (nI f), .ref (ad (k + 1))]) (k := (k + 56)) (ci := 1) ⟨hx, hb, hml, hown, hts⟩ hK hP hS Ad_le (c_use l D cs ad n hJ Mf (k + 56) (k + 57) 32 5 nt gT ed (by omega) (by omega) (by omega) rfl (by decide) (by omega) f4_ f5_ f (by omega)) (cwV 1 hts gX3_playFrames_X1_use rfl rfl rfl (by decide +kernel) ⟨Nat.le_of_ble_eq_true rfl, Nat.le_of_ble_eq_true rfl⟩) (by omega) f4_ rfl rfl rfl hl.1 (Nat.le_of_ble_eq_true rfl) dX3_playFrames_18 ⟨Nat.le_of_ble_eq_true rfl, Nat.le_of_ble_eq_true rfl⟩ (fun r_2 M1 H locs hpo hP hS _ _ => ?_)
      obtain ⟨hMe, rfl⟩ := hpo
      rw [hMe] at hP
      refine n_val w0 ?_
      refine lv_aload_n hx hb dX3_playFrames_21 rfl (lv_at hl 1 rfl) ?_
      refine lv_iconst (v := nI 1) hx hb dX3_playFrames_22 (by decide) ?_
      refine k_Vq (As := [.int (nI 1)]) (rest := [.int (nI j0), .int (nI f), .ref (ad (k + 1))]) (k := k) (ci := 3) ⟨hx, hb, hml, hown, hts⟩ hK hP hS Ad_le (c_inputsOf l D cs ad n hJ Mf k r1 r2 1 ww a st to nn ln ht le hk hq ha f1_ 1 (by decide)) (cwV 1 hts gX3_playFrames_X3_inputsOf rfl rfl rfl (by decide +kernel) ⟨Nat.le_of_ble_eq_true rfl, Nat.le_of_ble_eq_true rfl⟩) (by omega) f1_ rfl rfl rfl hl.1 (Nat.le_of_ble_eq_true rfl) dX3_playFrames_23 ⟨Nat.le_of_ble_eq_true rfl, Nat.le_of_ble_eq_true rfl⟩ (fun r_3 M1 H locs hpo hP hS _ _ => ?_)
      obtain ⟨hMe, rfl⟩ := hpo
      rw [hMe] at hP
      refine lv_iload_n hx hb dX3_playFrames_26 rfl (lv_at hl 0 rfl) ?_
      refine k_Vi (As := [.int (nI f)]) (rest := [.int (nI j0), .int (nI f), .ref (ad (k + 1))]) (k := (k + 54)) (ci := 1) ⟨hx, hb, hml, hown, hts⟩ hK hP hS Ad_le (c_use l D cs ad n hJ Mf (k + 54) (k + 55) 1024 10 no gO 0 (by omega) (by omega) (by omega) rfl (by decide) (by omega) f2_ f3_ f (by omega)) (cwV 1 hts gX3_playFrames_X1_use rfl rfl rfl (by decide +kernel) ⟨Nat.le_of_ble_eq_true rfl, Nat.le_of_ble_eq_true rfl⟩) (by omega) f2_ rfl rfl rfl hl.1 (Nat.le_of_ble_eq_true rfl) dX3_playFrames_27 ⟨Nat.le_of_ble_eq_true rfl, Nat.le_of_ble_eq_true rfl⟩ (fun r_4 M1 H locs hpo hP hS _ _ => ?_)
      obtain ⟨hMe, rfl⟩ := hpo
      rw [hMe] at hP
      refine n_val w1 ?_
      refine k_Vv (As := [.int (nI f), .int (nI j0), .int (nI j1)]) (rest := []) (k := (k + 1)) (ci := 0) ⟨hx, hb, hml, hown, hts⟩ hK hP hS Ad_le (c_hplay l D cs ad n hJ Mf (k + 1) Xf Vf hf wf Uf (by omega) i9 f j0 j1 f (by omega) hj0 hj1 (by omega) hBf) (cwV 3 hts gX3_playFrames_X0_play rfl rfl rfl (by decide +kernel) ⟨Nat.le_of_ble_eq_true rfl, Nat.le_of_ble_eq_true rfl⟩) (by omega) f6_ rfl rfl rfl hl.1 (Nat.le_of_ble_eq_true rfl) dX3_playFrames_30 ⟨Nat.le_of_ble_eq_true rfl, Nat.le_of_ble_eq_true rfl⟩ (fun N1 H locs hpo hP hS _ _ => ?_)
      obtain ⟨X2, V2, hh2, wk2, U2, q1, q2, q3⟩ := hpo
      refine lv_iinc (v := nI (f + 1)) (lv' := [(3, .int (nI (f + 1))), (0, .ref (ad k)), (2, .int (nI f1))]) hx hb dX3_playFrames_33 hl (k := 0) rfl (nI_1 _) (by decide) rfl (fun ls hl => ?_)
      refine lv_goto (tgt := 2) hx hb dX3_playFrames_36 (by decide) ?_
      exact ih (f1 - (f + 1)) (by omega) (f + 1, mPlay Sf 1 f, N1, X2, V2, hh2, wk2, U2) ls H locs ⟨by omega, by omega, rfl, by rw [← i4, show f1 - f = (f1 - (f + 1)) + 1 by omega]; rfl, ⟨(mPlay_k Sf 1 f (by decide)).trans i5, (mPlay_k Sf 1 f (by decide)).trans i6, (mPlay_k Sf 1 f (by decide)).trans i7⟩, mPlay_Bd (by omega) i8, q1, by show HR (mPlay Sf 1 f) 1 (max lo (f + 1 - 15)) (max hi (f + 1)) X2 V2 hh2 wk2 U2; have h9 := HR_play hq i10 q2 u0 u1 (by omega) (by omega) (by omega) (by omega); rw [show max (max lo (f - 15)) (f + 1 - 15) = max lo (f + 1 - 15) by omega, show max (max hi f) (f + 1) = max hi (f + 1) by omega] at h9; exact h9, fun j hj => (q3 j (by omega)).trans (i11 j hj), lv_sub hl [0, 1, 2] rfl, hP, hS⟩
