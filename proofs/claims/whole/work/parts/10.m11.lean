/-! what the other calls answer -/
abbrev two (x : Int32) : Prop := x = 0 ∨ x = 1
theorem two_in {q : Nat} (h : q < 2) : two (nI q) := by
  rcases (show q = 0 ∨ q = 1 by omega) with rfl | rfl
  · exact Or.inl rfl
  · exact Or.inr rfl
theorem two_of {x : Int32} (h : ¬ (if x = 0 ∨ x = 1 then (1 : Int32) else 0) = 0) : ∃ q : Nat, q < 2 ∧ x = nI q := by
  by_cases h2 : x = 0 ∨ x = 1
  · rcases h2 with rfl | rfl
    · exact ⟨0, by decide, rfl⟩
    · exact ⟨1, by decide, rfl⟩
  · exact absurd (if_neg h2) h
theorem two_no {x : Int32} (h : (if x = 0 ∨ x = 1 then (1 : Int32) else 0) = 0) : ¬ two x := by
  intro h2
  rw [if_pos h2] at h
  exact absurd h (by decide)
theorem in15 {a f : Nat} (ha : a < 2 ^ 30) (hf : f < 2 ^ 31) : nI a - nI 15 ≤ nI f ↔ a ≤ f + 15 := by
  rw [Int32.le_iff_toInt_le, pk_sub_toInt ha (by decide), nI_toInt hf]
  omega
def aOf (S : SS) (pe : Int32) : Nat := tn (S.1 2 (tn pe))
def rKn (S : SS) (pe pl : Int32) : Int32 := if two pe ∧ two pl then S.1 12 (2 * tn pe + tn pl) else -1
def rUs (S : SS) (pe pl fr : Int32) : Int32 := if two pe ∧ two pl ∧ ¬ fr < 0 ∧ tn fr < aOf S pe ∧ aOf S pe ≤ tn fr + 15 then S.1 11 (1200 * tn pe + 600 * tn pl + tn fr) else -1
def sumS (x s y t : UInt32) (h : Int32) (wk : UInt64) : Int32 := (((((nI (17 * 31) + FP.f2i (FP.fmul x 1166016512)) * nI 31 + FP.f2i (FP.fmul s 1166016512)) * nI 31 + FP.f2i (FP.fmul y 1166016512)) * nI 31 + FP.f2i (FP.fmul t 1166016512)) * nI 31 + h) * nI 31 + FP.d2i (FP.dmul wk 4634204016564240384)
def rSu (S : SS) (pe fr : Int32) : Int32 := if two pe ∧ ¬ fr < 0 ∧ tn fr ≤ aOf S pe ∧ aOf S pe ≤ tn fr + 15 then sumS (S.2.1 13 (600 * tn pe + tn fr)) (S.2.1 14 (600 * tn pe + tn fr)) (S.2.1 15 (600 * tn pe + tn fr)) (S.2.1 16 (600 * tn pe + tn fr)) (S.1 17 (600 * tn pe + tn fr)) (S.2.2.2 (600 * tn pe + tn fr)) else nI 0
def rPl (S : SS) (pe pl : Int32) : UInt32 := if two pe ∧ two pl then (if tn pl = 0 then S.2.1 13 (600 * tn pe + aOf S pe) else S.2.1 15 (600 * tn pe + aOf S pe)) else 3267887104
def rSp (S : SS) (pe pl : Int32) : UInt32 := if two pe ∧ two pl then (if tn pl = 0 then S.2.1 14 (600 * tn pe + aOf S pe) else S.2.1 16 (600 * tn pe + aOf S pe)) else FP.fconst0
def rHi (S : SS) (pe : Int32) : Int32 := if two pe then S.1 17 (600 * tn pe + aOf S pe) else -1
def rWo (S : SS) (pe : Int32) : UInt64 := if two pe then S.2.2.2 (600 * tn pe + aOf S pe) else 13830554455654793216
def rAv (S : SS) (pe : Int32) : UInt32 := if two pe then S.2.1 9 (tn pe) else FP.fconst0
theorem aOf_eq {S : SS} {q a : Nat} (hq : q < 2) (ha : a ≤ 598) (h : S.1 2 q = nI a) : aOf S (nI q) = a := by
  unfold aOf
  rw [tn_nI (by omega), h, tn_nI (by omega)]
theorem Fc_4096 : FP.Core.FFin 1166016512 := (FP.Core.fin_bits32 _).mpr (by decide)
theorem Dc_64 : FP.Core.DFin 4634204016564240384 := (FP.Core.fin_bits _).mpr (by decide)
set_option maxHeartbeats 4000000 in
set_option maxRecDepth 100000 in
/-- X7_known -/
theorem c_known (l : Launch) (D : va_G) (cs : Nat → ClassId) (ad : Nat → Nat) (hJ : Inj ad 26) (d w : Int32) (S : SS) (np ns : UInt32) (pe pl : Int32) (hA : ∀ q, q < 2 → ∃ a, S.1 2 q = nI a ∧ a ≤ 590) : CTi l yX7_known wsX7_known ({ frames := 1, cells := 0, slots := 0, locals := 20 }) D cs ad 26 (mm ad cs d w S np ns) [.ref (ad 0), .int pe, .int pl] (fun r M2 => M2 = (mm ad cs d w S np ns) ∧ r = rKn S pe pl) := by
  refine Met.ofW (cc := cX7_known) (maxL := 3) (ret := (some .int)) (by decide) rfl ?_
  intro p e s m args below meth c s₁ B hml hv
  obtain ⟨rfl, hP, hK⟩ := hv
  have hx := B.exec
  have hb := B.bytes
  have hr := B.returns
  have hts := atoms_spec (ws := wsX7_known) B.pre
  have hown : s.vm.findClass RX7 = some m.cls := findClass_of_methodNamed B.named
  have hlocks := B.notSynchronized
  have hS : va_S (Ad ad 26) s.heap s.heap [] := va_S.rf
  have hl := lv_entry ([.ref (ad 0), .int pe, .int pl]) (n := 3) (Nat.le_of_ble_eq_true rfl)
  rw [lg_entry_eq]
  generalize (lg_sl ([.ref (ad 0), .int pe, .int pl]) ++ List.replicate (3 - (lg_sl ([.ref (ad 0), .int pe, .int pl])).length) Slot.unset).toArray = ls at hl ⊢
  have hl : lv_has ls 3 [(0, .ref (ad 0)), (1, .int pe), (2, .int pl)] := hl
  have inX7 : ∀ w ∈ u_ws RX7 TX7 29, w ∈ wsX7_known := fun w h => List.mem_cons_of_mem _ (List.mem_append_right _ h)
  refine lv_iload_n hx hb dX7_known_0 rfl (lv_at hl 1 rfl) ?_
  refine k_Si (As := [.int pe]) (rest := []) ⟨hx, hb, hml, hown, hts⟩ hK hP hS Ad_le (c_isTwo l D cs ad 26 (mm ad cs d w S np ns) pe) (va_cwS 1 hts gX7_known_X7_isTwo rfl rfl rfl (by decide +kernel) ⟨Nat.le_of_ble_eq_true rfl, Nat.le_of_ble_eq_true rfl⟩) rfl rfl hl.1 (Nat.le_of_ble_eq_true rfl) dX7_known_1 ⟨Nat.le_of_ble_eq_true rfl, Nat.le_of_ble_eq_true rfl⟩ (fun r_1 M1 H locs hpo hP hS _ _ => ?_)
  obtain ⟨rfl, rfl⟩ := hpo
  refine lv_if_eq (tgt := 27) hx hb dX7_known_4 (by decide) (fun c1 => ?_) (fun c1 => ?_)
  · have hno := two_no c1
    refine lv_iconst (v := (-1)) hx hb dX7_known_27 (by decide) ?_
    exact r_i hx hb hr hlocks hK hP hS dX7_known_28 ⟨rfl, by unfold rKn; rw [if_neg (fun z => hno z.1)]⟩
  · obtain ⟨q, hq, rfl⟩ := two_of c1
    obtain ⟨a, hat, ha⟩ := hA q hq
    have hao := aOf_eq hq (by omega) hat
    refine lv_iload_n hx hb dX7_known_7 rfl (lv_at hl 2 rfl) ?_
    refine k_Si (As := [.int pl]) (rest := []) ⟨hx, hb, hml, hown, hts⟩ hK hP hS Ad_le (c_isTwo l D cs ad 26 (mm ad cs d w S np ns) pl) (va_cwS 1 hts gX7_known_X7_isTwo rfl rfl rfl (by decide +kernel) ⟨Nat.le_of_ble_eq_true rfl, Nat.le_of_ble_eq_true rfl⟩) rfl rfl hl.1 (Nat.le_of_ble_eq_true rfl) dX7_known_8 ⟨Nat.le_of_ble_eq_true rfl, Nat.le_of_ble_eq_true rfl⟩ (fun r_2 M1 H locs hpo hP hS _ _ => ?_)
    obtain ⟨rfl, rfl⟩ := hpo
    refine lv_if_eq (tgt := 27) hx hb dX7_known_11 (by decide) (fun c2 => ?_) (fun c2 => ?_)
    · have hno := two_no c2
      refine lv_iconst (v := (-1)) hx hb dX7_known_27 (by decide) ?_
      exact r_i hx hb hr hlocks hK hP hS dX7_known_28 ⟨rfl, by unfold rKn; rw [if_neg (fun z => hno z.2)]⟩
    · obtain ⟨pl, hp, rfl⟩ := two_of c2
      refine lv_aload_n hx hb dX7_known_14 rfl (lv_at hl 0 rfl) ?_
      refine m_get hx hb hts inX7 hown hK hP (ci := 7) rfl (k := 0) (by decide) rfl 12 (by decide) (hts (.fieldLink RX7 43 "RollbackPairModel" "known" "[I") (by decide +kernel)) rfl dX7_known_15 ?_
      refine lv_iconst (v := nI 2) hx hb dX7_known_18 (by decide) ?_
      refine lv_iload_n hx hb dX7_known_19 rfl (lv_at hl 1 rfl) ?_
      refine n_mul hx hb dX7_known_20 ?_
      refine lv_iload_n hx hb dX7_known_21 rfl (lv_at hl 2 rfl) ?_
      refine n_add hx hb dX7_known_22 ?_
      refine m_iald hx hb hK hP (k := 11) (by decide) (f := (S.1 12)) rfl (i := 2 * q + pl) (by omega) (by decide) dX7_known_23 ?_
      refine lv_goto (tgt := 28) hx hb dX7_known_24 (by decide) ?_
      exact r_i hx hb hr hlocks hK hP hS dX7_known_28 ⟨rfl, by unfold rKn; rw [if_pos ⟨two_in hq, two_in hp⟩, tn_nI (show q < 2 ^ 31 by omega), tn_nI (show pl < 2 ^ 31 by omega)]⟩
set_option maxHeartbeats 4000000 in
set_option maxRecDepth 100000 in
/-- X7_place -/
theorem c_place (l : Launch) (D : va_G) (cs : Nat → ClassId) (ad : Nat → Nat) (hJ : Inj ad 26) (d w : Int32) (S : SS) (np ns : UInt32) (pe pl : Int32) (hA : ∀ q, q < 2 → ∃ a, S.1 2 q = nI a ∧ a ≤ 590) : CTf l yX7_place wsX7_place ({ frames := 1, cells := 0, slots := 0, locals := 20 }) D cs ad 26 (mm ad cs d w S np ns) [.ref (ad 0), .int pe, .int pl] (fun r M2 => M2 = (mm ad cs d w S np ns) ∧ r = rPl S pe pl) := by
  refine Met.ofW (cc := cX7_place) (maxL := 4) (ret := (some .float)) (by decide) rfl ?_
  intro p e s m args below meth c s₁ B hml hv
  obtain ⟨rfl, hP, hK⟩ := hv
  have hx := B.exec
  have hb := B.bytes
  have hr := B.returns
  have hts := atoms_spec (ws := wsX7_place) B.pre
  have hown : s.vm.findClass RX7 = some m.cls := findClass_of_methodNamed B.named
  have hlocks := B.notSynchronized
  have hS : va_S (Ad ad 26) s.heap s.heap [] := va_S.rf
  have hl := lv_entry ([.ref (ad 0), .int pe, .int pl]) (n := 4) (Nat.le_of_ble_eq_true rfl)
  rw [lg_entry_eq]
  generalize (lg_sl ([.ref (ad 0), .int pe, .int pl]) ++ List.replicate (4 - (lg_sl ([.ref (ad 0), .int pe, .int pl])).length) Slot.unset).toArray = ls at hl ⊢
  have hl : lv_has ls 4 [(0, .ref (ad 0)), (1, .int pe), (2, .int pl)] := hl
  have inX7 : ∀ w ∈ u_ws RX7 TX7 29, w ∈ wsX7_place := fun w h => List.mem_cons_of_mem _ (List.mem_append_right _ h)
  refine lv_iload_n hx hb dX7_place_0 rfl (lv_at hl 1 rfl) ?_
  refine k_Si (As := [.int pe]) (rest := []) ⟨hx, hb, hml, hown, hts⟩ hK hP hS Ad_le (c_isTwo l D cs ad 26 (mm ad cs d w S np ns) pe) (va_cwS 1 hts gX7_place_X7_isTwo rfl rfl rfl (by decide +kernel) ⟨Nat.le_of_ble_eq_true rfl, Nat.le_of_ble_eq_true rfl⟩) rfl rfl hl.1 (Nat.le_of_ble_eq_true rfl) dX7_place_1 ⟨Nat.le_of_ble_eq_true rfl, Nat.le_of_ble_eq_true rfl⟩ (fun r_1 M1 H locs hpo hP hS _ _ => ?_)
  obtain ⟨rfl, rfl⟩ := hpo
  refine lv_if_eq (tgt := 14) hx hb dX7_place_4 (by decide) (fun c1 => ?_) (fun c1 => ?_)
  · have hno := two_no c1
    refine lv_ldcf hx hb hown (hts (.constantFloat RX7 158 (3267887104)) (by decide +kernel)) dX7_place_14 ?_
    exact r_f hx hb hr hlocks hK hP hS dX7_place_16 ⟨rfl, by unfold rPl; rw [if_neg (fun z => hno z.1)]⟩
  · obtain ⟨q, hq, rfl⟩ := two_of c1
    obtain ⟨a, hat, ha⟩ := hA q hq
    have hao := aOf_eq hq (by omega) hat
    refine lv_iload_n hx hb dX7_place_7 rfl (lv_at hl 2 rfl) ?_
    refine k_Si (As := [.int pl]) (rest := []) ⟨hx, hb, hml, hown, hts⟩ hK hP hS Ad_le (c_isTwo l D cs ad 26 (mm ad cs d w S np ns) pl) (va_cwS 1 hts gX7_place_X7_isTwo rfl rfl rfl (by decide +kernel) ⟨Nat.le_of_ble_eq_true rfl, Nat.le_of_ble_eq_true rfl⟩) rfl rfl hl.1 (Nat.le_of_ble_eq_true rfl) dX7_place_8 ⟨Nat.le_of_ble_eq_true rfl, Nat.le_of_ble_eq_true rfl⟩ (fun r_2 M1 H locs hpo hP hS _ _ => ?_)
    obtain ⟨rfl, rfl⟩ := hpo
    refine lv_if_ne (tgt := 17) hx hb dX7_place_11 (by decide) (fun c2 => ?_) (fun c2 => ?_)
    · obtain ⟨pl, hp, rfl⟩ := two_of c2
      refine lv_sipush (v := nI 600) hx hb dX7_place_17 (by decide) ?_
      refine lv_iload_n hx hb dX7_place_20 rfl (lv_at hl 1 rfl) ?_
      refine n_mul hx hb dX7_place_21 ?_
      refine lv_aload_n hx hb dX7_place_22 rfl (lv_at hl 0 rfl) ?_
      refine m_get hx hb hts inX7 hown hK hP (ci := 7) rfl (k := 0) (by decide) rfl 2 (by decide) (hts (.fieldLink RX7 7 "RollbackPairModel" "at" "[I") (by decide +kernel)) rfl dX7_place_23 ?_
      refine lv_iload_n hx hb dX7_place_26 rfl (lv_at hl 1 rfl) ?_
      refine m_iald hx hb hK hP (k := 1) (by decide) (f := (S.1 2)) rfl (i := q) (by omega) (by decide) dX7_place_27 ?_
      refine n_val hat ?_
      refine n_add hx hb dX7_place_28 ?_
      refine lv_istore_n (lv' := [(3, .int (nI (600 * q + a))), (0, .ref (ad 0)), (1, .int (nI q)), (2, .int (nI pl))]) hx hb dX7_place_29 rfl hl (by decide) rfl (fun ls hl => ?_)
      refine lv_iload_n hx hb dX7_place_30 rfl (lv_at hl 3 rfl) ?_
      refine n_if_ne (tgt := 43) hx hb dX7_place_31 (by decide) (by omega) (fun c3 => ?_) (fun c3 => ?_)
      · refine lv_aload_n hx hb dX7_place_43 rfl (lv_at hl 1 rfl) ?_
        refine m_get hx hb hts inX7 hown hK hP (ci := 7) rfl (k := 0) (by decide) rfl 15 (by decide) (hts (.fieldLink RX7 52 "RollbackPairModel" "place1" "[F") (by decide +kernel)) rfl dX7_place_44 ?_
        refine lv_iload_n hx hb dX7_place_47 rfl (lv_at hl 0 rfl) ?_
        refine m_fald hx hb hK hP (k := 14) (by decide) (f := (S.2.1 15)) rfl (i := 600 * q + a) (by omega) (by decide) dX7_place_48 ?_
        exact r_f hx hb hr hlocks hK hP hS dX7_place_49 ⟨rfl, by unfold rPl; rw [if_pos ⟨two_in hq, two_in hp⟩, tn_nI (show q < 2 ^ 31 by omega), tn_nI (show pl < 2 ^ 31 by omega), hao]; first | rw [if_pos c3] | rw [if_neg c3]⟩
      · refine lv_aload_n hx hb dX7_place_34 rfl (lv_at hl 1 rfl) ?_
        refine m_get hx hb hts inX7 hown hK hP (ci := 7) rfl (k := 0) (by decide) rfl 13 (by decide) (hts (.fieldLink RX7 46 "RollbackPairModel" "place0" "[F") (by decide +kernel)) rfl dX7_place_35 ?_
        refine lv_iload_n hx hb dX7_place_38 rfl (lv_at hl 0 rfl) ?_
        refine m_fald hx hb hK hP (k := 12) (by decide) (f := (S.2.1 13)) rfl (i := 600 * q + a) (by omega) (by decide) dX7_place_39 ?_
        refine lv_goto (tgt := 49) hx hb dX7_place_40 (by decide) ?_
        exact r_f hx hb hr hlocks hK hP hS dX7_place_49 ⟨rfl, by unfold rPl; rw [if_pos ⟨two_in hq, two_in hp⟩, tn_nI (show q < 2 ^ 31 by omega), tn_nI (show pl < 2 ^ 31 by omega), hao]; first | rw [if_pos c3] | rw [if_neg c3]⟩
    · have hno := two_no c2
      refine lv_ldcf hx hb hown (hts (.constantFloat RX7 158 (3267887104)) (by decide +kernel)) dX7_place_14 ?_
      exact r_f hx hb hr hlocks hK hP hS dX7_place_16 ⟨rfl, by unfold rPl; rw [if_neg (fun z => hno z.2)]⟩
set_option maxHeartbeats 4000000 in
set_option maxRecDepth 100000 in
/-- X7_speed -/
theorem c_speed (l : Launch) (D : va_G) (cs : Nat → ClassId) (ad : Nat → Nat) (hJ : Inj ad 26) (d w : Int32) (S : SS) (np ns : UInt32) (pe pl : Int32) (hA : ∀ q, q < 2 → ∃ a, S.1 2 q = nI a ∧ a ≤ 590) : CTf l yX7_speed wsX7_speed ({ frames := 1, cells := 0, slots := 0, locals := 20 }) D cs ad 26 (mm ad cs d w S np ns) [.ref (ad 0), .int pe, .int pl] (fun r M2 => M2 = (mm ad cs d w S np ns) ∧ r = rSp S pe pl) := by
  refine Met.ofW (cc := cX7_speed) (maxL := 4) (ret := (some .float)) (by decide) rfl ?_
  intro p e s m args below meth c s₁ B hml hv
  obtain ⟨rfl, hP, hK⟩ := hv
  have hx := B.exec
  have hb := B.bytes
  have hr := B.returns
  have hts := atoms_spec (ws := wsX7_speed) B.pre
  have hown : s.vm.findClass RX7 = some m.cls := findClass_of_methodNamed B.named
  have hlocks := B.notSynchronized
  have hS : va_S (Ad ad 26) s.heap s.heap [] := va_S.rf
  have hl := lv_entry ([.ref (ad 0), .int pe, .int pl]) (n := 4) (Nat.le_of_ble_eq_true rfl)
  rw [lg_entry_eq]
  generalize (lg_sl ([.ref (ad 0), .int pe, .int pl]) ++ List.replicate (4 - (lg_sl ([.ref (ad 0), .int pe, .int pl])).length) Slot.unset).toArray = ls at hl ⊢
  have hl : lv_has ls 4 [(0, .ref (ad 0)), (1, .int pe), (2, .int pl)] := hl
  have inX7 : ∀ w ∈ u_ws RX7 TX7 29, w ∈ wsX7_speed := fun w h => List.mem_cons_of_mem _ (List.mem_append_right _ h)
  refine lv_iload_n hx hb dX7_speed_0 rfl (lv_at hl 1 rfl) ?_
  refine k_Si (As := [.int pe]) (rest := []) ⟨hx, hb, hml, hown, hts⟩ hK hP hS Ad_le (c_isTwo l D cs ad 26 (mm ad cs d w S np ns) pe) (va_cwS 1 hts gX7_speed_X7_isTwo rfl rfl rfl (by decide +kernel) ⟨Nat.le_of_ble_eq_true rfl, Nat.le_of_ble_eq_true rfl⟩) rfl rfl hl.1 (Nat.le_of_ble_eq_true rfl) dX7_speed_1 ⟨Nat.le_of_ble_eq_true rfl, Nat.le_of_ble_eq_true rfl⟩ (fun r_1 M1 H locs hpo hP hS _ _ => ?_)
  obtain ⟨rfl, rfl⟩ := hpo
  refine lv_if_eq (tgt := 14) hx hb dX7_speed_4 (by decide) (fun c1 => ?_) (fun c1 => ?_)
  · have hno := two_no c1
    refine lv_fconst0 hx hb dX7_speed_14 ?_
    exact r_f hx hb hr hlocks hK hP hS dX7_speed_15 ⟨rfl, by unfold rSp; rw [if_neg (fun z => hno z.1)]⟩
  · obtain ⟨q, hq, rfl⟩ := two_of c1
    obtain ⟨a, hat, ha⟩ := hA q hq
    have hao := aOf_eq hq (by omega) hat
    refine lv_iload_n hx hb dX7_speed_7 rfl (lv_at hl 2 rfl) ?_
    refine k_Si (As := [.int pl]) (rest := []) ⟨hx, hb, hml, hown, hts⟩ hK hP hS Ad_le (c_isTwo l D cs ad 26 (mm ad cs d w S np ns) pl) (va_cwS 1 hts gX7_speed_X7_isTwo rfl rfl rfl (by decide +kernel) ⟨Nat.le_of_ble_eq_true rfl, Nat.le_of_ble_eq_true rfl⟩) rfl rfl hl.1 (Nat.le_of_ble_eq_true rfl) dX7_speed_8 ⟨Nat.le_of_ble_eq_true rfl, Nat.le_of_ble_eq_true rfl⟩ (fun r_2 M1 H locs hpo hP hS _ _ => ?_)
    obtain ⟨rfl, rfl⟩ := hpo
    refine lv_if_ne (tgt := 16) hx hb dX7_speed_11 (by decide) (fun c2 => ?_) (fun c2 => ?_)
    · obtain ⟨pl, hp, rfl⟩ := two_of c2
      refine lv_sipush (v := nI 600) hx hb dX7_speed_16 (by decide) ?_
      refine lv_iload_n hx hb dX7_speed_19 rfl (lv_at hl 1 rfl) ?_
      refine n_mul hx hb dX7_speed_20 ?_
      refine lv_aload_n hx hb dX7_speed_21 rfl (lv_at hl 0 rfl) ?_
      refine m_get hx hb hts inX7 hown hK hP (ci := 7) rfl (k := 0) (by decide) rfl 2 (by decide) (hts (.fieldLink RX7 7 "RollbackPairModel" "at" "[I") (by decide +kernel)) rfl dX7_speed_22 ?_
      refine lv_iload_n hx hb dX7_speed_25 rfl (lv_at hl 1 rfl) ?_
      refine m_iald hx hb hK hP (k := 1) (by decide) (f := (S.1 2)) rfl (i := q) (by omega) (by decide) dX7_speed_26 ?_
      refine n_val hat ?_
      refine n_add hx hb dX7_speed_27 ?_
      refine lv_istore_n (lv' := [(3, .int (nI (600 * q + a))), (0, .ref (ad 0)), (1, .int (nI q)), (2, .int (nI pl))]) hx hb dX7_speed_28 rfl hl (by decide) rfl (fun ls hl => ?_)
      refine lv_iload_n hx hb dX7_speed_29 rfl (lv_at hl 3 rfl) ?_
      refine n_if_ne (tgt := 42) hx hb dX7_speed_30 (by decide) (by omega) (fun c3 => ?_) (fun c3 => ?_)
      · refine lv_aload_n hx hb dX7_speed_42 rfl (lv_at hl 1 rfl) ?_
        refine m_get hx hb hts inX7 hown hK hP (ci := 7) rfl (k := 0) (by decide) rfl 16 (by decide) (hts (.fieldLink RX7 55 "RollbackPairModel" "speed1" "[F") (by decide +kernel)) rfl dX7_speed_43 ?_
        refine lv_iload_n hx hb dX7_speed_46 rfl (lv_at hl 0 rfl) ?_
        refine m_fald hx hb hK hP (k := 15) (by decide) (f := (S.2.1 16)) rfl (i := 600 * q + a) (by omega) (by decide) dX7_speed_47 ?_
        exact r_f hx hb hr hlocks hK hP hS dX7_speed_48 ⟨rfl, by unfold rSp; rw [if_pos ⟨two_in hq, two_in hp⟩, tn_nI (show q < 2 ^ 31 by omega), tn_nI (show pl < 2 ^ 31 by omega), hao]; first | rw [if_pos c3] | rw [if_neg c3]⟩
      · refine lv_aload_n hx hb dX7_speed_33 rfl (lv_at hl 1 rfl) ?_
        refine m_get hx hb hts inX7 hown hK hP (ci := 7) rfl (k := 0) (by decide) rfl 14 (by decide) (hts (.fieldLink RX7 49 "RollbackPairModel" "speed0" "[F") (by decide +kernel)) rfl dX7_speed_34 ?_
        refine lv_iload_n hx hb dX7_speed_37 rfl (lv_at hl 0 rfl) ?_
        refine m_fald hx hb hK hP (k := 13) (by decide) (f := (S.2.1 14)) rfl (i := 600 * q + a) (by omega) (by decide) dX7_speed_38 ?_
        refine lv_goto (tgt := 48) hx hb dX7_speed_39 (by decide) ?_
        exact r_f hx hb hr hlocks hK hP hS dX7_speed_48 ⟨rfl, by unfold rSp; rw [if_pos ⟨two_in hq, two_in hp⟩, tn_nI (show q < 2 ^ 31 by omega), tn_nI (show pl < 2 ^ 31 by omega), hao]; first | rw [if_pos c3] | rw [if_neg c3]⟩
    · have hno := two_no c2
      refine lv_fconst0 hx hb dX7_speed_14 ?_
      exact r_f hx hb hr hlocks hK hP hS dX7_speed_15 ⟨rfl, by unfold rSp; rw [if_neg (fun z => hno z.2)]⟩
set_option maxHeartbeats 4000000 in
set_option maxRecDepth 100000 in
/-- X7_hits -/
theorem c_hits (l : Launch) (D : va_G) (cs : Nat → ClassId) (ad : Nat → Nat) (hJ : Inj ad 26) (d w : Int32) (S : SS) (np ns : UInt32) (pe : Int32) (hA : ∀ q, q < 2 → ∃ a, S.1 2 q = nI a ∧ a ≤ 590) : CTi l yX7_hits wsX7_hits ({ frames := 1, cells := 0, slots := 0, locals := 20 }) D cs ad 26 (mm ad cs d w S np ns) [.ref (ad 0), .int pe] (fun r M2 => M2 = (mm ad cs d w S np ns) ∧ r = rHi S pe) := by
  refine Met.ofW (cc := cX7_hits) (maxL := 2) (ret := (some .int)) (by decide) rfl ?_
  intro p e s m args below meth c s₁ B hml hv
  obtain ⟨rfl, hP, hK⟩ := hv
  have hx := B.exec
  have hb := B.bytes
  have hr := B.returns
  have hts := atoms_spec (ws := wsX7_hits) B.pre
  have hown : s.vm.findClass RX7 = some m.cls := findClass_of_methodNamed B.named
  have hlocks := B.notSynchronized
  have hS : va_S (Ad ad 26) s.heap s.heap [] := va_S.rf
  have hl := lv_entry ([.ref (ad 0), .int pe]) (n := 2) (Nat.le_of_ble_eq_true rfl)
  rw [lg_entry_eq]
  generalize (lg_sl ([.ref (ad 0), .int pe]) ++ List.replicate (2 - (lg_sl ([.ref (ad 0), .int pe])).length) Slot.unset).toArray = ls at hl ⊢
  have hl : lv_has ls 2 [(0, .ref (ad 0)), (1, .int pe)] := hl
  have inX7 : ∀ w ∈ u_ws RX7 TX7 29, w ∈ wsX7_hits := fun w h => List.mem_cons_of_mem _ (List.mem_append_right _ h)
  refine lv_iload_n hx hb dX7_hits_0 rfl (lv_at hl 1 rfl) ?_
  refine k_Si (As := [.int pe]) (rest := []) ⟨hx, hb, hml, hown, hts⟩ hK hP hS Ad_le (c_isTwo l D cs ad 26 (mm ad cs d w S np ns) pe) (va_cwS 1 hts gX7_hits_X7_isTwo rfl rfl rfl (by decide +kernel) ⟨Nat.le_of_ble_eq_true rfl, Nat.le_of_ble_eq_true rfl⟩) rfl rfl hl.1 (Nat.le_of_ble_eq_true rfl) dX7_hits_1 ⟨Nat.le_of_ble_eq_true rfl, Nat.le_of_ble_eq_true rfl⟩ (fun r_1 M1 H locs hpo hP hS _ _ => ?_)
  obtain ⟨rfl, rfl⟩ := hpo
  refine lv_if_eq (tgt := 27) hx hb dX7_hits_4 (by decide) (fun c1 => ?_) (fun c1 => ?_)
  · have hno := two_no c1
    refine lv_iconst (v := (-1)) hx hb dX7_hits_27 (by decide) ?_
    exact r_i hx hb hr hlocks hK hP hS dX7_hits_28 ⟨rfl, by unfold rHi; rw [if_neg (fun z => hno z)]⟩
  · obtain ⟨q, hq, rfl⟩ := two_of c1
    obtain ⟨a, hat, ha⟩ := hA q hq
    have hao := aOf_eq hq (by omega) hat
    refine lv_aload_n hx hb dX7_hits_7 rfl (lv_at hl 0 rfl) ?_
    refine m_get hx hb hts inX7 hown hK hP (ci := 7) rfl (k := 0) (by decide) rfl 17 (by decide) (hts (.fieldLink RX7 58 "RollbackPairModel" "hits" "[I") (by decide +kernel)) rfl dX7_hits_8 ?_
    refine lv_sipush (v := nI 600) hx hb dX7_hits_11 (by decide) ?_
    refine lv_iload_n hx hb dX7_hits_14 rfl (lv_at hl 1 rfl) ?_
    refine n_mul hx hb dX7_hits_15 ?_
    refine lv_aload_n hx hb dX7_hits_16 rfl (lv_at hl 0 rfl) ?_
    refine m_get hx hb hts inX7 hown hK hP (ci := 7) rfl (k := 0) (by decide) rfl 2 (by decide) (hts (.fieldLink RX7 7 "RollbackPairModel" "at" "[I") (by decide +kernel)) rfl dX7_hits_17 ?_
    refine lv_iload_n hx hb dX7_hits_20 rfl (lv_at hl 1 rfl) ?_
    refine m_iald hx hb hK hP (k := 1) (by decide) (f := (S.1 2)) rfl (i := q) (by omega) (by decide) dX7_hits_21 ?_
    refine n_val hat ?_
    refine n_add hx hb dX7_hits_22 ?_
    refine m_iald hx hb hK hP (k := 16) (by decide) (f := (S.1 17)) rfl (i := 600 * q + a) (by omega) (by decide) dX7_hits_23 ?_
    refine lv_goto (tgt := 28) hx hb dX7_hits_24 (by decide) ?_
    exact r_i hx hb hr hlocks hK hP hS dX7_hits_28 ⟨rfl, by unfold rHi; rw [if_pos (two_in hq), tn_nI (show q < 2 ^ 31 by omega), hao]⟩
set_option maxHeartbeats 4000000 in
set_option maxRecDepth 100000 in
/-- X7_work -/
theorem c_work (l : Launch) (D : va_G) (cs : Nat → ClassId) (ad : Nat → Nat) (hJ : Inj ad 26) (d w : Int32) (S : SS) (np ns : UInt32) (pe : Int32) (hA : ∀ q, q < 2 → ∃ a, S.1 2 q = nI a ∧ a ≤ 590) : CTd l yX7_work wsX7_work ({ frames := 1, cells := 0, slots := 0, locals := 20 }) D cs ad 26 (mm ad cs d w S np ns) [.ref (ad 0), .int pe] (fun r M2 => M2 = (mm ad cs d w S np ns) ∧ r = rWo S pe) := by
  refine Met.ofW (cc := cX7_work) (maxL := 2) (ret := (some .double)) (by decide) rfl ?_
  intro p e s m args below meth c s₁ B hml hv
  obtain ⟨rfl, hP, hK⟩ := hv
  have hx := B.exec
  have hb := B.bytes
  have hr := B.returns
  have hts := atoms_spec (ws := wsX7_work) B.pre
  have hown : s.vm.findClass RX7 = some m.cls := findClass_of_methodNamed B.named
  have hlocks := B.notSynchronized
  have hS : va_S (Ad ad 26) s.heap s.heap [] := va_S.rf
  have hl := lv_entry ([.ref (ad 0), .int pe]) (n := 2) (Nat.le_of_ble_eq_true rfl)
  rw [lg_entry_eq]
  generalize (lg_sl ([.ref (ad 0), .int pe]) ++ List.replicate (2 - (lg_sl ([.ref (ad 0), .int pe])).length) Slot.unset).toArray = ls at hl ⊢
  have hl : lv_has ls 2 [(0, .ref (ad 0)), (1, .int pe)] := hl
  have inX7 : ∀ w ∈ u_ws RX7 TX7 29, w ∈ wsX7_work := fun w h => List.mem_cons_of_mem _ (List.mem_append_right _ h)
  refine lv_iload_n hx hb dX7_work_0 rfl (lv_at hl 1 rfl) ?_
  refine k_Si (As := [.int pe]) (rest := []) ⟨hx, hb, hml, hown, hts⟩ hK hP hS Ad_le (c_isTwo l D cs ad 26 (mm ad cs d w S np ns) pe) (va_cwS 1 hts gX7_work_X7_isTwo rfl rfl rfl (by decide +kernel) ⟨Nat.le_of_ble_eq_true rfl, Nat.le_of_ble_eq_true rfl⟩) rfl rfl hl.1 (Nat.le_of_ble_eq_true rfl) dX7_work_1 ⟨Nat.le_of_ble_eq_true rfl, Nat.le_of_ble_eq_true rfl⟩ (fun r_1 M1 H locs hpo hP hS _ _ => ?_)
  obtain ⟨rfl, rfl⟩ := hpo
  refine lv_if_eq (tgt := 27) hx hb dX7_work_4 (by decide) (fun c1 => ?_) (fun c1 => ?_)
  · have hno := two_no c1
    refine lv_ldc2d hx hb hown (hts (.constantDouble RX7 159 (13830554455654793216)) (by decide +kernel)) dX7_work_27 ?_
    exact r_d hx hb hr hlocks hK hP hS dX7_work_30 ⟨rfl, by unfold rWo; rw [if_neg (fun z => hno z)]⟩
  · obtain ⟨q, hq, rfl⟩ := two_of c1
    obtain ⟨a, hat, ha⟩ := hA q hq
    have hao := aOf_eq hq (by omega) hat
    refine lv_aload_n hx hb dX7_work_7 rfl (lv_at hl 0 rfl) ?_
    refine m_get hx hb hts inX7 hown hK hP (ci := 7) rfl (k := 0) (by decide) rfl 18 (by decide) (hts (.fieldLink RX7 61 "RollbackPairModel" "work" "[D") (by decide +kernel)) rfl dX7_work_8 ?_
    refine lv_sipush (v := nI 600) hx hb dX7_work_11 (by decide) ?_
    refine lv_iload_n hx hb dX7_work_14 rfl (lv_at hl 1 rfl) ?_
    refine n_mul hx hb dX7_work_15 ?_
    refine lv_aload_n hx hb dX7_work_16 rfl (lv_at hl 0 rfl) ?_
    refine m_get hx hb hts inX7 hown hK hP (ci := 7) rfl (k := 0) (by decide) rfl 2 (by decide) (hts (.fieldLink RX7 7 "RollbackPairModel" "at" "[I") (by decide +kernel)) rfl dX7_work_17 ?_
    refine lv_iload_n hx hb dX7_work_20 rfl (lv_at hl 1 rfl) ?_
    refine m_iald hx hb hK hP (k := 1) (by decide) (f := (S.1 2)) rfl (i := q) (by omega) (by decide) dX7_work_21 ?_
    refine n_val hat ?_
    refine n_add hx hb dX7_work_22 ?_
    refine m_dald hx hb hK hP (k := 17) (by decide) (f := S.2.2.2) rfl (i := 600 * q + a) (by omega) (by decide) dX7_work_23 ?_
    refine lv_goto (tgt := 30) hx hb dX7_work_24 (by decide) ?_
    exact r_d hx hb hr hlocks hK hP hS dX7_work_30 ⟨rfl, by unfold rWo; rw [if_pos (two_in hq), tn_nI (show q < 2 ^ 31 by omega), hao]⟩
set_option maxHeartbeats 4000000 in
set_option maxRecDepth 100000 in
/-- X7_advice -/
theorem c_advice (l : Launch) (D : va_G) (cs : Nat → ClassId) (ad : Nat → Nat) (hJ : Inj ad 26) (d w : Int32) (S : SS) (np ns : UInt32) (pe : Int32) (hA : ∀ q, q < 2 → ∃ a, S.1 2 q = nI a ∧ a ≤ 590) : CTf l yX7_advice wsX7_advice ({ frames := 1, cells := 0, slots := 0, locals := 20 }) D cs ad 26 (mm ad cs d w S np ns) [.ref (ad 0), .int pe] (fun r M2 => M2 = (mm ad cs d w S np ns) ∧ r = rAv S pe) := by
  refine Met.ofW (cc := cX7_advice) (maxL := 2) (ret := (some .float)) (by decide) rfl ?_
  intro p e s m args below meth c s₁ B hml hv
  obtain ⟨rfl, hP, hK⟩ := hv
  have hx := B.exec
  have hb := B.bytes
  have hr := B.returns
  have hts := atoms_spec (ws := wsX7_advice) B.pre
  have hown : s.vm.findClass RX7 = some m.cls := findClass_of_methodNamed B.named
  have hlocks := B.notSynchronized
  have hS : va_S (Ad ad 26) s.heap s.heap [] := va_S.rf
  have hl := lv_entry ([.ref (ad 0), .int pe]) (n := 2) (Nat.le_of_ble_eq_true rfl)
  rw [lg_entry_eq]
  generalize (lg_sl ([.ref (ad 0), .int pe]) ++ List.replicate (2 - (lg_sl ([.ref (ad 0), .int pe])).length) Slot.unset).toArray = ls at hl ⊢
  have hl : lv_has ls 2 [(0, .ref (ad 0)), (1, .int pe)] := hl
  have inX7 : ∀ w ∈ u_ws RX7 TX7 29, w ∈ wsX7_advice := fun w h => List.mem_cons_of_mem _ (List.mem_append_right _ h)
  refine lv_iload_n hx hb dX7_advice_0 rfl (lv_at hl 1 rfl) ?_
  refine k_Si (As := [.int pe]) (rest := []) ⟨hx, hb, hml, hown, hts⟩ hK hP hS Ad_le (c_isTwo l D cs ad 26 (mm ad cs d w S np ns) pe) (va_cwS 1 hts gX7_advice_X7_isTwo rfl rfl rfl (by decide +kernel) ⟨Nat.le_of_ble_eq_true rfl, Nat.le_of_ble_eq_true rfl⟩) rfl rfl hl.1 (Nat.le_of_ble_eq_true rfl) dX7_advice_1 ⟨Nat.le_of_ble_eq_true rfl, Nat.le_of_ble_eq_true rfl⟩ (fun r_1 M1 H locs hpo hP hS _ _ => ?_)
  obtain ⟨rfl, rfl⟩ := hpo
  refine lv_if_eq (tgt := 16) hx hb dX7_advice_4 (by decide) (fun c1 => ?_) (fun c1 => ?_)
  · have hno := two_no c1
    refine lv_fconst0 hx hb dX7_advice_16 ?_
    exact r_f hx hb hr hlocks hK hP hS dX7_advice_17 ⟨rfl, by unfold rAv; rw [if_neg (fun z => hno z)]⟩
  · obtain ⟨q, hq, rfl⟩ := two_of c1
    obtain ⟨a, hat, ha⟩ := hA q hq
    have hao := aOf_eq hq (by omega) hat
    refine lv_aload_n hx hb dX7_advice_7 rfl (lv_at hl 0 rfl) ?_
    refine m_get hx hb hts inX7 hown hK hP (ci := 7) rfl (k := 0) (by decide) rfl 9 (by decide) (hts (.fieldLink RX7 33 "RollbackPairModel" "advice" "[F") (by decide +kernel)) rfl dX7_advice_8 ?_
    refine lv_iload_n hx hb dX7_advice_11 rfl (lv_at hl 1 rfl) ?_
    refine m_fald hx hb hK hP (k := 8) (by decide) (f := (S.2.1 9)) rfl (i := q) (by omega) (by decide) dX7_advice_12 ?_
    refine lv_goto (tgt := 17) hx hb dX7_advice_13 (by decide) ?_
    exact r_f hx hb hr hlocks hK hP hS dX7_advice_17 ⟨rfl, by unfold rAv; rw [if_pos (two_in hq), tn_nI (show q < 2 ^ 31 by omega)]⟩
set_option maxHeartbeats 4000000 in
set_option maxRecDepth 100000 in
/-- X7_used -/
theorem c_used (l : Launch) (D : va_G) (cs : Nat → ClassId) (ad : Nat → Nat) (hJ : Inj ad 26) (d w : Int32) (S : SS) (np ns : UInt32) (pe pl fr : Int32) (hA : ∀ q, q < 2 → ∃ a, S.1 2 q = nI a ∧ a ≤ 590) : CTi l yX7_used wsX7_used ({ frames := 1, cells := 0, slots := 0, locals := 20 }) D cs ad 26 (mm ad cs d w S np ns) [.ref (ad 0), .int pe, .int pl, .int fr] (fun r M2 => M2 = (mm ad cs d w S np ns) ∧ r = rUs S pe pl fr) := by
  refine Met.ofW (cc := cX7_used) (maxL := 4) (ret := (some .int)) (by decide) rfl ?_
  intro p e s m args below meth c s₁ B hml hv
  obtain ⟨rfl, hP, hK⟩ := hv
  have hx := B.exec
  have hb := B.bytes
  have hr := B.returns
  have hts := atoms_spec (ws := wsX7_used) B.pre
  have hown : s.vm.findClass RX7 = some m.cls := findClass_of_methodNamed B.named
  have hlocks := B.notSynchronized
  have hS : va_S (Ad ad 26) s.heap s.heap [] := va_S.rf
  have hl := lv_entry ([.ref (ad 0), .int pe, .int pl, .int fr]) (n := 4) (Nat.le_of_ble_eq_true rfl)
  rw [lg_entry_eq]
  generalize (lg_sl ([.ref (ad 0), .int pe, .int pl, .int fr]) ++ List.replicate (4 - (lg_sl ([.ref (ad 0), .int pe, .int pl, .int fr])).length) Slot.unset).toArray = ls at hl ⊢
  have hl : lv_has ls 4 [(0, .ref (ad 0)), (1, .int pe), (2, .int pl), (3, .int fr)] := hl
  have inX7 : ∀ w ∈ u_ws RX7 TX7 29, w ∈ wsX7_used := fun w h => List.mem_cons_of_mem _ (List.mem_append_right _ h)
  refine lv_iload_n hx hb dX7_used_0 rfl (lv_at hl 1 rfl) ?_
  refine k_Si (As := [.int pe]) (rest := []) ⟨hx, hb, hml, hown, hts⟩ hK hP hS Ad_le (c_isTwo l D cs ad 26 (mm ad cs d w S np ns) pe) (va_cwS 1 hts gX7_used_X7_isTwo rfl rfl rfl (by decide +kernel) ⟨Nat.le_of_ble_eq_true rfl, Nat.le_of_ble_eq_true rfl⟩) rfl rfl hl.1 (Nat.le_of_ble_eq_true rfl) dX7_used_1 ⟨Nat.le_of_ble_eq_true rfl, Nat.le_of_ble_eq_true rfl⟩ (fun r_1 M1 H locs hpo hP hS _ _ => ?_)
  obtain ⟨rfl, rfl⟩ := hpo
  refine lv_if_eq (tgt := 41) hx hb dX7_used_4 (by decide) (fun c1 => ?_) (fun c1 => ?_)
  · have hno := two_no c1
    refine lv_iconst (v := (-1)) hx hb dX7_used_41 (by decide) ?_
    exact r_i hx hb hr hlocks hK hP hS dX7_used_42 ⟨rfl, by unfold rUs; rw [if_neg (fun z => hno z.1)]⟩
  · obtain ⟨q, hq, rfl⟩ := two_of c1
    obtain ⟨a, hat, ha⟩ := hA q hq
    have hao := aOf_eq hq (by omega) hat
    refine lv_iload_n hx hb dX7_used_7 rfl (lv_at hl 2 rfl) ?_
    refine k_Si (As := [.int pl]) (rest := []) ⟨hx, hb, hml, hown, hts⟩ hK hP hS Ad_le (c_isTwo l D cs ad 26 (mm ad cs d w S np ns) pl) (va_cwS 1 hts gX7_used_X7_isTwo rfl rfl rfl (by decide +kernel) ⟨Nat.le_of_ble_eq_true rfl, Nat.le_of_ble_eq_true rfl⟩) rfl rfl hl.1 (Nat.le_of_ble_eq_true rfl) dX7_used_8 ⟨Nat.le_of_ble_eq_true rfl, Nat.le_of_ble_eq_true rfl⟩ (fun r_2 M1 H locs hpo hP hS _ _ => ?_)
    obtain ⟨rfl, rfl⟩ := hpo
    refine lv_if_eq (tgt := 41) hx hb dX7_used_11 (by decide) (fun c2 => ?_) (fun c2 => ?_)
    · have hno := two_no c2
      refine lv_iconst (v := (-1)) hx hb dX7_used_41 (by decide) ?_
      exact r_i hx hb hr hlocks hK hP hS dX7_used_42 ⟨rfl, by unfold rUs; rw [if_neg (fun z => hno z.2.1)]⟩
    · obtain ⟨pl, hp, rfl⟩ := two_of c2
      refine lv_iload_n hx hb dX7_used_14 rfl (lv_at hl 3 rfl) ?_
      refine lv_if_lt (tgt := 41) hx hb dX7_used_15 (by decide) (fun c3 => ?_) (fun c3 => ?_)
      · refine lv_iconst (v := (-1)) hx hb dX7_used_41 (by decide) ?_
        exact r_i hx hb hr hlocks hK hP hS dX7_used_42 ⟨rfl, by unfold rUs; rw [if_neg (fun z => z.2.2.1 c3)]⟩
      · obtain ⟨f, hf, rfl⟩ := nI_of c3
        refine lv_iload_n hx hb dX7_used_18 rfl (lv_at hl 3 rfl) ?_
        refine lv_aload_n hx hb dX7_used_19 rfl (lv_at hl 0 rfl) ?_
        refine m_get hx hb hts inX7 hown hK hP (ci := 7) rfl (k := 0) (by decide) rfl 2 (by decide) (hts (.fieldLink RX7 7 "RollbackPairModel" "at" "[I") (by decide +kernel)) rfl dX7_used_20 ?_
        refine lv_iload_n hx hb dX7_used_23 rfl (lv_at hl 1 rfl) ?_
        refine m_iald hx hb hK hP (k := 1) (by decide) (f := (S.1 2)) rfl (i := q) (by omega) (by decide) dX7_used_24 ?_
        refine n_val hat ?_
        refine n_cmp_ge (tgt := 41) hx hb dX7_used_25 (by decide) (by omega) (by omega) (fun c4 => ?_) (fun c4 => ?_)
        · refine lv_iconst (v := (-1)) hx hb dX7_used_41 (by decide) ?_
          exact r_i hx hb hr hlocks hK hP hS dX7_used_42 ⟨rfl, by unfold rUs; rw [if_neg (fun z => by have h9 := z.2.2.2.1; rw [tn_nI hf, hao] at h9; omega)]⟩
        · refine lv_iload_n hx hb dX7_used_28 rfl (lv_at hl 3 rfl) ?_
          refine lv_aload_n hx hb dX7_used_29 rfl (lv_at hl 0 rfl) ?_
          refine m_get hx hb hts inX7 hown hK hP (ci := 7) rfl (k := 0) (by decide) rfl 2 (by decide) (hts (.fieldLink RX7 7 "RollbackPairModel" "at" "[I") (by decide +kernel)) rfl dX7_used_30 ?_
          refine lv_iload_n hx hb dX7_used_33 rfl (lv_at hl 1 rfl) ?_
          refine m_iald hx hb hK hP (k := 1) (by decide) (f := (S.1 2)) rfl (i := q) (by omega) (by decide) dX7_used_34 ?_
          refine n_val hat ?_
          refine lv_bipush (v := nI 15) hx hb dX7_used_35 (by decide) ?_
          refine lv_isub hx hb dX7_used_37 ?_
          refine lv_icmp_ge (tgt := 43) hx hb dX7_used_38 (by decide) (fun c5 => ?_) (fun c5 => ?_)
          · have h15 := (in15 (by omega) hf).mp c5
            refine lv_aload_n hx hb dX7_used_43 rfl (lv_at hl 0 rfl) ?_
            refine m_get hx hb hts inX7 hown hK hP (ci := 7) rfl (k := 0) (by decide) rfl 11 (by decide) (hts (.fieldLink RX7 40 "RollbackPairModel" "uses" "[I") (by decide +kernel)) rfl dX7_used_44 ?_
            refine lv_sipush (v := nI 1200) hx hb dX7_used_47 (by decide) ?_
            refine lv_iload_n hx hb dX7_used_50 rfl (lv_at hl 1 rfl) ?_
            refine n_mul hx hb dX7_used_51 ?_
            refine lv_sipush (v := nI 600) hx hb dX7_used_52 (by decide) ?_
            refine lv_iload_n hx hb dX7_used_55 rfl (lv_at hl 2 rfl) ?_
            refine n_mul hx hb dX7_used_56 ?_
            refine n_add hx hb dX7_used_57 ?_
            refine lv_iload_n hx hb dX7_used_58 rfl (lv_at hl 3 rfl) ?_
            refine n_add hx hb dX7_used_59 ?_
            refine m_iald hx hb hK hP (k := 10) (by decide) (f := (S.1 11)) rfl (i := 1200 * q + (600 * pl) + f) (by omega) (by decide) dX7_used_60 ?_
            exact r_i hx hb hr hlocks hK hP hS dX7_used_61 ⟨rfl, by unfold rUs; rw [if_pos ⟨two_in hq, two_in hp, nI_pos hf, by rw [tn_nI hf, hao]; exact c4, by rw [tn_nI hf, hao]; exact (in15 (by omega) hf).mp c5⟩, tn_nI (show q < 2 ^ 31 by omega), tn_nI (show pl < 2 ^ 31 by omega), tn_nI hf]⟩
          · refine lv_iconst (v := (-1)) hx hb dX7_used_41 (by decide) ?_
            exact r_i hx hb hr hlocks hK hP hS dX7_used_42 ⟨rfl, by unfold rUs; rw [if_neg (fun z => by have h9 := z.2.2.2.2; rw [tn_nI hf, hao] at h9; exact c5 ((in15 (by omega) hf).mpr h9))]⟩
set_option maxHeartbeats 4000000 in
set_option maxRecDepth 100000 in
/-- X7_sum -/
theorem c_sum (l : Launch) (D : va_G) (cs : Nat → ClassId) (ad : Nat → Nat) (hJ : Inj ad 26) (d w : Int32) (S : SS) (np ns : UInt32) (pe fr : Int32) (hA : ∀ q, q < 2 → ∃ a, S.1 2 q = nI a ∧ a ≤ 590) (hB : ∀ q f, q < 2 → f ≤ tn (S.1 2 q) → BdAt S q f) : CTi l yX7_sum wsX7_sum ({ frames := 1, cells := 0, slots := 0, locals := 20 }) D cs ad 26 (mm ad cs d w S np ns) [.ref (ad 0), .int pe, .int fr] (fun r M2 => M2 = (mm ad cs d w S np ns) ∧ r = rSu S pe fr) := by
  refine Met.ofW (cc := cX7_sum) (maxL := 5) (ret := (some .int)) (by decide) rfl ?_
  intro p e s m args below meth c s₁ B hml hv
  obtain ⟨rfl, hP, hK⟩ := hv
  have hx := B.exec
  have hb := B.bytes
  have hr := B.returns
  have hts := atoms_spec (ws := wsX7_sum) B.pre
  have hown : s.vm.findClass RX7 = some m.cls := findClass_of_methodNamed B.named
  have hlocks := B.notSynchronized
  have hS : va_S (Ad ad 26) s.heap s.heap [] := va_S.rf
  have hl := lv_entry ([.ref (ad 0), .int pe, .int fr]) (n := 5) (Nat.le_of_ble_eq_true rfl)
  rw [lg_entry_eq]
  generalize (lg_sl ([.ref (ad 0), .int pe, .int fr]) ++ List.replicate (5 - (lg_sl ([.ref (ad 0), .int pe, .int fr])).length) Slot.unset).toArray = ls at hl ⊢
  have hl : lv_has ls 5 [(0, .ref (ad 0)), (1, .int pe), (2, .int fr)] := hl
  have inX7 : ∀ w ∈ u_ws RX7 TX7 29, w ∈ wsX7_sum := fun w h => List.mem_cons_of_mem _ (List.mem_append_right _ h)
  refine lv_iload_n hx hb dX7_sum_0 rfl (lv_at hl 1 rfl) ?_
  refine k_Si (As := [.int pe]) (rest := []) ⟨hx, hb, hml, hown, hts⟩ hK hP hS Ad_le (c_isTwo l D cs ad 26 (mm ad cs d w S np ns) pe) (va_cwS 1 hts gX7_sum_X7_isTwo rfl rfl rfl (by decide +kernel) ⟨Nat.le_of_ble_eq_true rfl, Nat.le_of_ble_eq_true rfl⟩) rfl rfl hl.1 (Nat.le_of_ble_eq_true rfl) dX7_sum_1 ⟨Nat.le_of_ble_eq_true rfl, Nat.le_of_ble_eq_true rfl⟩ (fun r_1 M1 H locs hpo hP hS _ _ => ?_)
  obtain ⟨rfl, rfl⟩ := hpo
  refine lv_if_eq (tgt := 34) hx hb dX7_sum_4 (by decide) (fun c1 => ?_) (fun c1 => ?_)
  · have hno := two_no c1
    refine lv_iconst (v := nI 0) hx hb dX7_sum_34 (by decide) ?_
    exact r_i hx hb hr hlocks hK hP hS dX7_sum_35 ⟨rfl, by unfold rSu; rw [if_neg (fun z => hno z.1)]⟩
  · obtain ⟨q, hq, rfl⟩ := two_of c1
    obtain ⟨a, hat, ha⟩ := hA q hq
    have hao := aOf_eq hq (by omega) hat
    refine lv_iload_n hx hb dX7_sum_7 rfl (lv_at hl 2 rfl) ?_
    refine lv_if_lt (tgt := 34) hx hb dX7_sum_8 (by decide) (fun c3 => ?_) (fun c3 => ?_)
    · refine lv_iconst (v := nI 0) hx hb dX7_sum_34 (by decide) ?_
      exact r_i hx hb hr hlocks hK hP hS dX7_sum_35 ⟨rfl, by unfold rSu; rw [if_neg (fun z => z.2.1 c3)]⟩
    · obtain ⟨f, hf, rfl⟩ := nI_of c3
      refine lv_iload_n hx hb dX7_sum_11 rfl (lv_at hl 2 rfl) ?_
      refine lv_aload_n hx hb dX7_sum_12 rfl (lv_at hl 0 rfl) ?_
      refine m_get hx hb hts inX7 hown hK hP (ci := 7) rfl (k := 0) (by decide) rfl 2 (by decide) (hts (.fieldLink RX7 7 "RollbackPairModel" "at" "[I") (by decide +kernel)) rfl dX7_sum_13 ?_
      refine lv_iload_n hx hb dX7_sum_16 rfl (lv_at hl 1 rfl) ?_
      refine m_iald hx hb hK hP (k := 1) (by decide) (f := (S.1 2)) rfl (i := q) (by omega) (by decide) dX7_sum_17 ?_
      refine n_val hat ?_
      refine n_cmp_gt (tgt := 34) hx hb dX7_sum_18 (by decide) (by omega) (by omega) (fun c4 => ?_) (fun c4 => ?_)
      · refine lv_iconst (v := nI 0) hx hb dX7_sum_34 (by decide) ?_
        exact r_i hx hb hr hlocks hK hP hS dX7_sum_35 ⟨rfl, by unfold rSu; rw [if_neg (fun z => by have h9 := z.2.2.1; rw [tn_nI hf, hao] at h9; omega)]⟩
      · refine lv_iload_n hx hb dX7_sum_21 rfl (lv_at hl 2 rfl) ?_
        refine lv_aload_n hx hb dX7_sum_22 rfl (lv_at hl 0 rfl) ?_
        refine m_get hx hb hts inX7 hown hK hP (ci := 7) rfl (k := 0) (by decide) rfl 2 (by decide) (hts (.fieldLink RX7 7 "RollbackPairModel" "at" "[I") (by decide +kernel)) rfl dX7_sum_23 ?_
        refine lv_iload_n hx hb dX7_sum_26 rfl (lv_at hl 1 rfl) ?_
        refine m_iald hx hb hK hP (k := 1) (by decide) (f := (S.1 2)) rfl (i := q) (by omega) (by decide) dX7_sum_27 ?_
        refine n_val hat ?_
        refine lv_bipush (v := nI 15) hx hb dX7_sum_28 (by decide) ?_
        refine lv_isub hx hb dX7_sum_30 ?_
        refine lv_icmp_ge (tgt := 36) hx hb dX7_sum_31 (by decide) (fun c5 => ?_) (fun c5 => ?_)
        · have h15 := (in15 (by omega) hf).mp c5
          have hBf := hB q f hq (by rw [hat, tn_nI (by omega)]; exact c4)
          refine lv_sipush (v := nI 600) hx hb dX7_sum_36 (by decide) ?_
          refine lv_iload_n hx hb dX7_sum_39 rfl (lv_at hl 1 rfl) ?_
          refine n_mul hx hb dX7_sum_40 ?_
          refine lv_iload_n hx hb dX7_sum_41 rfl (lv_at hl 2 rfl) ?_
          refine n_add hx hb dX7_sum_42 ?_
          refine lv_istore_n (lv' := [(3, .int (nI (600 * q + f))), (0, .ref (ad 0)), (1, .int (nI q)), (2, .int (nI f))]) hx hb dX7_sum_43 rfl hl (by decide) rfl (fun ls hl => ?_)
          refine lv_bipush (v := nI 17) hx hb dX7_sum_44 (by decide) ?_
          refine lv_istore (lv' := [(4, .int (nI 17)), (3, .int (nI (600 * q + f))), (0, .ref (ad 0)), (1, .int (nI q)), (2, .int (nI f))]) hx hb dX7_sum_46 hl (by decide) rfl (fun ls hl => ?_)
          refine lv_iload hx hb dX7_sum_48 (lv_at hl 0 rfl) ?_
          refine lv_bipush (v := nI 31) hx hb dX7_sum_50 (by decide) ?_
          refine n_mul hx hb dX7_sum_52 ?_
          refine lv_aload_n hx hb dX7_sum_53 rfl (lv_at hl 2 rfl) ?_
          refine m_get hx hb hts inX7 hown hK hP (ci := 7) rfl (k := 0) (by decide) rfl 13 (by decide) (hts (.fieldLink RX7 46 "RollbackPairModel" "place0" "[F") (by decide +kernel)) rfl dX7_sum_54 ?_
          refine lv_iload_n hx hb dX7_sum_57 rfl (lv_at hl 1 rfl) ?_
          refine m_fald hx hb hK hP (k := 12) (by decide) (f := (S.2.1 13)) rfl (i := 600 * q + f) (by omega) (by decide) dX7_sum_58 ?_
          refine lv_ldcf hx hb hown (hts (.constantFloat RX7 155 (1166016512)) (by decide +kernel)) dX7_sum_59 ?_
          refine lv_fmul hx hb dX7_sum_61 (fm_n hBf.1.1 Fc_4096) ?_
          refine lv_f2i hx hb dX7_sum_62 ?_
          refine lv_iadd hx hb dX7_sum_63 ?_
          refine lv_istore (lv' := [(4, .int ((nI (17 * 31)) + (FP.f2i (FP.fmul ((S.2.1 13) (600 * q + f)) 1166016512)))), (3, .int (nI (600 * q + f))), (0, .ref (ad 0)), (1, .int (nI q)), (2, .int (nI f))]) hx hb dX7_sum_64 hl (by decide) rfl (fun ls hl => ?_)
          refine lv_iload hx hb dX7_sum_66 (lv_at hl 0 rfl) ?_
          refine lv_bipush (v := nI 31) hx hb dX7_sum_68 (by decide) ?_
          refine lv_imul hx hb dX7_sum_70 ?_
          refine lv_aload_n hx hb dX7_sum_71 rfl (lv_at hl 2 rfl) ?_
          refine m_get hx hb hts inX7 hown hK hP (ci := 7) rfl (k := 0) (by decide) rfl 14 (by decide) (hts (.fieldLink RX7 49 "RollbackPairModel" "speed0" "[F") (by decide +kernel)) rfl dX7_sum_72 ?_
          refine lv_iload_n hx hb dX7_sum_75 rfl (lv_at hl 1 rfl) ?_
          refine m_fald hx hb hK hP (k := 13) (by decide) (f := (S.2.1 14)) rfl (i := 600 * q + f) (by omega) (by decide) dX7_sum_76 ?_
          refine lv_ldcf hx hb hown (hts (.constantFloat RX7 155 (1166016512)) (by decide +kernel)) dX7_sum_77 ?_
          refine lv_fmul hx hb dX7_sum_79 (fm_n hBf.2.1.1 Fc_4096) ?_
          refine lv_f2i hx hb dX7_sum_80 ?_
          refine lv_iadd hx hb dX7_sum_81 ?_
          refine lv_istore (lv' := [(4, .int ((((nI (17 * 31)) + (FP.f2i (FP.fmul ((S.2.1 13) (600 * q + f)) 1166016512))) * (nI 31)) + (FP.f2i (FP.fmul ((S.2.1 14) (600 * q + f)) 1166016512)))), (3, .int (nI (600 * q + f))), (0, .ref (ad 0)), (1, .int (nI q)), (2, .int (nI f))]) hx hb dX7_sum_82 hl (by decide) rfl (fun ls hl => ?_)
          refine lv_iload hx hb dX7_sum_84 (lv_at hl 0 rfl) ?_
          refine lv_bipush (v := nI 31) hx hb dX7_sum_86 (by decide) ?_
          refine lv_imul hx hb dX7_sum_88 ?_
          refine lv_aload_n hx hb dX7_sum_89 rfl (lv_at hl 2 rfl) ?_
          refine m_get hx hb hts inX7 hown hK hP (ci := 7) rfl (k := 0) (by decide) rfl 15 (by decide) (hts (.fieldLink RX7 52 "RollbackPairModel" "place1" "[F") (by decide +kernel)) rfl dX7_sum_90 ?_
          refine lv_iload_n hx hb dX7_sum_93 rfl (lv_at hl 1 rfl) ?_
          refine m_fald hx hb hK hP (k := 14) (by decide) (f := (S.2.1 15)) rfl (i := 600 * q + f) (by omega) (by decide) dX7_sum_94 ?_
          refine lv_ldcf hx hb hown (hts (.constantFloat RX7 155 (1166016512)) (by decide +kernel)) dX7_sum_95 ?_
          refine lv_fmul hx hb dX7_sum_97 (fm_n hBf.2.2.1.1 Fc_4096) ?_
          refine lv_f2i hx hb dX7_sum_98 ?_
          refine lv_iadd hx hb dX7_sum_99 ?_
          refine lv_istore (lv' := [(4, .int ((((((nI (17 * 31)) + (FP.f2i (FP.fmul ((S.2.1 13) (600 * q + f)) 1166016512))) * (nI 31)) + (FP.f2i (FP.fmul ((S.2.1 14) (600 * q + f)) 1166016512))) * (nI 31)) + (FP.f2i (FP.fmul ((S.2.1 15) (600 * q + f)) 1166016512)))), (3, .int (nI (600 * q + f))), (0, .ref (ad 0)), (1, .int (nI q)), (2, .int (nI f))]) hx hb dX7_sum_100 hl (by decide) rfl (fun ls hl => ?_)
          refine lv_iload hx hb dX7_sum_102 (lv_at hl 0 rfl) ?_
          refine lv_bipush (v := nI 31) hx hb dX7_sum_104 (by decide) ?_
          refine lv_imul hx hb dX7_sum_106 ?_
          refine lv_aload_n hx hb dX7_sum_107 rfl (lv_at hl 2 rfl) ?_
          refine m_get hx hb hts inX7 hown hK hP (ci := 7) rfl (k := 0) (by decide) rfl 16 (by decide) (hts (.fieldLink RX7 55 "RollbackPairModel" "speed1" "[F") (by decide +kernel)) rfl dX7_sum_108 ?_
          refine lv_iload_n hx hb dX7_sum_111 rfl (lv_at hl 1 rfl) ?_
          refine m_fald hx hb hK hP (k := 15) (by decide) (f := (S.2.1 16)) rfl (i := 600 * q + f) (by omega) (by decide) dX7_sum_112 ?_
          refine lv_ldcf hx hb hown (hts (.constantFloat RX7 155 (1166016512)) (by decide +kernel)) dX7_sum_113 ?_
          refine lv_fmul hx hb dX7_sum_115 (fm_n hBf.2.2.2.1.1 Fc_4096) ?_
          refine lv_f2i hx hb dX7_sum_116 ?_
          refine lv_iadd hx hb dX7_sum_117 ?_
          refine lv_istore (lv' := [(4, .int ((((((((nI (17 * 31)) + (FP.f2i (FP.fmul ((S.2.1 13) (600 * q + f)) 1166016512))) * (nI 31)) + (FP.f2i (FP.fmul ((S.2.1 14) (600 * q + f)) 1166016512))) * (nI 31)) + (FP.f2i (FP.fmul ((S.2.1 15) (600 * q + f)) 1166016512))) * (nI 31)) + (FP.f2i (FP.fmul ((S.2.1 16) (600 * q + f)) 1166016512)))), (3, .int (nI (600 * q + f))), (0, .ref (ad 0)), (1, .int (nI q)), (2, .int (nI f))]) hx hb dX7_sum_118 hl (by decide) rfl (fun ls hl => ?_)
          refine lv_iload hx hb dX7_sum_120 (lv_at hl 0 rfl) ?_
          refine lv_bipush (v := nI 31) hx hb dX7_sum_122 (by decide) ?_
          refine lv_imul hx hb dX7_sum_124 ?_
          refine lv_aload_n hx hb dX7_sum_125 rfl (lv_at hl 2 rfl) ?_
          refine m_get hx hb hts inX7 hown hK hP (ci := 7) rfl (k := 0) (by decide) rfl 17 (by decide) (hts (.fieldLink RX7 58 "RollbackPairModel" "hits" "[I") (by decide +kernel)) rfl dX7_sum_126 ?_
          refine lv_iload_n hx hb dX7_sum_129 rfl (lv_at hl 1 rfl) ?_
          refine m_iald hx hb hK hP (k := 16) (by decide) (f := (S.1 17)) rfl (i := 600 * q + f) (by omega) (by decide) dX7_sum_130 ?_
          refine lv_iadd hx hb dX7_sum_131 ?_
          refine lv_istore (lv' := [(4, .int ((((((((((nI (17 * 31)) + (FP.f2i (FP.fmul ((S.2.1 13) (600 * q + f)) 1166016512))) * (nI 31)) + (FP.f2i (FP.fmul ((S.2.1 14) (600 * q + f)) 1166016512))) * (nI 31)) + (FP.f2i (FP.fmul ((S.2.1 15) (600 * q + f)) 1166016512))) * (nI 31)) + (FP.f2i (FP.fmul ((S.2.1 16) (600 * q + f)) 1166016512))) * (nI 31)) + ((S.1 17) (600 * q + f)))), (3, .int (nI (600 * q + f))), (0, .ref (ad 0)), (1, .int (nI q)), (2, .int (nI f))]) hx hb dX7_sum_132 hl (by decide) rfl (fun ls hl => ?_)
          refine lv_iload hx hb dX7_sum_134 (lv_at hl 0 rfl) ?_
          refine lv_bipush (v := nI 31) hx hb dX7_sum_136 (by decide) ?_
          refine lv_imul hx hb dX7_sum_138 ?_
          refine lv_aload_n hx hb dX7_sum_139 rfl (lv_at hl 2 rfl) ?_
          refine m_get hx hb hts inX7 hown hK hP (ci := 7) rfl (k := 0) (by decide) rfl 18 (by decide) (hts (.fieldLink RX7 61 "RollbackPairModel" "work" "[D") (by decide +kernel)) rfl dX7_sum_140 ?_
          refine lv_iload_n hx hb dX7_sum_143 rfl (lv_at hl 1 rfl) ?_
          refine m_dald hx hb hK hP (k := 17) (by decide) (f := S.2.2.2) rfl (i := 600 * q + f) (by omega) (by decide) dX7_sum_144 ?_
          refine lv_ldc2d hx hb hown (hts (.constantDouble RX7 156 (4634204016564240384)) (by decide +kernel)) dX7_sum_145 ?_
          refine lv_dmul hx hb dX7_sum_148 (dm_n hBf.2.2.2.2.1 Dc_64) ?_
          refine lv_d2i hx hb dX7_sum_149 ?_
          refine lv_iadd hx hb dX7_sum_150 ?_
          exact r_i hx hb hr hlocks hK hP hS dX7_sum_151 ⟨rfl, by unfold rSu; rw [if_pos ⟨two_in hq, nI_pos hf, by rw [tn_nI hf, hao]; exact c4, by rw [tn_nI hf, hao]; exact (in15 (by omega) hf).mp c5⟩, tn_nI (show q < 2 ^ 31 by omega), tn_nI hf]; rfl⟩
        · refine lv_iconst (v := nI 0) hx hb dX7_sum_34 (by decide) ?_
          exact r_i hx hb hr hlocks hK hP hS dX7_sum_35 ⟨rfl, by unfold rSu; rw [if_neg (fun z => by have h9 := z.2.2.2; rw [tn_nI hf, hao] at h9; exact c5 ((in15 (by omega) hf).mpr h9))]⟩
