theorem wh_c (x : Int32) (n : Nat) (hn : n < 2 ^ 31) : (∃ j : Nat, j ≤ n ∧ x = nI j) ∨ x < 0 ∨ nI n < x := by
  by_cases h : x < 0
  · exact Or.inr (Or.inl h)
  · obtain ⟨j, hj, rfl⟩ := nI_of h
    by_cases h2 : j ≤ n
    · exact Or.inl ⟨j, h2, rfl⟩
    · exact Or.inr (Or.inr (nI_lt (by omega) hj))
theorem out_ne {x : Int32} {n : Nat} (hn : n < 2 ^ 31) (h : x < 0 ∨ nI n < x) : ∀ j : Nat, j ≤ n → x ≠ nI j := by
  intro j hj e
  subst e
  rcases h with h | h
  · exact nI_pos (by omega) h
  · exact nI_nlt hj (by omega) h
def abQ (S : SS) (q : Nat) (wh : Int32) : Int32 := if wh = nI 0 then S.1 2 q else if wh = nI 1 then (if ¬ 0 ≤ S.1 4 q ∧ ¬ S.1 2 q ≤ S.1 12 (2 * q + 1 - q) then S.1 12 (2 * q + 1 - q) else S.1 2 q) else if wh = nI 2 then S.1 3 q else if wh = nI 3 then S.1 4 q else if wh = nI 4 then S.1 19 q else if wh = nI 5 then S.1 5 q else -1
def rAb (S : SS) (pe wh : Int32) : Int32 := if two pe then abQ S (tn pe) wh else -1
theorem abQ_out {S : SS} {q : Nat} {wh : Int32} (h : wh < 0 ∨ nI 5 < wh) : abQ S q wh = -1 := by
  have hn := out_ne (by decide) h
  unfold abQ
  rw [if_neg (hn 0 (by decide)), if_neg (hn 1 (by decide)), if_neg (hn 2 (by decide)), if_neg (hn 3 (by decide)), if_neg (hn 4 (by decide)), if_neg (hn 5 (by decide))]
set_option maxHeartbeats 4000000 in
set_option maxRecDepth 100000 in
/-- about(pe, wh) -/
theorem c_about (l : Launch) (D : va_G) (cs : Nat → ClassId) (ad : Nat → Nat) (hJ : Inj ad 26) (d w : Int32) (S : SS) (np ns : UInt32) (pe wh : Int32) : CTi l yX7_about wsX7_about ({ frames := 1, cells := 0, slots := 0, locals := 20 }) D cs ad 26 (mm ad cs d w S np ns) [.ref (ad 0), .int pe, .int wh] (fun r M2 => M2 = (mm ad cs d w S np ns) ∧ r = rAb S pe wh) := by
  refine Met.ofW (cc := cX7_about) (maxL := 4) (ret := (some .int)) (by decide) rfl ?_
  intro p e s m args below meth c s₁ B hml hv
  obtain ⟨rfl, hP, hK⟩ := hv
  have hx := B.exec
  have hb := B.bytes
  have hr := B.returns
  have hts := atoms_spec (ws := wsX7_about) B.pre
  have hown : s.vm.findClass RX7 = some m.cls := findClass_of_methodNamed B.named
  have hlocks := B.notSynchronized
  have hS : va_S (Ad ad 26) s.heap s.heap [] := va_S.rf
  have hl := lv_entry ([.ref (ad 0), .int pe, .int wh]) (n := 4) (Nat.le_of_ble_eq_true rfl)
  rw [lg_entry_eq]
  generalize (lg_sl ([.ref (ad 0), .int pe, .int wh]) ++ List.replicate (4 - (lg_sl ([.ref (ad 0), .int pe, .int wh])).length) Slot.unset).toArray = ls at hl ⊢
  have hl : lv_has ls 4 [(0, .ref (ad 0)), (1, .int pe), (2, .int wh)] := hl
  have inX7 : ∀ w ∈ u_ws RX7 TX7 29, w ∈ wsX7_about := fun w h => List.mem_cons_of_mem _ (List.mem_append_right _ h)
  have hM0 := hP
  rcases wh_c wh 5 (by decide) with ⟨j, hj, rfl⟩ | ho
  · rcases (show j = 0 ∨ j = 1 ∨ j = 2 ∨ j = 3 ∨ j = 4 ∨ j = 5 by omega) with rfl | rfl | rfl | rfl | rfl | rfl
    · refine lv_iload_n hx hb dX7_about_0 rfl (lv_at hl 1 rfl) ?_
      refine k_Si (As := [.int pe]) (rest := []) ⟨hx, hb, hml, hown, hts⟩ hK hP hS Ad_le (c_isTwo l D cs ad 26 (mm ad cs d w S np ns) pe) (va_cwS 1 hts gX7_about_X7_isTwo rfl rfl rfl (by decide +kernel) ⟨Nat.le_of_ble_eq_true rfl, Nat.le_of_ble_eq_true rfl⟩) rfl rfl hl.1 (Nat.le_of_ble_eq_true rfl) dX7_about_1 ⟨Nat.le_of_ble_eq_true rfl, Nat.le_of_ble_eq_true rfl⟩ (fun r_1 M1 H locs hpo hP hS _ _ => ?_)
      obtain ⟨rfl, rfl⟩ := hpo
      refine lv_if_eq (tgt := 16) hx hb dX7_about_4 (by decide) (fun c1 => ?_) (fun c1 => ?_)
      · have hno := two_no c1
        refine lv_iconst (v := (-1)) hx hb dX7_about_16 (by decide) ?_
        exact r_i hx hb hr hlocks hK hP hS dX7_about_17 ⟨rfl, by unfold rAb; rw [if_neg hno]⟩
      · obtain ⟨q, hq, rfl⟩ := two_of c1
        refine lv_iload_n hx hb dX7_about_7 rfl (lv_at hl 2 rfl) ?_
        refine lv_if_lt (tgt := 16) hx hb dX7_about_8 (by decide) (fun c2 => absurd c2 (by decide)) (fun c2 => ?_)
        refine lv_iload_n hx hb dX7_about_11 rfl (lv_at hl 2 rfl) ?_
        refine lv_iconst (v := nI 5) hx hb dX7_about_12 (by decide) ?_
        refine n_cmp_le (tgt := 18) hx hb dX7_about_13 (by decide) (by omega) (by omega) (fun c_2 => ?_) (fun c_2 => absurd c_2 (by decide))
        refine lv_iload_n hx hb dX7_about_18 rfl (lv_at hl 2 rfl) ?_
        refine lv_iconst (v := nI 1) hx hb dX7_about_19 (by decide) ?_
        refine n_cmp_ne (tgt := 66) hx hb dX7_about_20 (by decide) (by omega) (by omega) (fun c_3 => ?_) (fun c_3 => absurd c_3 (by decide))
        refine lv_iload_n hx hb dX7_about_66 rfl (lv_at hl 2 rfl) ?_
        refine n_if_ne (tgt := 79) hx hb dX7_about_67 (by decide) (by omega) (fun c_4 => absurd c_4 (by decide)) (fun c_4 => ?_)
        refine lv_aload_n hx hb dX7_about_70 rfl (lv_at hl 0 rfl) ?_
        refine m_get hx hb hts inX7 hown hK hP (ci := 7) rfl (k := 0) (by decide) rfl 2 (by decide) (hts (.fieldLink RX7 7 "RollbackPairModel" "at" "[I") (by decide +kernel)) rfl dX7_about_71 ?_
        refine lv_iload_n hx hb dX7_about_74 rfl (lv_at hl 1 rfl) ?_
        refine m_iald hx hb hK hP (k := 1) (by decide) (f := (S.1 2)) rfl (i := q) (by omega) (by decide) dX7_about_75 ?_
        refine lv_goto (tgt := 127) hx hb dX7_about_76 (by decide) ?_
        exact r_i hx hb hr hlocks hK hP hS dX7_about_127 ⟨rfl, by unfold rAb; rw [if_pos (two_in hq), tn_nI (show q < 2 ^ 31 by omega)]; unfold abQ; rw [if_pos rfl]⟩
    · refine lv_iload_n hx hb dX7_about_0 rfl (lv_at hl 1 rfl) ?_
      refine k_Si (As := [.int pe]) (rest := []) ⟨hx, hb, hml, hown, hts⟩ hK hP hS Ad_le (c_isTwo l D cs ad 26 (mm ad cs d w S np ns) pe) (va_cwS 1 hts gX7_about_X7_isTwo rfl rfl rfl (by decide +kernel) ⟨Nat.le_of_ble_eq_true rfl, Nat.le_of_ble_eq_true rfl⟩) rfl rfl hl.1 (Nat.le_of_ble_eq_true rfl) dX7_about_1 ⟨Nat.le_of_ble_eq_true rfl, Nat.le_of_ble_eq_true rfl⟩ (fun r_1 M1 H locs hpo hP hS _ _ => ?_)
      obtain ⟨rfl, rfl⟩ := hpo
      refine lv_if_eq (tgt := 16) hx hb dX7_about_4 (by decide) (fun c1 => ?_) (fun c1 => ?_)
      · have hno := two_no c1
        refine lv_iconst (v := (-1)) hx hb dX7_about_16 (by decide) ?_
        exact r_i hx hb hr hlocks hK hP hS dX7_about_17 ⟨rfl, by unfold rAb; rw [if_neg hno]⟩
      · obtain ⟨q, hq, rfl⟩ := two_of c1
        refine lv_iload_n hx hb dX7_about_7 rfl (lv_at hl 2 rfl) ?_
        refine lv_if_lt (tgt := 16) hx hb dX7_about_8 (by decide) (fun c2 => absurd c2 (by decide)) (fun c2 => ?_)
        refine lv_iload_n hx hb dX7_about_11 rfl (lv_at hl 2 rfl) ?_
        refine lv_iconst (v := nI 5) hx hb dX7_about_12 (by decide) ?_
        refine n_cmp_le (tgt := 18) hx hb dX7_about_13 (by decide) (by omega) (by omega) (fun c_2 => ?_) (fun c_2 => absurd c_2 (by decide))
        refine lv_iload_n hx hb dX7_about_18 rfl (lv_at hl 2 rfl) ?_
        refine lv_iconst (v := nI 1) hx hb dX7_about_19 (by decide) ?_
        refine n_cmp_ne (tgt := 66) hx hb dX7_about_20 (by decide) (by omega) (by omega) (fun c_3 => absurd c_3 (by decide)) (fun c_3 => ?_)
        refine lv_aload_n hx hb dX7_about_23 rfl (lv_at hl 0 rfl) ?_
        refine m_get hx hb hts inX7 hown hK hP (ci := 7) rfl (k := 0) (by decide) rfl 12 (by decide) (hts (.fieldLink RX7 43 "RollbackPairModel" "known" "[I") (by decide +kernel)) rfl dX7_about_24 ?_
        refine lv_iconst (v := nI 2) hx hb dX7_about_27 (by decide) ?_
        refine lv_iload_n hx hb dX7_about_28 rfl (lv_at hl 1 rfl) ?_
        refine n_mul hx hb dX7_about_29 ?_
        refine lv_iconst (v := nI 1) hx hb dX7_about_30 (by decide) ?_
        refine n_add hx hb dX7_about_31 ?_
        refine lv_iload_n hx hb dX7_about_32 rfl (lv_at hl 1 rfl) ?_
        refine n_sub hx hb (by omega) dX7_about_33 ?_
        refine m_iald hx hb hK hP (k := 11) (by decide) (f := (S.1 12)) rfl (i := 2 * q + 1 - q) (by omega) (by decide) dX7_about_34 ?_
        refine lv_istore_n (lv' := [(3, .int ((S.1 12) (2 * q + 1 - q))), (0, .ref (ad 0)), (1, .int (nI q)), (2, .int (nI 1))]) hx hb dX7_about_35 rfl hl (by decide) rfl (fun ls hl => ?_)
        refine lv_aload_n hx hb dX7_about_36 rfl (lv_at hl 1 rfl) ?_
        refine m_get hx hb hts inX7 hown hK hP (ci := 7) rfl (k := 0) (by decide) rfl 4 (by decide) (hts (.fieldLink RX7 16 "RollbackPairModel" "cut" "[I") (by decide +kernel)) rfl dX7_about_37 ?_
        refine lv_iload_n hx hb dX7_about_40 rfl (lv_at hl 2 rfl) ?_
        refine m_iald hx hb hK hP (k := 3) (by decide) (f := (S.1 4)) rfl (i := q) (by omega) (by decide) dX7_about_41 ?_
        refine lv_if_ge (tgt := 59) hx hb dX7_about_42 (by decide) (fun c4 => ?_) (fun c4 => ?_)
        · refine lv_aload_n hx hb dX7_about_59 rfl (lv_at hl 1 rfl) ?_
          refine m_get hx hb hts inX7 hown hK hP (ci := 7) rfl (k := 0) (by decide) rfl 2 (by decide) (hts (.fieldLink RX7 7 "RollbackPairModel" "at" "[I") (by decide +kernel)) rfl dX7_about_60 ?_
          refine lv_iload_n hx hb dX7_about_63 rfl (lv_at hl 2 rfl) ?_
          refine m_iald hx hb hK hP (k := 1) (by decide) (f := (S.1 2)) rfl (i := q) (by omega) (by decide) dX7_about_64 ?_
          exact r_i hx hb hr hlocks hK hP hS dX7_about_65 ⟨rfl, by unfold rAb; rw [if_pos (two_in hq), tn_nI (show q < 2 ^ 31 by omega)]; unfold abQ; rw [if_neg (by decide), if_pos rfl]; rw [if_neg (fun z => z.1 c4)]⟩
        · refine lv_iload_n hx hb dX7_about_45 rfl (lv_at hl 0 rfl) ?_
          refine lv_aload_n hx hb dX7_about_46 rfl (lv_at hl 1 rfl) ?_
          refine m_get hx hb hts inX7 hown hK hP (ci := 7) rfl (k := 0) (by decide) rfl 2 (by decide) (hts (.fieldLink RX7 7 "RollbackPairModel" "at" "[I") (by decide +kernel)) rfl dX7_about_47 ?_
          refine lv_iload_n hx hb dX7_about_50 rfl (lv_at hl 2 rfl) ?_
          refine m_iald hx hb hK hP (k := 1) (by decide) (f := (S.1 2)) rfl (i := q) (by omega) (by decide) dX7_about_51 ?_
          refine lv_icmp_ge (tgt := 59) hx hb dX7_about_52 (by decide) (fun c5 => ?_) (fun c5 => ?_)
          · refine lv_aload_n hx hb dX7_about_59 rfl (lv_at hl 1 rfl) ?_
            refine m_get hx hb hts inX7 hown hK hP (ci := 7) rfl (k := 0) (by decide) rfl 2 (by decide) (hts (.fieldLink RX7 7 "RollbackPairModel" "at" "[I") (by decide +kernel)) rfl dX7_about_60 ?_
            refine lv_iload_n hx hb dX7_about_63 rfl (lv_at hl 2 rfl) ?_
            refine m_iald hx hb hK hP (k := 1) (by decide) (f := (S.1 2)) rfl (i := q) (by omega) (by decide) dX7_about_64 ?_
            exact r_i hx hb hr hlocks hK hP hS dX7_about_65 ⟨rfl, by unfold rAb; rw [if_pos (two_in hq), tn_nI (show q < 2 ^ 31 by omega)]; unfold abQ; rw [if_neg (by decide), if_pos rfl]; rw [if_neg (fun z => z.2 c5)]⟩
          · refine lv_iload_n hx hb dX7_about_55 rfl (lv_at hl 0 rfl) ?_
            refine lv_goto (tgt := 65) hx hb dX7_about_56 (by decide) ?_
            exact r_i hx hb hr hlocks hK hP hS dX7_about_65 ⟨rfl, by unfold rAb; rw [if_pos (two_in hq), tn_nI (show q < 2 ^ 31 by omega)]; unfold abQ; rw [if_neg (by decide), if_pos rfl]; rw [if_pos ⟨c4, c5⟩]⟩
    · refine lv_iload_n hx hb dX7_about_0 rfl (lv_at hl 1 rfl) ?_
      refine k_Si (As := [.int pe]) (rest := []) ⟨hx, hb, hml, hown, hts⟩ hK hP hS Ad_le (c_isTwo l D cs ad 26 (mm ad cs d w S np ns) pe) (va_cwS 1 hts gX7_about_X7_isTwo rfl rfl rfl (by decide +kernel) ⟨Nat.le_of_ble_eq_true rfl, Nat.le_of_ble_eq_true rfl⟩) rfl rfl hl.1 (Nat.le_of_ble_eq_true rfl) dX7_about_1 ⟨Nat.le_of_ble_eq_true rfl, Nat.le_of_ble_eq_true rfl⟩ (fun r_1 M1 H locs hpo hP hS _ _ => ?_)
      obtain ⟨rfl, rfl⟩ := hpo
      refine lv_if_eq (tgt := 16) hx hb dX7_about_4 (by decide) (fun c1 => ?_) (fun c1 => ?_)
      · have hno := two_no c1
        refine lv_iconst (v := (-1)) hx hb dX7_about_16 (by decide) ?_
        exact r_i hx hb hr hlocks hK hP hS dX7_about_17 ⟨rfl, by unfold rAb; rw [if_neg hno]⟩
      · obtain ⟨q, hq, rfl⟩ := two_of c1
        refine lv_iload_n hx hb dX7_about_7 rfl (lv_at hl 2 rfl) ?_
        refine lv_if_lt (tgt := 16) hx hb dX7_about_8 (by decide) (fun c2 => absurd c2 (by decide)) (fun c2 => ?_)
        refine lv_iload_n hx hb dX7_about_11 rfl (lv_at hl 2 rfl) ?_
        refine lv_iconst (v := nI 5) hx hb dX7_about_12 (by decide) ?_
        refine n_cmp_le (tgt := 18) hx hb dX7_about_13 (by decide) (by omega) (by omega) (fun c_2 => ?_) (fun c_2 => absurd c_2 (by decide))
        refine lv_iload_n hx hb dX7_about_18 rfl (lv_at hl 2 rfl) ?_
        refine lv_iconst (v := nI 1) hx hb dX7_about_19 (by decide) ?_
        refine n_cmp_ne (tgt := 66) hx hb dX7_about_20 (by decide) (by omega) (by omega) (fun c_3 => ?_) (fun c_3 => absurd c_3 (by decide))
        refine lv_iload_n hx hb dX7_about_66 rfl (lv_at hl 2 rfl) ?_
        refine n_if_ne (tgt := 79) hx hb dX7_about_67 (by decide) (by omega) (fun c_4 => ?_) (fun c_4 => absurd c_4 (by decide))
        refine lv_iload_n hx hb dX7_about_79 rfl (lv_at hl 2 rfl) ?_
        refine lv_iconst (v := nI 2) hx hb dX7_about_80 (by decide) ?_
        refine n_cmp_ne (tgt := 93) hx hb dX7_about_81 (by decide) (by omega) (by omega) (fun c_5 => absurd c_5 (by decide)) (fun c_5 => ?_)
        refine lv_aload_n hx hb dX7_about_84 rfl (lv_at hl 0 rfl) ?_
        refine m_get hx hb hts inX7 hown hK hP (ci := 7) rfl (k := 0) (by decide) rfl 3 (by decide) (hts (.fieldLink RX7 13 "RollbackPairModel" "stalls" "[I") (by decide +kernel)) rfl dX7_about_85 ?_
        refine lv_iload_n hx hb dX7_about_88 rfl (lv_at hl 1 rfl) ?_
        refine m_iald hx hb hK hP (k := 2) (by decide) (f := (S.1 3)) rfl (i := q) (by omega) (by decide) dX7_about_89 ?_
        refine lv_goto (tgt := 127) hx hb dX7_about_90 (by decide) ?_
        exact r_i hx hb hr hlocks hK hP hS dX7_about_127 ⟨rfl, by unfold rAb; rw [if_pos (two_in hq), tn_nI (show q < 2 ^ 31 by omega)]; unfold abQ; rw [if_neg (by decide), if_neg (by decide), if_pos rfl]⟩
    · refine lv_iload_n hx hb dX7_about_0 rfl (lv_at hl 1 rfl) ?_
      refine k_Si (As := [.int pe]) (rest := []) ⟨hx, hb, hml, hown, hts⟩ hK hP hS Ad_le (c_isTwo l D cs ad 26 (mm ad cs d w S np ns) pe) (va_cwS 1 hts gX7_about_X7_isTwo rfl rfl rfl (by decide +kernel) ⟨Nat.le_of_ble_eq_true rfl, Nat.le_of_ble_eq_true rfl⟩) rfl rfl hl.1 (Nat.le_of_ble_eq_true rfl) dX7_about_1 ⟨Nat.le_of_ble_eq_true rfl, Nat.le_of_ble_eq_true rfl⟩ (fun r_1 M1 H locs hpo hP hS _ _ => ?_)
      obtain ⟨rfl, rfl⟩ := hpo
      refine lv_if_eq (tgt := 16) hx hb dX7_about_4 (by decide) (fun c1 => ?_) (fun c1 => ?_)
      · have hno := two_no c1
        refine lv_iconst (v := (-1)) hx hb dX7_about_16 (by decide) ?_
        exact r_i hx hb hr hlocks hK hP hS dX7_about_17 ⟨rfl, by unfold rAb; rw [if_neg hno]⟩
      · obtain ⟨q, hq, rfl⟩ := two_of c1
        refine lv_iload_n hx hb dX7_about_7 rfl (lv_at hl 2 rfl) ?_
        refine lv_if_lt (tgt := 16) hx hb dX7_about_8 (by decide) (fun c2 => absurd c2 (by decide)) (fun c2 => ?_)
        refine lv_iload_n hx hb dX7_about_11 rfl (lv_at hl 2 rfl) ?_
        refine lv_iconst (v := nI 5) hx hb dX7_about_12 (by decide) ?_
        refine n_cmp_le (tgt := 18) hx hb dX7_about_13 (by decide) (by omega) (by omega) (fun c_2 => ?_) (fun c_2 => absurd c_2 (by decide))
        refine lv_iload_n hx hb dX7_about_18 rfl (lv_at hl 2 rfl) ?_
        refine lv_iconst (v := nI 1) hx hb dX7_about_19 (by decide) ?_
        refine n_cmp_ne (tgt := 66) hx hb dX7_about_20 (by decide) (by omega) (by omega) (fun c_3 => ?_) (fun c_3 => absurd c_3 (by decide))
        refine lv_iload_n hx hb dX7_about_66 rfl (lv_at hl 2 rfl) ?_
        refine n_if_ne (tgt := 79) hx hb dX7_about_67 (by decide) (by omega) (fun c_4 => ?_) (fun c_4 => absurd c_4 (by decide))
        refine lv_iload_n hx hb dX7_about_79 rfl (lv_at hl 2 rfl) ?_
        refine lv_iconst (v := nI 2) hx hb dX7_about_80 (by decide) ?_
        refine n_cmp_ne (tgt := 93) hx hb dX7_about_81 (by decide) (by omega) (by omega) (fun c_5 => ?_) (fun c_5 => absurd c_5 (by decide))
        refine lv_iload_n hx hb dX7_about_93 rfl (lv_at hl 2 rfl) ?_
        refine lv_iconst (v := nI 3) hx hb dX7_about_94 (by decide) ?_
        refine n_cmp_ne (tgt := 107) hx hb dX7_about_95 (by decide) (by omega) (by omega) (fun c_6 => absurd c_6 (by decide)) (fun c_6 => ?_)
        refine lv_aload_n hx hb dX7_about_98 rfl (lv_at hl 0 rfl) ?_
        refine m_get hx hb hts inX7 hown hK hP (ci := 7) rfl (k := 0) (by decide) rfl 4 (by decide) (hts (.fieldLink RX7 16 "RollbackPairModel" "cut" "[I") (by decide +kernel)) rfl dX7_about_99 ?_
        refine lv_iload_n hx hb dX7_about_102 rfl (lv_at hl 1 rfl) ?_
        refine m_iald hx hb hK hP (k := 3) (by decide) (f := (S.1 4)) rfl (i := q) (by omega) (by decide) dX7_about_103 ?_
        refine lv_goto (tgt := 127) hx hb dX7_about_104 (by decide) ?_
        exact r_i hx hb hr hlocks hK hP hS dX7_about_127 ⟨rfl, by unfold rAb; rw [if_pos (two_in hq), tn_nI (show q < 2 ^ 31 by omega)]; unfold abQ; rw [if_neg (by decide), if_neg (by decide), if_neg (by decide), if_pos rfl]⟩
    · refine lv_iload_n hx hb dX7_about_0 rfl (lv_at hl 1 rfl) ?_
      refine k_Si (As := [.int pe]) (rest := []) ⟨hx, hb, hml, hown, hts⟩ hK hP hS Ad_le (c_isTwo l D cs ad 26 (mm ad cs d w S np ns) pe) (va_cwS 1 hts gX7_about_X7_isTwo rfl rfl rfl (by decide +kernel) ⟨Nat.le_of_ble_eq_true rfl, Nat.le_of_ble_eq_true rfl⟩) rfl rfl hl.1 (Nat.le_of_ble_eq_true rfl) dX7_about_1 ⟨Nat.le_of_ble_eq_true rfl, Nat.le_of_ble_eq_true rfl⟩ (fun r_1 M1 H locs hpo hP hS _ _ => ?_)
      obtain ⟨rfl, rfl⟩ := hpo
      refine lv_if_eq (tgt := 16) hx hb dX7_about_4 (by decide) (fun c1 => ?_) (fun c1 => ?_)
      · have hno := two_no c1
        refine lv_iconst (v := (-1)) hx hb dX7_about_16 (by decide) ?_
        exact r_i hx hb hr hlocks hK hP hS dX7_about_17 ⟨rfl, by unfold rAb; rw [if_neg hno]⟩
      · obtain ⟨q, hq, rfl⟩ := two_of c1
        refine lv_iload_n hx hb dX7_about_7 rfl (lv_at hl 2 rfl) ?_
        refine lv_if_lt (tgt := 16) hx hb dX7_about_8 (by decide) (fun c2 => absurd c2 (by decide)) (fun c2 => ?_)
        refine lv_iload_n hx hb dX7_about_11 rfl (lv_at hl 2 rfl) ?_
        refine lv_iconst (v := nI 5) hx hb dX7_about_12 (by decide) ?_
        refine n_cmp_le (tgt := 18) hx hb dX7_about_13 (by decide) (by omega) (by omega) (fun c_2 => ?_) (fun c_2 => absurd c_2 (by decide))
        refine lv_iload_n hx hb dX7_about_18 rfl (lv_at hl 2 rfl) ?_
        refine lv_iconst (v := nI 1) hx hb dX7_about_19 (by decide) ?_
        refine n_cmp_ne (tgt := 66) hx hb dX7_about_20 (by decide) (by omega) (by omega) (fun c_3 => ?_) (fun c_3 => absurd c_3 (by decide))
        refine lv_iload_n hx hb dX7_about_66 rfl (lv_at hl 2 rfl) ?_
        refine n_if_ne (tgt := 79) hx hb dX7_about_67 (by decide) (by omega) (fun c_4 => ?_) (fun c_4 => absurd c_4 (by decide))
        refine lv_iload_n hx hb dX7_about_79 rfl (lv_at hl 2 rfl) ?_
        refine lv_iconst (v := nI 2) hx hb dX7_about_80 (by decide) ?_
        refine n_cmp_ne (tgt := 93) hx hb dX7_about_81 (by decide) (by omega) (by omega) (fun c_5 => ?_) (fun c_5 => absurd c_5 (by decide))
        refine lv_iload_n hx hb dX7_about_93 rfl (lv_at hl 2 rfl) ?_
        refine lv_iconst (v := nI 3) hx hb dX7_about_94 (by decide) ?_
        refine n_cmp_ne (tgt := 107) hx hb dX7_about_95 (by decide) (by omega) (by omega) (fun c_6 => ?_) (fun c_6 => absurd c_6 (by decide))
        refine lv_iload_n hx hb dX7_about_107 rfl (lv_at hl 2 rfl) ?_
        refine lv_iconst (v := nI 4) hx hb dX7_about_108 (by decide) ?_
        refine n_cmp_ne (tgt := 121) hx hb dX7_about_109 (by decide) (by omega) (by omega) (fun c_7 => absurd c_7 (by decide)) (fun c_7 => ?_)
        refine lv_aload_n hx hb dX7_about_112 rfl (lv_at hl 0 rfl) ?_
        refine m_get hx hb hts inX7 hown hK hP (ci := 7) rfl (k := 0) (by decide) rfl 19 (by decide) (hts (.fieldLink RX7 65 "RollbackPairModel" "rows" "[I") (by decide +kernel)) rfl dX7_about_113 ?_
        refine lv_iload_n hx hb dX7_about_116 rfl (lv_at hl 1 rfl) ?_
        refine m_iald hx hb hK hP (k := 18) (by decide) (f := (S.1 19)) rfl (i := q) (by omega) (by decide) dX7_about_117 ?_
        refine lv_goto (tgt := 127) hx hb dX7_about_118 (by decide) ?_
        exact r_i hx hb hr hlocks hK hP hS dX7_about_127 ⟨rfl, by unfold rAb; rw [if_pos (two_in hq), tn_nI (show q < 2 ^ 31 by omega)]; unfold abQ; rw [if_neg (by decide), if_neg (by decide), if_neg (by decide), if_neg (by decide), if_pos rfl]⟩
    · refine lv_iload_n hx hb dX7_about_0 rfl (lv_at hl 1 rfl) ?_
      refine k_Si (As := [.int pe]) (rest := []) ⟨hx, hb, hml, hown, hts⟩ hK hP hS Ad_le (c_isTwo l D cs ad 26 (mm ad cs d w S np ns) pe) (va_cwS 1 hts gX7_about_X7_isTwo rfl rfl rfl (by decide +kernel) ⟨Nat.le_of_ble_eq_true rfl, Nat.le_of_ble_eq_true rfl⟩) rfl rfl hl.1 (Nat.le_of_ble_eq_true rfl) dX7_about_1 ⟨Nat.le_of_ble_eq_true rfl, Nat.le_of_ble_eq_true rfl⟩ (fun r_1 M1 H locs hpo hP hS _ _ => ?_)
      obtain ⟨rfl, rfl⟩ := hpo
      refine lv_if_eq (tgt := 16) hx hb dX7_about_4 (by decide) (fun c1 => ?_) (fun c1 => ?_)
      · have hno := two_no c1
        refine lv_iconst (v := (-1)) hx hb dX7_about_16 (by decide) ?_
        exact r_i hx hb hr hlocks hK hP hS dX7_about_17 ⟨rfl, by unfold rAb; rw [if_neg hno]⟩
      · obtain ⟨q, hq, rfl⟩ := two_of c1
        refine lv_iload_n hx hb dX7_about_7 rfl (lv_at hl 2 rfl) ?_
        refine lv_if_lt (tgt := 16) hx hb dX7_about_8 (by decide) (fun c2 => absurd c2 (by decide)) (fun c2 => ?_)
        refine lv_iload_n hx hb dX7_about_11 rfl (lv_at hl 2 rfl) ?_
        refine lv_iconst (v := nI 5) hx hb dX7_about_12 (by decide) ?_
        refine n_cmp_le (tgt := 18) hx hb dX7_about_13 (by decide) (by omega) (by omega) (fun c_2 => ?_) (fun c_2 => absurd c_2 (by decide))
        refine lv_iload_n hx hb dX7_about_18 rfl (lv_at hl 2 rfl) ?_
        refine lv_iconst (v := nI 1) hx hb dX7_about_19 (by decide) ?_
        refine n_cmp_ne (tgt := 66) hx hb dX7_about_20 (by decide) (by omega) (by omega) (fun c_3 => ?_) (fun c_3 => absurd c_3 (by decide))
        refine lv_iload_n hx hb dX7_about_66 rfl (lv_at hl 2 rfl) ?_
        refine n_if_ne (tgt := 79) hx hb dX7_about_67 (by decide) (by omega) (fun c_4 => ?_) (fun c_4 => absurd c_4 (by decide))
        refine lv_iload_n hx hb dX7_about_79 rfl (lv_at hl 2 rfl) ?_
        refine lv_iconst (v := nI 2) hx hb dX7_about_80 (by decide) ?_
        refine n_cmp_ne (tgt := 93) hx hb dX7_about_81 (by decide) (by omega) (by omega) (fun c_5 => ?_) (fun c_5 => absurd c_5 (by decide))
        refine lv_iload_n hx hb dX7_about_93 rfl (lv_at hl 2 rfl) ?_
        refine lv_iconst (v := nI 3) hx hb dX7_about_94 (by decide) ?_
        refine n_cmp_ne (tgt := 107) hx hb dX7_about_95 (by decide) (by omega) (by omega) (fun c_6 => ?_) (fun c_6 => absurd c_6 (by decide))
        refine lv_iload_n hx hb dX7_about_107 rfl (lv_at hl 2 rfl) ?_
        refine lv_iconst (v := nI 4) hx hb dX7_about_108 (by decide) ?_
        refine n_cmp_ne (tgt := 121) hx hb dX7_about_109 (by decide) (by omega) (by omega) (fun c_7 => ?_) (fun c_7 => absurd c_7 (by decide))
        refine lv_aload_n hx hb dX7_about_121 rfl (lv_at hl 0 rfl) ?_
        refine m_get hx hb hts inX7 hown hK hP (ci := 7) rfl (k := 0) (by decide) rfl 5 (by decide) (hts (.fieldLink RX7 19 "RollbackPairModel" "told" "[I") (by decide +kernel)) rfl dX7_about_122 ?_
        refine lv_iload_n hx hb dX7_about_125 rfl (lv_at hl 1 rfl) ?_
        refine m_iald hx hb hK hP (k := 4) (by decide) (f := (S.1 5)) rfl (i := q) (by omega) (by decide) dX7_about_126 ?_
        exact r_i hx hb hr hlocks hK hP hS dX7_about_127 ⟨rfl, by unfold rAb; rw [if_pos (two_in hq), tn_nI (show q < 2 ^ 31 by omega)]; unfold abQ; rw [if_neg (by decide), if_neg (by decide), if_neg (by decide), if_neg (by decide), if_neg (by decide), if_pos rfl]⟩
  · refine lv_iload_n hx hb dX7_about_0 rfl (lv_at hl 1 rfl) ?_
    refine k_Si (As := [.int pe]) (rest := []) ⟨hx, hb, hml, hown, hts⟩ hK hP hS Ad_le (c_isTwo l D cs ad 26 (mm ad cs d w S np ns) pe) (va_cwS 1 hts gX7_about_X7_isTwo rfl rfl rfl (by decide +kernel) ⟨Nat.le_of_ble_eq_true rfl, Nat.le_of_ble_eq_true rfl⟩) rfl rfl hl.1 (Nat.le_of_ble_eq_true rfl) dX7_about_1 ⟨Nat.le_of_ble_eq_true rfl, Nat.le_of_ble_eq_true rfl⟩ (fun r_1 M1 H locs hpo hP hS _ _ => ?_)
    obtain ⟨rfl, rfl⟩ := hpo
    refine lv_if_eq (tgt := 16) hx hb dX7_about_4 (by decide) (fun c1 => ?_) (fun c1 => ?_)
    · have hno := two_no c1
      refine lv_iconst (v := (-1)) hx hb dX7_about_16 (by decide) ?_
      exact r_i hx hb hr hlocks hK hP hS dX7_about_17 ⟨rfl, by unfold rAb; rw [if_neg hno]⟩
    · obtain ⟨q, hq, rfl⟩ := two_of c1
      refine lv_iload_n hx hb dX7_about_7 rfl (lv_at hl 2 rfl) ?_
      refine lv_if_lt (tgt := 16) hx hb dX7_about_8 (by decide) (fun c2 => ?_) (fun c2 => ?_)
      · refine lv_iconst (v := (-1)) hx hb dX7_about_16 (by decide) ?_
        exact r_i hx hb hr hlocks hK hP hS dX7_about_17 ⟨rfl, by unfold rAb; rw [if_pos (two_in hq), abQ_out ho]⟩
      · refine lv_iload_n hx hb dX7_about_11 rfl (lv_at hl 2 rfl) ?_
        refine lv_iconst (v := nI 5) hx hb dX7_about_12 (by decide) ?_
        refine lv_icmp_le (tgt := 18) hx hb dX7_about_13 (by decide) (fun c3 => ?_) (fun c3 => ?_)
        · exact absurd ho (fun z => z.elim c2 (fun z => Int32.not_lt.mpr c3 z))
        · refine lv_iconst (v := (-1)) hx hb dX7_about_16 (by decide) ?_
          exact r_i hx hb hr hlocks hK hP hS dX7_about_17 ⟨rfl, by unfold rAb; rw [if_pos (two_in hq), abQ_out ho]⟩
def mDbl (S : SS) (q : Nat) : SS := sI (mCopy S (12 * q) (12 * q + tn (S.1 19 q))) 19 (upd (S.1 19) q (nI (tn (S.1 19 q) + 1)))
def mEnd (S : SS) (q : Nat) : SS := sI (mCopy (mTake S q) 24 (12 * q + (tn (S.1 19 q) - 1))) 19 (upd ((mTake S q).1 19) q (nI (tn (S.1 19 q) - 1 + 1)))
theorem mTake_19 (S : SS) (q : Nat) : (mTake S q).1 19 = upd (S.1 19) q (nI (tn (S.1 19 q) - 1)) := by
  unfold mTake
  rw [mShift_k _ _ _ 19 (by omega)]
  rfl
def mAl (S : SS) (q how : Nat) : SS := if how = 1 then mDbl S q else if how = 2 then mEnd S q else mTake S q
abbrev noAl (S : SS) (pe how : Int32) : Prop := ¬ two pe ∨ how < 0 ∨ nI 2 < how ∨ S.1 19 (tn pe) = 0 ∨ (how = nI 1 ∧ S.1 19 (tn pe) = nI 12)
/-- the part's number j of the packet in the place k is spoilt -/
def mSpl (S : SS) (k j : Nat) (bits : Int32) : SS :=
  sI (sB (sI (sI (sI (sI (sI S 20 (upd (S.1 20) k (if j = 0 then (S.1 20 k ^^^ bits).toInt16.toInt32 else S.1 20 k))) 21 (upd (S.1 21) k (if j = 1 then S.1 21 k ^^^ bits else S.1 21 k))) 22 (upd (S.1 22) k (if j = 2 then S.1 22 k ^^^ bits else S.1 22 k))) 23 (upd (S.1 23) k (if j = 3 then S.1 23 k ^^^ bits else S.1 23 k))) 24 (upd (S.1 24) k (if j = 4 then S.1 24 k ^^^ bits else S.1 24 k))) (vp_updL S.2.2.1 k (if j = 5 then S.2.2.1 k ^^^ (bits.toInt64 &&& (4294967295 : Int64)) else S.2.2.1 k))) 26 (upd (S.1 26) k (if j = 6 then S.1 26 k ^^^ bits else S.1 26 k))
abbrev noSl (S : SS) (pe part : Int32) : Prop := ¬ two pe ∨ part < 0 ∨ nI 6 < part ∨ S.1 19 (tn pe) = 0
set_option maxHeartbeats 4000000 in
set_option maxRecDepth 100000 in
/-- alter, refused -/
theorem c_alter_no (l : Launch) (D : va_G) (cs : Nat → ClassId) (ad : Nat → Nat) (hJ : Inj ad 26) (d w : Int32) (S : SS) (np ns : UInt32) (pe how : Int32) (hz : noAl S pe how) : CTi l yX7_alter wsX7_alter ({ frames := 1, cells := 0, slots := 0, locals := 20 }) D cs ad 26 (mm ad cs d w S np ns) [.ref (ad 0), .int pe, .int how] (fun r M2 => M2 = (mm ad cs d w S np ns) ∧ r = nI 0) := by
  refine Met.ofW (cc := cX7_alter) (maxL := 3) (ret := (some .boolean)) (by decide) rfl ?_
  intro p e s m args below meth c s₁ B hml hv
  obtain ⟨rfl, hP, hK⟩ := hv
  have hx := B.exec
  have hb := B.bytes
  have hr := B.returns
  have hts := atoms_spec (ws := wsX7_alter) B.pre
  have hown : s.vm.findClass RX7 = some m.cls := findClass_of_methodNamed B.named
  have hlocks := B.notSynchronized
  have hS : va_S (Ad ad 26) s.heap s.heap [] := va_S.rf
  have hl := lv_entry ([.ref (ad 0), .int pe, .int how]) (n := 3) (Nat.le_of_ble_eq_true rfl)
  rw [lg_entry_eq]
  generalize (lg_sl ([.ref (ad 0), .int pe, .int how]) ++ List.replicate (3 - (lg_sl ([.ref (ad 0), .int pe, .int how])).length) Slot.unset).toArray = ls at hl ⊢
  have hl : lv_has ls 3 [(0, .ref (ad 0)), (1, .int pe), (2, .int how)] := hl
  have inX7 : ∀ w ∈ u_ws RX7 TX7 29, w ∈ wsX7_alter := fun w h => List.mem_cons_of_mem _ (List.mem_append_right _ h)
  refine lv_iload_n hx hb dX7_alter_0 rfl (lv_at hl 1 rfl) ?_
  refine k_Si (As := [.int pe]) (rest := []) ⟨hx, hb, hml, hown, hts⟩ hK hP hS Ad_le (c_isTwo l D cs ad 26 (mm ad cs d w S np ns) pe) (va_cwS 1 hts gX7_alter_X7_isTwo rfl rfl rfl (by decide +kernel) ⟨Nat.le_of_ble_eq_true rfl, Nat.le_of_ble_eq_true rfl⟩) rfl rfl hl.1 (Nat.le_of_ble_eq_true rfl) dX7_alter_1 ⟨Nat.le_of_ble_eq_true rfl, Nat.le_of_ble_eq_true rfl⟩ (fun r_1 M1 H locs hpo hP hS _ _ => ?_)
  obtain ⟨rfl, rfl⟩ := hpo
  refine lv_if_eq (tgt := 41) hx hb dX7_alter_4 (by decide) (fun c1 => ?_) (fun c1 => ?_)
  · have hno := two_no c1
    refine lv_iconst (v := nI 0) hx hb dX7_alter_41 (by decide) ?_
    exact r_z hx hb hr hlocks hK hP hS dX7_alter_42 (by first | rfl | decide) ⟨rfl, rfl⟩
  · obtain ⟨q, hq, rfl⟩ := two_of c1
    refine lv_iload_n hx hb dX7_alter_7 rfl (lv_at hl 2 rfl) ?_
    refine lv_if_lt (tgt := 41) hx hb dX7_alter_8 (by decide) (fun c2 => ?_) (fun c2 => ?_)
    · refine lv_iconst (v := nI 0) hx hb dX7_alter_41 (by decide) ?_
      exact r_z hx hb hr hlocks hK hP hS dX7_alter_42 (by first | rfl | decide) ⟨rfl, rfl⟩
    · refine lv_iload_n hx hb dX7_alter_11 rfl (lv_at hl 2 rfl) ?_
      refine lv_iconst (v := nI 2) hx hb dX7_alter_12 (by decide) ?_
      refine lv_icmp_gt (tgt := 41) hx hb dX7_alter_13 (by decide) (fun c3 => ?_) (fun c3 => ?_)
      · refine lv_iconst (v := nI 0) hx hb dX7_alter_41 (by decide) ?_
        exact r_z hx hb hr hlocks hK hP hS dX7_alter_42 (by first | rfl | decide) ⟨rfl, rfl⟩
      · refine lv_aload_n hx hb dX7_alter_16 rfl (lv_at hl 0 rfl) ?_
        refine m_get hx hb hts inX7 hown hK hP (ci := 7) rfl (k := 0) (by decide) rfl 19 (by decide) (hts (.fieldLink RX7 65 "RollbackPairModel" "rows" "[I") (by decide +kernel)) rfl dX7_alter_17 ?_
        refine lv_iload_n hx hb dX7_alter_20 rfl (lv_at hl 1 rfl) ?_
        refine m_iald hx hb hK hP (k := 18) (by decide) (f := (S.1 19)) rfl (i := q) (by omega) (by decide) dX7_alter_21 ?_
        refine lv_if_eq (tgt := 41) hx hb dX7_alter_22 (by decide) (fun c4 => ?_) (fun c4 => ?_)
        · refine lv_iconst (v := nI 0) hx hb dX7_alter_41 (by decide) ?_
          exact r_z hx hb hr hlocks hK hP hS dX7_alter_42 (by first | rfl | decide) ⟨rfl, rfl⟩
        · refine lv_iload_n hx hb dX7_alter_25 rfl (lv_at hl 2 rfl) ?_
          refine lv_iconst (v := nI 1) hx hb dX7_alter_26 (by decide) ?_
          refine lv_icmp_ne (tgt := 43) hx hb dX7_alter_27 (by decide) (fun c5 => ?_) (fun c5 => ?_)
          · refine absurd hz (fun z => ?_)
            unfold noAl at z
            rw [tn_nI (show q < 2 ^ 31 by omega)] at z
            exact z.elim (fun z => z (two_in hq)) (fun z => z.elim c2 (fun z => z.elim c3 (fun z => z.elim c4 (fun z => c5 z.1))))
          · refine lv_aload_n hx hb dX7_alter_30 rfl (lv_at hl 0 rfl) ?_
            refine m_get hx hb hts inX7 hown hK hP (ci := 7) rfl (k := 0) (by decide) rfl 19 (by decide) (hts (.fieldLink RX7 65 "RollbackPairModel" "rows" "[I") (by decide +kernel)) rfl dX7_alter_31 ?_
            refine lv_iload_n hx hb dX7_alter_34 rfl (lv_at hl 1 rfl) ?_
            refine m_iald hx hb hK hP (k := 18) (by decide) (f := (S.1 19)) rfl (i := q) (by omega) (by decide) dX7_alter_35 ?_
            refine lv_bipush (v := nI 12) hx hb dX7_alter_36 (by decide) ?_
            refine lv_icmp_ne (tgt := 43) hx hb dX7_alter_38 (by decide) (fun c6 => ?_) (fun c6 => ?_)
            · refine absurd hz (fun z => ?_)
              unfold noAl at z
              rw [tn_nI (show q < 2 ^ 31 by omega)] at z
              exact z.elim (fun z => z (two_in hq)) (fun z => z.elim c2 (fun z => z.elim c3 (fun z => z.elim c4 (fun z => c6 z.2))))
            · refine lv_iconst (v := nI 0) hx hb dX7_alter_41 (by decide) ?_
              exact r_z hx hb hr hlocks hK hP hS dX7_alter_42 (by first | rfl | decide) ⟨rfl, rfl⟩
set_option maxHeartbeats 4000000 in
set_option maxRecDepth 100000 in
/-- alter(q, how) -/
theorem c_alter (l : Launch) (D : va_G) (cs : Nat → ClassId) (ad : Nat → Nat) (hJ : Inj ad 26) (d w : Int32) (S : SS) (np ns : UInt32) (q r how : Nat) (hq : q < 2) (hh : how ≤ 2) (hr0 : S.1 19 q = nI r) (hr1 : 1 ≤ r) (hr2 : r ≤ 12) (hr3 : how = 1 → r ≠ 12) (hsh : ∀ i, sh (S.1 20 i)) : CTi l yX7_alter wsX7_alter ({ frames := 2, cells := 0, slots := 0, locals := 44 }) D cs ad 26 (mm ad cs d w S np ns) [.ref (ad 0), .int (nI q), .int (nI how)] (fun r M2 => r = nI 1 ∧ M2 = mm ad cs d w (mAl S q how) np ns) := by
  refine Met.ofW (cc := cX7_alter) (maxL := 3) (ret := (some .boolean)) (by decide) rfl ?_
  intro p e s m args below meth c s₁ B hml hv
  obtain ⟨rfl, hP, hK⟩ := hv
  have hx := B.exec
  have hb := B.bytes
  have hr := B.returns
  have hts := atoms_spec (ws := wsX7_alter) B.pre
  have hown : s.vm.findClass RX7 = some m.cls := findClass_of_methodNamed B.named
  have hlocks := B.notSynchronized
  have hS : va_S (Ad ad 26) s.heap s.heap [] := va_S.rf
  have hl := lv_entry ([.ref (ad 0), .int (nI q), .int (nI how)]) (n := 3) (Nat.le_of_ble_eq_true rfl)
  rw [lg_entry_eq]
  generalize (lg_sl ([.ref (ad 0), .int (nI q), .int (nI how)]) ++ List.replicate (3 - (lg_sl ([.ref (ad 0), .int (nI q), .int (nI how)])).length) Slot.unset).toArray = ls at hl ⊢
  have hl : lv_has ls 3 [(0, .ref (ad 0)), (1, .int (nI q)), (2, .int (nI how))] := hl
  have inX7 : ∀ w ∈ u_ws RX7 TX7 29, w ∈ wsX7_alter := fun w h => List.mem_cons_of_mem _ (List.mem_append_right _ h)
  have hrt : tn (S.1 19 q) = r := by rw [hr0, tn_nI (by omega)]
  have g3 : (mTake S q).1 19 q = nI (r - 1) := by rw [mTake_19, hrt]; exact if_pos rfl
  rcases (show how = 0 ∨ how = 1 ∨ how = 2 by omega) with rfl | rfl | rfl
  · refine lv_iload_n hx hb dX7_alter_0 rfl (lv_at hl 1 rfl) ?_
    refine k_Si (As := [.int (nI q)]) (rest := []) ⟨hx, hb, hml, hown, hts⟩ hK hP hS Ad_le (c_isTwo l D cs ad 26 (mm ad cs d w S np ns) (nI q)) (va_cwS 1 hts gX7_alter_X7_isTwo rfl rfl rfl (by decide +kernel) ⟨Nat.le_of_ble_eq_true rfl, Nat.le_of_ble_eq_true rfl⟩) rfl rfl hl.1 (Nat.le_of_ble_eq_true rfl) dX7_alter_1 ⟨Nat.le_of_ble_eq_true rfl, Nat.le_of_ble_eq_true rfl⟩ (fun r_1 M1 H locs hpo hP hS _ _ => ?_)
    obtain ⟨rfl, rfl⟩ := hpo
    refine n_val (two_ok hq) ?_
    refine n_if_eq (tgt := 41) hx hb dX7_alter_4 (by decide) (by omega) (fun c_2 => absurd c_2 (by decide)) (fun c_2 => ?_)
    refine lv_iload_n hx hb dX7_alter_7 rfl (lv_at hl 2 rfl) ?_
    refine lv_if_lt (tgt := 41) hx hb dX7_alter_8 (by decide) (fun c2 => absurd c2 (by decide)) (fun c2 => ?_)
    refine lv_iload_n hx hb dX7_alter_11 rfl (lv_at hl 2 rfl) ?_
    refine lv_iconst (v := nI 2) hx hb dX7_alter_12 (by decide) ?_
    refine n_cmp_gt (tgt := 41) hx hb dX7_alter_13 (by decide) (by omega) (by omega) (fun c_3 => absurd c_3 (by decide)) (fun c_3 => ?_)
    refine lv_aload_n hx hb dX7_alter_16 rfl (lv_at hl 0 rfl) ?_
    refine m_get hx hb hts inX7 hown hK hP (ci := 7) rfl (k := 0) (by decide) rfl 19 (by decide) (hts (.fieldLink RX7 65 "RollbackPairModel" "rows" "[I") (by decide +kernel)) rfl dX7_alter_17 ?_
    refine lv_iload_n hx hb dX7_alter_20 rfl (lv_at hl 1 rfl) ?_
    refine m_iald hx hb hK hP (k := 18) (by decide) (f := (S.1 19)) rfl (i := q) (by omega) (by decide) dX7_alter_21 ?_
    refine n_val hr0 ?_
    refine n_if_eq (tgt := 41) hx hb dX7_alter_22 (by decide) (by omega) (fun c4 => absurd c4 (by omega)) (fun c4 => ?_)
    refine lv_iload_n hx hb dX7_alter_25 rfl (lv_at hl 2 rfl) ?_
    refine lv_iconst (v := nI 1) hx hb dX7_alter_26 (by decide) ?_
    refine n_cmp_ne (tgt := 43) hx hb dX7_alter_27 (by decide) (by omega) (by omega) (fun c_4 => ?_) (fun c_4 => absurd c_4 (by decide))
    refine lv_iload_n hx hb dX7_alter_43 rfl (lv_at hl 2 rfl) ?_
    refine lv_iconst (v := nI 1) hx hb dX7_alter_44 (by decide) ?_
    refine n_cmp_ne (tgt := 79) hx hb dX7_alter_45 (by decide) (by omega) (by omega) (fun c_5 => ?_) (fun c_5 => absurd c_5 (by decide))
    refine lv_aload_n hx hb dX7_alter_79 rfl (lv_at hl 0 rfl) ?_
    refine lv_iload_n hx hb dX7_alter_80 rfl (lv_at hl 1 rfl) ?_
    refine k_Vv (As := [.int (nI q)]) (rest := []) (k := 0) (ci := 7) ⟨hx, hb, hml, hown, hts⟩ hK hP hS Ad_le (c_take l D cs ad hJ d w S np ns q r hq hr0 hr1 hr2 hsh) (cwV 1 hts gX7_alter_X7_take rfl rfl rfl (by decide +kernel) ⟨Nat.le_of_ble_eq_true rfl, Nat.le_of_ble_eq_true rfl⟩) (by decide) rfl rfl rfl rfl hl.1 (Nat.le_of_ble_eq_true rfl) dX7_alter_81 ⟨Nat.le_of_ble_eq_true rfl, Nat.le_of_ble_eq_true rfl⟩ (fun M1 H locs hpo hP hS _ _ => ?_)
    subst hpo
    refine lv_iload_n hx hb dX7_alter_84 rfl (lv_at hl 2 rfl) ?_
    refine lv_iconst (v := nI 2) hx hb dX7_alter_85 (by decide) ?_
    refine n_cmp_ne (tgt := 116) hx hb dX7_alter_86 (by decide) (by omega) (by omega) (fun c_7 => ?_) (fun c_7 => absurd c_7 (by decide))
    refine lv_iconst (v := nI 1) hx hb dX7_alter_116 (by decide) ?_
    exact r_z hx hb hr hlocks hK hP hS dX7_alter_117 (by first | rfl | decide) ⟨rfl, by show _ = mm ad cs d w (mTake S q) np ns; rfl⟩
  · refine lv_iload_n hx hb dX7_alter_0 rfl (lv_at hl 1 rfl) ?_
    refine k_Si (As := [.int (nI q)]) (rest := []) ⟨hx, hb, hml, hown, hts⟩ hK hP hS Ad_le (c_isTwo l D cs ad 26 (mm ad cs d w S np ns) (nI q)) (va_cwS 1 hts gX7_alter_X7_isTwo rfl rfl rfl (by decide +kernel) ⟨Nat.le_of_ble_eq_true rfl, Nat.le_of_ble_eq_true rfl⟩) rfl rfl hl.1 (Nat.le_of_ble_eq_true rfl) dX7_alter_1 ⟨Nat.le_of_ble_eq_true rfl, Nat.le_of_ble_eq_true rfl⟩ (fun r_1 M1 H locs hpo hP hS _ _ => ?_)
    obtain ⟨rfl, rfl⟩ := hpo
    refine n_val (two_ok hq) ?_
    refine n_if_eq (tgt := 41) hx hb dX7_alter_4 (by decide) (by omega) (fun c_2 => absurd c_2 (by decide)) (fun c_2 => ?_)
    refine lv_iload_n hx hb dX7_alter_7 rfl (lv_at hl 2 rfl) ?_
    refine lv_if_lt (tgt := 41) hx hb dX7_alter_8 (by decide) (fun c2 => absurd c2 (by decide)) (fun c2 => ?_)
    refine lv_iload_n hx hb dX7_alter_11 rfl (lv_at hl 2 rfl) ?_
    refine lv_iconst (v := nI 2) hx hb dX7_alter_12 (by decide) ?_
    refine n_cmp_gt (tgt := 41) hx hb dX7_alter_13 (by decide) (by omega) (by omega) (fun c_3 => absurd c_3 (by decide)) (fun c_3 => ?_)
    refine lv_aload_n hx hb dX7_alter_16 rfl (lv_at hl 0 rfl) ?_
    refine m_get hx hb hts inX7 hown hK hP (ci := 7) rfl (k := 0) (by decide) rfl 19 (by decide) (hts (.fieldLink RX7 65 "RollbackPairModel" "rows" "[I") (by decide +kernel)) rfl dX7_alter_17 ?_
    refine lv_iload_n hx hb dX7_alter_20 rfl (lv_at hl 1 rfl) ?_
    refine m_iald hx hb hK hP (k := 18) (by decide) (f := (S.1 19)) rfl (i := q) (by omega) (by decide) dX7_alter_21 ?_
    refine n_val hr0 ?_
    refine n_if_eq (tgt := 41) hx hb dX7_alter_22 (by decide) (by omega) (fun c4 => absurd c4 (by omega)) (fun c4 => ?_)
    refine lv_iload_n hx hb dX7_alter_25 rfl (lv_at hl 2 rfl) ?_
    refine lv_iconst (v := nI 1) hx hb dX7_alter_26 (by decide) ?_
    refine n_cmp_ne (tgt := 43) hx hb dX7_alter_27 (by decide) (by omega) (by omega) (fun c_4 => absurd c_4 (by decide)) (fun c_4 => ?_)
    refine lv_aload_n hx hb dX7_alter_30 rfl (lv_at hl 0 rfl) ?_
    refine m_get hx hb hts inX7 hown hK hP (ci := 7) rfl (k := 0) (by decide) rfl 19 (by decide) (hts (.fieldLink RX7 65 "RollbackPairModel" "rows" "[I") (by decide +kernel)) rfl dX7_alter_31 ?_
    refine lv_iload_n hx hb dX7_alter_34 rfl (lv_at hl 1 rfl) ?_
    refine m_iald hx hb hK hP (k := 18) (by decide) (f := (S.1 19)) rfl (i := q) (by omega) (by decide) dX7_alter_35 ?_
    refine n_val hr0 ?_
    refine lv_bipush (v := nI 12) hx hb dX7_alter_36 (by decide) ?_
    refine n_cmp_ne (tgt := 43) hx hb dX7_alter_38 (by decide) (by omega) (by omega) (fun c6 => ?_) (fun c6 => absurd c6 (hr3 rfl))
    refine lv_iload_n hx hb dX7_alter_43 rfl (lv_at hl 2 rfl) ?_
    refine lv_iconst (v := nI 1) hx hb dX7_alter_44 (by decide) ?_
    refine n_cmp_ne (tgt := 79) hx hb dX7_alter_45 (by decide) (by omega) (by omega) (fun c_5 => absurd c_5 (by decide)) (fun c_5 => ?_)
    refine lv_aload_n hx hb dX7_alter_48 rfl (lv_at hl 0 rfl) ?_
    refine lv_bipush (v := nI 12) hx hb dX7_alter_49 (by decide) ?_
    refine lv_iload_n hx hb dX7_alter_51 rfl (lv_at hl 1 rfl) ?_
    refine n_mul hx hb dX7_alter_52 ?_
    refine lv_bipush (v := nI 12) hx hb dX7_alter_53 (by decide) ?_
    refine lv_iload_n hx hb dX7_alter_55 rfl (lv_at hl 1 rfl) ?_
    refine n_mul hx hb dX7_alter_56 ?_
    refine lv_aload_n hx hb dX7_alter_57 rfl (lv_at hl 0 rfl) ?_
    refine m_get hx hb hts inX7 hown hK hP (ci := 7) rfl (k := 0) (by decide) rfl 19 (by decide) (hts (.fieldLink RX7 65 "RollbackPairModel" "rows" "[I") (by decide +kernel)) rfl dX7_alter_58 ?_
    refine lv_iload_n hx hb dX7_alter_61 rfl (lv_at hl 1 rfl) ?_
    refine m_iald hx hb hK hP (k := 18) (by decide) (f := (S.1 19)) rfl (i := q) (by omega) (by decide) dX7_alter_62 ?_
    refine n_val hr0 ?_
    refine n_add hx hb dX7_alter_63 ?_
    refine k_Vv (As := [.int (nI (12 * q)), .int (nI (12 * q + r))]) (rest := []) (k := 0) (ci := 7) ⟨hx, hb, hml, hown, hts⟩ hK hP hS Ad_le (c_copy l D cs ad hJ d w S np ns (12 * q) (12 * q + r) (by omega) (by omega) (hsh _)) (cwV 2 hts gX7_alter_X7_copy rfl rfl rfl (by decide +kernel) ⟨Nat.le_of_ble_eq_true rfl, Nat.le_of_ble_eq_true rfl⟩) (by decide) rfl rfl rfl rfl hl.1 (Nat.le_of_ble_eq_true rfl) dX7_alter_64 ⟨Nat.le_of_ble_eq_true rfl, Nat.le_of_ble_eq_true rfl⟩ (fun M1 H locs hpo hP hS _ _ => ?_)
    subst hpo
    refine lv_aload_n hx hb dX7_alter_67 rfl (lv_at hl 0 rfl) ?_
    refine m_get hx hb hts inX7 hown hK hP (ci := 7) rfl (k := 0) (by decide) rfl 19 (by decide) (hts (.fieldLink RX7 65 "RollbackPairModel" "rows" "[I") (by decide +kernel)) rfl dX7_alter_68 ?_
    refine lv_iload_n hx hb dX7_alter_71 rfl (lv_at hl 1 rfl) ?_
    refine lv_dup2_11 hx hb dX7_alter_72 rfl rfl ?_
    refine m_iald hx hb hK hP (k := 18) (by decide) (f := (S.1 19)) rfl (i := q) (by omega) (by decide) dX7_alter_73 ?_
    refine n_val hr0 ?_
    refine lv_iconst (v := nI 1) hx hb dX7_alter_74 (by decide) ?_
    refine n_add hx hb dX7_alter_75 ?_
    refine m_iast hx hb hK hP hJ hS (k := 18) (by decide) (f := (S.1 19)) rfl (i := q) (by omega) (by decide) dX7_alter_76 (fun H locs hP hS => ?_)
    rw [mm_up19] at hP
    refine lv_iconst (v := nI 1) hx hb dX7_alter_77 (by decide) ?_
    exact r_z hx hb hr hlocks hK hP hS dX7_alter_78 (by first | rfl | decide) ⟨rfl, by show _ = mm ad cs d w (mDbl S q) np ns; unfold mDbl; rw [hrt]⟩
  · refine lv_iload_n hx hb dX7_alter_0 rfl (lv_at hl 1 rfl) ?_
    refine k_Si (As := [.int (nI q)]) (rest := []) ⟨hx, hb, hml, hown, hts⟩ hK hP hS Ad_le (c_isTwo l D cs ad 26 (mm ad cs d w S np ns) (nI q)) (va_cwS 1 hts gX7_alter_X7_isTwo rfl rfl rfl (by decide +kernel) ⟨Nat.le_of_ble_eq_true rfl, Nat.le_of_ble_eq_true rfl⟩) rfl rfl hl.1 (Nat.le_of_ble_eq_true rfl) dX7_alter_1 ⟨Nat.le_of_ble_eq_true rfl, Nat.le_of_ble_eq_true rfl⟩ (fun r_1 M1 H locs hpo hP hS _ _ => ?_)
    obtain ⟨rfl, rfl⟩ := hpo
    refine n_val (two_ok hq) ?_
    refine n_if_eq (tgt := 41) hx hb dX7_alter_4 (by decide) (by omega) (fun c_2 => absurd c_2 (by decide)) (fun c_2 => ?_)
    refine lv_iload_n hx hb dX7_alter_7 rfl (lv_at hl 2 rfl) ?_
    refine lv_if_lt (tgt := 41) hx hb dX7_alter_8 (by decide) (fun c2 => absurd c2 (by decide)) (fun c2 => ?_)
    refine lv_iload_n hx hb dX7_alter_11 rfl (lv_at hl 2 rfl) ?_
    refine lv_iconst (v := nI 2) hx hb dX7_alter_12 (by decide) ?_
    refine n_cmp_gt (tgt := 41) hx hb dX7_alter_13 (by decide) (by omega) (by omega) (fun c_3 => absurd c_3 (by decide)) (fun c_3 => ?_)
    refine lv_aload_n hx hb dX7_alter_16 rfl (lv_at hl 0 rfl) ?_
    refine m_get hx hb hts inX7 hown hK hP (ci := 7) rfl (k := 0) (by decide) rfl 19 (by decide) (hts (.fieldLink RX7 65 "RollbackPairModel" "rows" "[I") (by decide +kernel)) rfl dX7_alter_17 ?_
    refine lv_iload_n hx hb dX7_alter_20 rfl (lv_at hl 1 rfl) ?_
    refine m_iald hx hb hK hP (k := 18) (by decide) (f := (S.1 19)) rfl (i := q) (by omega) (by decide) dX7_alter_21 ?_
    refine n_val hr0 ?_
    refine n_if_eq (tgt := 41) hx hb dX7_alter_22 (by decide) (by omega) (fun c4 => absurd c4 (by omega)) (fun c4 => ?_)
    refine lv_iload_n hx hb dX7_alter_25 rfl (lv_at hl 2 rfl) ?_
    refine lv_iconst (v := nI 1) hx hb dX7_alter_26 (by decide) ?_
    refine n_cmp_ne (tgt := 43) hx hb dX7_alter_27 (by decide) (by omega) (by omega) (fun c_4 => ?_) (fun c_4 => absurd c_4 (by decide))
    refine lv_iload_n hx hb dX7_alter_43 rfl (lv_at hl 2 rfl) ?_
    refine lv_iconst (v := nI 1) hx hb dX7_alter_44 (by decide) ?_
    refine n_cmp_ne (tgt := 79) hx hb dX7_alter_45 (by decide) (by omega) (by omega) (fun c_5 => ?_) (fun c_5 => absurd c_5 (by decide))
    refine lv_aload_n hx hb dX7_alter_79 rfl (lv_at hl 0 rfl) ?_
    refine lv_iload_n hx hb dX7_alter_80 rfl (lv_at hl 1 rfl) ?_
    refine k_Vv (As := [.int (nI q)]) (rest := []) (k := 0) (ci := 7) ⟨hx, hb, hml, hown, hts⟩ hK hP hS Ad_le (c_take l D cs ad hJ d w S np ns q r hq hr0 hr1 hr2 hsh) (cwV 1 hts gX7_alter_X7_take rfl rfl rfl (by decide +kernel) ⟨Nat.le_of_ble_eq_true rfl, Nat.le_of_ble_eq_true rfl⟩) (by decide) rfl rfl rfl rfl hl.1 (Nat.le_of_ble_eq_true rfl) dX7_alter_81 ⟨Nat.le_of_ble_eq_true rfl, Nat.le_of_ble_eq_true rfl⟩ (fun M1 H locs hpo hP hS _ _ => ?_)
    subst hpo
    refine lv_iload_n hx hb dX7_alter_84 rfl (lv_at hl 2 rfl) ?_
    refine lv_iconst (v := nI 2) hx hb dX7_alter_85 (by decide) ?_
    refine n_cmp_ne (tgt := 116) hx hb dX7_alter_86 (by decide) (by omega) (by omega) (fun c_7 => absurd c_7 (by decide)) (fun c_7 => ?_)
    refine lv_aload_n hx hb dX7_alter_89 rfl (lv_at hl 0 rfl) ?_
    refine lv_bipush (v := nI 24) hx hb dX7_alter_90 (by decide) ?_
    refine lv_bipush (v := nI 12) hx hb dX7_alter_92 (by decide) ?_
    refine lv_iload_n hx hb dX7_alter_94 rfl (lv_at hl 1 rfl) ?_
    refine n_mul hx hb dX7_alter_95 ?_
    refine lv_aload_n hx hb dX7_alter_96 rfl (lv_at hl 0 rfl) ?_
    refine m_get hx hb hts inX7 hown hK hP (ci := 7) rfl (k := 0) (by decide) rfl 19 (by decide) (hts (.fieldLink RX7 65 "RollbackPairModel" "rows" "[I") (by decide +kernel)) rfl dX7_alter_97 ?_
    refine lv_iload_n hx hb dX7_alter_100 rfl (lv_at hl 1 rfl) ?_
    refine m_iald hx hb hK hP (k := 18) (by decide) (f := ((mTake S q).1 19)) rfl (i := q) (by omega) (by decide) dX7_alter_101 ?_
    refine n_val g3 ?_
    refine n_add hx hb dX7_alter_102 ?_
    refine k_Vv (As := [.int (nI 24), .int (nI (12 * q + (r - 1)))]) (rest := []) (k := 0) (ci := 7) ⟨hx, hb, hml, hown, hts⟩ hK hP hS Ad_le (c_copy l D cs ad hJ d w (mTake S q) np ns 24 (12 * q + (r - 1)) (by omega) (by omega) (mTake_sh hsh _)) (cwV 2 hts gX7_alter_X7_copy rfl rfl rfl (by decide +kernel) ⟨Nat.le_of_ble_eq_true rfl, Nat.le_of_ble_eq_true rfl⟩) (by decide) rfl rfl rfl rfl hl.1 (Nat.le_of_ble_eq_true rfl) dX7_alter_103 ⟨Nat.le_of_ble_eq_true rfl, Nat.le_of_ble_eq_true rfl⟩ (fun M1 H locs hpo hP hS _ _ => ?_)
    subst hpo
    refine lv_aload_n hx hb dX7_alter_106 rfl (lv_at hl 0 rfl) ?_
    refine m_get hx hb hts inX7 hown hK hP (ci := 7) rfl (k := 0) (by decide) rfl 19 (by decide) (hts (.fieldLink RX7 65 "RollbackPairModel" "rows" "[I") (by decide +kernel)) rfl dX7_alter_107 ?_
    refine lv_iload_n hx hb dX7_alter_110 rfl (lv_at hl 1 rfl) ?_
    refine lv_dup2_11 hx hb dX7_alter_111 rfl rfl ?_
    refine m_iald hx hb hK hP (k := 18) (by decide) (f := ((mTake S q).1 19)) rfl (i := q) (by omega) (by decide) dX7_alter_112 ?_
    refine n_val g3 ?_
    refine lv_iconst (v := nI 1) hx hb dX7_alter_113 (by decide) ?_
    refine n_add hx hb dX7_alter_114 ?_
    refine m_iast hx hb hK hP hJ hS (k := 18) (by decide) (f := ((mTake S q).1 19)) rfl (i := q) (by omega) (by decide) dX7_alter_115 (fun H locs hP hS => ?_)
    rw [mm_up19] at hP
    refine lv_iconst (v := nI 1) hx hb dX7_alter_116 (by decide) ?_
    exact r_z hx hb hr hlocks hK hP hS dX7_alter_117 (by first | rfl | decide) ⟨rfl, by show _ = mm ad cs d w (mEnd S q) np ns; unfold mEnd; rw [hrt]⟩
set_option maxHeartbeats 4000000 in
set_option maxRecDepth 100000 in
/-- spoil, refused -/
theorem c_spoil_no (l : Launch) (D : va_G) (cs : Nat → ClassId) (ad : Nat → Nat) (hJ : Inj ad 26) (d w : Int32) (S : SS) (np ns : UInt32) (pe part bits : Int32) (hz : noSl S pe part) : CTi l yX7_spoil wsX7_spoil ({ frames := 1, cells := 0, slots := 0, locals := 20 }) D cs ad 26 (mm ad cs d w S np ns) [.ref (ad 0), .int pe, .int part, .int bits] (fun r M2 => M2 = (mm ad cs d w S np ns) ∧ r = nI 0) := by
  refine Met.ofW (cc := cX7_spoil) (maxL := 5) (ret := (some .boolean)) (by decide) rfl ?_
  intro p e s m args below meth c s₁ B hml hv
  obtain ⟨rfl, hP, hK⟩ := hv
  have hx := B.exec
  have hb := B.bytes
  have hr := B.returns
  have hts := atoms_spec (ws := wsX7_spoil) B.pre
  have hown : s.vm.findClass RX7 = some m.cls := findClass_of_methodNamed B.named
  have hlocks := B.notSynchronized
  have hS : va_S (Ad ad 26) s.heap s.heap [] := va_S.rf
  have hl := lv_entry ([.ref (ad 0), .int pe, .int part, .int bits]) (n := 5) (Nat.le_of_ble_eq_true rfl)
  rw [lg_entry_eq]
  generalize (lg_sl ([.ref (ad 0), .int pe, .int part, .int bits]) ++ List.replicate (5 - (lg_sl ([.ref (ad 0), .int pe, .int part, .int bits])).length) Slot.unset).toArray = ls at hl ⊢
  have hl : lv_has ls 5 [(0, .ref (ad 0)), (1, .int pe), (2, .int part), (3, .int bits)] := hl
  have inX7 : ∀ w ∈ u_ws RX7 TX7 29, w ∈ wsX7_spoil := fun w h => List.mem_cons_of_mem _ (List.mem_append_right _ h)
  refine lv_iload_n hx hb dX7_spoil_0 rfl (lv_at hl 1 rfl) ?_
  refine k_Si (As := [.int pe]) (rest := []) ⟨hx, hb, hml, hown, hts⟩ hK hP hS Ad_le (c_isTwo l D cs ad 26 (mm ad cs d w S np ns) pe) (va_cwS 1 hts gX7_spoil_X7_isTwo rfl rfl rfl (by decide +kernel) ⟨Nat.le_of_ble_eq_true rfl, Nat.le_of_ble_eq_true rfl⟩) rfl rfl hl.1 (Nat.le_of_ble_eq_true rfl) dX7_spoil_1 ⟨Nat.le_of_ble_eq_true rfl, Nat.le_of_ble_eq_true rfl⟩ (fun r_1 M1 H locs hpo hP hS _ _ => ?_)
  obtain ⟨rfl, rfl⟩ := hpo
  refine lv_if_eq (tgt := 26) hx hb dX7_spoil_4 (by decide) (fun c1 => ?_) (fun c1 => ?_)
  · have hno := two_no c1
    refine lv_iconst (v := nI 0) hx hb dX7_spoil_26 (by decide) ?_
    exact r_z hx hb hr hlocks hK hP hS dX7_spoil_27 (by first | rfl | decide) ⟨rfl, rfl⟩
  · obtain ⟨q, hq, rfl⟩ := two_of c1
    refine lv_iload_n hx hb dX7_spoil_7 rfl (lv_at hl 2 rfl) ?_
    refine lv_if_lt (tgt := 26) hx hb dX7_spoil_8 (by decide) (fun c2 => ?_) (fun c2 => ?_)
    · refine lv_iconst (v := nI 0) hx hb dX7_spoil_26 (by decide) ?_
      exact r_z hx hb hr hlocks hK hP hS dX7_spoil_27 (by first | rfl | decide) ⟨rfl, rfl⟩
    · refine lv_iload_n hx hb dX7_spoil_11 rfl (lv_at hl 2 rfl) ?_
      refine lv_bipush (v := nI 6) hx hb dX7_spoil_12 (by decide) ?_
      refine lv_icmp_gt (tgt := 26) hx hb dX7_spoil_14 (by decide) (fun c3 => ?_) (fun c3 => ?_)
      · refine lv_iconst (v := nI 0) hx hb dX7_spoil_26 (by decide) ?_
        exact r_z hx hb hr hlocks hK hP hS dX7_spoil_27 (by first | rfl | decide) ⟨rfl, rfl⟩
      · refine lv_aload_n hx hb dX7_spoil_17 rfl (lv_at hl 0 rfl) ?_
        refine m_get hx hb hts inX7 hown hK hP (ci := 7) rfl (k := 0) (by decide) rfl 19 (by decide) (hts (.fieldLink RX7 65 "RollbackPairModel" "rows" "[I") (by decide +kernel)) rfl dX7_spoil_18 ?_
        refine lv_iload_n hx hb dX7_spoil_21 rfl (lv_at hl 1 rfl) ?_
        refine m_iald hx hb hK hP (k := 18) (by decide) (f := (S.1 19)) rfl (i := q) (by omega) (by decide) dX7_spoil_22 ?_
        refine lv_if_ne (tgt := 28) hx hb dX7_spoil_23 (by decide) (fun c4 => ?_) (fun c4 => ?_)
        · refine absurd hz (fun z => ?_)
          unfold noSl at z
          rw [tn_nI (show q < 2 ^ 31 by omega)] at z
          exact z.elim (fun z => z (two_in hq)) (fun z => z.elim c2 (fun z => z.elim c3 c4))
        · refine lv_iconst (v := nI 0) hx hb dX7_spoil_26 (by decide) ?_
          exact r_z hx hb hr hlocks hK hP hS dX7_spoil_27 (by first | rfl | decide) ⟨rfl, rfl⟩
set_option maxHeartbeats 4000000 in
set_option maxRecDepth 100000 in
/-- spoil(q, j, bits) -/
theorem c_spoil (l : Launch) (D : va_G) (cs : Nat → ClassId) (ad : Nat → Nat) (hJ : Inj ad 26) (d w : Int32) (S : SS) (np ns : UInt32) (q r j : Nat) (bits : Int32) (hq : q < 2) (hj : j ≤ 6) (hr0 : S.1 19 q = nI r) (hr1 : 1 ≤ r) (hr2 : r ≤ 12) (hsh : ∀ i, sh (S.1 20 i)) : CTi l yX7_spoil wsX7_spoil ({ frames := 1, cells := 0, slots := 0, locals := 20 }) D cs ad 26 (mm ad cs d w S np ns) [.ref (ad 0), .int (nI q), .int (nI j), .int bits] (fun r M2 => r = nI 1 ∧ M2 = mm ad cs d w (mSpl S (12 * q) j bits) np ns) := by
  refine Met.ofW (cc := cX7_spoil) (maxL := 5) (ret := (some .boolean)) (by decide) rfl ?_
  intro p e s m args below meth c s₁ B hml hv
  obtain ⟨rfl, hP, hK⟩ := hv
  have hx := B.exec
  have hb := B.bytes
  have hr := B.returns
  have hts := atoms_spec (ws := wsX7_spoil) B.pre
  have hown : s.vm.findClass RX7 = some m.cls := findClass_of_methodNamed B.named
  have hlocks := B.notSynchronized
  have hS : va_S (Ad ad 26) s.heap s.heap [] := va_S.rf
  have hl := lv_entry ([.ref (ad 0), .int (nI q), .int (nI j), .int bits]) (n := 5) (Nat.le_of_ble_eq_true rfl)
  rw [lg_entry_eq]
  generalize (lg_sl ([.ref (ad 0), .int (nI q), .int (nI j), .int bits]) ++ List.replicate (5 - (lg_sl ([.ref (ad 0), .int (nI q), .int (nI j), .int bits])).length) Slot.unset).toArray = ls at hl ⊢
  have hl : lv_has ls 5 [(0, .ref (ad 0)), (1, .int (nI q)), (2, .int (nI j)), (3, .int bits)] := hl
  have inX7 : ∀ w ∈ u_ws RX7 TX7 29, w ∈ wsX7_spoil := fun w h => List.mem_cons_of_mem _ (List.mem_append_right _ h)
  rcases (show j = 0 ∨ j = 1 ∨ j = 2 ∨ j = 3 ∨ j = 4 ∨ j = 5 ∨ j = 6 by omega) with rfl | rfl | rfl | rfl | rfl | rfl | rfl
  · refine lv_iload_n hx hb dX7_spoil_0 rfl (lv_at hl 1 rfl) ?_
    refine k_Si (As := [.int (nI q)]) (rest := []) ⟨hx, hb, hml, hown, hts⟩ hK hP hS Ad_le (c_isTwo l D cs ad 26 (mm ad cs d w S np ns) (nI q)) (va_cwS 1 hts gX7_spoil_X7_isTwo rfl rfl rfl (by decide +kernel) ⟨Nat.le_of_ble_eq_true rfl, Nat.le_of_ble_eq_true rfl⟩) rfl rfl hl.1 (Nat.le_of_ble_eq_true rfl) dX7_spoil_1 ⟨Nat.le_of_ble_eq_true rfl, Nat.le_of_ble_eq_true rfl⟩ (fun r_1 M1 H locs hpo hP hS _ _ => ?_)
    obtain ⟨rfl, rfl⟩ := hpo
    refine n_val (two_ok hq) ?_
    refine n_if_eq (tgt := 26) hx hb dX7_spoil_4 (by decide) (by omega) (fun c_2 => absurd c_2 (by decide)) (fun c_2 => ?_)
    refine lv_iload_n hx hb dX7_spoil_7 rfl (lv_at hl 2 rfl) ?_
    refine lv_if_lt (tgt := 26) hx hb dX7_spoil_8 (by decide) (fun c2 => absurd c2 (by decide)) (fun c2 => ?_)
    refine lv_iload_n hx hb dX7_spoil_11 rfl (lv_at hl 2 rfl) ?_
    refine lv_bipush (v := nI 6) hx hb dX7_spoil_12 (by decide) ?_
    refine n_cmp_gt (tgt := 26) hx hb dX7_spoil_14 (by decide) (by omega) (by omega) (fun c_3 => absurd c_3 (by decide)) (fun c_3 => ?_)
    refine lv_aload_n hx hb dX7_spoil_17 rfl (lv_at hl 0 rfl) ?_
    refine m_get hx hb hts inX7 hown hK hP (ci := 7) rfl (k := 0) (by decide) rfl 19 (by decide) (hts (.fieldLink RX7 65 "RollbackPairModel" "rows" "[I") (by decide +kernel)) rfl dX7_spoil_18 ?_
    refine lv_iload_n hx hb dX7_spoil_21 rfl (lv_at hl 1 rfl) ?_
    refine m_iald hx hb hK hP (k := 18) (by decide) (f := (S.1 19)) rfl (i := q) (by omega) (by decide) dX7_spoil_22 ?_
    refine n_val hr0 ?_
    refine n_if_ne (tgt := 28) hx hb dX7_spoil_23 (by decide) (by omega) (fun c4 => ?_) (fun c4 => absurd c4 (by omega))
    refine lv_bipush (v := nI 12) hx hb dX7_spoil_28 (by decide) ?_
    refine lv_iload_n hx hb dX7_spoil_30 rfl (lv_at hl 1 rfl) ?_
    refine n_mul hx hb dX7_spoil_31 ?_
    refine lv_istore (lv' := [(4, .int (nI (12 * q))), (0, .ref (ad 0)), (1, .int (nI q)), (2, .int (nI 0)), (3, .int bits)]) hx hb dX7_spoil_32 hl (by decide) rfl (fun ls hl => ?_)
    refine lv_aload_n hx hb dX7_spoil_34 rfl (lv_at hl 1 rfl) ?_
    refine m_get hx hb hts inX7 hown hK hP (ci := 7) rfl (k := 0) (by decide) rfl 20 (by decide) (hts (.fieldLink RX7 68 "RollbackPairModel" "pNumber" "[S") (by decide +kernel)) rfl dX7_spoil_35 ?_
    refine lv_iload hx hb dX7_spoil_38 (lv_at hl 0 rfl) ?_
    refine lv_iload_n hx hb dX7_spoil_40 rfl (lv_at hl 3 rfl) ?_
    refine n_if_ne (tgt := 57) hx hb dX7_spoil_41 (by decide) (by omega) (fun c_4 => absurd c_4 (by decide)) (fun c_4 => ?_)
    refine lv_aload_n hx hb dX7_spoil_44 rfl (lv_at hl 1 rfl) ?_
    refine m_get hx hb hts inX7 hown hK hP (ci := 7) rfl (k := 0) (by decide) rfl 20 (by decide) (hts (.fieldLink RX7 68 "RollbackPairModel" "pNumber" "[S") (by decide +kernel)) rfl dX7_spoil_45 ?_
    refine lv_iload hx hb dX7_spoil_48 (lv_at hl 0 rfl) ?_
    refine m_sald hx hb hK hP (k := 19) (by decide) (f := (S.1 20)) rfl (i := 12 * q) (by omega) (by decide) dX7_spoil_50 ?_
    refine lv_iload_n hx hb dX7_spoil_51 rfl (lv_at hl 4 rfl) ?_
    refine lv_ixor hx hb dX7_spoil_52 ?_
    refine lv_i2s hx hb dX7_spoil_53 rfl ?_
    refine lv_goto (tgt := 64) hx hb dX7_spoil_54 (by decide) ?_
    refine m_sast hx hb hK hP hJ hS (k := 19) (by decide) (f := (S.1 20)) rfl (i := 12 * q) (y := (S.1 20 (12 * q) ^^^ bits).toInt16.toInt32) (by omega) (by decide) (pk_vs _) dX7_spoil_64 (fun H locs hP hS => ?_)
    rw [mm_up20] at hP
    refine lv_aload_n hx hb dX7_spoil_65 rfl (lv_at hl 1 rfl) ?_
    refine m_get hx hb hts inX7 hown hK hP (ci := 7) rfl (k := 0) (by decide) rfl 21 (by decide) (hts (.fieldLink RX7 71 "RollbackPairModel" "pFrame" "[I") (by decide +kernel)) rfl dX7_spoil_66 ?_
    refine lv_iload hx hb dX7_spoil_69 (lv_at hl 0 rfl) ?_
    refine lv_iload_n hx hb dX7_spoil_71 rfl (lv_at hl 3 rfl) ?_
    refine lv_iconst (v := nI 1) hx hb dX7_spoil_72 (by decide) ?_
    refine n_cmp_ne (tgt := 88) hx hb dX7_spoil_73 (by decide) (by omega) (by omega) (fun c_5 => ?_) (fun c_5 => absurd c_5 (by decide))
    refine lv_aload_n hx hb dX7_spoil_88 rfl (lv_at hl 1 rfl) ?_
    refine m_get hx hb hts inX7 hown hK hP (ci := 7) rfl (k := 0) (by decide) rfl 21 (by decide) (hts (.fieldLink RX7 71 "RollbackPairModel" "pFrame" "[I") (by decide +kernel)) rfl dX7_spoil_89 ?_
    refine lv_iload hx hb dX7_spoil_92 (lv_at hl 0 rfl) ?_
    refine m_iald hx hb hK hP (k := 20) (by decide) (f := (S.1 21)) rfl (i := 12 * q) (by omega) (by decide) dX7_spoil_94 ?_
    refine m_iast hx hb hK hP hJ hS (k := 20) (by decide) (f := (S.1 21)) rfl (i := 12 * q) (by omega) (by decide) dX7_spoil_95 (fun H locs hP hS => ?_)
    rw [mm_up21] at hP
    refine lv_aload_n hx hb dX7_spoil_96 rfl (lv_at hl 1 rfl) ?_
    refine m_get hx hb hts inX7 hown hK hP (ci := 7) rfl (k := 0) (by decide) rfl 22 (by decide) (hts (.fieldLink RX7 74 "RollbackPairModel" "pAck" "[I") (by decide +kernel)) rfl dX7_spoil_97 ?_
    refine lv_iload hx hb dX7_spoil_100 (lv_at hl 0 rfl) ?_
    refine lv_iload_n hx hb dX7_spoil_102 rfl (lv_at hl 3 rfl) ?_
    refine lv_iconst (v := nI 2) hx hb dX7_spoil_103 (by decide) ?_
    refine n_cmp_ne (tgt := 119) hx hb dX7_spoil_104 (by decide) (by omega) (by omega) (fun c_6 => ?_) (fun c_6 => absurd c_6 (by decide))
    refine lv_aload_n hx hb dX7_spoil_119 rfl (lv_at hl 1 rfl) ?_
    refine m_get hx hb hts inX7 hown hK hP (ci := 7) rfl (k := 0) (by decide) rfl 22 (by decide) (hts (.fieldLink RX7 74 "RollbackPairModel" "pAck" "[I") (by decide +kernel)) rfl dX7_spoil_120 ?_
    refine lv_iload hx hb dX7_spoil_123 (lv_at hl 0 rfl) ?_
    refine m_iald hx hb hK hP (k := 21) (by decide) (f := (S.1 22)) rfl (i := 12 * q) (by omega) (by decide) dX7_spoil_125 ?_
    refine m_iast hx hb hK hP hJ hS (k := 21) (by decide) (f := (S.1 22)) rfl (i := 12 * q) (by omega) (by decide) dX7_spoil_126 (fun H locs hP hS => ?_)
    rw [mm_up22] at hP
    refine lv_aload_n hx hb dX7_spoil_127 rfl (lv_at hl 1 rfl) ?_
    refine m_get hx hb hts inX7 hown hK hP (ci := 7) rfl (k := 0) (by decide) rfl 23 (by decide) (hts (.fieldLink RX7 77 "RollbackPairModel" "pFirst" "[I") (by decide +kernel)) rfl dX7_spoil_128 ?_
    refine lv_iload hx hb dX7_spoil_131 (lv_at hl 0 rfl) ?_
    refine lv_iload_n hx hb dX7_spoil_133 rfl (lv_at hl 3 rfl) ?_
    refine lv_iconst (v := nI 3) hx hb dX7_spoil_134 (by decide) ?_
    refine n_cmp_ne (tgt := 150) hx hb dX7_spoil_135 (by decide) (by omega) (by omega) (fun c_7 => ?_) (fun c_7 => absurd c_7 (by decide))
    refine lv_aload_n hx hb dX7_spoil_150 rfl (lv_at hl 1 rfl) ?_
    refine m_get hx hb hts inX7 hown hK hP (ci := 7) rfl (k := 0) (by decide) rfl 23 (by decide) (hts (.fieldLink RX7 77 "RollbackPairModel" "pFirst" "[I") (by decide +kernel)) rfl dX7_spoil_151 ?_
    refine lv_iload hx hb dX7_spoil_154 (lv_at hl 0 rfl) ?_
    refine m_iald hx hb hK hP (k := 22) (by decide) (f := (S.1 23)) rfl (i := 12 * q) (by omega) (by decide) dX7_spoil_156 ?_
    refine m_iast hx hb hK hP hJ hS (k := 22) (by decide) (f := (S.1 23)) rfl (i := 12 * q) (by omega) (by decide) dX7_spoil_157 (fun H locs hP hS => ?_)
    rw [mm_up23] at hP
    refine lv_aload_n hx hb dX7_spoil_158 rfl (lv_at hl 1 rfl) ?_
    refine m_get hx hb hts inX7 hown hK hP (ci := 7) rfl (k := 0) (by decide) rfl 24 (by decide) (hts (.fieldLink RX7 80 "RollbackPairModel" "pCount" "[I") (by decide +kernel)) rfl dX7_spoil_159 ?_
    refine lv_iload hx hb dX7_spoil_162 (lv_at hl 0 rfl) ?_
    refine lv_iload_n hx hb dX7_spoil_164 rfl (lv_at hl 3 rfl) ?_
    refine lv_iconst (v := nI 4) hx hb dX7_spoil_165 (by decide) ?_
    refine n_cmp_ne (tgt := 181) hx hb dX7_spoil_166 (by decide) (by omega) (by omega) (fun c_8 => ?_) (fun c_8 => absurd c_8 (by decide))
    refine lv_aload_n hx hb dX7_spoil_181 rfl (lv_at hl 1 rfl) ?_
    refine m_get hx hb hts inX7 hown hK hP (ci := 7) rfl (k := 0) (by decide) rfl 24 (by decide) (hts (.fieldLink RX7 80 "RollbackPairModel" "pCount" "[I") (by decide +kernel)) rfl dX7_spoil_182 ?_
    refine lv_iload hx hb dX7_spoil_185 (lv_at hl 0 rfl) ?_
    refine m_iald hx hb hK hP (k := 23) (by decide) (f := (S.1 24)) rfl (i := 12 * q) (by omega) (by decide) dX7_spoil_187 ?_
    refine m_iast hx hb hK hP hJ hS (k := 23) (by decide) (f := (S.1 24)) rfl (i := 12 * q) (by omega) (by decide) dX7_spoil_188 (fun H locs hP hS => ?_)
    rw [mm_up24] at hP
    refine lv_aload_n hx hb dX7_spoil_189 rfl (lv_at hl 1 rfl) ?_
    refine m_get hx hb hts inX7 hown hK hP (ci := 7) rfl (k := 0) (by decide) rfl 25 (by decide) (hts (.fieldLink RX7 83 "RollbackPairModel" "pBits" "[J") (by decide +kernel)) rfl dX7_spoil_190 ?_
    refine lv_iload hx hb dX7_spoil_193 (lv_at hl 0 rfl) ?_
    refine lv_iload_n hx hb dX7_spoil_195 rfl (lv_at hl 3 rfl) ?_
    refine lv_iconst (v := nI 5) hx hb dX7_spoil_196 (by decide) ?_
    refine n_cmp_ne (tgt := 217) hx hb dX7_spoil_197 (by decide) (by omega) (by omega) (fun c_9 => ?_) (fun c_9 => absurd c_9 (by decide))
    refine lv_aload_n hx hb dX7_spoil_217 rfl (lv_at hl 1 rfl) ?_
    refine m_get hx hb hts inX7 hown hK hP (ci := 7) rfl (k := 0) (by decide) rfl 25 (by decide) (hts (.fieldLink RX7 83 "RollbackPairModel" "pBits" "[J") (by decide +kernel)) rfl dX7_spoil_218 ?_
    refine lv_iload hx hb dX7_spoil_221 (lv_at hl 0 rfl) ?_
    refine m_lald hx hb hK hP (k := 24) (by decide) (f := S.2.2.1) rfl (i := 12 * q) (by omega) (by decide) dX7_spoil_223 ?_
    refine m_last hx hb hK hP hJ hS (k := 24) (by decide) (f := S.2.2.1) rfl (i := 12 * q) (by omega) (by decide) dX7_spoil_224 (fun H locs hP hS => ?_)
    rw [mm_up25] at hP
    refine lv_aload_n hx hb dX7_spoil_225 rfl (lv_at hl 1 rfl) ?_
    refine m_get hx hb hts inX7 hown hK hP (ci := 7) rfl (k := 0) (by decide) rfl 26 (by decide) (hts (.fieldLink RX7 87 "RollbackPairModel" "pCheck" "[I") (by decide +kernel)) rfl dX7_spoil_226 ?_
    refine lv_iload hx hb dX7_spoil_229 (lv_at hl 0 rfl) ?_
    refine lv_iload_n hx hb dX7_spoil_231 rfl (lv_at hl 3 rfl) ?_
    refine lv_bipush (v := nI 6) hx hb dX7_spoil_232 (by decide) ?_
    refine n_cmp_ne (tgt := 249) hx hb dX7_spoil_234 (by decide) (by omega) (by omega) (fun c_10 => ?_) (fun c_10 => absurd c_10 (by decide))
    refine lv_aload_n hx hb dX7_spoil_249 rfl (lv_at hl 1 rfl) ?_
    refine m_get hx hb hts inX7 hown hK hP (ci := 7) rfl (k := 0) (by decide) rfl 26 (by decide) (hts (.fieldLink RX7 87 "RollbackPairModel" "pCheck" "[I") (by decide +kernel)) rfl dX7_spoil_250 ?_
    refine lv_iload hx hb dX7_spoil_253 (lv_at hl 0 rfl) ?_
    refine m_iald hx hb hK hP (k := 25) (by decide) (f := (S.1 26)) rfl (i := 12 * q) (by omega) (by decide) dX7_spoil_255 ?_
    refine m_iast hx hb hK hP hJ hS (k := 25) (by decide) (f := (S.1 26)) rfl (i := 12 * q) (by omega) (by decide) dX7_spoil_256 (fun H locs hP hS => ?_)
    rw [mm_up26] at hP
    refine lv_iconst (v := nI 1) hx hb dX7_spoil_257 (by decide) ?_
    exact r_z hx hb hr hlocks hK hP hS dX7_spoil_258 (by first | rfl | decide) ⟨rfl, rfl⟩
  · refine lv_iload_n hx hb dX7_spoil_0 rfl (lv_at hl 1 rfl) ?_
    refine k_Si (As := [.int (nI q)]) (rest := []) ⟨hx, hb, hml, hown, hts⟩ hK hP hS Ad_le (c_isTwo l D cs ad 26 (mm ad cs d w S np ns) (nI q)) (va_cwS 1 hts gX7_spoil_X7_isTwo rfl rfl rfl (by decide +kernel) ⟨Nat.le_of_ble_eq_true rfl, Nat.le_of_ble_eq_true rfl⟩) rfl rfl hl.1 (Nat.le_of_ble_eq_true rfl) dX7_spoil_1 ⟨Nat.le_of_ble_eq_true rfl, Nat.le_of_ble_eq_true rfl⟩ (fun r_1 M1 H locs hpo hP hS _ _ => ?_)
    obtain ⟨rfl, rfl⟩ := hpo
    refine n_val (two_ok hq) ?_
    refine n_if_eq (tgt := 26) hx hb dX7_spoil_4 (by decide) (by omega) (fun c_2 => absurd c_2 (by decide)) (fun c_2 => ?_)
    refine lv_iload_n hx hb dX7_spoil_7 rfl (lv_at hl 2 rfl) ?_
    refine lv_if_lt (tgt := 26) hx hb dX7_spoil_8 (by decide) (fun c2 => absurd c2 (by decide)) (fun c2 => ?_)
    refine lv_iload_n hx hb dX7_spoil_11 rfl (lv_at hl 2 rfl) ?_
    refine lv_bipush (v := nI 6) hx hb dX7_spoil_12 (by decide) ?_
    refine n_cmp_gt (tgt := 26) hx hb dX7_spoil_14 (by decide) (by omega) (by omega) (fun c_3 => absurd c_3 (by decide)) (fun c_3 => ?_)
    refine lv_aload_n hx hb dX7_spoil_17 rfl (lv_at hl 0 rfl) ?_
    refine m_get hx hb hts inX7 hown hK hP (ci := 7) rfl (k := 0) (by decide) rfl 19 (by decide) (hts (.fieldLink RX7 65 "RollbackPairModel" "rows" "[I") (by decide +kernel)) rfl dX7_spoil_18 ?_
    refine lv_iload_n hx hb dX7_spoil_21 rfl (lv_at hl 1 rfl) ?_
    refine m_iald hx hb hK hP (k := 18) (by decide) (f := (S.1 19)) rfl (i := q) (by omega) (by decide) dX7_spoil_22 ?_
    refine n_val hr0 ?_
    refine n_if_ne (tgt := 28) hx hb dX7_spoil_23 (by decide) (by omega) (fun c4 => ?_) (fun c4 => absurd c4 (by omega))
    refine lv_bipush (v := nI 12) hx hb dX7_spoil_28 (by decide) ?_
    refine lv_iload_n hx hb dX7_spoil_30 rfl (lv_at hl 1 rfl) ?_
    refine n_mul hx hb dX7_spoil_31 ?_
    refine lv_istore (lv' := [(4, .int (nI (12 * q))), (0, .ref (ad 0)), (1, .int (nI q)), (2, .int (nI 1)), (3, .int bits)]) hx hb dX7_spoil_32 hl (by decide) rfl (fun ls hl => ?_)
    refine lv_aload_n hx hb dX7_spoil_34 rfl (lv_at hl 1 rfl) ?_
    refine m_get hx hb hts inX7 hown hK hP (ci := 7) rfl (k := 0) (by decide) rfl 20 (by decide) (hts (.fieldLink RX7 68 "RollbackPairModel" "pNumber" "[S") (by decide +kernel)) rfl dX7_spoil_35 ?_
    refine lv_iload hx hb dX7_spoil_38 (lv_at hl 0 rfl) ?_
    refine lv_iload_n hx hb dX7_spoil_40 rfl (lv_at hl 3 rfl) ?_
    refine n_if_ne (tgt := 57) hx hb dX7_spoil_41 (by decide) (by omega) (fun c_4 => ?_) (fun c_4 => absurd c_4 (by decide))
    refine lv_aload_n hx hb dX7_spoil_57 rfl (lv_at hl 1 rfl) ?_
    refine m_get hx hb hts inX7 hown hK hP (ci := 7) rfl (k := 0) (by decide) rfl 20 (by decide) (hts (.fieldLink RX7 68 "RollbackPairModel" "pNumber" "[S") (by decide +kernel)) rfl dX7_spoil_58 ?_
    refine lv_iload hx hb dX7_spoil_61 (lv_at hl 0 rfl) ?_
    refine m_sald hx hb hK hP (k := 19) (by decide) (f := (S.1 20)) rfl (i := 12 * q) (by omega) (by decide) dX7_spoil_63 ?_
    refine m_sast hx hb hK hP hJ hS (k := 19) (by decide) (f := (S.1 20)) rfl (i := 12 * q) (y := S.1 20 (12 * q)) (by omega) (by decide) (hsh _) dX7_spoil_64 (fun H locs hP hS => ?_)
    rw [mm_up20] at hP
    refine lv_aload_n hx hb dX7_spoil_65 rfl (lv_at hl 1 rfl) ?_
    refine m_get hx hb hts inX7 hown hK hP (ci := 7) rfl (k := 0) (by decide) rfl 21 (by decide) (hts (.fieldLink RX7 71 "RollbackPairModel" "pFrame" "[I") (by decide +kernel)) rfl dX7_spoil_66 ?_
    refine lv_iload hx hb dX7_spoil_69 (lv_at hl 0 rfl) ?_
    refine lv_iload_n hx hb dX7_spoil_71 rfl (lv_at hl 3 rfl) ?_
    refine lv_iconst (v := nI 1) hx hb dX7_spoil_72 (by decide) ?_
    refine n_cmp_ne (tgt := 88) hx hb dX7_spoil_73 (by decide) (by omega) (by omega) (fun c_5 => absurd c_5 (by decide)) (fun c_5 => ?_)
    refine lv_aload_n hx hb dX7_spoil_76 rfl (lv_at hl 1 rfl) ?_
    refine m_get hx hb hts inX7 hown hK hP (ci := 7) rfl (k := 0) (by decide) rfl 21 (by decide) (hts (.fieldLink RX7 71 "RollbackPairModel" "pFrame" "[I") (by decide +kernel)) rfl dX7_spoil_77 ?_
    refine lv_iload hx hb dX7_spoil_80 (lv_at hl 0 rfl) ?_
    refine m_iald hx hb hK hP (k := 20) (by decide) (f := (S.1 21)) rfl (i := 12 * q) (by omega) (by decide) dX7_spoil_82 ?_
    refine lv_iload_n hx hb dX7_spoil_83 rfl (lv_at hl 4 rfl) ?_
    refine lv_ixor hx hb dX7_spoil_84 ?_
    refine lv_goto (tgt := 95) hx hb dX7_spoil_85 (by decide) ?_
    refine m_iast hx hb hK hP hJ hS (k := 20) (by decide) (f := (S.1 21)) rfl (i := 12 * q) (by omega) (by decide) dX7_spoil_95 (fun H locs hP hS => ?_)
    rw [mm_up21] at hP
    refine lv_aload_n hx hb dX7_spoil_96 rfl (lv_at hl 1 rfl) ?_
    refine m_get hx hb hts inX7 hown hK hP (ci := 7) rfl (k := 0) (by decide) rfl 22 (by decide) (hts (.fieldLink RX7 74 "RollbackPairModel" "pAck" "[I") (by decide +kernel)) rfl dX7_spoil_97 ?_
    refine lv_iload hx hb dX7_spoil_100 (lv_at hl 0 rfl) ?_
    refine lv_iload_n hx hb dX7_spoil_102 rfl (lv_at hl 3 rfl) ?_
    refine lv_iconst (v := nI 2) hx hb dX7_spoil_103 (by decide) ?_
    refine n_cmp_ne (tgt := 119) hx hb dX7_spoil_104 (by decide) (by omega) (by omega) (fun c_6 => ?_) (fun c_6 => absurd c_6 (by decide))
    refine lv_aload_n hx hb dX7_spoil_119 rfl (lv_at hl 1 rfl) ?_
    refine m_get hx hb hts inX7 hown hK hP (ci := 7) rfl (k := 0) (by decide) rfl 22 (by decide) (hts (.fieldLink RX7 74 "RollbackPairModel" "pAck" "[I") (by decide +kernel)) rfl dX7_spoil_120 ?_
    refine lv_iload hx hb dX7_spoil_123 (lv_at hl 0 rfl) ?_
    refine m_iald hx hb hK hP (k := 21) (by decide) (f := (S.1 22)) rfl (i := 12 * q) (by omega) (by decide) dX7_spoil_125 ?_
    refine m_iast hx hb hK hP hJ hS (k := 21) (by decide) (f := (S.1 22)) rfl (i := 12 * q) (by omega) (by decide) dX7_spoil_126 (fun H locs hP hS => ?_)
    rw [mm_up22] at hP
    refine lv_aload_n hx hb dX7_spoil_127 rfl (lv_at hl 1 rfl) ?_
    refine m_get hx hb hts inX7 hown hK hP (ci := 7) rfl (k := 0) (by decide) rfl 23 (by decide) (hts (.fieldLink RX7 77 "RollbackPairModel" "pFirst" "[I") (by decide +kernel)) rfl dX7_spoil_128 ?_
    refine lv_iload hx hb dX7_spoil_131 (lv_at hl 0 rfl) ?_
    refine lv_iload_n hx hb dX7_spoil_133 rfl (lv_at hl 3 rfl) ?_
    refine lv_iconst (v := nI 3) hx hb dX7_spoil_134 (by decide) ?_
    refine n_cmp_ne (tgt := 150) hx hb dX7_spoil_135 (by decide) (by omega) (by omega) (fun c_7 => ?_) (fun c_7 => absurd c_7 (by decide))
    refine lv_aload_n hx hb dX7_spoil_150 rfl (lv_at hl 1 rfl) ?_
    refine m_get hx hb hts inX7 hown hK hP (ci := 7) rfl (k := 0) (by decide) rfl 23 (by decide) (hts (.fieldLink RX7 77 "RollbackPairModel" "pFirst" "[I") (by decide +kernel)) rfl dX7_spoil_151 ?_
    refine lv_iload hx hb dX7_spoil_154 (lv_at hl 0 rfl) ?_
    refine m_iald hx hb hK hP (k := 22) (by decide) (f := (S.1 23)) rfl (i := 12 * q) (by omega) (by decide) dX7_spoil_156 ?_
    refine m_iast hx hb hK hP hJ hS (k := 22) (by decide) (f := (S.1 23)) rfl (i := 12 * q) (by omega) (by decide) dX7_spoil_157 (fun H locs hP hS => ?_)
    rw [mm_up23] at hP
    refine lv_aload_n hx hb dX7_spoil_158 rfl (lv_at hl 1 rfl) ?_
    refine m_get hx hb hts inX7 hown hK hP (ci := 7) rfl (k := 0) (by decide) rfl 24 (by decide) (hts (.fieldLink RX7 80 "RollbackPairModel" "pCount" "[I") (by decide +kernel)) rfl dX7_spoil_159 ?_
    refine lv_iload hx hb dX7_spoil_162 (lv_at hl 0 rfl) ?_
    refine lv_iload_n hx hb dX7_spoil_164 rfl (lv_at hl 3 rfl) ?_
    refine lv_iconst (v := nI 4) hx hb dX7_spoil_165 (by decide) ?_
    refine n_cmp_ne (tgt := 181) hx hb dX7_spoil_166 (by decide) (by omega) (by omega) (fun c_8 => ?_) (fun c_8 => absurd c_8 (by decide))
    refine lv_aload_n hx hb dX7_spoil_181 rfl (lv_at hl 1 rfl) ?_
    refine m_get hx hb hts inX7 hown hK hP (ci := 7) rfl (k := 0) (by decide) rfl 24 (by decide) (hts (.fieldLink RX7 80 "RollbackPairModel" "pCount" "[I") (by decide +kernel)) rfl dX7_spoil_182 ?_
    refine lv_iload hx hb dX7_spoil_185 (lv_at hl 0 rfl) ?_
    refine m_iald hx hb hK hP (k := 23) (by decide) (f := (S.1 24)) rfl (i := 12 * q) (by omega) (by decide) dX7_spoil_187 ?_
    refine m_iast hx hb hK hP hJ hS (k := 23) (by decide) (f := (S.1 24)) rfl (i := 12 * q) (by omega) (by decide) dX7_spoil_188 (fun H locs hP hS => ?_)
    rw [mm_up24] at hP
    refine lv_aload_n hx hb dX7_spoil_189 rfl (lv_at hl 1 rfl) ?_
    refine m_get hx hb hts inX7 hown hK hP (ci := 7) rfl (k := 0) (by decide) rfl 25 (by decide) (hts (.fieldLink RX7 83 "RollbackPairModel" "pBits" "[J") (by decide +kernel)) rfl dX7_spoil_190 ?_
    refine lv_iload hx hb dX7_spoil_193 (lv_at hl 0 rfl) ?_
    refine lv_iload_n hx hb dX7_spoil_195 rfl (lv_at hl 3 rfl) ?_
    refine lv_iconst (v := nI 5) hx hb dX7_spoil_196 (by decide) ?_
    refine n_cmp_ne (tgt := 217) hx hb dX7_spoil_197 (by decide) (by omega) (by omega) (fun c_9 => ?_) (fun c_9 => absurd c_9 (by decide))
    refine lv_aload_n hx hb dX7_spoil_217 rfl (lv_at hl 1 rfl) ?_
    refine m_get hx hb hts inX7 hown hK hP (ci := 7) rfl (k := 0) (by decide) rfl 25 (by decide) (hts (.fieldLink RX7 83 "RollbackPairModel" "pBits" "[J") (by decide +kernel)) rfl dX7_spoil_218 ?_
    refine lv_iload hx hb dX7_spoil_221 (lv_at hl 0 rfl) ?_
    refine m_lald hx hb hK hP (k := 24) (by decide) (f := S.2.2.1) rfl (i := 12 * q) (by omega) (by decide) dX7_spoil_223 ?_
    refine m_last hx hb hK hP hJ hS (k := 24) (by decide) (f := S.2.2.1) rfl (i := 12 * q) (by omega) (by decide) dX7_spoil_224 (fun H locs hP hS => ?_)
    rw [mm_up25] at hP
    refine lv_aload_n hx hb dX7_spoil_225 rfl (lv_at hl 1 rfl) ?_
    refine m_get hx hb hts inX7 hown hK hP (ci := 7) rfl (k := 0) (by decide) rfl 26 (by decide) (hts (.fieldLink RX7 87 "RollbackPairModel" "pCheck" "[I") (by decide +kernel)) rfl dX7_spoil_226 ?_
    refine lv_iload hx hb dX7_spoil_229 (lv_at hl 0 rfl) ?_
    refine lv_iload_n hx hb dX7_spoil_231 rfl (lv_at hl 3 rfl) ?_
    refine lv_bipush (v := nI 6) hx hb dX7_spoil_232 (by decide) ?_
    refine n_cmp_ne (tgt := 249) hx hb dX7_spoil_234 (by decide) (by omega) (by omega) (fun c_10 => ?_) (fun c_10 => absurd c_10 (by decide))
    refine lv_aload_n hx hb dX7_spoil_249 rfl (lv_at hl 1 rfl) ?_
    refine m_get hx hb hts inX7 hown hK hP (ci := 7) rfl (k := 0) (by decide) rfl 26 (by decide) (hts (.fieldLink RX7 87 "RollbackPairModel" "pCheck" "[I") (by decide +kernel)) rfl dX7_spoil_250 ?_
    refine lv_iload hx hb dX7_spoil_253 (lv_at hl 0 rfl) ?_
    refine m_iald hx hb hK hP (k := 25) (by decide) (f := (S.1 26)) rfl (i := 12 * q) (by omega) (by decide) dX7_spoil_255 ?_
    refine m_iast hx hb hK hP hJ hS (k := 25) (by decide) (f := (S.1 26)) rfl (i := 12 * q) (by omega) (by decide) dX7_spoil_256 (fun H locs hP hS => ?_)
    rw [mm_up26] at hP
    refine lv_iconst (v := nI 1) hx hb dX7_spoil_257 (by decide) ?_
    exact r_z hx hb hr hlocks hK hP hS dX7_spoil_258 (by first | rfl | decide) ⟨rfl, rfl⟩
  · refine lv_iload_n hx hb dX7_spoil_0 rfl (lv_at hl 1 rfl) ?_
    refine k_Si (As := [.int (nI q)]) (rest := []) ⟨hx, hb, hml, hown, hts⟩ hK hP hS Ad_le (c_isTwo l D cs ad 26 (mm ad cs d w S np ns) (nI q)) (va_cwS 1 hts gX7_spoil_X7_isTwo rfl rfl rfl (by decide +kernel) ⟨Nat.le_of_ble_eq_true rfl, Nat.le_of_ble_eq_true rfl⟩) rfl rfl hl.1 (Nat.le_of_ble_eq_true rfl) dX7_spoil_1 ⟨Nat.le_of_ble_eq_true rfl, Nat.le_of_ble_eq_true rfl⟩ (fun r_1 M1 H locs hpo hP hS _ _ => ?_)
    obtain ⟨rfl, rfl⟩ := hpo
    refine n_val (two_ok hq) ?_
    refine n_if_eq (tgt := 26) hx hb dX7_spoil_4 (by decide) (by omega) (fun c_2 => absurd c_2 (by decide)) (fun c_2 => ?_)
    refine lv_iload_n hx hb dX7_spoil_7 rfl (lv_at hl 2 rfl) ?_
    refine lv_if_lt (tgt := 26) hx hb dX7_spoil_8 (by decide) (fun c2 => absurd c2 (by decide)) (fun c2 => ?_)
    refine lv_iload_n hx hb dX7_spoil_11 rfl (lv_at hl 2 rfl) ?_
    refine lv_bipush (v := nI 6) hx hb dX7_spoil_12 (by decide) ?_
    refine n_cmp_gt (tgt := 26) hx hb dX7_spoil_14 (by decide) (by omega) (by omega) (fun c_3 => absurd c_3 (by decide)) (fun c_3 => ?_)
    refine lv_aload_n hx hb dX7_spoil_17 rfl (lv_at hl 0 rfl) ?_
    refine m_get hx hb hts inX7 hown hK hP (ci := 7) rfl (k := 0) (by decide) rfl 19 (by decide) (hts (.fieldLink RX7 65 "RollbackPairModel" "rows" "[I") (by decide +kernel)) rfl dX7_spoil_18 ?_
    refine lv_iload_n hx hb dX7_spoil_21 rfl (lv_at hl 1 rfl) ?_
    refine m_iald hx hb hK hP (k := 18) (by decide) (f := (S.1 19)) rfl (i := q) (by omega) (by decide) dX7_spoil_22 ?_
    refine n_val hr0 ?_
    refine n_if_ne (tgt := 28) hx hb dX7_spoil_23 (by decide) (by omega) (fun c4 => ?_) (fun c4 => absurd c4 (by omega))
    refine lv_bipush (v := nI 12) hx hb dX7_spoil_28 (by decide) ?_
    refine lv_iload_n hx hb dX7_spoil_30 rfl (lv_at hl 1 rfl) ?_
    refine n_mul hx hb dX7_spoil_31 ?_
    refine lv_istore (lv' := [(4, .int (nI (12 * q))), (0, .ref (ad 0)), (1, .int (nI q)), (2, .int (nI 2)), (3, .int bits)]) hx hb dX7_spoil_32 hl (by decide) rfl (fun ls hl => ?_)
    refine lv_aload_n hx hb dX7_spoil_34 rfl (lv_at hl 1 rfl) ?_
    refine m_get hx hb hts inX7 hown hK hP (ci := 7) rfl (k := 0) (by decide) rfl 20 (by decide) (hts (.fieldLink RX7 68 "RollbackPairModel" "pNumber" "[S") (by decide +kernel)) rfl dX7_spoil_35 ?_
    refine lv_iload hx hb dX7_spoil_38 (lv_at hl 0 rfl) ?_
    refine lv_iload_n hx hb dX7_spoil_40 rfl (lv_at hl 3 rfl) ?_
    refine n_if_ne (tgt := 57) hx hb dX7_spoil_41 (by decide) (by omega) (fun c_4 => ?_) (fun c_4 => absurd c_4 (by decide))
    refine lv_aload_n hx hb dX7_spoil_57 rfl (lv_at hl 1 rfl) ?_
    refine m_get hx hb hts inX7 hown hK hP (ci := 7) rfl (k := 0) (by decide) rfl 20 (by decide) (hts (.fieldLink RX7 68 "RollbackPairModel" "pNumber" "[S") (by decide +kernel)) rfl dX7_spoil_58 ?_
    refine lv_iload hx hb dX7_spoil_61 (lv_at hl 0 rfl) ?_
    refine m_sald hx hb hK hP (k := 19) (by decide) (f := (S.1 20)) rfl (i := 12 * q) (by omega) (by decide) dX7_spoil_63 ?_
    refine m_sast hx hb hK hP hJ hS (k := 19) (by decide) (f := (S.1 20)) rfl (i := 12 * q) (y := S.1 20 (12 * q)) (by omega) (by decide) (hsh _) dX7_spoil_64 (fun H locs hP hS => ?_)
    rw [mm_up20] at hP
    refine lv_aload_n hx hb dX7_spoil_65 rfl (lv_at hl 1 rfl) ?_
    refine m_get hx hb hts inX7 hown hK hP (ci := 7) rfl (k := 0) (by decide) rfl 21 (by decide) (hts (.fieldLink RX7 71 "RollbackPairModel" "pFrame" "[I") (by decide +kernel)) rfl dX7_spoil_66 ?_
    refine lv_iload hx hb dX7_spoil_69 (lv_at hl 0 rfl) ?_
    refine lv_iload_n hx hb dX7_spoil_71 rfl (lv_at hl 3 rfl) ?_
    refine lv_iconst (v := nI 1) hx hb dX7_spoil_72 (by decide) ?_
    refine n_cmp_ne (tgt := 88) hx hb dX7_spoil_73 (by decide) (by omega) (by omega) (fun c_5 => ?_) (fun c_5 => absurd c_5 (by decide))
    refine lv_aload_n hx hb dX7_spoil_88 rfl (lv_at hl 1 rfl) ?_
    refine m_get hx hb hts inX7 hown hK hP (ci := 7) rfl (k := 0) (by decide) rfl 21 (by decide) (hts (.fieldLink RX7 71 "RollbackPairModel" "pFrame" "[I") (by decide +kernel)) rfl dX7_spoil_89 ?_
    refine lv_iload hx hb dX7_spoil_92 (lv_at hl 0 rfl) ?_
    refine m_iald hx hb hK hP (k := 20) (by decide) (f := (S.1 21)) rfl (i := 12 * q) (by omega) (by decide) dX7_spoil_94 ?_
    refine m_iast hx hb hK hP hJ hS (k := 20) (by decide) (f := (S.1 21)) rfl (i := 12 * q) (by omega) (by decide) dX7_spoil_95 (fun H locs hP hS => ?_)
    rw [mm_up21] at hP
    refine lv_aload_n hx hb dX7_spoil_96 rfl (lv_at hl 1 rfl) ?_
    refine m_get hx hb hts inX7 hown hK hP (ci := 7) rfl (k := 0) (by decide) rfl 22 (by decide) (hts (.fieldLink RX7 74 "RollbackPairModel" "pAck" "[I") (by decide +kernel)) rfl dX7_spoil_97 ?_
    refine lv_iload hx hb dX7_spoil_100 (lv_at hl 0 rfl) ?_
    refine lv_iload_n hx hb dX7_spoil_102 rfl (lv_at hl 3 rfl) ?_
    refine lv_iconst (v := nI 2) hx hb dX7_spoil_103 (by decide) ?_
    refine n_cmp_ne (tgt := 119) hx hb dX7_spoil_104 (by decide) (by omega) (by omega) (fun c_6 => absurd c_6 (by decide)) (fun c_6 => ?_)
    refine lv_aload_n hx hb dX7_spoil_107 rfl (lv_at hl 1 rfl) ?_
    refine m_get hx hb hts inX7 hown hK hP (ci := 7) rfl (k := 0) (by decide) rfl 22 (by decide) (hts (.fieldLink RX7 74 "RollbackPairModel" "pAck" "[I") (by decide +kernel)) rfl dX7_spoil_108 ?_
    refine lv_iload hx hb dX7_spoil_111 (lv_at hl 0 rfl) ?_
    refine m_iald hx hb hK hP (k := 21) (by decide) (f := (S.1 22)) rfl (i := 12 * q) (by omega) (by decide) dX7_spoil_113 ?_
    refine lv_iload_n hx hb dX7_spoil_114 rfl (lv_at hl 4 rfl) ?_
    refine lv_ixor hx hb dX7_spoil_115 ?_
    refine lv_goto (tgt := 126) hx hb dX7_spoil_116 (by decide) ?_
    refine m_iast hx hb hK hP hJ hS (k := 21) (by decide) (f := (S.1 22)) rfl (i := 12 * q) (by omega) (by decide) dX7_spoil_126 (fun H locs hP hS => ?_)
    rw [mm_up22] at hP
    refine lv_aload_n hx hb dX7_spoil_127 rfl (lv_at hl 1 rfl) ?_
    refine m_get hx hb hts inX7 hown hK hP (ci := 7) rfl (k := 0) (by decide) rfl 23 (by decide) (hts (.fieldLink RX7 77 "RollbackPairModel" "pFirst" "[I") (by decide +kernel)) rfl dX7_spoil_128 ?_
    refine lv_iload hx hb dX7_spoil_131 (lv_at hl 0 rfl) ?_
    refine lv_iload_n hx hb dX7_spoil_133 rfl (lv_at hl 3 rfl) ?_
    refine lv_iconst (v := nI 3) hx hb dX7_spoil_134 (by decide) ?_
    refine n_cmp_ne (tgt := 150) hx hb dX7_spoil_135 (by decide) (by omega) (by omega) (fun c_7 => ?_) (fun c_7 => absurd c_7 (by decide))
    refine lv_aload_n hx hb dX7_spoil_150 rfl (lv_at hl 1 rfl) ?_
    refine m_get hx hb hts inX7 hown hK hP (ci := 7) rfl (k := 0) (by decide) rfl 23 (by decide) (hts (.fieldLink RX7 77 "RollbackPairModel" "pFirst" "[I") (by decide +kernel)) rfl dX7_spoil_151 ?_
    refine lv_iload hx hb dX7_spoil_154 (lv_at hl 0 rfl) ?_
    refine m_iald hx hb hK hP (k := 22) (by decide) (f := (S.1 23)) rfl (i := 12 * q) (by omega) (by decide) dX7_spoil_156 ?_
    refine m_iast hx hb hK hP hJ hS (k := 22) (by decide) (f := (S.1 23)) rfl (i := 12 * q) (by omega) (by decide) dX7_spoil_157 (fun H locs hP hS => ?_)
    rw [mm_up23] at hP
    refine lv_aload_n hx hb dX7_spoil_158 rfl (lv_at hl 1 rfl) ?_
    refine m_get hx hb hts inX7 hown hK hP (ci := 7) rfl (k := 0) (by decide) rfl 24 (by decide) (hts (.fieldLink RX7 80 "RollbackPairModel" "pCount" "[I") (by decide +kernel)) rfl dX7_spoil_159 ?_
    refine lv_iload hx hb dX7_spoil_162 (lv_at hl 0 rfl) ?_
    refine lv_iload_n hx hb dX7_spoil_164 rfl (lv_at hl 3 rfl) ?_
    refine lv_iconst (v := nI 4) hx hb dX7_spoil_165 (by decide) ?_
    refine n_cmp_ne (tgt := 181) hx hb dX7_spoil_166 (by decide) (by omega) (by omega) (fun c_8 => ?_) (fun c_8 => absurd c_8 (by decide))
    refine lv_aload_n hx hb dX7_spoil_181 rfl (lv_at hl 1 rfl) ?_
    refine m_get hx hb hts inX7 hown hK hP (ci := 7) rfl (k := 0) (by decide) rfl 24 (by decide) (hts (.fieldLink RX7 80 "RollbackPairModel" "pCount" "[I") (by decide +kernel)) rfl dX7_spoil_182 ?_
    refine lv_iload hx hb dX7_spoil_185 (lv_at hl 0 rfl) ?_
    refine m_iald hx hb hK hP (k := 23) (by decide) (f := (S.1 24)) rfl (i := 12 * q) (by omega) (by decide) dX7_spoil_187 ?_
    refine m_iast hx hb hK hP hJ hS (k := 23) (by decide) (f := (S.1 24)) rfl (i := 12 * q) (by omega) (by decide) dX7_spoil_188 (fun H locs hP hS => ?_)
    rw [mm_up24] at hP
    refine lv_aload_n hx hb dX7_spoil_189 rfl (lv_at hl 1 rfl) ?_
    refine m_get hx hb hts inX7 hown hK hP (ci := 7) rfl (k := 0) (by decide) rfl 25 (by decide) (hts (.fieldLink RX7 83 "RollbackPairModel" "pBits" "[J") (by decide +kernel)) rfl dX7_spoil_190 ?_
    refine lv_iload hx hb dX7_spoil_193 (lv_at hl 0 rfl) ?_
    refine lv_iload_n hx hb dX7_spoil_195 rfl (lv_at hl 3 rfl) ?_
    refine lv_iconst (v := nI 5) hx hb dX7_spoil_196 (by decide) ?_
    refine n_cmp_ne (tgt := 217) hx hb dX7_spoil_197 (by decide) (by omega) (by omega) (fun c_9 => ?_) (fun c_9 => absurd c_9 (by decide))
    refine lv_aload_n hx hb dX7_spoil_217 rfl (lv_at hl 1 rfl) ?_
    refine m_get hx hb hts inX7 hown hK hP (ci := 7) rfl (k := 0) (by decide) rfl 25 (by decide) (hts (.fieldLink RX7 83 "RollbackPairModel" "pBits" "[J") (by decide +kernel)) rfl dX7_spoil_218 ?_
    refine lv_iload hx hb dX7_spoil_221 (lv_at hl 0 rfl) ?_
    refine m_lald hx hb hK hP (k := 24) (by decide) (f := S.2.2.1) rfl (i := 12 * q) (by omega) (by decide) dX7_spoil_223 ?_
    refine m_last hx hb hK hP hJ hS (k := 24) (by decide) (f := S.2.2.1) rfl (i := 12 * q) (by omega) (by decide) dX7_spoil_224 (fun H locs hP hS => ?_)
    rw [mm_up25] at hP
    refine lv_aload_n hx hb dX7_spoil_225 rfl (lv_at hl 1 rfl) ?_
    refine m_get hx hb hts inX7 hown hK hP (ci := 7) rfl (k := 0) (by decide) rfl 26 (by decide) (hts (.fieldLink RX7 87 "RollbackPairModel" "pCheck" "[I") (by decide +kernel)) rfl dX7_spoil_226 ?_
    refine lv_iload hx hb dX7_spoil_229 (lv_at hl 0 rfl) ?_
    refine lv_iload_n hx hb dX7_spoil_231 rfl (lv_at hl 3 rfl) ?_
    refine lv_bipush (v := nI 6) hx hb dX7_spoil_232 (by decide) ?_
    refine n_cmp_ne (tgt := 249) hx hb dX7_spoil_234 (by decide) (by omega) (by omega) (fun c_10 => ?_) (fun c_10 => absurd c_10 (by decide))
    refine lv_aload_n hx hb dX7_spoil_249 rfl (lv_at hl 1 rfl) ?_
    refine m_get hx hb hts inX7 hown hK hP (ci := 7) rfl (k := 0) (by decide) rfl 26 (by decide) (hts (.fieldLink RX7 87 "RollbackPairModel" "pCheck" "[I") (by decide +kernel)) rfl dX7_spoil_250 ?_
    refine lv_iload hx hb dX7_spoil_253 (lv_at hl 0 rfl) ?_
    refine m_iald hx hb hK hP (k := 25) (by decide) (f := (S.1 26)) rfl (i := 12 * q) (by omega) (by decide) dX7_spoil_255 ?_
    refine m_iast hx hb hK hP hJ hS (k := 25) (by decide) (f := (S.1 26)) rfl (i := 12 * q) (by omega) (by decide) dX7_spoil_256 (fun H locs hP hS => ?_)
    rw [mm_up26] at hP
    refine lv_iconst (v := nI 1) hx hb dX7_spoil_257 (by decide) ?_
    exact r_z hx hb hr hlocks hK hP hS dX7_spoil_258 (by first | rfl | decide) ⟨rfl, rfl⟩
  · refine lv_iload_n hx hb dX7_spoil_0 rfl (lv_at hl 1 rfl) ?_
    refine k_Si (As := [.int (nI q)]) (rest := []) ⟨hx, hb, hml, hown, hts⟩ hK hP hS Ad_le (c_isTwo l D cs ad 26 (mm ad cs d w S np ns) (nI q)) (va_cwS 1 hts gX7_spoil_X7_isTwo rfl rfl rfl (by decide +kernel) ⟨Nat.le_of_ble_eq_true rfl, Nat.le_of_ble_eq_true rfl⟩) rfl rfl hl.1 (Nat.le_of_ble_eq_true rfl) dX7_spoil_1 ⟨Nat.le_of_ble_eq_true rfl, Nat.le_of_ble_eq_true rfl⟩ (fun r_1 M1 H locs hpo hP hS _ _ => ?_)
    obtain ⟨rfl, rfl⟩ := hpo
    refine n_val (two_ok hq) ?_
    refine n_if_eq (tgt := 26) hx hb dX7_spoil_4 (by decide) (by omega) (fun c_2 => absurd c_2 (by decide)) (fun c_2 => ?_)
    refine lv_iload_n hx hb dX7_spoil_7 rfl (lv_at hl 2 rfl) ?_
    refine lv_if_lt (tgt := 26) hx hb dX7_spoil_8 (by decide) (fun c2 => absurd c2 (by decide)) (fun c2 => ?_)
    refine lv_iload_n hx hb dX7_spoil_11 rfl (lv_at hl 2 rfl) ?_
    refine lv_bipush (v := nI 6) hx hb dX7_spoil_12 (by decide) ?_
    refine n_cmp_gt (tgt := 26) hx hb dX7_spoil_14 (by decide) (by omega) (by omega) (fun c_3 => absurd c_3 (by decide)) (fun c_3 => ?_)
    refine lv_aload_n hx hb dX7_spoil_17 rfl (lv_at hl 0 rfl) ?_
    refine m_get hx hb hts inX7 hown hK hP (ci := 7) rfl (k := 0) (by decide) rfl 19 (by decide) (hts (.fieldLink RX7 65 "RollbackPairModel" "rows" "[I") (by decide +kernel)) rfl dX7_spoil_18 ?_
    refine lv_iload_n hx hb dX7_spoil_21 rfl (lv_at hl 1 rfl) ?_
    refine m_iald hx hb hK hP (k := 18) (by decide) (f := (S.1 19)) rfl (i := q) (by omega) (by decide) dX7_spoil_22 ?_
    refine n_val hr0 ?_
    refine n_if_ne (tgt := 28) hx hb dX7_spoil_23 (by decide) (by omega) (fun c4 => ?_) (fun c4 => absurd c4 (by omega))
    refine lv_bipush (v := nI 12) hx hb dX7_spoil_28 (by decide) ?_
    refine lv_iload_n hx hb dX7_spoil_30 rfl (lv_at hl 1 rfl) ?_
    refine n_mul hx hb dX7_spoil_31 ?_
    refine lv_istore (lv' := [(4, .int (nI (12 * q))), (0, .ref (ad 0)), (1, .int (nI q)), (2, .int (nI 3)), (3, .int bits)]) hx hb dX7_spoil_32 hl (by decide) rfl (fun ls hl => ?_)
    refine lv_aload_n hx hb dX7_spoil_34 rfl (lv_at hl 1 rfl) ?_
    refine m_get hx hb hts inX7 hown hK hP (ci := 7) rfl (k := 0) (by decide) rfl 20 (by decide) (hts (.fieldLink RX7 68 "RollbackPairModel" "pNumber" "[S") (by decide +kernel)) rfl dX7_spoil_35 ?_
    refine lv_iload hx hb dX7_spoil_38 (lv_at hl 0 rfl) ?_
    refine lv_iload_n hx hb dX7_spoil_40 rfl (lv_at hl 3 rfl) ?_
    refine n_if_ne (tgt := 57) hx hb dX7_spoil_41 (by decide) (by omega) (fun c_4 => ?_) (fun c_4 => absurd c_4 (by decide))
    refine lv_aload_n hx hb dX7_spoil_57 rfl (lv_at hl 1 rfl) ?_
    refine m_get hx hb hts inX7 hown hK hP (ci := 7) rfl (k := 0) (by decide) rfl 20 (by decide) (hts (.fieldLink RX7 68 "RollbackPairModel" "pNumber" "[S") (by decide +kernel)) rfl dX7_spoil_58 ?_
    refine lv_iload hx hb dX7_spoil_61 (lv_at hl 0 rfl) ?_
    refine m_sald hx hb hK hP (k := 19) (by decide) (f := (S.1 20)) rfl (i := 12 * q) (by omega) (by decide) dX7_spoil_63 ?_
    refine m_sast hx hb hK hP hJ hS (k := 19) (by decide) (f := (S.1 20)) rfl (i := 12 * q) (y := S.1 20 (12 * q)) (by omega) (by decide) (hsh _) dX7_spoil_64 (fun H locs hP hS => ?_)
    rw [mm_up20] at hP
    refine lv_aload_n hx hb dX7_spoil_65 rfl (lv_at hl 1 rfl) ?_
    refine m_get hx hb hts inX7 hown hK hP (ci := 7) rfl (k := 0) (by decide) rfl 21 (by decide) (hts (.fieldLink RX7 71 "RollbackPairModel" "pFrame" "[I") (by decide +kernel)) rfl dX7_spoil_66 ?_
    refine lv_iload hx hb dX7_spoil_69 (lv_at hl 0 rfl) ?_
    refine lv_iload_n hx hb dX7_spoil_71 rfl (lv_at hl 3 rfl) ?_
    refine lv_iconst (v := nI 1) hx hb dX7_spoil_72 (by decide) ?_
    refine n_cmp_ne (tgt := 88) hx hb dX7_spoil_73 (by decide) (by omega) (by omega) (fun c_5 => ?_) (fun c_5 => absurd c_5 (by decide))
    refine lv_aload_n hx hb dX7_spoil_88 rfl (lv_at hl 1 rfl) ?_
    refine m_get hx hb hts inX7 hown hK hP (ci := 7) rfl (k := 0) (by decide) rfl 21 (by decide) (hts (.fieldLink RX7 71 "RollbackPairModel" "pFrame" "[I") (by decide +kernel)) rfl dX7_spoil_89 ?_
    refine lv_iload hx hb dX7_spoil_92 (lv_at hl 0 rfl) ?_
    refine m_iald hx hb hK hP (k := 20) (by decide) (f := (S.1 21)) rfl (i := 12 * q) (by omega) (by decide) dX7_spoil_94 ?_
    refine m_iast hx hb hK hP hJ hS (k := 20) (by decide) (f := (S.1 21)) rfl (i := 12 * q) (by omega) (by decide) dX7_spoil_95 (fun H locs hP hS => ?_)
    rw [mm_up21] at hP
    refine lv_aload_n hx hb dX7_spoil_96 rfl (lv_at hl 1 rfl) ?_
    refine m_get hx hb hts inX7 hown hK hP (ci := 7) rfl (k := 0) (by decide) rfl 22 (by decide) (hts (.fieldLink RX7 74 "RollbackPairModel" "pAck" "[I") (by decide +kernel)) rfl dX7_spoil_97 ?_
    refine lv_iload hx hb dX7_spoil_100 (lv_at hl 0 rfl) ?_
    refine lv_iload_n hx hb dX7_spoil_102 rfl (lv_at hl 3 rfl) ?_
    refine lv_iconst (v := nI 2) hx hb dX7_spoil_103 (by decide) ?_
    refine n_cmp_ne (tgt := 119) hx hb dX7_spoil_104 (by decide) (by omega) (by omega) (fun c_6 => ?_) (fun c_6 => absurd c_6 (by decide))
    refine lv_aload_n hx hb dX7_spoil_119 rfl (lv_at hl 1 rfl) ?_
    refine m_get hx hb hts inX7 hown hK hP (ci := 7) rfl (k := 0) (by decide) rfl 22 (by decide) (hts (.fieldLink RX7 74 "RollbackPairModel" "pAck" "[I") (by decide +kernel)) rfl dX7_spoil_120 ?_
    refine lv_iload hx hb dX7_spoil_123 (lv_at hl 0 rfl) ?_
    refine m_iald hx hb hK hP (k := 21) (by decide) (f := (S.1 22)) rfl (i := 12 * q) (by omega) (by decide) dX7_spoil_125 ?_
    refine m_iast hx hb hK hP hJ hS (k := 21) (by decide) (f := (S.1 22)) rfl (i := 12 * q) (by omega) (by decide) dX7_spoil_126 (fun H locs hP hS => ?_)
    rw [mm_up22] at hP
    refine lv_aload_n hx hb dX7_spoil_127 rfl (lv_at hl 1 rfl) ?_
    refine m_get hx hb hts inX7 hown hK hP (ci := 7) rfl (k := 0) (by decide) rfl 23 (by decide) (hts (.fieldLink RX7 77 "RollbackPairModel" "pFirst" "[I") (by decide +kernel)) rfl dX7_spoil_128 ?_
    refine lv_iload hx hb dX7_spoil_131 (lv_at hl 0 rfl) ?_
    refine lv_iload_n hx hb dX7_spoil_133 rfl (lv_at hl 3 rfl) ?_
    refine lv_iconst (v := nI 3) hx hb dX7_spoil_134 (by decide) ?_
    refine n_cmp_ne (tgt := 150) hx hb dX7_spoil_135 (by decide) (by omega) (by omega) (fun c_7 => absurd c_7 (by decide)) (fun c_7 => ?_)
    refine lv_aload_n hx hb dX7_spoil_138 rfl (lv_at hl 1 rfl) ?_
    refine m_get hx hb hts inX7 hown hK hP (ci := 7) rfl (k := 0) (by decide) rfl 23 (by decide) (hts (.fieldLink RX7 77 "RollbackPairModel" "pFirst" "[I") (by decide +kernel)) rfl dX7_spoil_139 ?_
    refine lv_iload hx hb dX7_spoil_142 (lv_at hl 0 rfl) ?_
    refine m_iald hx hb hK hP (k := 22) (by decide) (f := (S.1 23)) rfl (i := 12 * q) (by omega) (by decide) dX7_spoil_144 ?_
    refine lv_iload_n hx hb dX7_spoil_145 rfl (lv_at hl 4 rfl) ?_
    refine lv_ixor hx hb dX7_spoil_146 ?_
    refine lv_goto (tgt := 157) hx hb dX7_spoil_147 (by decide) ?_
    refine m_iast hx hb hK hP hJ hS (k := 22) (by decide) (f := (S.1 23)) rfl (i := 12 * q) (by omega) (by decide) dX7_spoil_157 (fun H locs hP hS => ?_)
    rw [mm_up23] at hP
    refine lv_aload_n hx hb dX7_spoil_158 rfl (lv_at hl 1 rfl) ?_
    refine m_get hx hb hts inX7 hown hK hP (ci := 7) rfl (k := 0) (by decide) rfl 24 (by decide) (hts (.fieldLink RX7 80 "RollbackPairModel" "pCount" "[I") (by decide +kernel)) rfl dX7_spoil_159 ?_
    refine lv_iload hx hb dX7_spoil_162 (lv_at hl 0 rfl) ?_
    refine lv_iload_n hx hb dX7_spoil_164 rfl (lv_at hl 3 rfl) ?_
    refine lv_iconst (v := nI 4) hx hb dX7_spoil_165 (by decide) ?_
    refine n_cmp_ne (tgt := 181) hx hb dX7_spoil_166 (by decide) (by omega) (by omega) (fun c_8 => ?_) (fun c_8 => absurd c_8 (by decide))
    refine lv_aload_n hx hb dX7_spoil_181 rfl (lv_at hl 1 rfl) ?_
    refine m_get hx hb hts inX7 hown hK hP (ci := 7) rfl (k := 0) (by decide) rfl 24 (by decide) (hts (.fieldLink RX7 80 "RollbackPairModel" "pCount" "[I") (by decide +kernel)) rfl dX7_spoil_182 ?_
    refine lv_iload hx hb dX7_spoil_185 (lv_at hl 0 rfl) ?_
    refine m_iald hx hb hK hP (k := 23) (by decide) (f := (S.1 24)) rfl (i := 12 * q) (by omega) (by decide) dX7_spoil_187 ?_
    refine m_iast hx hb hK hP hJ hS (k := 23) (by decide) (f := (S.1 24)) rfl (i := 12 * q) (by omega) (by decide) dX7_spoil_188 (fun H locs hP hS => ?_)
    rw [mm_up24] at hP
    refine lv_aload_n hx hb dX7_spoil_189 rfl (lv_at hl 1 rfl) ?_
    refine m_get hx hb hts inX7 hown hK hP (ci := 7) rfl (k := 0) (by decide) rfl 25 (by decide) (hts (.fieldLink RX7 83 "RollbackPairModel" "pBits" "[J") (by decide +kernel)) rfl dX7_spoil_190 ?_
    refine lv_iload hx hb dX7_spoil_193 (lv_at hl 0 rfl) ?_
    refine lv_iload_n hx hb dX7_spoil_195 rfl (lv_at hl 3 rfl) ?_
    refine lv_iconst (v := nI 5) hx hb dX7_spoil_196 (by decide) ?_
    refine n_cmp_ne (tgt := 217) hx hb dX7_spoil_197 (by decide) (by omega) (by omega) (fun c_9 => ?_) (fun c_9 => absurd c_9 (by decide))
    refine lv_aload_n hx hb dX7_spoil_217 rfl (lv_at hl 1 rfl) ?_
    refine m_get hx hb hts inX7 hown hK hP (ci := 7) rfl (k := 0) (by decide) rfl 25 (by decide) (hts (.fieldLink RX7 83 "RollbackPairModel" "pBits" "[J") (by decide +kernel)) rfl dX7_spoil_218 ?_
    refine lv_iload hx hb dX7_spoil_221 (lv_at hl 0 rfl) ?_
    refine m_lald hx hb hK hP (k := 24) (by decide) (f := S.2.2.1) rfl (i := 12 * q) (by omega) (by decide) dX7_spoil_223 ?_
    refine m_last hx hb hK hP hJ hS (k := 24) (by decide) (f := S.2.2.1) rfl (i := 12 * q) (by omega) (by decide) dX7_spoil_224 (fun H locs hP hS => ?_)
    rw [mm_up25] at hP
    refine lv_aload_n hx hb dX7_spoil_225 rfl (lv_at hl 1 rfl) ?_
    refine m_get hx hb hts inX7 hown hK hP (ci := 7) rfl (k := 0) (by decide) rfl 26 (by decide) (hts (.fieldLink RX7 87 "RollbackPairModel" "pCheck" "[I") (by decide +kernel)) rfl dX7_spoil_226 ?_
    refine lv_iload hx hb dX7_spoil_229 (lv_at hl 0 rfl) ?_
    refine lv_iload_n hx hb dX7_spoil_231 rfl (lv_at hl 3 rfl) ?_
    refine lv_bipush (v := nI 6) hx hb dX7_spoil_232 (by decide) ?_
    refine n_cmp_ne (tgt := 249) hx hb dX7_spoil_234 (by decide) (by omega) (by omega) (fun c_10 => ?_) (fun c_10 => absurd c_10 (by decide))
    refine lv_aload_n hx hb dX7_spoil_249 rfl (lv_at hl 1 rfl) ?_
    refine m_get hx hb hts inX7 hown hK hP (ci := 7) rfl (k := 0) (by decide) rfl 26 (by decide) (hts (.fieldLink RX7 87 "RollbackPairModel" "pCheck" "[I") (by decide +kernel)) rfl dX7_spoil_250 ?_
    refine lv_iload hx hb dX7_spoil_253 (lv_at hl 0 rfl) ?_
    refine m_iald hx hb hK hP (k := 25) (by decide) (f := (S.1 26)) rfl (i := 12 * q) (by omega) (by decide) dX7_spoil_255 ?_
    refine m_iast hx hb hK hP hJ hS (k := 25) (by decide) (f := (S.1 26)) rfl (i := 12 * q) (by omega) (by decide) dX7_spoil_256 (fun H locs hP hS => ?_)
    rw [mm_up26] at hP
    refine lv_iconst (v := nI 1) hx hb dX7_spoil_257 (by decide) ?_
    exact r_z hx hb hr hlocks hK hP hS dX7_spoil_258 (by first | rfl | decide) ⟨rfl, rfl⟩
  · refine lv_iload_n hx hb dX7_spoil_0 rfl (lv_at hl 1 rfl) ?_
    refine k_Si (As := [.int (nI q)]) (rest := []) ⟨hx, hb, hml, hown, hts⟩ hK hP hS Ad_le (c_isTwo l D cs ad 26 (mm ad cs d w S np ns) (nI q)) (va_cwS 1 hts gX7_spoil_X7_isTwo rfl rfl rfl (by decide +kernel) ⟨Nat.le_of_ble_eq_true rfl, Nat.le_of_ble_eq_true rfl⟩) rfl rfl hl.1 (Nat.le_of_ble_eq_true rfl) dX7_spoil_1 ⟨Nat.le_of_ble_eq_true rfl, Nat.le_of_ble_eq_true rfl⟩ (fun r_1 M1 H locs hpo hP hS _ _ => ?_)
    obtain ⟨rfl, rfl⟩ := hpo
    refine n_val (two_ok hq) ?_
    refine n_if_eq (tgt := 26) hx hb dX7_spoil_4 (by decide) (by omega) (fun c_2 => absurd c_2 (by decide)) (fun c_2 => ?_)
    refine lv_iload_n hx hb dX7_spoil_7 rfl (lv_at hl 2 rfl) ?_
    refine lv_if_lt (tgt := 26) hx hb dX7_spoil_8 (by decide) (fun c2 => absurd c2 (by decide)) (fun c2 => ?_)
    refine lv_iload_n hx hb dX7_spoil_11 rfl (lv_at hl 2 rfl) ?_
    refine lv_bipush (v := nI 6) hx hb dX7_spoil_12 (by decide) ?_
    refine n_cmp_gt (tgt := 26) hx hb dX7_spoil_14 (by decide) (by omega) (by omega) (fun c_3 => absurd c_3 (by decide)) (fun c_3 => ?_)
    refine lv_aload_n hx hb dX7_spoil_17 rfl (lv_at hl 0 rfl) ?_
    refine m_get hx hb hts inX7 hown hK hP (ci := 7) rfl (k := 0) (by decide) rfl 19 (by decide) (hts (.fieldLink RX7 65 "RollbackPairModel" "rows" "[I") (by decide +kernel)) rfl dX7_spoil_18 ?_
    refine lv_iload_n hx hb dX7_spoil_21 rfl (lv_at hl 1 rfl) ?_
    refine m_iald hx hb hK hP (k := 18) (by decide) (f := (S.1 19)) rfl (i := q) (by omega) (by decide) dX7_spoil_22 ?_
    refine n_val hr0 ?_
    refine n_if_ne (tgt := 28) hx hb dX7_spoil_23 (by decide) (by omega) (fun c4 => ?_) (fun c4 => absurd c4 (by omega))
    refine lv_bipush (v := nI 12) hx hb dX7_spoil_28 (by decide) ?_
    refine lv_iload_n hx hb dX7_spoil_30 rfl (lv_at hl 1 rfl) ?_
    refine n_mul hx hb dX7_spoil_31 ?_
    refine lv_istore (lv' := [(4, .int (nI (12 * q))), (0, .ref (ad 0)), (1, .int (nI q)), (2, .int (nI 4)), (3, .int bits)]) hx hb dX7_spoil_32 hl (by decide) rfl (fun ls hl => ?_)
    refine lv_aload_n hx hb dX7_spoil_34 rfl (lv_at hl 1 rfl) ?_
    refine m_get hx hb hts inX7 hown hK hP (ci := 7) rfl (k := 0) (by decide) rfl 20 (by decide) (hts (.fieldLink RX7 68 "RollbackPairModel" "pNumber" "[S") (by decide +kernel)) rfl dX7_spoil_35 ?_
    refine lv_iload hx hb dX7_spoil_38 (lv_at hl 0 rfl) ?_
    refine lv_iload_n hx hb dX7_spoil_40 rfl (lv_at hl 3 rfl) ?_
    refine n_if_ne (tgt := 57) hx hb dX7_spoil_41 (by decide) (by omega) (fun c_4 => ?_) (fun c_4 => absurd c_4 (by decide))
    refine lv_aload_n hx hb dX7_spoil_57 rfl (lv_at hl 1 rfl) ?_
    refine m_get hx hb hts inX7 hown hK hP (ci := 7) rfl (k := 0) (by decide) rfl 20 (by decide) (hts (.fieldLink RX7 68 "RollbackPairModel" "pNumber" "[S") (by decide +kernel)) rfl dX7_spoil_58 ?_
    refine lv_iload hx hb dX7_spoil_61 (lv_at hl 0 rfl) ?_
    refine m_sald hx hb hK hP (k := 19) (by decide) (f := (S.1 20)) rfl (i := 12 * q) (by omega) (by decide) dX7_spoil_63 ?_
    refine m_sast hx hb hK hP hJ hS (k := 19) (by decide) (f := (S.1 20)) rfl (i := 12 * q) (y := S.1 20 (12 * q)) (by omega) (by decide) (hsh _) dX7_spoil_64 (fun H locs hP hS => ?_)
    rw [mm_up20] at hP
    refine lv_aload_n hx hb dX7_spoil_65 rfl (lv_at hl 1 rfl) ?_
    refine m_get hx hb hts inX7 hown hK hP (ci := 7) rfl (k := 0) (by decide) rfl 21 (by decide) (hts (.fieldLink RX7 71 "RollbackPairModel" "pFrame" "[I") (by decide +kernel)) rfl dX7_spoil_66 ?_
    refine lv_iload hx hb dX7_spoil_69 (lv_at hl 0 rfl) ?_
    refine lv_iload_n hx hb dX7_spoil_71 rfl (lv_at hl 3 rfl) ?_
    refine lv_iconst (v := nI 1) hx hb dX7_spoil_72 (by decide) ?_
    refine n_cmp_ne (tgt := 88) hx hb dX7_spoil_73 (by decide) (by omega) (by omega) (fun c_5 => ?_) (fun c_5 => absurd c_5 (by decide))
    refine lv_aload_n hx hb dX7_spoil_88 rfl (lv_at hl 1 rfl) ?_
    refine m_get hx hb hts inX7 hown hK hP (ci := 7) rfl (k := 0) (by decide) rfl 21 (by decide) (hts (.fieldLink RX7 71 "RollbackPairModel" "pFrame" "[I") (by decide +kernel)) rfl dX7_spoil_89 ?_
    refine lv_iload hx hb dX7_spoil_92 (lv_at hl 0 rfl) ?_
    refine m_iald hx hb hK hP (k := 20) (by decide) (f := (S.1 21)) rfl (i := 12 * q) (by omega) (by decide) dX7_spoil_94 ?_
    refine m_iast hx hb hK hP hJ hS (k := 20) (by decide) (f := (S.1 21)) rfl (i := 12 * q) (by omega) (by decide) dX7_spoil_95 (fun H locs hP hS => ?_)
    rw [mm_up21] at hP
    refine lv_aload_n hx hb dX7_spoil_96 rfl (lv_at hl 1 rfl) ?_
    refine m_get hx hb hts inX7 hown hK hP (ci := 7) rfl (k := 0) (by decide) rfl 22 (by decide) (hts (.fieldLink RX7 74 "RollbackPairModel" "pAck" "[I") (by decide +kernel)) rfl dX7_spoil_97 ?_
    refine lv_iload hx hb dX7_spoil_100 (lv_at hl 0 rfl) ?_
    refine lv_iload_n hx hb dX7_spoil_102 rfl (lv_at hl 3 rfl) ?_
    refine lv_iconst (v := nI 2) hx hb dX7_spoil_103 (by decide) ?_
    refine n_cmp_ne (tgt := 119) hx hb dX7_spoil_104 (by decide) (by omega) (by omega) (fun c_6 => ?_) (fun c_6 => absurd c_6 (by decide))
    refine lv_aload_n hx hb dX7_spoil_119 rfl (lv_at hl 1 rfl) ?_
    refine m_get hx hb hts inX7 hown hK hP (ci := 7) rfl (k := 0) (by decide) rfl 22 (by decide) (hts (.fieldLink RX7 74 "RollbackPairModel" "pAck" "[I") (by decide +kernel)) rfl dX7_spoil_120 ?_
    refine lv_iload hx hb dX7_spoil_123 (lv_at hl 0 rfl) ?_
    refine m_iald hx hb hK hP (k := 21) (by decide) (f := (S.1 22)) rfl (i := 12 * q) (by omega) (by decide) dX7_spoil_125 ?_
    refine m_iast hx hb hK hP hJ hS (k := 21) (by decide) (f := (S.1 22)) rfl (i := 12 * q) (by omega) (by decide) dX7_spoil_126 (fun H locs hP hS => ?_)
    rw [mm_up22] at hP
    refine lv_aload_n hx hb dX7_spoil_127 rfl (lv_at hl 1 rfl) ?_
    refine m_get hx hb hts inX7 hown hK hP (ci := 7) rfl (k := 0) (by decide) rfl 23 (by decide) (hts (.fieldLink RX7 77 "RollbackPairModel" "pFirst" "[I") (by decide +kernel)) rfl dX7_spoil_128 ?_
    refine lv_iload hx hb dX7_spoil_131 (lv_at hl 0 rfl) ?_
    refine lv_iload_n hx hb dX7_spoil_133 rfl (lv_at hl 3 rfl) ?_
    refine lv_iconst (v := nI 3) hx hb dX7_spoil_134 (by decide) ?_
    refine n_cmp_ne (tgt := 150) hx hb dX7_spoil_135 (by decide) (by omega) (by omega) (fun c_7 => ?_) (fun c_7 => absurd c_7 (by decide))
    refine lv_aload_n hx hb dX7_spoil_150 rfl (lv_at hl 1 rfl) ?_
    refine m_get hx hb hts inX7 hown hK hP (ci := 7) rfl (k := 0) (by decide) rfl 23 (by decide) (hts (.fieldLink RX7 77 "RollbackPairModel" "pFirst" "[I") (by decide +kernel)) rfl dX7_spoil_151 ?_
    refine lv_iload hx hb dX7_spoil_154 (lv_at hl 0 rfl) ?_
    refine m_iald hx hb hK hP (k := 22) (by decide) (f := (S.1 23)) rfl (i := 12 * q) (by omega) (by decide) dX7_spoil_156 ?_
    refine m_iast hx hb hK hP hJ hS (k := 22) (by decide) (f := (S.1 23)) rfl (i := 12 * q) (by omega) (by decide) dX7_spoil_157 (fun H locs hP hS => ?_)
    rw [mm_up23] at hP
    refine lv_aload_n hx hb dX7_spoil_158 rfl (lv_at hl 1 rfl) ?_
    refine m_get hx hb hts inX7 hown hK hP (ci := 7) rfl (k := 0) (by decide) rfl 24 (by decide) (hts (.fieldLink RX7 80 "RollbackPairModel" "pCount" "[I") (by decide +kernel)) rfl dX7_spoil_159 ?_
    refine lv_iload hx hb dX7_spoil_162 (lv_at hl 0 rfl) ?_
    refine lv_iload_n hx hb dX7_spoil_164 rfl (lv_at hl 3 rfl) ?_
    refine lv_iconst (v := nI 4) hx hb dX7_spoil_165 (by decide) ?_
    refine n_cmp_ne (tgt := 181) hx hb dX7_spoil_166 (by decide) (by omega) (by omega) (fun c_8 => absurd c_8 (by decide)) (fun c_8 => ?_)
    refine lv_aload_n hx hb dX7_spoil_169 rfl (lv_at hl 1 rfl) ?_
    refine m_get hx hb hts inX7 hown hK hP (ci := 7) rfl (k := 0) (by decide) rfl 24 (by decide) (hts (.fieldLink RX7 80 "RollbackPairModel" "pCount" "[I") (by decide +kernel)) rfl dX7_spoil_170 ?_
    refine lv_iload hx hb dX7_spoil_173 (lv_at hl 0 rfl) ?_
    refine m_iald hx hb hK hP (k := 23) (by decide) (f := (S.1 24)) rfl (i := 12 * q) (by omega) (by decide) dX7_spoil_175 ?_
    refine lv_iload_n hx hb dX7_spoil_176 rfl (lv_at hl 4 rfl) ?_
    refine lv_ixor hx hb dX7_spoil_177 ?_
    refine lv_goto (tgt := 188) hx hb dX7_spoil_178 (by decide) ?_
    refine m_iast hx hb hK hP hJ hS (k := 23) (by decide) (f := (S.1 24)) rfl (i := 12 * q) (by omega) (by decide) dX7_spoil_188 (fun H locs hP hS => ?_)
    rw [mm_up24] at hP
    refine lv_aload_n hx hb dX7_spoil_189 rfl (lv_at hl 1 rfl) ?_
    refine m_get hx hb hts inX7 hown hK hP (ci := 7) rfl (k := 0) (by decide) rfl 25 (by decide) (hts (.fieldLink RX7 83 "RollbackPairModel" "pBits" "[J") (by decide +kernel)) rfl dX7_spoil_190 ?_
    refine lv_iload hx hb dX7_spoil_193 (lv_at hl 0 rfl) ?_
    refine lv_iload_n hx hb dX7_spoil_195 rfl (lv_at hl 3 rfl) ?_
    refine lv_iconst (v := nI 5) hx hb dX7_spoil_196 (by decide) ?_
    refine n_cmp_ne (tgt := 217) hx hb dX7_spoil_197 (by decide) (by omega) (by omega) (fun c_9 => ?_) (fun c_9 => absurd c_9 (by decide))
    refine lv_aload_n hx hb dX7_spoil_217 rfl (lv_at hl 1 rfl) ?_
    refine m_get hx hb hts inX7 hown hK hP (ci := 7) rfl (k := 0) (by decide) rfl 25 (by decide) (hts (.fieldLink RX7 83 "RollbackPairModel" "pBits" "[J") (by decide +kernel)) rfl dX7_spoil_218 ?_
    refine lv_iload hx hb dX7_spoil_221 (lv_at hl 0 rfl) ?_
    refine m_lald hx hb hK hP (k := 24) (by decide) (f := S.2.2.1) rfl (i := 12 * q) (by omega) (by decide) dX7_spoil_223 ?_
    refine m_last hx hb hK hP hJ hS (k := 24) (by decide) (f := S.2.2.1) rfl (i := 12 * q) (by omega) (by decide) dX7_spoil_224 (fun H locs hP hS => ?_)
    rw [mm_up25] at hP
    refine lv_aload_n hx hb dX7_spoil_225 rfl (lv_at hl 1 rfl) ?_
    refine m_get hx hb hts inX7 hown hK hP (ci := 7) rfl (k := 0) (by decide) rfl 26 (by decide) (hts (.fieldLink RX7 87 "RollbackPairModel" "pCheck" "[I") (by decide +kernel)) rfl dX7_spoil_226 ?_
    refine lv_iload hx hb dX7_spoil_229 (lv_at hl 0 rfl) ?_
    refine lv_iload_n hx hb dX7_spoil_231 rfl (lv_at hl 3 rfl) ?_
    refine lv_bipush (v := nI 6) hx hb dX7_spoil_232 (by decide) ?_
    refine n_cmp_ne (tgt := 249) hx hb dX7_spoil_234 (by decide) (by omega) (by omega) (fun c_10 => ?_) (fun c_10 => absurd c_10 (by decide))
    refine lv_aload_n hx hb dX7_spoil_249 rfl (lv_at hl 1 rfl) ?_
    refine m_get hx hb hts inX7 hown hK hP (ci := 7) rfl (k := 0) (by decide) rfl 26 (by decide) (hts (.fieldLink RX7 87 "RollbackPairModel" "pCheck" "[I") (by decide +kernel)) rfl dX7_spoil_250 ?_
    refine lv_iload hx hb dX7_spoil_253 (lv_at hl 0 rfl) ?_
    refine m_iald hx hb hK hP (k := 25) (by decide) (f := (S.1 26)) rfl (i := 12 * q) (by omega) (by decide) dX7_spoil_255 ?_
    refine m_iast hx hb hK hP hJ hS (k := 25) (by decide) (f := (S.1 26)) rfl (i := 12 * q) (by omega) (by decide) dX7_spoil_256 (fun H locs hP hS => ?_)
    rw [mm_up26] at hP
    refine lv_iconst (v := nI 1) hx hb dX7_spoil_257 (by decide) ?_
    exact r_z hx hb hr hlocks hK hP hS dX7_spoil_258 (by first | rfl | decide) ⟨rfl, rfl⟩
  · refine lv_iload_n hx hb dX7_spoil_0 rfl (lv_at hl 1 rfl) ?_
    refine k_Si (As := [.int (nI q)]) (rest := []) ⟨hx, hb, hml, hown, hts⟩ hK hP hS Ad_le (c_isTwo l D cs ad 26 (mm ad cs d w S np ns) (nI q)) (va_cwS 1 hts gX7_spoil_X7_isTwo rfl rfl rfl (by decide +kernel) ⟨Nat.le_of_ble_eq_true rfl, Nat.le_of_ble_eq_true rfl⟩) rfl rfl hl.1 (Nat.le_of_ble_eq_true rfl) dX7_spoil_1 ⟨Nat.le_of_ble_eq_true rfl, Nat.le_of_ble_eq_true rfl⟩ (fun r_1 M1 H locs hpo hP hS _ _ => ?_)
    obtain ⟨rfl, rfl⟩ := hpo
    refine n_val (two_ok hq) ?_
    refine n_if_eq (tgt := 26) hx hb dX7_spoil_4 (by decide) (by omega) (fun c_2 => absurd c_2 (by decide)) (fun c_2 => ?_)
    refine lv_iload_n hx hb dX7_spoil_7 rfl (lv_at hl 2 rfl) ?_
    refine lv_if_lt (tgt := 26) hx hb dX7_spoil_8 (by decide) (fun c2 => absurd c2 (by decide)) (fun c2 => ?_)
    refine lv_iload_n hx hb dX7_spoil_11 rfl (lv_at hl 2 rfl) ?_
    refine lv_bipush (v := nI 6) hx hb dX7_spoil_12 (by decide) ?_
    refine n_cmp_gt (tgt := 26) hx hb dX7_spoil_14 (by decide) (by omega) (by omega) (fun c_3 => absurd c_3 (by decide)) (fun c_3 => ?_)
    refine lv_aload_n hx hb dX7_spoil_17 rfl (lv_at hl 0 rfl) ?_
    refine m_get hx hb hts inX7 hown hK hP (ci := 7) rfl (k := 0) (by decide) rfl 19 (by decide) (hts (.fieldLink RX7 65 "RollbackPairModel" "rows" "[I") (by decide +kernel)) rfl dX7_spoil_18 ?_
    refine lv_iload_n hx hb dX7_spoil_21 rfl (lv_at hl 1 rfl) ?_
    refine m_iald hx hb hK hP (k := 18) (by decide) (f := (S.1 19)) rfl (i := q) (by omega) (by decide) dX7_spoil_22 ?_
    refine n_val hr0 ?_
    refine n_if_ne (tgt := 28) hx hb dX7_spoil_23 (by decide) (by omega) (fun c4 => ?_) (fun c4 => absurd c4 (by omega))
    refine lv_bipush (v := nI 12) hx hb dX7_spoil_28 (by decide) ?_
    refine lv_iload_n hx hb dX7_spoil_30 rfl (lv_at hl 1 rfl) ?_
    refine n_mul hx hb dX7_spoil_31 ?_
    refine lv_istore (lv' := [(4, .int (nI (12 * q))), (0, .ref (ad 0)), (1, .int (nI q)), (2, .int (nI 5)), (3, .int bits)]) hx hb dX7_spoil_32 hl (by decide) rfl (fun ls hl => ?_)
    refine lv_aload_n hx hb dX7_spoil_34 rfl (lv_at hl 1 rfl) ?_
    refine m_get hx hb hts inX7 hown hK hP (ci := 7) rfl (k := 0) (by decide) rfl 20 (by decide) (hts (.fieldLink RX7 68 "RollbackPairModel" "pNumber" "[S") (by decide +kernel)) rfl dX7_spoil_35 ?_
    refine lv_iload hx hb dX7_spoil_38 (lv_at hl 0 rfl) ?_
    refine lv_iload_n hx hb dX7_spoil_40 rfl (lv_at hl 3 rfl) ?_
    refine n_if_ne (tgt := 57) hx hb dX7_spoil_41 (by decide) (by omega) (fun c_4 => ?_) (fun c_4 => absurd c_4 (by decide))
    refine lv_aload_n hx hb dX7_spoil_57 rfl (lv_at hl 1 rfl) ?_
    refine m_get hx hb hts inX7 hown hK hP (ci := 7) rfl (k := 0) (by decide) rfl 20 (by decide) (hts (.fieldLink RX7 68 "RollbackPairModel" "pNumber" "[S") (by decide +kernel)) rfl dX7_spoil_58 ?_
    refine lv_iload hx hb dX7_spoil_61 (lv_at hl 0 rfl) ?_
    refine m_sald hx hb hK hP (k := 19) (by decide) (f := (S.1 20)) rfl (i := 12 * q) (by omega) (by decide) dX7_spoil_63 ?_
    refine m_sast hx hb hK hP hJ hS (k := 19) (by decide) (f := (S.1 20)) rfl (i := 12 * q) (y := S.1 20 (12 * q)) (by omega) (by decide) (hsh _) dX7_spoil_64 (fun H locs hP hS => ?_)
    rw [mm_up20] at hP
    refine lv_aload_n hx hb dX7_spoil_65 rfl (lv_at hl 1 rfl) ?_
    refine m_get hx hb hts inX7 hown hK hP (ci := 7) rfl (k := 0) (by decide) rfl 21 (by decide) (hts (.fieldLink RX7 71 "RollbackPairModel" "pFrame" "[I") (by decide +kernel)) rfl dX7_spoil_66 ?_
    refine lv_iload hx hb dX7_spoil_69 (lv_at hl 0 rfl) ?_
    refine lv_iload_n hx hb dX7_spoil_71 rfl (lv_at hl 3 rfl) ?_
    refine lv_iconst (v := nI 1) hx hb dX7_spoil_72 (by decide) ?_
    refine n_cmp_ne (tgt := 88) hx hb dX7_spoil_73 (by decide) (by omega) (by omega) (fun c_5 => ?_) (fun c_5 => absurd c_5 (by decide))
    refine lv_aload_n hx hb dX7_spoil_88 rfl (lv_at hl 1 rfl) ?_
    refine m_get hx hb hts inX7 hown hK hP (ci := 7) rfl (k := 0) (by decide) rfl 21 (by decide) (hts (.fieldLink RX7 71 "RollbackPairModel" "pFrame" "[I") (by decide +kernel)) rfl dX7_spoil_89 ?_
    refine lv_iload hx hb dX7_spoil_92 (lv_at hl 0 rfl) ?_
    refine m_iald hx hb hK hP (k := 20) (by decide) (f := (S.1 21)) rfl (i := 12 * q) (by omega) (by decide) dX7_spoil_94 ?_
    refine m_iast hx hb hK hP hJ hS (k := 20) (by decide) (f := (S.1 21)) rfl (i := 12 * q) (by omega) (by decide) dX7_spoil_95 (fun H locs hP hS => ?_)
    rw [mm_up21] at hP
    refine lv_aload_n hx hb dX7_spoil_96 rfl (lv_at hl 1 rfl) ?_
    refine m_get hx hb hts inX7 hown hK hP (ci := 7) rfl (k := 0) (by decide) rfl 22 (by decide) (hts (.fieldLink RX7 74 "RollbackPairModel" "pAck" "[I") (by decide +kernel)) rfl dX7_spoil_97 ?_
    refine lv_iload hx hb dX7_spoil_100 (lv_at hl 0 rfl) ?_
    refine lv_iload_n hx hb dX7_spoil_102 rfl (lv_at hl 3 rfl) ?_
    refine lv_iconst (v := nI 2) hx hb dX7_spoil_103 (by decide) ?_
    refine n_cmp_ne (tgt := 119) hx hb dX7_spoil_104 (by decide) (by omega) (by omega) (fun c_6 => ?_) (fun c_6 => absurd c_6 (by decide))
    refine lv_aload_n hx hb dX7_spoil_119 rfl (lv_at hl 1 rfl) ?_
    refine m_get hx hb hts inX7 hown hK hP (ci := 7) rfl (k := 0) (by decide) rfl 22 (by decide) (hts (.fieldLink RX7 74 "RollbackPairModel" "pAck" "[I") (by decide +kernel)) rfl dX7_spoil_120 ?_
    refine lv_iload hx hb dX7_spoil_123 (lv_at hl 0 rfl) ?_
    refine m_iald hx hb hK hP (k := 21) (by decide) (f := (S.1 22)) rfl (i := 12 * q) (by omega) (by decide) dX7_spoil_125 ?_
    refine m_iast hx hb hK hP hJ hS (k := 21) (by decide) (f := (S.1 22)) rfl (i := 12 * q) (by omega) (by decide) dX7_spoil_126 (fun H locs hP hS => ?_)
    rw [mm_up22] at hP
    refine lv_aload_n hx hb dX7_spoil_127 rfl (lv_at hl 1 rfl) ?_
    refine m_get hx hb hts inX7 hown hK hP (ci := 7) rfl (k := 0) (by decide) rfl 23 (by decide) (hts (.fieldLink RX7 77 "RollbackPairModel" "pFirst" "[I") (by decide +kernel)) rfl dX7_spoil_128 ?_
    refine lv_iload hx hb dX7_spoil_131 (lv_at hl 0 rfl) ?_
    refine lv_iload_n hx hb dX7_spoil_133 rfl (lv_at hl 3 rfl) ?_
    refine lv_iconst (v := nI 3) hx hb dX7_spoil_134 (by decide) ?_
    refine n_cmp_ne (tgt := 150) hx hb dX7_spoil_135 (by decide) (by omega) (by omega) (fun c_7 => ?_) (fun c_7 => absurd c_7 (by decide))
    refine lv_aload_n hx hb dX7_spoil_150 rfl (lv_at hl 1 rfl) ?_
    refine m_get hx hb hts inX7 hown hK hP (ci := 7) rfl (k := 0) (by decide) rfl 23 (by decide) (hts (.fieldLink RX7 77 "RollbackPairModel" "pFirst" "[I") (by decide +kernel)) rfl dX7_spoil_151 ?_
    refine lv_iload hx hb dX7_spoil_154 (lv_at hl 0 rfl) ?_
    refine m_iald hx hb hK hP (k := 22) (by decide) (f := (S.1 23)) rfl (i := 12 * q) (by omega) (by decide) dX7_spoil_156 ?_
    refine m_iast hx hb hK hP hJ hS (k := 22) (by decide) (f := (S.1 23)) rfl (i := 12 * q) (by omega) (by decide) dX7_spoil_157 (fun H locs hP hS => ?_)
    rw [mm_up23] at hP
    refine lv_aload_n hx hb dX7_spoil_158 rfl (lv_at hl 1 rfl) ?_
    refine m_get hx hb hts inX7 hown hK hP (ci := 7) rfl (k := 0) (by decide) rfl 24 (by decide) (hts (.fieldLink RX7 80 "RollbackPairModel" "pCount" "[I") (by decide +kernel)) rfl dX7_spoil_159 ?_
    refine lv_iload hx hb dX7_spoil_162 (lv_at hl 0 rfl) ?_
    refine lv_iload_n hx hb dX7_spoil_164 rfl (lv_at hl 3 rfl) ?_
    refine lv_iconst (v := nI 4) hx hb dX7_spoil_165 (by decide) ?_
    refine n_cmp_ne (tgt := 181) hx hb dX7_spoil_166 (by decide) (by omega) (by omega) (fun c_8 => ?_) (fun c_8 => absurd c_8 (by decide))
    refine lv_aload_n hx hb dX7_spoil_181 rfl (lv_at hl 1 rfl) ?_
    refine m_get hx hb hts inX7 hown hK hP (ci := 7) rfl (k := 0) (by decide) rfl 24 (by decide) (hts (.fieldLink RX7 80 "RollbackPairModel" "pCount" "[I") (by decide +kernel)) rfl dX7_spoil_182 ?_
    refine lv_iload hx hb dX7_spoil_185 (lv_at hl 0 rfl) ?_
    refine m_iald hx hb hK hP (k := 23) (by decide) (f := (S.1 24)) rfl (i := 12 * q) (by omega) (by decide) dX7_spoil_187 ?_
    refine m_iast hx hb hK hP hJ hS (k := 23) (by decide) (f := (S.1 24)) rfl (i := 12 * q) (by omega) (by decide) dX7_spoil_188 (fun H locs hP hS => ?_)
    rw [mm_up24] at hP
    refine lv_aload_n hx hb dX7_spoil_189 rfl (lv_at hl 1 rfl) ?_
    refine m_get hx hb hts inX7 hown hK hP (ci := 7) rfl (k := 0) (by decide) rfl 25 (by decide) (hts (.fieldLink RX7 83 "RollbackPairModel" "pBits" "[J") (by decide +kernel)) rfl dX7_spoil_190 ?_
    refine lv_iload hx hb dX7_spoil_193 (lv_at hl 0 rfl) ?_
    refine lv_iload_n hx hb dX7_spoil_195 rfl (lv_at hl 3 rfl) ?_
    refine lv_iconst (v := nI 5) hx hb dX7_spoil_196 (by decide) ?_
    refine n_cmp_ne (tgt := 217) hx hb dX7_spoil_197 (by decide) (by omega) (by omega) (fun c_9 => absurd c_9 (by decide)) (fun c_9 => ?_)
    refine lv_aload_n hx hb dX7_spoil_200 rfl (lv_at hl 1 rfl) ?_
    refine m_get hx hb hts inX7 hown hK hP (ci := 7) rfl (k := 0) (by decide) rfl 25 (by decide) (hts (.fieldLink RX7 83 "RollbackPairModel" "pBits" "[J") (by decide +kernel)) rfl dX7_spoil_201 ?_
    refine lv_iload hx hb dX7_spoil_204 (lv_at hl 0 rfl) ?_
    refine m_lald hx hb hK hP (k := 24) (by decide) (f := S.2.2.1) rfl (i := 12 * q) (by omega) (by decide) dX7_spoil_206 ?_
    refine lv_iload_n hx hb dX7_spoil_207 rfl (lv_at hl 4 rfl) ?_
    refine lv_i2l hx hb dX7_spoil_208 rfl ?_
    refine lv_ldc2 hx hb hown (hts (.constantLong RX7 153 (4294967295)) (by decide +kernel)) dX7_spoil_209 ?_
    refine lv_land hx hb dX7_spoil_212 ?_
    refine lv_lxor hx hb dX7_spoil_213 ?_
    refine lv_goto (tgt := 224) hx hb dX7_spoil_214 (by decide) ?_
    refine m_last hx hb hK hP hJ hS (k := 24) (by decide) (f := S.2.2.1) rfl (i := 12 * q) (by omega) (by decide) dX7_spoil_224 (fun H locs hP hS => ?_)
    rw [mm_up25] at hP
    refine lv_aload_n hx hb dX7_spoil_225 rfl (lv_at hl 1 rfl) ?_
    refine m_get hx hb hts inX7 hown hK hP (ci := 7) rfl (k := 0) (by decide) rfl 26 (by decide) (hts (.fieldLink RX7 87 "RollbackPairModel" "pCheck" "[I") (by decide +kernel)) rfl dX7_spoil_226 ?_
    refine lv_iload hx hb dX7_spoil_229 (lv_at hl 0 rfl) ?_
    refine lv_iload_n hx hb dX7_spoil_231 rfl (lv_at hl 3 rfl) ?_
    refine lv_bipush (v := nI 6) hx hb dX7_spoil_232 (by decide) ?_
    refine n_cmp_ne (tgt := 249) hx hb dX7_spoil_234 (by decide) (by omega) (by omega) (fun c_10 => ?_) (fun c_10 => absurd c_10 (by decide))
    refine lv_aload_n hx hb dX7_spoil_249 rfl (lv_at hl 1 rfl) ?_
    refine m_get hx hb hts inX7 hown hK hP (ci := 7) rfl (k := 0) (by decide) rfl 26 (by decide) (hts (.fieldLink RX7 87 "RollbackPairModel" "pCheck" "[I") (by decide +kernel)) rfl dX7_spoil_250 ?_
    refine lv_iload hx hb dX7_spoil_253 (lv_at hl 0 rfl) ?_
    refine m_iald hx hb hK hP (k := 25) (by decide) (f := (S.1 26)) rfl (i := 12 * q) (by omega) (by decide) dX7_spoil_255 ?_
    refine m_iast hx hb hK hP hJ hS (k := 25) (by decide) (f := (S.1 26)) rfl (i := 12 * q) (by omega) (by decide) dX7_spoil_256 (fun H locs hP hS => ?_)
    rw [mm_up26] at hP
    refine lv_iconst (v := nI 1) hx hb dX7_spoil_257 (by decide) ?_
    exact r_z hx hb hr hlocks hK hP hS dX7_spoil_258 (by first | rfl | decide) ⟨rfl, rfl⟩
  · refine lv_iload_n hx hb dX7_spoil_0 rfl (lv_at hl 1 rfl) ?_
    refine k_Si (As := [.int (nI q)]) (rest := []) ⟨hx, hb, hml, hown, hts⟩ hK hP hS Ad_le (c_isTwo l D cs ad 26 (mm ad cs d w S np ns) (nI q)) (va_cwS 1 hts gX7_spoil_X7_isTwo rfl rfl rfl (by decide +kernel) ⟨Nat.le_of_ble_eq_true rfl, Nat.le_of_ble_eq_true rfl⟩) rfl rfl hl.1 (Nat.le_of_ble_eq_true rfl) dX7_spoil_1 ⟨Nat.le_of_ble_eq_true rfl, Nat.le_of_ble_eq_true rfl⟩ (fun r_1 M1 H locs hpo hP hS _ _ => ?_)
    obtain ⟨rfl, rfl⟩ := hpo
    refine n_val (two_ok hq) ?_
    refine n_if_eq (tgt := 26) hx hb dX7_spoil_4 (by decide) (by omega) (fun c_2 => absurd c_2 (by decide)) (fun c_2 => ?_)
    refine lv_iload_n hx hb dX7_spoil_7 rfl (lv_at hl 2 rfl) ?_
    refine lv_if_lt (tgt := 26) hx hb dX7_spoil_8 (by decide) (fun c2 => absurd c2 (by decide)) (fun c2 => ?_)
    refine lv_iload_n hx hb dX7_spoil_11 rfl (lv_at hl 2 rfl) ?_
    refine lv_bipush (v := nI 6) hx hb dX7_spoil_12 (by decide) ?_
    refine n_cmp_gt (tgt := 26) hx hb dX7_spoil_14 (by decide) (by omega) (by omega) (fun c_3 => absurd c_3 (by decide)) (fun c_3 => ?_)
    refine lv_aload_n hx hb dX7_spoil_17 rfl (lv_at hl 0 rfl) ?_
    refine m_get hx hb hts inX7 hown hK hP (ci := 7) rfl (k := 0) (by decide) rfl 19 (by decide) (hts (.fieldLink RX7 65 "RollbackPairModel" "rows" "[I") (by decide +kernel)) rfl dX7_spoil_18 ?_
    refine lv_iload_n hx hb dX7_spoil_21 rfl (lv_at hl 1 rfl) ?_
    refine m_iald hx hb hK hP (k := 18) (by decide) (f := (S.1 19)) rfl (i := q) (by omega) (by decide) dX7_spoil_22 ?_
    refine n_val hr0 ?_
    refine n_if_ne (tgt := 28) hx hb dX7_spoil_23 (by decide) (by omega) (fun c4 => ?_) (fun c4 => absurd c4 (by omega))
    refine lv_bipush (v := nI 12) hx hb dX7_spoil_28 (by decide) ?_
    refine lv_iload_n hx hb dX7_spoil_30 rfl (lv_at hl 1 rfl) ?_
    refine n_mul hx hb dX7_spoil_31 ?_
    refine lv_istore (lv' := [(4, .int (nI (12 * q))), (0, .ref (ad 0)), (1, .int (nI q)), (2, .int (nI 6)), (3, .int bits)]) hx hb dX7_spoil_32 hl (by decide) rfl (fun ls hl => ?_)
    refine lv_aload_n hx hb dX7_spoil_34 rfl (lv_at hl 1 rfl) ?_
    refine m_get hx hb hts inX7 hown hK hP (ci := 7) rfl (k := 0) (by decide) rfl 20 (by decide) (hts (.fieldLink RX7 68 "RollbackPairModel" "pNumber" "[S") (by decide +kernel)) rfl dX7_spoil_35 ?_
    refine lv_iload hx hb dX7_spoil_38 (lv_at hl 0 rfl) ?_
    refine lv_iload_n hx hb dX7_spoil_40 rfl (lv_at hl 3 rfl) ?_
    refine n_if_ne (tgt := 57) hx hb dX7_spoil_41 (by decide) (by omega) (fun c_4 => ?_) (fun c_4 => absurd c_4 (by decide))
    refine lv_aload_n hx hb dX7_spoil_57 rfl (lv_at hl 1 rfl) ?_
    refine m_get hx hb hts inX7 hown hK hP (ci := 7) rfl (k := 0) (by decide) rfl 20 (by decide) (hts (.fieldLink RX7 68 "RollbackPairModel" "pNumber" "[S") (by decide +kernel)) rfl dX7_spoil_58 ?_
    refine lv_iload hx hb dX7_spoil_61 (lv_at hl 0 rfl) ?_
    refine m_sald hx hb hK hP (k := 19) (by decide) (f := (S.1 20)) rfl (i := 12 * q) (by omega) (by decide) dX7_spoil_63 ?_
    refine m_sast hx hb hK hP hJ hS (k := 19) (by decide) (f := (S.1 20)) rfl (i := 12 * q) (y := S.1 20 (12 * q)) (by omega) (by decide) (hsh _) dX7_spoil_64 (fun H locs hP hS => ?_)
    rw [mm_up20] at hP
    refine lv_aload_n hx hb dX7_spoil_65 rfl (lv_at hl 1 rfl) ?_
    refine m_get hx hb hts inX7 hown hK hP (ci := 7) rfl (k := 0) (by decide) rfl 21 (by decide) (hts (.fieldLink RX7 71 "RollbackPairModel" "pFrame" "[I") (by decide +kernel)) rfl dX7_spoil_66 ?_
    refine lv_iload hx hb dX7_spoil_69 (lv_at hl 0 rfl) ?_
    refine lv_iload_n hx hb dX7_spoil_71 rfl (lv_at hl 3 rfl) ?_
    refine lv_iconst (v := nI 1) hx hb dX7_spoil_72 (by decide) ?_
    refine n_cmp_ne (tgt := 88) hx hb dX7_spoil_73 (by decide) (by omega) (by omega) (fun c_5 => ?_) (fun c_5 => absurd c_5 (by decide))
    refine lv_aload_n hx hb dX7_spoil_88 rfl (lv_at hl 1 rfl) ?_
    refine m_get hx hb hts inX7 hown hK hP (ci := 7) rfl (k := 0) (by decide) rfl 21 (by decide) (hts (.fieldLink RX7 71 "RollbackPairModel" "pFrame" "[I") (by decide +kernel)) rfl dX7_spoil_89 ?_
    refine lv_iload hx hb dX7_spoil_92 (lv_at hl 0 rfl) ?_
    refine m_iald hx hb hK hP (k := 20) (by decide) (f := (S.1 21)) rfl (i := 12 * q) (by omega) (by decide) dX7_spoil_94 ?_
    refine m_iast hx hb hK hP hJ hS (k := 20) (by decide) (f := (S.1 21)) rfl (i := 12 * q) (by omega) (by decide) dX7_spoil_95 (fun H locs hP hS => ?_)
    rw [mm_up21] at hP
    refine lv_aload_n hx hb dX7_spoil_96 rfl (lv_at hl 1 rfl) ?_
    refine m_get hx hb hts inX7 hown hK hP (ci := 7) rfl (k := 0) (by decide) rfl 22 (by decide) (hts (.fieldLink RX7 74 "RollbackPairModel" "pAck" "[I") (by decide +kernel)) rfl dX7_spoil_97 ?_
    refine lv_iload hx hb dX7_spoil_100 (lv_at hl 0 rfl) ?_
    refine lv_iload_n hx hb dX7_spoil_102 rfl (lv_at hl 3 rfl) ?_
    refine lv_iconst (v := nI 2) hx hb dX7_spoil_103 (by decide) ?_
    refine n_cmp_ne (tgt := 119) hx hb dX7_spoil_104 (by decide) (by omega) (by omega) (fun c_6 => ?_) (fun c_6 => absurd c_6 (by decide))
    refine lv_aload_n hx hb dX7_spoil_119 rfl (lv_at hl 1 rfl) ?_
    refine m_get hx hb hts inX7 hown hK hP (ci := 7) rfl (k := 0) (by decide) rfl 22 (by decide) (hts (.fieldLink RX7 74 "RollbackPairModel" "pAck" "[I") (by decide +kernel)) rfl dX7_spoil_120 ?_
    refine lv_iload hx hb dX7_spoil_123 (lv_at hl 0 rfl) ?_
    refine m_iald hx hb hK hP (k := 21) (by decide) (f := (S.1 22)) rfl (i := 12 * q) (by omega) (by decide) dX7_spoil_125 ?_
    refine m_iast hx hb hK hP hJ hS (k := 21) (by decide) (f := (S.1 22)) rfl (i := 12 * q) (by omega) (by decide) dX7_spoil_126 (fun H locs hP hS => ?_)
    rw [mm_up22] at hP
    refine lv_aload_n hx hb dX7_spoil_127 rfl (lv_at hl 1 rfl) ?_
    refine m_get hx hb hts inX7 hown hK hP (ci := 7) rfl (k := 0) (by decide) rfl 23 (by decide) (hts (.fieldLink RX7 77 "RollbackPairModel" "pFirst" "[I") (by decide +kernel)) rfl dX7_spoil_128 ?_
    refine lv_iload hx hb dX7_spoil_131 (lv_at hl 0 rfl) ?_
    refine lv_iload_n hx hb dX7_spoil_133 rfl (lv_at hl 3 rfl) ?_
    refine lv_iconst (v := nI 3) hx hb dX7_spoil_134 (by decide) ?_
    refine n_cmp_ne (tgt := 150) hx hb dX7_spoil_135 (by decide) (by omega) (by omega) (fun c_7 => ?_) (fun c_7 => absurd c_7 (by decide))
    refine lv_aload_n hx hb dX7_spoil_150 rfl (lv_at hl 1 rfl) ?_
    refine m_get hx hb hts inX7 hown hK hP (ci := 7) rfl (k := 0) (by decide) rfl 23 (by decide) (hts (.fieldLink RX7 77 "RollbackPairModel" "pFirst" "[I") (by decide +kernel)) rfl dX7_spoil_151 ?_
    refine lv_iload hx hb dX7_spoil_154 (lv_at hl 0 rfl) ?_
    refine m_iald hx hb hK hP (k := 22) (by decide) (f := (S.1 23)) rfl (i := 12 * q) (by omega) (by decide) dX7_spoil_156 ?_
    refine m_iast hx hb hK hP hJ hS (k := 22) (by decide) (f := (S.1 23)) rfl (i := 12 * q) (by omega) (by decide) dX7_spoil_157 (fun H locs hP hS => ?_)
    rw [mm_up23] at hP
    refine lv_aload_n hx hb dX7_spoil_158 rfl (lv_at hl 1 rfl) ?_
    refine m_get hx hb hts inX7 hown hK hP (ci := 7) rfl (k := 0) (by decide) rfl 24 (by decide) (hts (.fieldLink RX7 80 "RollbackPairModel" "pCount" "[I") (by decide +kernel)) rfl dX7_spoil_159 ?_
    refine lv_iload hx hb dX7_spoil_162 (lv_at hl 0 rfl) ?_
    refine lv_iload_n hx hb dX7_spoil_164 rfl (lv_at hl 3 rfl) ?_
    refine lv_iconst (v := nI 4) hx hb dX7_spoil_165 (by decide) ?_
    refine n_cmp_ne (tgt := 181) hx hb dX7_spoil_166 (by decide) (by omega) (by omega) (fun c_8 => ?_) (fun c_8 => absurd c_8 (by decide))
    refine lv_aload_n hx hb dX7_spoil_181 rfl (lv_at hl 1 rfl) ?_
    refine m_get hx hb hts inX7 hown hK hP (ci := 7) rfl (k := 0) (by decide) rfl 24 (by decide) (hts (.fieldLink RX7 80 "RollbackPairModel" "pCount" "[I") (by decide +kernel)) rfl dX7_spoil_182 ?_
    refine lv_iload hx hb dX7_spoil_185 (lv_at hl 0 rfl) ?_
    refine m_iald hx hb hK hP (k := 23) (by decide) (f := (S.1 24)) rfl (i := 12 * q) (by omega) (by decide) dX7_spoil_187 ?_
    refine m_iast hx hb hK hP hJ hS (k := 23) (by decide) (f := (S.1 24)) rfl (i := 12 * q) (by omega) (by decide) dX7_spoil_188 (fun H locs hP hS => ?_)
    rw [mm_up24] at hP
    refine lv_aload_n hx hb dX7_spoil_189 rfl (lv_at hl 1 rfl) ?_
    refine m_get hx hb hts inX7 hown hK hP (ci := 7) rfl (k := 0) (by decide) rfl 25 (by decide) (hts (.fieldLink RX7 83 "RollbackPairModel" "pBits" "[J") (by decide +kernel)) rfl dX7_spoil_190 ?_
    refine lv_iload hx hb dX7_spoil_193 (lv_at hl 0 rfl) ?_
    refine lv_iload_n hx hb dX7_spoil_195 rfl (lv_at hl 3 rfl) ?_
    refine lv_iconst (v := nI 5) hx hb dX7_spoil_196 (by decide) ?_
    refine n_cmp_ne (tgt := 217) hx hb dX7_spoil_197 (by decide) (by omega) (by omega) (fun c_9 => ?_) (fun c_9 => absurd c_9 (by decide))
    refine lv_aload_n hx hb dX7_spoil_217 rfl (lv_at hl 1 rfl) ?_
    refine m_get hx hb hts inX7 hown hK hP (ci := 7) rfl (k := 0) (by decide) rfl 25 (by decide) (hts (.fieldLink RX7 83 "RollbackPairModel" "pBits" "[J") (by decide +kernel)) rfl dX7_spoil_218 ?_
    refine lv_iload hx hb dX7_spoil_221 (lv_at hl 0 rfl) ?_
    refine m_lald hx hb hK hP (k := 24) (by decide) (f := S.2.2.1) rfl (i := 12 * q) (by omega) (by decide) dX7_spoil_223 ?_
    refine m_last hx hb hK hP hJ hS (k := 24) (by decide) (f := S.2.2.1) rfl (i := 12 * q) (by omega) (by decide) dX7_spoil_224 (fun H locs hP hS => ?_)
    rw [mm_up25] at hP
    refine lv_aload_n hx hb dX7_spoil_225 rfl (lv_at hl 1 rfl) ?_
    refine m_get hx hb hts inX7 hown hK hP (ci := 7) rfl (k := 0) (by decide) rfl 26 (by decide) (hts (.fieldLink RX7 87 "RollbackPairModel" "pCheck" "[I") (by decide +kernel)) rfl dX7_spoil_226 ?_
    refine lv_iload hx hb dX7_spoil_229 (lv_at hl 0 rfl) ?_
    refine lv_iload_n hx hb dX7_spoil_231 rfl (lv_at hl 3 rfl) ?_
    refine lv_bipush (v := nI 6) hx hb dX7_spoil_232 (by decide) ?_
    refine n_cmp_ne (tgt := 249) hx hb dX7_spoil_234 (by decide) (by omega) (by omega) (fun c_10 => absurd c_10 (by decide)) (fun c_10 => ?_)
    refine lv_aload_n hx hb dX7_spoil_237 rfl (lv_at hl 1 rfl) ?_
    refine m_get hx hb hts inX7 hown hK hP (ci := 7) rfl (k := 0) (by decide) rfl 26 (by decide) (hts (.fieldLink RX7 87 "RollbackPairModel" "pCheck" "[I") (by decide +kernel)) rfl dX7_spoil_238 ?_
    refine lv_iload hx hb dX7_spoil_241 (lv_at hl 0 rfl) ?_
    refine m_iald hx hb hK hP (k := 25) (by decide) (f := (S.1 26)) rfl (i := 12 * q) (by omega) (by decide) dX7_spoil_243 ?_
    refine lv_iload_n hx hb dX7_spoil_244 rfl (lv_at hl 4 rfl) ?_
    refine lv_ixor hx hb dX7_spoil_245 ?_
    refine lv_goto (tgt := 256) hx hb dX7_spoil_246 (by decide) ?_
    refine m_iast hx hb hK hP hJ hS (k := 25) (by decide) (f := (S.1 26)) rfl (i := 12 * q) (by omega) (by decide) dX7_spoil_256 (fun H locs hP hS => ?_)
    rw [mm_up26] at hP
    refine lv_iconst (v := nI 1) hx hb dX7_spoil_257 (by decide) ?_
    exact r_z hx hb hr hlocks hK hP hS dX7_spoil_258 (by first | rfl | decide) ⟨rfl, rfl⟩
