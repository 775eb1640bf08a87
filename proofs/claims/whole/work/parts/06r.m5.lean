/-- the packets behind the first one of a row move up by one -/
def mShift (S : SS) : Nat → Nat → SS
  | 0, _ => S
  | n + 1, k => mShift (mCopy S (k + 1) k) n (k + 1)
def mTake (S : SS) (q : Nat) : SS := mShift (sI (mCopy S (12 * q) 24) 19 (upd (S.1 19) q (nI (tn (S.1 19 q) - 1)))) (tn (S.1 19 q) - 1) (12 * q)
theorem mCopy_sh {S : SS} {a b : Nat} (h : ∀ i, sh (S.1 20 i)) : ∀ i, sh ((mCopy S a b).1 20 i) := by
  intro i
  show sh (upd (S.1 20) b (S.1 20 a) i)
  unfold upd
  split
  · exact h a
  · exact h i
set_option maxHeartbeats 4000000 in
set_option maxRecDepth 100000 in
/-- take(q) -/
theorem c_take (l : Launch) (D : va_G) (cs : Nat → ClassId) (ad : Nat → Nat) (hJ : Inj ad 26) (d w : Int32) (S : SS) (np ns : UInt32) (q r : Nat) (hq : q < 2) (hr0 : S.1 19 q = nI r) (hr1 : 1 ≤ r) (hr2 : r ≤ 12) (hsh : ∀ i, sh (S.1 20 i)) : CTv l yX7_take wsX7_take ({ frames := 1, cells := 0, slots := 0, locals := 22 }) D cs ad 26 (mm ad cs d w S np ns) [.ref (ad 0), .int (nI q)] (fun M2 => M2 = mm ad cs d w (mTake S q) np ns) := by
  refine Met.ofW (cc := cX7_take) (maxL := 3) (ret := none) (by decide) rfl ?_
  intro p e s m args below meth c s₁ B hml hv
  obtain ⟨rfl, hP, hK⟩ := hv
  have hx := B.exec
  have hb := B.bytes
  have hr := B.returns
  have hts := atoms_spec (ws := wsX7_take) B.pre
  have hown : s.vm.findClass RX7 = some m.cls := findClass_of_methodNamed B.named
  have hlocks := B.notSynchronized
  have hS : va_S (Ad ad 26) s.heap s.heap [] := va_S.rf
  have hl := lv_entry ([.ref (ad 0), .int (nI q)]) (n := 3) (Nat.le_of_ble_eq_true rfl)
  rw [lg_entry_eq]
  generalize (lg_sl ([.ref (ad 0), .int (nI q)]) ++ List.replicate (3 - (lg_sl ([.ref (ad 0), .int (nI q)])).length) Slot.unset).toArray = ls at hl ⊢
  have hl : lv_has ls 3 [(0, .ref (ad 0)), (1, .int (nI q))] := hl
  have inX7 : ∀ w ∈ u_ws RX7 TX7 29, w ∈ wsX7_take := by decide +kernel
  have hT : mTake S q = mShift (sI (mCopy S (12 * q) 24) 19 (upd (S.1 19) q (nI (r - 1)))) (r - 1) (12 * q) := by unfold mTake; rw [hr0, tn_nI (by omega)]
  rw [hT]
  refine lv_aload_n hx hb dX7_take_0 rfl (lv_at hl 0 rfl) ?_
  refine lv_bipush (v := nI 12) hx hb dX7_take_1 (by decide) ?_
  refine lv_iload_n hx hb dX7_take_3 rfl (lv_at hl 1 rfl) ?_
  refine n_mul hx hb dX7_take_4 ?_
  refine lv_bipush (v := nI 24) hx hb dX7_take_5 (by decide) ?_
  refine k_Vv (As := [.int (nI (12 * q)), .int (nI 24)]) (rest := []) (k := 0) (ci := 7) ⟨hx, hb, hml, hown, hts⟩ hK hP hS Ad_le (c_copy l D cs ad hJ d w S np ns (12 * q) 24 (by omega) (by omega) (hsh _)) (cwV 2 hts gX7_take_X7_copy rfl rfl rfl (by decide +kernel) ⟨Nat.le_of_ble_eq_true rfl, Nat.le_of_ble_eq_true rfl⟩) (by decide) rfl rfl rfl rfl hl.1 (Nat.le_of_ble_eq_true rfl) dX7_take_7 ⟨Nat.le_of_ble_eq_true rfl, Nat.le_of_ble_eq_true rfl⟩ (fun M1 H locs hpo hP hS _ _ => ?_)
  subst hpo
  refine lv_aload_n hx hb dX7_take_10 rfl (lv_at hl 0 rfl) ?_
  refine m_get hx hb hts inX7 hown hK hP (ci := 7) rfl (k := 0) (by decide) rfl 19 (by decide) (hts (.fieldLink RX7 65 "RollbackPairModel" "rows" "[I") (by decide +kernel)) rfl dX7_take_11 ?_
  refine lv_iload_n hx hb dX7_take_14 rfl (lv_at hl 1 rfl) ?_
  refine lv_dup2_11 hx hb dX7_take_15 rfl rfl ?_
  refine m_iald hx hb hK hP (k := 18) (by decide) (f := (S.1 19)) rfl (i := q) (by omega) (by decide) dX7_take_16 ?_
  refine n_val hr0 ?_
  refine lv_iconst (v := nI 1) hx hb dX7_take_17 (by decide) ?_
  refine n_sub hx hb (by omega) dX7_take_18 ?_
  refine m_iast hx hb hK hP hJ hS (k := 18) (by decide) (f := (S.1 19)) rfl (i := q) (by omega) (by decide) dX7_take_19 (fun H locs hP hS => ?_)
  rw [mm_up19] at hP
  refine lv_bipush (v := nI 12) hx hb dX7_take_20 (by decide) ?_
  refine lv_iload_n hx hb dX7_take_22 rfl (lv_at hl 1 rfl) ?_
  refine n_mul hx hb dX7_take_23 ?_
  refine lv_istore_n (lv' := [(2, .int (nI (12 * q))), (0, .ref (ad 0)), (1, .int (nI q))]) hx hb dX7_take_24 rfl hl (by decide) rfl (fun ls hl => ?_)
  have hr3 : (upd (S.1 19) q (nI (r - 1))) q = nI (r - 1) := if_pos rfl
  refine lpW (fun j (x : Nat × SS) ls H locs => x.1 ≤ 12 * q + (r - 1) ∧ j = 12 * q + (r - 1) - x.1 ∧ mShift x.2 j x.1 = mShift (sI (mCopy S (12 * q) 24) 19 (upd (S.1 19) q (nI (r - 1)))) (r - 1) (12 * q) ∧ x.2.1 19 q = nI (r - 1) ∧ (∀ i, sh (x.2.1 20 i)) ∧ lv_has ls 3 [(2, .int (nI x.1)), (0, .ref (ad 0)), (1, .int (nI q))] ∧ va_P D vwCl (sg ad 26 (mm ad cs d w x.2 np ns)) H ∧ va_S (Ad ad 26) s.heap H locs) 25 (fun _ => []) (fun j x ls H locs hC ih => ?_) (r - 1) (12 * q, (sI (mCopy S (12 * q) 24) 19 (upd (S.1 19) q (nI (r - 1))))) ls _ _ ⟨Nat.le_add_right _ _, by omega, rfl, hr3, mCopy_sh hsh, lv_sub hl [0, 1, 2] rfl, hP, hS⟩
  obtain ⟨k, S2⟩ := x
  obtain ⟨hk1, hj, hE, hr4, hsh2, hl, hP, hS⟩ := hC
  dsimp only at hk1 hj hE hr4 hsh2 hl hP hS ih ⊢
  refine lv_iload_n hx hb dX7_take_25 rfl (lv_at hl 0 rfl) ?_
  refine lv_bipush (v := nI 12) hx hb dX7_take_26 (by decide) ?_
  refine lv_iload_n hx hb dX7_take_28 rfl (lv_at hl 2 rfl) ?_
  refine n_mul hx hb dX7_take_29 ?_
  refine lv_aload_n hx hb dX7_take_30 rfl (lv_at hl 1 rfl) ?_
  refine m_get hx hb hts inX7 hown hK hP (ci := 7) rfl (k := 0) (by decide) rfl 19 (by decide) (hts (.fieldLink RX7 65 "RollbackPairModel" "rows" "[I") (by decide +kernel)) rfl dX7_take_31 ?_
  refine lv_iload_n hx hb dX7_take_34 rfl (lv_at hl 2 rfl) ?_
  refine m_iald hx hb hK hP (k := 18) (by decide) (f := (S2.1 19)) rfl (i := q) (by omega) (by decide) dX7_take_35 ?_
  refine n_val hr4 ?_
  refine n_add hx hb dX7_take_36 ?_
  refine n_cmp_ge (tgt := 54) hx hb dX7_take_37 (by decide) (by omega) (by omega) (fun c1 => ?_) (fun c1 => ?_)
  · exact r_v hx hb hr hlocks hK hP hS dX7_take_54 (by rw [← hE, show j = 0 by omega]; rfl)
  · refine lv_aload_n hx hb dX7_take_40 rfl (lv_at hl 1 rfl) ?_
    refine lv_iload_n hx hb dX7_take_41 rfl (lv_at hl 0 rfl) ?_
    refine lv_iconst (v := nI 1) hx hb dX7_take_42 (by decide) ?_
    refine n_add hx hb dX7_take_43 ?_
    refine lv_iload_n hx hb dX7_take_44 rfl (lv_at hl 0 rfl) ?_
    refine k_Vv (As := [.int (nI (k + 1)), .int (nI k)]) (rest := []) (k := 0) (ci := 7) ⟨hx, hb, hml, hown, hts⟩ hK hP hS Ad_le (c_copy l D cs ad hJ d w S2 np ns (k + 1) k (by omega) (by omega) (hsh2 _)) (cwV 2 hts gX7_take_X7_copy rfl rfl rfl (by decide +kernel) ⟨Nat.le_of_ble_eq_true rfl, Nat.le_of_ble_eq_true rfl⟩) (by decide) rfl rfl rfl rfl hl.1 (Nat.le_of_ble_eq_true rfl) dX7_take_45 ⟨Nat.le_of_ble_eq_true rfl, Nat.le_of_ble_eq_true rfl⟩ (fun M1 H locs hpo hP hS _ _ => ?_)
    subst hpo
    refine lv_iinc (v := nI (k + 1)) (lv' := [(2, .int (nI (k + 1))), (0, .ref (ad 0)), (1, .int (nI q))]) hx hb dX7_take_48 hl (k := 0) rfl (nI_1 _) (by decide) rfl (fun ls hl => ?_)
    refine lv_goto (tgt := 25) hx hb dX7_take_51 (by decide) ?_
    exact ih (12 * q + (r - 1) - (k + 1)) (by omega) (k + 1, mCopy S2 (k + 1) k) ls H locs ⟨by omega, rfl, by rw [← hE, show j = (12 * q + (r - 1) - (k + 1)) + 1 by omega]; rfl, hr4, mCopy_sh hsh2, lv_sub hl [0, 1, 2] rfl, hP, hS⟩
