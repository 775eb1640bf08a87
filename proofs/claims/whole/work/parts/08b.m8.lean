/-- the first frame from f on, within c frames, whose input of the other one isn't the one that was used -/
def mRf (S : SS) (q : Nat) : Nat → Nat → Nat
  | 0, f => f
  | c + 1, f => if S.1 11 (1200 * q + 600 * (1 - q) + f) = S.1 10 (1200 * q + 600 * (1 - q) + f) then mRf S q c (f + 1) else f
theorem mRf_s (S : SS) (q c f : Nat) : mRf S q (c + 1) f = if S.1 11 (1200 * q + 600 * (1 - q) + f) = S.1 10 (1200 * q + 600 * (1 - q) + f) then mRf S q c (f + 1) else f := rfl
def rRep (S : SS) (q a f0 n : Nat) : Int32 := if mRf S q (min n a - f0) f0 < min n a then nI (a - mFw S q (a - mRf S q (min n a - f0) f0) (mRf S q (min n a - f0) f0)) else nI 0
def mRep (S : SS) (q a f0 n : Nat) : SS := if mRf S q (min n a - f0) f0 < min n a then mAgain S q a (mRf S q (min n a - f0) f0) else S
set_option maxHeartbeats 4000000 in
set_option maxRecDepth 100000 in
/-- replay(q, f0) -/
theorem c_replay (l : Launch) (D : va_G) (cs : Nat → ClassId) (ad : Nat → Nat) (hJ : Inj ad 26) (d w : Int32) (S : SS) (np ns : UInt32) (q f0 a n o : Nat) (hq : q < 2) (hat : S.1 2 q = nI a) (ha : a ≤ 590) (hn : S.1 12 (2 * q + (1 - q)) = nI n) (hn2 : n ≤ 600) (ho : S.1 12 (2 * q + q) = nI o) (ho2 : o ≤ 600) (hf0 : f0 ≤ 600) (hB : ∀ f, f ≤ a → BdAt S q f) : CTi l yX7_replay wsX7_replay ({ frames := 3, cells := 0, slots := 0, locals := 88 }) D cs ad 26 (mm ad cs d w S np ns) [.ref (ad 0), .int (nI q), .int (nI f0)] (fun r M2 => r = rRep S q a f0 n ∧ ∃ np2 ns2, M2 = mm ad cs d w (mRep S q a f0 n) np2 ns2) := by
  refine Met.ofW (cc := cX7_replay) (maxL := 5) (ret := (some .int)) (by decide) rfl ?_
  intro p e s m args below meth c s₁ B hml hv
  obtain ⟨rfl, hP, hK⟩ := hv
  have hx := B.exec
  have hb := B.bytes
  have hr := B.returns
  have hts := atoms_spec (ws := wsX7_replay) B.pre
  have hown : s.vm.findClass RX7 = some m.cls := findClass_of_methodNamed B.named
  have hlocks := B.notSynchronized
  have hS : va_S (Ad ad 26) s.heap s.heap [] := va_S.rf
  have hl := lv_entry ([.ref (ad 0), .int (nI q), .int (nI f0)]) (n := 5) (Nat.le_of_ble_eq_true rfl)
  rw [lg_entry_eq]
  generalize (lg_sl ([.ref (ad 0), .int (nI q), .int (nI f0)]) ++ List.replicate (5 - (lg_sl ([.ref (ad 0), .int (nI q), .int (nI f0)])).length) Slot.unset).toArray = ls at hl ⊢
  have hl : lv_has ls 5 [(0, .ref (ad 0)), (1, .int (nI q)), (2, .int (nI f0))] := hl
  have inX7 : ∀ w ∈ u_ws RX7 TX7 29, w ∈ wsX7_replay := fun w h => List.mem_cons_of_mem _ (List.mem_append_right _ h)
  obtain ⟨N0, N1, k0, k1, k2, k3⟩ := two_kn (f := S.1 12) hq ho hn ho2 hn2
  unfold rRep mRep
  generalize hG : mRf S q (min n a - f0) f0 = G
  refine lv_iconst (v := nI 1) hx hb dX7_replay_0 (by decide) ?_
  refine lv_iload_n hx hb dX7_replay_1 rfl (lv_at hl 1 rfl) ?_
  refine n_sub hx hb (by omega) dX7_replay_2 ?_
  refine lv_istore_n (lv' := [(3, .int (nI (1 - q))), (0, .ref (ad 0)), (1, .int (nI q)), (2, .int (nI f0))]) hx hb dX7_replay_3 rfl hl (by decide) rfl (fun ls hl => ?_)
  refine lv_iload_n hx hb dX7_replay_4 rfl (lv_at hl 3 rfl) ?_
  refine lv_istore (lv' := [(4, .int (nI f0)), (3, .int (nI (1 - q))), (0, .ref (ad 0)), (1, .int (nI q)), (2, .int (nI f0))]) hx hb dX7_replay_5 hl (by decide) rfl (fun ls hl => ?_)
  refine lpW (fun k (f : Nat) ls H locs => f ≤ 600 ∧ k = 600 - f ∧ mRf S q (min n a - f) f = G ∧ lv_has ls 5 [(4, .int (nI f)), (3, .int (nI (1 - q))), (0, .ref (ad 0)), (1, .int (nI q))] ∧ va_P D vwCl (sg ad 26 (mm ad cs d w S np ns)) H ∧ va_S (Ad ad 26) s.heap H locs) 7 (fun _ => []) (fun k f ls H locs hC ih => ?_) (600 - f0) f0 ls _ _ ⟨hf0, rfl, hG, lv_sub hl [0, 1, 2, 3] rfl, hP, hS⟩
  obtain ⟨hf, hk, hGf, hl, hP, hS⟩ := hC
  refine lv_iload hx hb dX7_replay_7 (lv_at hl 0 rfl) ?_
  refine lv_aload_n hx hb dX7_replay_9 rfl (lv_at hl 2 rfl) ?_
  refine m_get hx hb hts inX7 hown hK hP (ci := 7) rfl (k := 0) (by decide) rfl 12 (by decide) (hts (.fieldLink RX7 43 "RollbackPairModel" "known" "[I") (by decide +kernel)) rfl dX7_replay_10 ?_
  refine lv_iconst (v := nI 2) hx hb dX7_replay_13 (by decide) ?_
  refine lv_iload_n hx hb dX7_replay_14 rfl (lv_at hl 3 rfl) ?_
  refine n_mul hx hb dX7_replay_15 ?_
  refine lv_iload_n hx hb dX7_replay_16 rfl (lv_at hl 1 rfl) ?_
  refine n_add hx hb dX7_replay_17 ?_
  refine m_iald hx hb hK hP (k := 11) (by decide) (f := (S.1 12)) rfl (i := 2 * q + (1 - q)) (by omega) (by decide) dX7_replay_18 ?_
  refine n_val hn ?_
  refine n_cmp_ge (tgt := 88) hx hb dX7_replay_19 (by decide) (by omega) (by omega) (fun c1 => ?_) (fun c1 => ?_)
  · refine lv_iconst (v := nI 0) hx hb dX7_replay_88 (by decide) ?_
    have hfG : G = f := by rw [← hGf, show min n a - f = 0 by omega]; rfl
    exact r_i hx hb hr hlocks hK hP hS dX7_replay_89 ⟨by rw [if_neg (by omega)], np, ns, by rw [if_neg (by omega)]⟩
  · refine lv_iload hx hb dX7_replay_22 (lv_at hl 0 rfl) ?_
    refine lv_aload_n hx hb dX7_replay_24 rfl (lv_at hl 2 rfl) ?_
    refine m_get hx hb hts inX7 hown hK hP (ci := 7) rfl (k := 0) (by decide) rfl 2 (by decide) (hts (.fieldLink RX7 7 "RollbackPairModel" "at" "[I") (by decide +kernel)) rfl dX7_replay_25 ?_
    refine lv_iload_n hx hb dX7_replay_28 rfl (lv_at hl 3 rfl) ?_
    refine m_iald hx hb hK hP (k := 1) (by decide) (f := (S.1 2)) rfl (i := q) (by omega) (by decide) dX7_replay_29 ?_
    refine n_val hat ?_
    refine n_cmp_ge (tgt := 88) hx hb dX7_replay_30 (by decide) (by omega) (by omega) (fun c2 => ?_) (fun c2 => ?_)
    · refine lv_iconst (v := nI 0) hx hb dX7_replay_88 (by decide) ?_
      have hfG : G = f := by rw [← hGf, show min n a - f = 0 by omega]; rfl
      exact r_i hx hb hr hlocks hK hP hS dX7_replay_89 ⟨by rw [if_neg (by omega)], np, ns, by rw [if_neg (by omega)]⟩
    · refine lv_aload_n hx hb dX7_replay_33 rfl (lv_at hl 2 rfl) ?_
      refine m_get hx hb hts inX7 hown hK hP (ci := 7) rfl (k := 0) (by decide) rfl 11 (by decide) (hts (.fieldLink RX7 40 "RollbackPairModel" "uses" "[I") (by decide +kernel)) rfl dX7_replay_34 ?_
      refine lv_sipush (v := nI 1200) hx hb dX7_replay_37 (by decide) ?_
      refine lv_iload_n hx hb dX7_replay_40 rfl (lv_at hl 3 rfl) ?_
      refine n_mul hx hb dX7_replay_41 ?_
      refine lv_sipush (v := nI 600) hx hb dX7_replay_42 (by decide) ?_
      refine lv_iload_n hx hb dX7_replay_45 rfl (lv_at hl 1 rfl) ?_
      refine n_mul hx hb dX7_replay_46 ?_
      refine n_add hx hb dX7_replay_47 ?_
      refine lv_iload hx hb dX7_replay_48 (lv_at hl 0 rfl) ?_
      refine n_add hx hb dX7_replay_50 ?_
      refine m_iald hx hb hK hP (k := 10) (by decide) (f := (S.1 11)) rfl (i := 1200 * q + (600 * (1 - q)) + f) (by omega) (by decide) dX7_replay_51 ?_
      refine lv_aload_n hx hb dX7_replay_52 rfl (lv_at hl 2 rfl) ?_
      refine m_get hx hb hts inX7 hown hK hP (ci := 7) rfl (k := 0) (by decide) rfl 10 (by decide) (hts (.fieldLink RX7 37 "RollbackPairModel" "input" "[I") (by decide +kernel)) rfl dX7_replay_53 ?_
      refine lv_sipush (v := nI 1200) hx hb dX7_replay_56 (by decide) ?_
      refine lv_iload_n hx hb dX7_replay_59 rfl (lv_at hl 3 rfl) ?_
      refine n_mul hx hb dX7_replay_60 ?_
      refine lv_sipush (v := nI 600) hx hb dX7_replay_61 (by decide) ?_
      refine lv_iload_n hx hb dX7_replay_64 rfl (lv_at hl 1 rfl) ?_
      refine n_mul hx hb dX7_replay_65 ?_
      refine n_add hx hb dX7_replay_66 ?_
      refine lv_iload hx hb dX7_replay_67 (lv_at hl 0 rfl) ?_
      refine n_add hx hb dX7_replay_69 ?_
      refine m_iald hx hb hK hP (k := 9) (by decide) (f := (S.1 10)) rfl (i := 1200 * q + (600 * (1 - q)) + f) (by omega) (by decide) dX7_replay_70 ?_
      refine lv_icmp_eq (tgt := 82) hx hb dX7_replay_71 (by decide) (fun c3 => ?_) (fun c3 => ?_)
      · refine lv_iinc (v := nI (f + 1)) (lv' := [(4, .int (nI (f + 1))), (3, .int (nI (1 - q))), (0, .ref (ad 0)), (1, .int (nI q))]) hx hb dX7_replay_82 hl (k := 0) rfl (nI_1 _) (by decide) rfl (fun ls hl => ?_)
        refine lv_goto (tgt := 7) hx hb dX7_replay_85 (by decide) ?_
        exact ih (600 - (f + 1)) (by omega) (f + 1) ls H locs ⟨by omega, rfl, by rw [← hGf, show min n a - f = (min n a - (f + 1)) + 1 by omega, mRf_s, if_pos c3], lv_sub hl [0, 1, 2, 3] rfl, hP, hS⟩
      · refine lv_aload_n hx hb dX7_replay_74 rfl (lv_at hl 2 rfl) ?_
        refine lv_iload_n hx hb dX7_replay_75 rfl (lv_at hl 3 rfl) ?_
        refine lv_iload hx hb dX7_replay_76 (lv_at hl 0 rfl) ?_
        have hfG : f = G := by rw [← hGf, show min n a - f = (min n a - (f + 1)) + 1 by omega, mRf_s, if_neg c3]
        subst hfG
        refine k_Vi (As := [.int (nI q), .int (nI f)]) (rest := []) (k := 0) (ci := 7) ⟨hx, hb, hml, hown, hts⟩ hK hP hS Ad_le (c_again l D cs ad hJ d w S np ns q f a N0 N1 hq hat (by omega) (by omega) k0 k1 k2 k3 hB) (cwV 2 hts gX7_replay_X7_again rfl rfl rfl (by decide +kernel) ⟨Nat.le_of_ble_eq_true rfl, Nat.le_of_ble_eq_true rfl⟩) (by decide) rfl rfl rfl rfl hl.1 (Nat.le_of_ble_eq_true rfl) dX7_replay_78 ⟨Nat.le_of_ble_eq_true rfl, Nat.le_of_ble_eq_true rfl⟩ (fun r_1 M1 H locs hpo hP hS _ _ => ?_)
        obtain ⟨hr9, np3, ns3, rfl⟩ := hpo
        exact r_i hx hb hr hlocks hK hP hS dX7_replay_81 ⟨by rw [if_pos (by omega)]; exact hr9, np3, ns3, by rw [if_pos (by omega)]; rfl⟩
