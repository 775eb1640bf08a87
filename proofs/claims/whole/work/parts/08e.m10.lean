set_option maxHeartbeats 4000000 in
set_option maxRecDepth 100000 in
/-- deliver(q) -/
theorem c_deliver (l : Launch) (D : va_G) (cs : Nat → ClassId) (ad : Nat → Nat) (hJ : Inj ad 26) (d w : Int32) (S : SS) (np ns : UInt32) (q a n o r : Nat) (hq : q < 2) (hr0 : S.1 19 q = nI r) (hr2 : r ≤ 12) (hsh : ∀ i, sh (S.1 20 i)) (hat : S.1 2 q = nI a) (ha : a ≤ 560) (hn : S.1 12 (2 * q + (1 - q)) = nI n) (hn2 : n ≤ a + 20) (ho : S.1 12 (2 * q + q) = nI o) (ho2 : o ≤ 600) (hB : ∀ f, f ≤ a → BdAt S q f) (hav : Fb (S.2.1 9 q) (-(2 ^ 36 * e8)) (2 ^ 36 * e8)) : CTi l yX7_deliver wsX7_deliver ({ frames := 4, cells := 0, slots := 0, locals := 112 }) D cs ad 26 (mm ad cs d w S np ns) [.ref (ad 0), .int (nI q)] (fun r M2 => r = rDel S q ∧ ∃ np2 ns2, M2 = mm ad cs d w (mDel S q) np2 ns2) := by
  refine Met.ofW (cc := cX7_deliver) (maxL := 8) (ret := (some .int)) (by decide) rfl ?_
  intro p e s m args below meth c s₁ B hml hv
  obtain ⟨rfl, hP, hK⟩ := hv
  have hx := B.exec
  have hb := B.bytes
  have hr := B.returns
  have hts := atoms_spec (ws := wsX7_deliver) B.pre
  have hown : s.vm.findClass RX7 = some m.cls := findClass_of_methodNamed B.named
  have hlocks := B.notSynchronized
  have hS : va_S (Ad ad 26) s.heap s.heap [] := va_S.rf
  have hl := lv_entry ([.ref (ad 0), .int (nI q)]) (n := 8) (Nat.le_of_ble_eq_true rfl)
  rw [lg_entry_eq]
  generalize (lg_sl ([.ref (ad 0), .int (nI q)]) ++ List.replicate (8 - (lg_sl ([.ref (ad 0), .int (nI q)])).length) Slot.unset).toArray = ls at hl ⊢
  have hl : lv_has ls 8 [(0, .ref (ad 0)), (1, .int (nI q))] := hl
  have inX7 : ∀ w ∈ u_ws RX7 TX7 29, w ∈ wsX7_deliver := fun w h => List.mem_cons_of_mem _ (List.mem_append_right _ h)
-- walk
  refine lv_iload_n hx hb dX7_deliver_0 rfl (lv_at hl 1 rfl) ?_
  refine k_Si (As := [.int (nI q)]) (rest := []) ⟨hx, hb, hml, hown, hts⟩ hK hP hS Ad_le (c_isTwo l D cs ad 26 (mm ad cs d w S np ns) (nI q)) (va_cwS 1 hts gX7_deliver_X7_isTwo rfl rfl rfl (by decide +kernel) ⟨Nat.le_of_ble_eq_true rfl, Nat.le_of_ble_eq_true rfl⟩) rfl rfl hl.1 (Nat.le_of_ble_eq_true rfl) dX7_deliver_1 ⟨Nat.le_of_ble_eq_true rfl, Nat.le_of_ble_eq_true rfl⟩ (fun r_1 M1 H locs hpo hP hS _ _ => ?_)
  obtain ⟨rfl, rfl⟩ := hpo
  refine n_val (two_ok hq) ?_
  refine n_if_eq (tgt := 16) hx hb dX7_deliver_4 (by decide) (by omega) (fun c_2 => absurd c_2 (by decide)) (fun c_2 => ?_)
  refine lv_aload_n hx hb dX7_deliver_7 rfl (lv_at hl 0 rfl) ?_
  refine m_get hx hb hts inX7 hown hK hP (ci := 7) rfl (k := 0) (by decide) rfl 19 (by decide) (hts (.fieldLink RX7 65 "RollbackPairModel" "rows" "[I") (by decide +kernel)) rfl dX7_deliver_8 ?_
  refine lv_iload_n hx hb dX7_deliver_11 rfl (lv_at hl 1 rfl) ?_
  refine m_iald hx hb hK hP (k := 18) (by decide) (f := (S.1 19)) rfl (i := q) (by omega) (by decide) dX7_deliver_12 ?_
  refine n_val hr0 ?_
  refine n_if_ne (tgt := 18) hx hb dX7_deliver_13 (by decide) (by omega) (fun c1 => ?_) (fun c1 => ?_)
  · refine lv_aload_n hx hb dX7_deliver_18 rfl (lv_at hl 0 rfl) ?_
    refine lv_iload_n hx hb dX7_deliver_19 rfl (lv_at hl 1 rfl) ?_
    refine k_Vv (As := [.int (nI q)]) (rest := []) (k := 0) (ci := 7) ⟨hx, hb, hml, hown, hts⟩ hK hP hS Ad_le (c_take l D cs ad hJ d w S np ns q r hq hr0 (by omega) hr2 hsh) (cwV 1 hts gX7_deliver_X7_take rfl rfl rfl (by decide +kernel) ⟨Nat.le_of_ble_eq_true rfl, Nat.le_of_ble_eq_true rfl⟩) (by decide) rfl rfl rfl rfl hl.1 (Nat.le_of_ble_eq_true rfl) dX7_deliver_20 ⟨Nat.le_of_ble_eq_true rfl, Nat.le_of_ble_eq_true rfl⟩ (fun M1 H locs hpo hP hS _ _ => ?_)
    subst hpo
    have hz : ¬ S.1 19 q = 0 := by rw [hr0]; exact nI_ne0 (by omega) (by omega)
    unfold rDel mDel
    rw [if_neg hz, if_neg hz]
    have g1 := mTake_sh (q := q) hsh
    have g2 : (mTake S q).1 2 q = nI a := by rw [mTake_k (by omega)]; exact hat
    have g3 : (mTake S q).1 12 (2 * q + (1 - q)) = nI n := by rw [mTake_k (by omega)]; exact hn
    have g4 : (mTake S q).1 12 (2 * q + q) = nI o := by rw [mTake_k (by omega)]; exact ho
    have g5 : ∀ f, f ≤ a → BdAt (mTake S q) q f := fun f hf => BdAt_F (mTake_F S q) (hB f hf)
    have g6 : Fb ((mTake S q).2.1 9 q) (-(2 ^ 36 * e8)) (2 ^ 36 * e8) := by rw [(mTake_F S q).1]; exact hav
    clear hav hB ho hn hat hsh hr0
    generalize mTake S q = U at hP g1 g2 g3 g4 g5 g6 ⊢
    refine jnH (fun (_ : Unit) ls H locs => ¬ dropP U q ∧ lv_has ls 8 [(0, .ref (ad 0)), (1, .int (nI q))] ∧ va_P D vwCl (sg ad 26 (mm ad cs d w (mAcc U q) np ns)) H ∧ va_S (Ad ad 26) s.heap H locs) 190 (fun _ => []) (fun _ ls H locs hC => ?_) (fun J => ?_)
    · obtain ⟨hnd, hl, hP, hS⟩ := hC
      have hR : rDel2 U q = rDl (mAcc U q) q a n := by unfold rDel2; rw [if_neg hnd, g2, g3, tn_nI (by omega), tn_nI (by omega)]
      have hM2 : mDel2 U q = mDl (mAcc U q) q a n := by unfold mDel2; rw [if_neg hnd, g2, g3, tn_nI (by omega), tn_nI (by omega)]
      rw [hR, hM2]
      have k2 : (mAcc U q).1 2 q = nI a := by rw [mAcc_k (by omega)]; exact g2
      have k3 : (mAcc U q).1 12 (2 * q + (1 - q)) = nI n := by rw [mAcc_k (by omega)]; exact g3
      have k4 : (mAcc U q).1 12 (2 * q + q) = nI o := by rw [mAcc_k (by omega)]; exact g4
      have k5 : ∀ f, f ≤ a → BdAt (mAcc U q) q f := fun f hf => mAcc_Bd (g5 f hf)
      clear hR hM2
      generalize mAcc U q = Y at hP k2 k3 k4 k5 ⊢
      refine lv_iconst (v := nI 1) hx hb dX7_deliver_190 (by decide) ?_
      refine lv_iload_n hx hb dX7_deliver_191 rfl (lv_at hl 1 rfl) ?_
      refine n_sub hx hb (by omega) dX7_deliver_192 ?_
      refine lv_istore_n (lv' := [(3, .int (nI (1 - q))), (0, .ref (ad 0)), (1, .int (nI q))]) hx hb dX7_deliver_193 rfl hl (by decide) rfl (fun ls hl => ?_)
      refine lv_aload_n hx hb dX7_deliver_194 rfl (lv_at hl 1 rfl) ?_
      refine m_get hx hb hts inX7 hown hK hP (ci := 7) rfl (k := 0) (by decide) rfl 12 (by decide) (hts (.fieldLink RX7 43 "RollbackPairModel" "known" "[I") (by decide +kernel)) rfl dX7_deliver_195 ?_
      refine lv_iconst (v := nI 2) hx hb dX7_deliver_198 (by decide) ?_
      refine lv_iload_n hx hb dX7_deliver_199 rfl (lv_at hl 2 rfl) ?_
      refine n_mul hx hb dX7_deliver_200 ?_
      refine lv_iload_n hx hb dX7_deliver_201 rfl (lv_at hl 0 rfl) ?_
      refine n_add hx hb dX7_deliver_202 ?_
      refine m_iald hx hb hK hP (k := 11) (by decide) (f := (Y.1 12)) rfl (i := 2 * q + (1 - q)) (by omega) (by decide) dX7_deliver_203 ?_
      refine n_val k3 ?_
      refine lv_istore (lv' := [(4, .int (nI n)), (3, .int (nI (1 - q))), (0, .ref (ad 0)), (1, .int (nI q))]) hx hb dX7_deliver_204 hl (by decide) rfl (fun ls hl => ?_)
      refine lv_aload_n hx hb dX7_deliver_206 rfl (lv_at hl 2 rfl) ?_
      refine m_get hx hb hts inX7 hown hK hP (ci := 7) rfl (k := 0) (by decide) rfl 24 (by decide) (hts (.fieldLink RX7 80 "RollbackPairModel" "pCount" "[I") (by decide +kernel)) rfl dX7_deliver_207 ?_
      refine lv_bipush (v := nI 24) hx hb dX7_deliver_210 (by decide) ?_
      refine m_iald hx hb hK hP (k := 23) (by decide) (f := (Y.1 24)) rfl (i := 24) (by omega) (by decide) dX7_deliver_212 ?_
      refine lv_bipush (v := nI 16) hx hb dX7_deliver_213 (by decide) ?_
      refine jn (fun (_ : Unit) ls => lv_has ls 8 [(3, .int (nI (1 - q))), (4, .int (nI n)), (0, .ref (ad 0)), (1, .int (nI q))]) 230 (fun _ => [.int (mo24 Y)]) (fun _ ls hl => ?_) (fun J => ?_)
      · refine lv_istore (lv' := [(5, .int (mo24 Y)), (3, .int (nI (1 - q))), (4, .int (nI n)), (0, .ref (ad 0)), (1, .int (nI q))]) hx hb dX7_deliver_230 hl (by decide) rfl (fun ls hl => ?_)
        refine lv_iload hx hb dX7_deliver_232 (lv_at hl 2 rfl) ?_
        refine lv_i2l hx hb dX7_deliver_234 rfl ?_
        refine lv_aload_n hx hb dX7_deliver_235 rfl (lv_at hl 3 rfl) ?_
        refine m_get hx hb hts inX7 hown hK hP (ci := 7) rfl (k := 0) (by decide) rfl 23 (by decide) (hts (.fieldLink RX7 77 "RollbackPairModel" "pFirst" "[I") (by decide +kernel)) rfl dX7_deliver_236 ?_
        refine lv_bipush (v := nI 24) hx hb dX7_deliver_239 (by decide) ?_
        refine m_iald hx hb hK hP (k := 22) (by decide) (f := (Y.1 23)) rfl (i := 24) (by omega) (by decide) dX7_deliver_241 ?_
        refine lv_i2l hx hb dX7_deliver_242 rfl ?_
        refine lv_lsub hx hb dX7_deliver_243 ?_
        refine lv_lstore (lv' := [(6, .long (((nI n).toInt64) - (((Y.1 23) 24).toInt64))), (5, .int (mo24 Y)), (3, .int (nI (1 - q))), (4, .int (nI n)), (0, .ref (ad 0)), (1, .int (nI q))]) hx hb dX7_deliver_244 hl (by decide) rfl (fun ls hl => ?_)
        have hmo := mo24_le Y
        have hj0 := lv_sub64 (n := n) (by omega) (Y.1 23 24)
        obtain ⟨L, hL⟩ : ∃ L, L = lrC Y n a := ⟨_, rfl⟩
        have hLe : L ≤ a + 20 - n := by rw [hL]; unfold lrC lrN; split <;> omega
        refine jnH (fun (_ : Unit) ls H locs => lv_has ls 8 [(5, .int (mo24 Y)), (4, .int (nI n)), (3, .int (nI (1 - q))), (0, .ref (ad 0)), (1, .int (nI q))] ∧ va_P D vwCl (sg ad 26 (mm ad cs d w (mLrn Y q n a) np ns)) H ∧ va_S (Ad ad 26) s.heap H locs) 352 (fun _ => []) (fun _ ls H locs hC => ?_) (fun J => ?_)
        · obtain ⟨hl, hP, hS⟩ := hC
          have f0 := mLr_k (q := q) hq (lrC Y n a) Y n ((n : Int) - (Y.1 23 24).toInt).toNat k3
          rw [← hL] at f0
          have f3 : (mLrn Y q n a).1 12 (2 * q + (1 - q)) = nI (n + L) := by unfold mLrn; rw [← hL]; exact f0.1
          have f2 : (mLrn Y q n a).1 2 q = nI a := by unfold mLrn; rw [← hL, f0.2.1 2 (by omega) (by omega)]; exact k2
          have f4 : (mLrn Y q n a).1 12 (2 * q + q) = nI o := by unfold mLrn; rw [← hL, f0.2.2.1]; exact k4
          have f5 : ∀ f, f ≤ a → BdAt (mLrn Y q n a) q f := fun f hf => BdAt_of (show (mLrn Y q n a).2 = Y.2 from by unfold mLrn; rw [← hL]; exact f0.2.2.2) (k5 f hf)
          refine lv_aload_n hx hb dX7_deliver_352 rfl (lv_at hl 3 rfl) ?_
          refine m_get hx hb hts inX7 hown hK hP (ci := 7) rfl (k := 0) (by decide) rfl 12 (by decide) (hts (.fieldLink RX7 43 "RollbackPairModel" "known" "[I") (by decide +kernel)) rfl dX7_deliver_353 ?_
          refine lv_iconst (v := nI 2) hx hb dX7_deliver_356 (by decide) ?_
          refine lv_iload_n hx hb dX7_deliver_357 rfl (lv_at hl 4 rfl) ?_
          refine n_mul hx hb dX7_deliver_358 ?_
          refine lv_iload_n hx hb dX7_deliver_359 rfl (lv_at hl 2 rfl) ?_
          refine n_add hx hb dX7_deliver_360 ?_
          refine m_iald hx hb hK hP (k := 11) (by decide) (f := ((mLrn Y q n a).1 12)) rfl (i := 2 * q + (1 - q)) (by omega) (by decide) dX7_deliver_361 ?_
          refine n_val f3 ?_
          refine lv_iload hx hb dX7_deliver_362 (lv_at hl 1 rfl) ?_
          refine n_cmp_le (tgt := 377) hx hb dX7_deliver_364 (by decide) (by omega) (by omega) (fun c9 => ?_) (fun c9 => ?_)
          · refine lv_iconst (v := nI 0) hx hb dX7_deliver_377 (by decide) ?_
            exact r_i hx hb hr hlocks hK hP hS dX7_deliver_378 ⟨by unfold rDl; rw [if_pos (by omega)], np, ns, by unfold mDl; rw [if_pos (by omega)]⟩
          · refine lv_aload_n hx hb dX7_deliver_367 rfl (lv_at hl 3 rfl) ?_
            refine lv_iload_n hx hb dX7_deliver_368 rfl (lv_at hl 4 rfl) ?_
            refine lv_iload hx hb dX7_deliver_369 (lv_at hl 1 rfl) ?_
            refine k_Vi (As := [.int (nI q), .int (nI n)]) (rest := []) (k := 0) (ci := 7) ⟨hx, hb, hml, hown, hts⟩ hK hP hS Ad_le (c_replay l D cs ad hJ d w (mLrn Y q n a) np ns q n a (n + L) o hq f2 (by omega) f3 (by omega) f4 ho2 (by omega) f5) (cwV 2 hts gX7_deliver_X7_replay rfl rfl rfl (by decide +kernel) ⟨Nat.le_of_ble_eq_true rfl, Nat.le_of_ble_eq_true rfl⟩) (by decide) rfl rfl rfl rfl hl.1 (Nat.le_of_ble_eq_true rfl) dX7_deliver_371 ⟨Nat.le_of_ble_eq_true rfl, Nat.le_of_ble_eq_true rfl⟩ (fun r_4 M1 H locs hpo hP hS _ _ => ?_)
            obtain ⟨hr9, np3, ns3, rfl⟩ := hpo
            refine lv_goto (tgt := 378) hx hb dX7_deliver_374 (by decide) ?_
            exact r_i hx hb hr hlocks hK hP hS dX7_deliver_378 ⟨by unfold rDl; rw [if_neg (by omega), ← hL]; exact hr9, np3, ns3, by unfold mDl; rw [if_neg (by omega), ← hL]⟩
        · refine lpW (fun k (x : Nat × SS × Int64) ls H locs => n ≤ x.1 ∧ x.1 ≤ a + 20 ∧ k = lrN x.2.2.toInt (mo24 Y).toInt x.1 a ∧ mLr x.2.1 q k x.1 x.2.2.toInt.toNat = mLrn Y q n a ∧ x.2.1.1 12 (2 * q + (1 - q)) = nI x.1 ∧ x.2.1.1 2 q = nI a ∧ x.2.1.2.2.1 24 = Y.2.2.1 24 ∧ lv_has ls 8 [(6, .long x.2.2), (5, .int (mo24 Y)), (4, .int (nI n)), (3, .int (nI (1 - q))), (0, .ref (ad 0)), (1, .int (nI q))] ∧ va_P D vwCl (sg ad 26 (mm ad cs d w x.2.1 np ns)) H ∧ va_S (Ad ad 26) s.heap H locs) 246 (fun _ => []) (fun k x ls H locs hC ih => ?_) L (n, Y, ((nI n).toInt64) - (((Y.1 23) 24).toInt64)) ls _ _ ⟨Nat.le_refl _, hn2, by rw [hj0]; exact hL, by rw [hj0, hL]; rfl, k3, k2, rfl, lv_sub hl [0, 1, 3, 2, 4, 5] rfl, hP, hS⟩
          obtain ⟨m2, V, jv⟩ := x
          obtain ⟨i1, i2, i3, i4, i5, i6, i7, hl, hP, hS⟩ := hC
          dsimp only at i1 i2 i3 i4 i5 i6 i7 hl hP hS ih ⊢
          unfold lrN at i3
          refine lv_lload hx hb dX7_deliver_246 (lv_at hl 0 rfl) ?_
          refine lv_lconst (v := 0) hx hb dX7_deliver_248 (by decide) ?_
          refine W.lcmp hx hb dX7_deliver_249 ?_
          refine lv_if_lt (tgt := 352) hx hb dX7_deliver_250 (by decide) (fun d1 => ?_) (fun d1 => ?_)
          · have hk0 : k = 0 := by rw [i3, if_neg (show ¬ (0 : Int) ≤ jv.toInt from by have h9 := (lg_cmp_lt _ _).mp d1; rw [Int64.lt_iff_toInt_lt] at h9; simpa using h9)]
            subst hk0
            have i4 : V = mLrn Y q n a := i4
            rw [i4] at hP
            exact J () ls H locs ⟨lv_sub hl [1, 2, 3, 4, 5] rfl, hP, hS⟩
          · obtain ⟨jj, hjj, rfl⟩ := pk_lOf (x := jv) (fun z => d1 ((lg_cmp_lt _ _).mpr z))
            rw [pk_lT hjj] at i3
            rw [if_pos (by omega)] at i3
            refine lv_lload hx hb dX7_deliver_253 (lv_at hl 0 rfl) ?_
            refine lv_iload hx hb dX7_deliver_255 (lv_at hl 1 rfl) ?_
            refine lv_i2l hx hb dX7_deliver_257 rfl ?_
            refine W.lcmp hx hb dX7_deliver_258 ?_
            refine lv_if_ge (tgt := 352) hx hb dX7_deliver_259 (by decide) (fun d2 => ?_) (fun d2 => ?_)
            · have hk0 : k = 0 := by have h9 := (lg_cmp_ge _ _).mp d2; rw [Int64.le_iff_toInt_le, Int32.toInt_toInt64, pk_lT hjj] at h9; omega
              subst hk0
              have i4 : V = mLrn Y q n a := i4
              rw [i4] at hP
              exact J () ls H locs ⟨lv_sub hl [1, 2, 3, 4, 5] rfl, hP, hS⟩
            · have h9 : (jj : Int) < (mo24 Y).toInt := Int.lt_of_not_ge fun z => d2 ((lg_cmp_ge _ _).mpr (by rw [Int64.le_iff_toInt_le, Int32.toInt_toInt64, pk_lT hjj]; exact z))
              refine lv_aload_n hx hb dX7_deliver_262 rfl (lv_at hl 4 rfl) ?_
              refine m_get hx hb hts inX7 hown hK hP (ci := 7) rfl (k := 0) (by decide) rfl 12 (by decide) (hts (.fieldLink RX7 43 "RollbackPairModel" "known" "[I") (by decide +kernel)) rfl dX7_deliver_263 ?_
              refine lv_iconst (v := nI 2) hx hb dX7_deliver_266 (by decide) ?_
              refine lv_iload_n hx hb dX7_deliver_267 rfl (lv_at hl 5 rfl) ?_
              refine n_mul hx hb dX7_deliver_268 ?_
              refine lv_iload_n hx hb dX7_deliver_269 rfl (lv_at hl 3 rfl) ?_
              refine n_add hx hb dX7_deliver_270 ?_
              refine m_iald hx hb hK hP (k := 11) (by decide) (f := (V.1 12)) rfl (i := 2 * q + (1 - q)) (by omega) (by decide) dX7_deliver_271 ?_
              refine n_val i5 ?_
              refine lv_aload_n hx hb dX7_deliver_272 rfl (lv_at hl 4 rfl) ?_
              refine m_get hx hb hts inX7 hown hK hP (ci := 7) rfl (k := 0) (by decide) rfl 2 (by decide) (hts (.fieldLink RX7 7 "RollbackPairModel" "at" "[I") (by decide +kernel)) rfl dX7_deliver_273 ?_
              refine lv_iload_n hx hb dX7_deliver_276 rfl (lv_at hl 5 rfl) ?_
              refine m_iald hx hb hK hP (k := 1) (by decide) (f := (V.1 2)) rfl (i := q) (by omega) (by decide) dX7_deliver_277 ?_
              refine n_val i6 ?_
              refine lv_bipush (v := nI 20) hx hb dX7_deliver_278 (by decide) ?_
              refine n_add hx hb dX7_deliver_280 ?_
              refine n_cmp_ge (tgt := 352) hx hb dX7_deliver_281 (by decide) (by omega) (by omega) (fun d3 => ?_) (fun d3 => ?_)
              · have hk0 : k = 0 := by omega
                subst hk0
                have i4 : V = mLrn Y q n a := i4
                rw [i4] at hP
                exact J () ls H locs ⟨lv_sub hl [1, 2, 3, 4, 5] rfl, hP, hS⟩
              · refine lv_aload_n hx hb dX7_deliver_284 rfl (lv_at hl 4 rfl) ?_
                refine m_get hx hb hts inX7 hown hK hP (ci := 7) rfl (k := 0) (by decide) rfl 10 (by decide) (hts (.fieldLink RX7 37 "RollbackPairModel" "input" "[I") (by decide +kernel)) rfl dX7_deliver_285 ?_
                refine lv_sipush (v := nI 1200) hx hb dX7_deliver_288 (by decide) ?_
                refine lv_iload_n hx hb dX7_deliver_291 rfl (lv_at hl 5 rfl) ?_
                refine n_mul hx hb dX7_deliver_292 ?_
                refine lv_sipush (v := nI 600) hx hb dX7_deliver_293 (by decide) ?_
                refine lv_iload_n hx hb dX7_deliver_296 rfl (lv_at hl 3 rfl) ?_
                refine n_mul hx hb dX7_deliver_297 ?_
                refine n_add hx hb dX7_deliver_298 ?_
                refine lv_aload_n hx hb dX7_deliver_299 rfl (lv_at hl 4 rfl) ?_
                refine m_get hx hb hts inX7 hown hK hP (ci := 7) rfl (k := 0) (by decide) rfl 12 (by decide) (hts (.fieldLink RX7 43 "RollbackPairModel" "known" "[I") (by decide +kernel)) rfl dX7_deliver_300 ?_
                refine lv_iconst (v := nI 2) hx hb dX7_deliver_303 (by decide) ?_
                refine lv_iload_n hx hb dX7_deliver_304 rfl (lv_at hl 5 rfl) ?_
                refine n_mul hx hb dX7_deliver_305 ?_
                refine lv_iload_n hx hb dX7_deliver_306 rfl (lv_at hl 3 rfl) ?_
                refine n_add hx hb dX7_deliver_307 ?_
                refine m_iald hx hb hK hP (k := 11) (by decide) (f := (V.1 12)) rfl (i := 2 * q + (1 - q)) (by omega) (by decide) dX7_deliver_308 ?_
                refine n_val i5 ?_
                refine n_add hx hb dX7_deliver_309 ?_
                refine lv_aload_n hx hb dX7_deliver_310 rfl (lv_at hl 4 rfl) ?_
                refine m_get hx hb hts inX7 hown hK hP (ci := 7) rfl (k := 0) (by decide) rfl 25 (by decide) (hts (.fieldLink RX7 83 "RollbackPairModel" "pBits" "[J") (by decide +kernel)) rfl dX7_deliver_311 ?_
                refine lv_bipush (v := nI 24) hx hb dX7_deliver_314 (by decide) ?_
                refine m_lald hx hb hK hP (k := 24) (by decide) (f := V.2.2.1) rfl (i := 24) (by omega) (by decide) dX7_deliver_316 ?_
                refine lv_iconst (v := nI 3) hx hb dX7_deliver_317 (by decide) ?_
                refine lv_lload hx hb dX7_deliver_318 (lv_at hl 0 rfl) ?_
                refine lv_l2i (v := nI jj) hx hb dX7_deliver_320 (lN_i _) ?_
                refine n_mul hx hb dX7_deliver_321 ?_
                refine lv_lshr hx hb dX7_deliver_322 rfl ?_
                refine lv_ldc2 hx hb hown (hts (.constantLong RX7 148 (7)) (by decide +kernel)) dX7_deliver_323 ?_
                refine lv_land hx hb dX7_deliver_326 ?_
                refine lv_l2i hx hb dX7_deliver_327 rfl ?_
                refine m_iast hx hb hK hP hJ hS (k := 9) (by decide) (f := (V.1 10)) rfl (i := 1200 * q + (600 * (1 - q)) + m2) (by omega) (by decide) dX7_deliver_328 (fun H locs hP hS => ?_)
                rw [mm_up10] at hP
                refine lv_aload_n hx hb dX7_deliver_329 rfl (lv_at hl 4 rfl) ?_
                refine m_get hx hb hts inX7 hown hK hP (ci := 7) rfl (k := 0) (by decide) rfl 12 (by decide) (hts (.fieldLink RX7 43 "RollbackPairModel" "known" "[I") (by decide +kernel)) rfl dX7_deliver_330 ?_
                refine lv_iconst (v := nI 2) hx hb dX7_deliver_333 (by decide) ?_
                refine lv_iload_n hx hb dX7_deliver_334 rfl (lv_at hl 5 rfl) ?_
                refine n_mul hx hb dX7_deliver_335 ?_
                refine lv_iload_n hx hb dX7_deliver_336 rfl (lv_at hl 3 rfl) ?_
                refine n_add hx hb dX7_deliver_337 ?_
                refine lv_dup2_11 hx hb dX7_deliver_338 rfl rfl ?_
                refine m_iald hx hb hK hP (k := 11) (by decide) (f := (V.1 12)) rfl (i := 2 * q + (1 - q)) (by omega) (by decide) dX7_deliver_339 ?_
                refine n_val i5 ?_
                refine lv_iconst (v := nI 1) hx hb dX7_deliver_340 (by decide) ?_
                refine n_add hx hb dX7_deliver_341 ?_
                refine m_iast hx hb hK hP hJ hS (k := 11) (by decide) (f := (V.1 12)) rfl (i := 2 * q + (1 - q)) (by omega) (by decide) dX7_deliver_342 (fun H locs hP hS => ?_)
                rw [mm_up12] at hP
                refine lv_lload hx hb dX7_deliver_343 (lv_at hl 0 rfl) ?_
                refine lv_lconst (v := 1) hx hb dX7_deliver_345 (by decide) ?_
                refine lv_ladd hx hb dX7_deliver_346 ?_
                refine lv_lstore (lv' := [(6, .long ((lN jj) + (1 : Int64))), (5, .int (mo24 Y)), (4, .int (nI n)), (3, .int (nI (1 - q))), (0, .ref (ad 0)), (1, .int (nI q))]) hx hb dX7_deliver_347 hl (by decide) rfl (fun ls hl => ?_)
                refine lv_goto (tgt := 246) hx hb dX7_deliver_349 (by decide) ?_
                have hjp : (lN jj + (1 : Int64)).toInt = (jj : Int) + 1 := by rw [FP.Core.int64_add] <;> rw [pk_lT (by omega)] <;> (first | rfl | (show _ ; simp; omega))
                exact ih (lrN ((jj : Int) + 1) (mo24 Y).toInt (m2 + 1) a) (by unfold lrN; rw [if_pos (by omega)]; omega) (m2 + 1, mLr1 V q m2 jj, lN jj + 1) ls H locs ⟨by omega, by omega, by rw [hjp], by rw [hjp, ← i4, show k = lrN ((jj : Int) + 1) (mo24 Y).toInt (m2 + 1) a + 1 by unfold lrN; rw [if_pos (by omega)]; omega, show ((jj : Int) + 1).toNat = jj + 1 by omega, show (lN jj).toInt.toNat = jj by rw [pk_lT (by omega)]; omega]; rfl, if_pos rfl, i6, i7, lv_sub hl [0, 1, 2, 3, 4, 5] rfl, hP, hS⟩
      · refine lv_icmp_le (tgt := 223) hx hb dX7_deliver_215 (by decide) (fun c8 => ?_) (fun c8 => ?_)
        · refine lv_aload_n hx hb dX7_deliver_223 rfl (lv_at hl 2 rfl) ?_
          refine m_get hx hb hts inX7 hown hK hP (ci := 7) rfl (k := 0) (by decide) rfl 24 (by decide) (hts (.fieldLink RX7 80 "RollbackPairModel" "pCount" "[I") (by decide +kernel)) rfl dX7_deliver_224 ?_
          refine lv_bipush (v := nI 24) hx hb dX7_deliver_227 (by decide) ?_
          refine m_iald hx hb hK hP (k := 23) (by decide) (f := (Y.1 24)) rfl (i := 24) (by omega) (by decide) dX7_deliver_229 ?_
          refine n_val (show (Y.1 24) 24 = mo24 Y from (if_pos c8).symm) ?_
          exact J () ls (lv_sub hl [1, 0, 2, 3] rfl)
        · refine lv_bipush (v := nI 16) hx hb dX7_deliver_218 (by decide) ?_
          refine lv_goto (tgt := 230) hx hb dX7_deliver_220 (by decide) ?_
          refine n_val (show nI 16 = mo24 Y from (if_neg c8).symm) ?_
          exact J () ls (lv_sub hl [1, 0, 2, 3] rfl)
    · refine lv_aload_n hx hb dX7_deliver_23 rfl (lv_at hl 0 rfl) ?_
      refine m_get hx hb hts inX7 hown hK hP (ci := 7) rfl (k := 0) (by decide) rfl 20 (by decide) (hts (.fieldLink RX7 68 "RollbackPairModel" "pNumber" "[S") (by decide +kernel)) rfl dX7_deliver_24 ?_
      refine lv_bipush (v := nI 24) hx hb dX7_deliver_27 (by decide) ?_
      refine m_sald hx hb hK hP (k := 19) (by decide) (f := (U.1 20)) rfl (i := 24) (by omega) (by decide) dX7_deliver_29 ?_
      refine lv_aload_n hx hb dX7_deliver_30 rfl (lv_at hl 0 rfl) ?_
      refine m_get hx hb hts inX7 hown hK hP (ci := 7) rfl (k := 0) (by decide) rfl 7 (by decide) (hts (.fieldLink RX7 26 "RollbackPairModel" "latest" "[S") (by decide +kernel)) rfl dX7_deliver_31 ?_
      refine lv_iload_n hx hb dX7_deliver_34 rfl (lv_at hl 1 rfl) ?_
      refine m_sald hx hb hK hP (k := 6) (by decide) (f := (U.1 7)) rfl (i := q) (by omega) (by decide) dX7_deliver_35 ?_
      refine lv_isub hx hb dX7_deliver_36 ?_
      refine lv_i2s hx hb dX7_deliver_37 rfl ?_
      refine lv_istore_n (lv' := [(2, .int ((((U.1 20) 24) - ((U.1 7) q)).toInt16.toInt32)), (0, .ref (ad 0)), (1, .int (nI q))]) hx hb dX7_deliver_38 rfl hl (by decide) rfl (fun ls hl => ?_)
      refine lv_aload_n hx hb dX7_deliver_39 rfl (lv_at hl 1 rfl) ?_
      refine m_get hx hb hts inX7 hown hK hP (ci := 7) rfl (k := 0) (by decide) rfl 26 (by decide) (hts (.fieldLink RX7 87 "RollbackPairModel" "pCheck" "[I") (by decide +kernel)) rfl dX7_deliver_40 ?_
      refine lv_bipush (v := nI 24) hx hb dX7_deliver_43 (by decide) ?_
      refine m_iald hx hb hK hP (k := 25) (by decide) (f := (U.1 26)) rfl (i := 24) (by omega) (by decide) dX7_deliver_45 ?_
      refine lv_aload_n hx hb dX7_deliver_46 rfl (lv_at hl 1 rfl) ?_
      refine lv_bipush (v := nI 24) hx hb dX7_deliver_47 (by decide) ?_
      refine k_Vi (As := [.int (nI 24)]) (rest := [.int ((U.1 26) 24)]) (k := 0) (ci := 7) ⟨hx, hb, hml, hown, hts⟩ hK hP hS Ad_le (c_check l D cs ad hJ d w U np ns 24 (by decide)) (cwV 1 hts gX7_deliver_X7_check rfl rfl rfl (by decide +kernel) ⟨Nat.le_of_ble_eq_true rfl, Nat.le_of_ble_eq_true rfl⟩) (by decide) rfl rfl rfl rfl hl.1 (Nat.le_of_ble_eq_true rfl) dX7_deliver_49 ⟨Nat.le_of_ble_eq_true rfl, Nat.le_of_ble_eq_true rfl⟩ (fun r_5 M1 H locs hpo hP hS _ _ => ?_)
      obtain ⟨rfl, rfl⟩ := hpo
      refine lv_icmp_ne (tgt := 77) hx hb dX7_deliver_52 (by decide) (fun c2 => ?_) (fun c2 => ?_)
      · have hdr : dropP U q := Or.inl c2
        refine lv_bipush (v := (-2)) hx hb dX7_deliver_77 (by decide) ?_
        exact r_i hx hb hr hlocks hK hP hS dX7_deliver_79 ⟨by unfold rDel2; rw [if_pos hdr], np, ns, by unfold mDel2; rw [if_pos hdr]⟩
      · have c2n : ¬ ¬ U.1 26 24 = mChk U 24 := fun z => z c2
        refine lv_aload_n hx hb dX7_deliver_55 rfl (lv_at hl 1 rfl) ?_
        refine m_get hx hb hts inX7 hown hK hP (ci := 7) rfl (k := 0) (by decide) rfl 4 (by decide) (hts (.fieldLink RX7 16 "RollbackPairModel" "cut" "[I") (by decide +kernel)) rfl dX7_deliver_56 ?_
        refine lv_iload_n hx hb dX7_deliver_59 rfl (lv_at hl 2 rfl) ?_
        refine m_iald hx hb hK hP (k := 3) (by decide) (f := (U.1 4)) rfl (i := q) (by omega) (by decide) dX7_deliver_60 ?_
        refine lv_if_ge (tgt := 77) hx hb dX7_deliver_61 (by decide) (fun c3 => ?_) (fun c3 => ?_)
        · have hdr : dropP U q := Or.inr (Or.inl c3)
          refine lv_bipush (v := (-2)) hx hb dX7_deliver_77 (by decide) ?_
          exact r_i hx hb hr hlocks hK hP hS dX7_deliver_79 ⟨by unfold rDel2; rw [if_pos hdr], np, ns, by unfold mDel2; rw [if_pos hdr]⟩
        · refine lv_aload_n hx hb dX7_deliver_64 rfl (lv_at hl 1 rfl) ?_
          refine m_get hx hb hts inX7 hown hK hP (ci := 7) rfl (k := 0) (by decide) rfl 6 (by decide) (hts (.fieldLink RX7 22 "RollbackPairModel" "took" "[Z") (by decide +kernel)) rfl dX7_deliver_65 ?_
          refine lv_iload_n hx hb dX7_deliver_68 rfl (lv_at hl 2 rfl) ?_
          refine m_zald hx hb hK hP (k := 5) (by decide) (f := (U.1 6)) rfl (i := q) (by omega) (by decide) dX7_deliver_69 ?_
          refine lv_if_eq (tgt := 80) hx hb dX7_deliver_70 (by decide) (fun c4 => ?_) (fun c4 => ?_)
          · refine lv_aload_n hx hb dX7_deliver_80 rfl (lv_at hl 1 rfl) ?_
            refine m_get hx hb hts inX7 hown hK hP (ci := 7) rfl (k := 0) (by decide) rfl 6 (by decide) (hts (.fieldLink RX7 22 "RollbackPairModel" "took" "[Z") (by decide +kernel)) rfl dX7_deliver_81 ?_
            refine lv_iload_n hx hb dX7_deliver_84 rfl (lv_at hl 2 rfl) ?_
            refine lv_iconst (v := nI 1) hx hb dX7_deliver_85 (by decide) ?_
            refine m_zast hx hb hK hP hJ hS (k := 5) (by decide) (f := (U.1 6)) rfl (i := q) (y := nI 1) (by omega) (by decide) rfl dX7_deliver_86 (fun H locs hP hS => ?_)
            rw [mm_up6] at hP
            refine lv_aload_n hx hb dX7_deliver_87 rfl (lv_at hl 1 rfl) ?_
            refine m_get hx hb hts inX7 hown hK hP (ci := 7) rfl (k := 0) (by decide) rfl 7 (by decide) (hts (.fieldLink RX7 26 "RollbackPairModel" "latest" "[S") (by decide +kernel)) rfl dX7_deliver_88 ?_
            refine lv_iload_n hx hb dX7_deliver_91 rfl (lv_at hl 2 rfl) ?_
            refine lv_aload_n hx hb dX7_deliver_92 rfl (lv_at hl 1 rfl) ?_
            refine m_get hx hb hts inX7 hown hK hP (ci := 7) rfl (k := 0) (by decide) rfl 20 (by decide) (hts (.fieldLink RX7 68 "RollbackPairModel" "pNumber" "[S") (by decide +kernel)) rfl dX7_deliver_93 ?_
            refine lv_bipush (v := nI 24) hx hb dX7_deliver_96 (by decide) ?_
            refine m_sald hx hb hK hP (k := 19) (by decide) (f := (U.1 20)) rfl (i := 24) (by omega) (by decide) dX7_deliver_98 ?_
            refine m_sast hx hb hK hP hJ hS (k := 6) (by decide) (f := (U.1 7)) rfl (i := q) (y := U.1 20 24) (by omega) (by decide) (g1 24) dX7_deliver_99 (fun H locs hP hS => ?_)
            rw [mm_up7] at hP
            refine lv_aload_n hx hb dX7_deliver_100 rfl (lv_at hl 1 rfl) ?_
            refine m_get hx hb hts inX7 hown hK hP (ci := 7) rfl (k := 0) (by decide) rfl 3 (by decide) (hts (.fieldLink RX7 13 "RollbackPairModel" "stalls" "[I") (by decide +kernel)) rfl dX7_deliver_101 ?_
            refine lv_iload_n hx hb dX7_deliver_104 rfl (lv_at hl 2 rfl) ?_
            refine lv_iconst (v := nI 0) hx hb dX7_deliver_105 (by decide) ?_
            refine m_iast hx hb hK hP hJ hS (k := 2) (by decide) (f := (U.1 3)) rfl (i := q) (by omega) (by decide) dX7_deliver_106 (fun H locs hP hS => ?_)
            rw [mm_up3] at hP
            refine lv_aload_n hx hb dX7_deliver_107 rfl (lv_at hl 1 rfl) ?_
            refine m_get hx hb hts inX7 hown hK hP (ci := 7) rfl (k := 0) (by decide) rfl 9 (by decide) (hts (.fieldLink RX7 33 "RollbackPairModel" "advice" "[F") (by decide +kernel)) rfl dX7_deliver_108 ?_
            refine lv_iload_n hx hb dX7_deliver_111 rfl (lv_at hl 2 rfl) ?_
            refine lv_aload_n hx hb dX7_deliver_112 rfl (lv_at hl 1 rfl) ?_
            refine m_get hx hb hts inX7 hown hK hP (ci := 7) rfl (k := 0) (by decide) rfl 9 (by decide) (hts (.fieldLink RX7 33 "RollbackPairModel" "advice" "[F") (by decide +kernel)) rfl dX7_deliver_113 ?_
            refine lv_iload_n hx hb dX7_deliver_116 rfl (lv_at hl 2 rfl) ?_
            refine m_fald hx hb hK hP (k := 8) (by decide) (f := (U.2.1 9)) rfl (i := q) (by omega) (by decide) dX7_deliver_117 ?_
            refine lv_ldcf hx hb hown (hts (.constantFloat RX7 146 (1061158912)) (by decide +kernel)) dX7_deliver_118 ?_
            refine lv_fmul hx hb dX7_deliver_120 (av_1 g6).n ?_
            refine lv_ldcf hx hb hown (hts (.constantFloat RX7 147 (1048576000)) (by decide +kernel)) dX7_deliver_121 ?_
            refine lv_aload_n hx hb dX7_deliver_123 rfl (lv_at hl 1 rfl) ?_
            refine m_get hx hb hts inX7 hown hK hP (ci := 7) rfl (k := 0) (by decide) rfl 2 (by decide) (hts (.fieldLink RX7 7 "RollbackPairModel" "at" "[I") (by decide +kernel)) rfl dX7_deliver_124 ?_
            refine lv_iload_n hx hb dX7_deliver_127 rfl (lv_at hl 2 rfl) ?_
            refine m_iald hx hb hK hP (k := 1) (by decide) (f := (U.1 2)) rfl (i := q) (by omega) (by decide) dX7_deliver_128 ?_
            refine lv_aload_n hx hb dX7_deliver_129 rfl (lv_at hl 1 rfl) ?_
            refine m_get hx hb hts inX7 hown hK hP (ci := 7) rfl (k := 0) (by decide) rfl 21 (by decide) (hts (.fieldLink RX7 71 "RollbackPairModel" "pFrame" "[I") (by decide +kernel)) rfl dX7_deliver_130 ?_
            refine lv_bipush (v := nI 24) hx hb dX7_deliver_133 (by decide) ?_
            refine m_iald hx hb hK hP (k := 20) (by decide) (f := (U.1 21)) rfl (i := 24) (by omega) (by decide) dX7_deliver_135 ?_
            refine lv_isub hx hb dX7_deliver_136 ?_
            refine lv_i2f hx hb dX7_deliver_137 ?_
            refine lv_fmul hx hb dX7_deliver_138 (av_2 (i2f_b _)).n ?_
            refine lv_fadd hx hb dX7_deliver_139 (av_3 g6 (i2f_b _)).n ?_
            refine m_fast hx hb hK hP hJ hS (k := 8) (by decide) (f := (U.2.1 9)) rfl (i := q) (by omega) (by decide) dX7_deliver_140 (fun H locs hP hS => ?_)
            rw [mm_up9] at hP
            refine lv_aload_n hx hb dX7_deliver_141 rfl (lv_at hl 1 rfl) ?_
            refine m_get hx hb hts inX7 hown hK hP (ci := 7) rfl (k := 0) (by decide) rfl 22 (by decide) (hts (.fieldLink RX7 74 "RollbackPairModel" "pAck" "[I") (by decide +kernel)) rfl dX7_deliver_142 ?_
            refine lv_bipush (v := nI 24) hx hb dX7_deliver_145 (by decide) ?_
            refine m_iald hx hb hK hP (k := 21) (by decide) (f := (U.1 22)) rfl (i := 24) (by omega) (by decide) dX7_deliver_147 ?_
            refine lv_aload_n hx hb dX7_deliver_148 rfl (lv_at hl 1 rfl) ?_
            refine m_get hx hb hts inX7 hown hK hP (ci := 7) rfl (k := 0) (by decide) rfl 5 (by decide) (hts (.fieldLink RX7 19 "RollbackPairModel" "told" "[I") (by decide +kernel)) rfl dX7_deliver_149 ?_
            refine lv_iload_n hx hb dX7_deliver_152 rfl (lv_at hl 2 rfl) ?_
            refine m_iald hx hb hK hP (k := 4) (by decide) (f := (U.1 5)) rfl (i := q) (by omega) (by decide) dX7_deliver_153 ?_
            refine lv_icmp_le (tgt := 190) hx hb dX7_deliver_154 (by decide) (fun c6 => ?_) (fun c6 => ?_)
            · have hnd : ¬ dropP U q := fun z => z.elim c2n (fun z => z.elim c3 (fun z => z.1 c4))
              have hE : mAcc U q = mTk1 U q := if_neg (fun z => z.1 c6)
              exact J () ls H locs ⟨hnd, lv_sub hl [1, 2] rfl, by rw [hE]; exact hP, hS⟩
            · refine lv_aload_n hx hb dX7_deliver_157 rfl (lv_at hl 1 rfl) ?_
              refine m_get hx hb hts inX7 hown hK hP (ci := 7) rfl (k := 0) (by decide) rfl 22 (by decide) (hts (.fieldLink RX7 74 "RollbackPairModel" "pAck" "[I") (by decide +kernel)) rfl dX7_deliver_158 ?_
              refine lv_bipush (v := nI 24) hx hb dX7_deliver_161 (by decide) ?_
              refine m_iald hx hb hK hP (k := 21) (by decide) (f := (U.1 22)) rfl (i := 24) (by omega) (by decide) dX7_deliver_163 ?_
              refine lv_aload_n hx hb dX7_deliver_164 rfl (lv_at hl 1 rfl) ?_
              refine m_get hx hb hts inX7 hown hK hP (ci := 7) rfl (k := 0) (by decide) rfl 12 (by decide) (hts (.fieldLink RX7 43 "RollbackPairModel" "known" "[I") (by decide +kernel)) rfl dX7_deliver_165 ?_
              refine lv_iconst (v := nI 2) hx hb dX7_deliver_168 (by decide) ?_
              refine lv_iload_n hx hb dX7_deliver_169 rfl (lv_at hl 2 rfl) ?_
              refine n_mul hx hb dX7_deliver_170 ?_
              refine lv_iload_n hx hb dX7_deliver_171 rfl (lv_at hl 2 rfl) ?_
              refine n_add hx hb dX7_deliver_172 ?_
              refine m_iald hx hb hK hP (k := 11) (by decide) (f := (U.1 12)) rfl (i := 2 * q + q) (by omega) (by decide) dX7_deliver_173 ?_
              refine lv_icmp_gt (tgt := 190) hx hb dX7_deliver_174 (by decide) (fun c7 => ?_) (fun c7 => ?_)
              · have hnd : ¬ dropP U q := fun z => z.elim c2n (fun z => z.elim c3 (fun z => z.1 c4))
                have hE : mAcc U q = mTk1 U q := if_neg (fun z => z.2 c7)
                exact J () ls H locs ⟨hnd, lv_sub hl [1, 2] rfl, by rw [hE]; exact hP, hS⟩
              · refine lv_aload_n hx hb dX7_deliver_177 rfl (lv_at hl 1 rfl) ?_
                refine m_get hx hb hts inX7 hown hK hP (ci := 7) rfl (k := 0) (by decide) rfl 5 (by decide) (hts (.fieldLink RX7 19 "RollbackPairModel" "told" "[I") (by decide +kernel)) rfl dX7_deliver_178 ?_
                refine lv_iload_n hx hb dX7_deliver_181 rfl (lv_at hl 2 rfl) ?_
                refine lv_aload_n hx hb dX7_deliver_182 rfl (lv_at hl 1 rfl) ?_
                refine m_get hx hb hts inX7 hown hK hP (ci := 7) rfl (k := 0) (by decide) rfl 22 (by decide) (hts (.fieldLink RX7 74 "RollbackPairModel" "pAck" "[I") (by decide +kernel)) rfl dX7_deliver_183 ?_
                refine lv_bipush (v := nI 24) hx hb dX7_deliver_186 (by decide) ?_
                refine m_iald hx hb hK hP (k := 21) (by decide) (f := (U.1 22)) rfl (i := 24) (by omega) (by decide) dX7_deliver_188 ?_
                refine m_iast hx hb hK hP hJ hS (k := 4) (by decide) (f := (U.1 5)) rfl (i := q) (by omega) (by decide) dX7_deliver_189 (fun H locs hP hS => ?_)
                rw [mm_up5] at hP
                have hnd : ¬ dropP U q := fun z => z.elim c2n (fun z => z.elim c3 (fun z => z.1 c4))
                have hE : mAcc U q = sI (mTk1 U q) 5 (upd (U.1 5) q (U.1 22 24)) := if_pos ⟨c6, c7⟩
                exact J () ls H locs ⟨hnd, lv_sub hl [1, 2] rfl, by rw [hE]; exact hP, hS⟩
          · refine lv_iload_n hx hb dX7_deliver_73 rfl (lv_at hl 0 rfl) ?_
            refine lv_if_gt (tgt := 80) hx hb dX7_deliver_74 (by decide) (fun c5 => ?_) (fun c5 => ?_)
            · refine lv_aload_n hx hb dX7_deliver_80 rfl (lv_at hl 1 rfl) ?_
              refine m_get hx hb hts inX7 hown hK hP (ci := 7) rfl (k := 0) (by decide) rfl 6 (by decide) (hts (.fieldLink RX7 22 "RollbackPairModel" "took" "[Z") (by decide +kernel)) rfl dX7_deliver_81 ?_
              refine lv_iload_n hx hb dX7_deliver_84 rfl (lv_at hl 2 rfl) ?_
              refine lv_iconst (v := nI 1) hx hb dX7_deliver_85 (by decide) ?_
              refine m_zast hx hb hK hP hJ hS (k := 5) (by decide) (f := (U.1 6)) rfl (i := q) (y := nI 1) (by omega) (by decide) rfl dX7_deliver_86 (fun H locs hP hS => ?_)
              rw [mm_up6] at hP
              refine lv_aload_n hx hb dX7_deliver_87 rfl (lv_at hl 1 rfl) ?_
              refine m_get hx hb hts inX7 hown hK hP (ci := 7) rfl (k := 0) (by decide) rfl 7 (by decide) (hts (.fieldLink RX7 26 "RollbackPairModel" "latest" "[S") (by decide +kernel)) rfl dX7_deliver_88 ?_
              refine lv_iload_n hx hb dX7_deliver_91 rfl (lv_at hl 2 rfl) ?_
              refine lv_aload_n hx hb dX7_deliver_92 rfl (lv_at hl 1 rfl) ?_
              refine m_get hx hb hts inX7 hown hK hP (ci := 7) rfl (k := 0) (by decide) rfl 20 (by decide) (hts (.fieldLink RX7 68 "RollbackPairModel" "pNumber" "[S") (by decide +kernel)) rfl dX7_deliver_93 ?_
              refine lv_bipush (v := nI 24) hx hb dX7_deliver_96 (by decide) ?_
              refine m_sald hx hb hK hP (k := 19) (by decide) (f := (U.1 20)) rfl (i := 24) (by omega) (by decide) dX7_deliver_98 ?_
              refine m_sast hx hb hK hP hJ hS (k := 6) (by decide) (f := (U.1 7)) rfl (i := q) (y := U.1 20 24) (by omega) (by decide) (g1 24) dX7_deliver_99 (fun H locs hP hS => ?_)
              rw [mm_up7] at hP
              refine lv_aload_n hx hb dX7_deliver_100 rfl (lv_at hl 1 rfl) ?_
              refine m_get hx hb hts inX7 hown hK hP (ci := 7) rfl (k := 0) (by decide) rfl 3 (by decide) (hts (.fieldLink RX7 13 "RollbackPairModel" "stalls" "[I") (by decide +kernel)) rfl dX7_deliver_101 ?_
              refine lv_iload_n hx hb dX7_deliver_104 rfl (lv_at hl 2 rfl) ?_
              refine lv_iconst (v := nI 0) hx hb dX7_deliver_105 (by decide) ?_
              refine m_iast hx hb hK hP hJ hS (k := 2) (by decide) (f := (U.1 3)) rfl (i := q) (by omega) (by decide) dX7_deliver_106 (fun H locs hP hS => ?_)
              rw [mm_up3] at hP
              refine lv_aload_n hx hb dX7_deliver_107 rfl (lv_at hl 1 rfl) ?_
              refine m_get hx hb hts inX7 hown hK hP (ci := 7) rfl (k := 0) (by decide) rfl 9 (by decide) (hts (.fieldLink RX7 33 "RollbackPairModel" "advice" "[F") (by decide +kernel)) rfl dX7_deliver_108 ?_
              refine lv_iload_n hx hb dX7_deliver_111 rfl (lv_at hl 2 rfl) ?_
              refine lv_aload_n hx hb dX7_deliver_112 rfl (lv_at hl 1 rfl) ?_
              refine m_get hx hb hts inX7 hown hK hP (ci := 7) rfl (k := 0) (by decide) rfl 9 (by decide) (hts (.fieldLink RX7 33 "RollbackPairModel" "advice" "[F") (by decide +kernel)) rfl dX7_deliver_113 ?_
              refine lv_iload_n hx hb dX7_deliver_116 rfl (lv_at hl 2 rfl) ?_
              refine m_fald hx hb hK hP (k := 8) (by decide) (f := (U.2.1 9)) rfl (i := q) (by omega) (by decide) dX7_deliver_117 ?_
              refine lv_ldcf hx hb hown (hts (.constantFloat RX7 146 (1061158912)) (by decide +kernel)) dX7_deliver_118 ?_
              refine lv_fmul hx hb dX7_deliver_120 (av_1 g6).n ?_
              refine lv_ldcf hx hb hown (hts (.constantFloat RX7 147 (1048576000)) (by decide +kernel)) dX7_deliver_121 ?_
              refine lv_aload_n hx hb dX7_deliver_123 rfl (lv_at hl 1 rfl) ?_
              refine m_get hx hb hts inX7 hown hK hP (ci := 7) rfl (k := 0) (by decide) rfl 2 (by decide) (hts (.fieldLink RX7 7 "RollbackPairModel" "at" "[I") (by decide +kernel)) rfl dX7_deliver_124 ?_
              refine lv_iload_n hx hb dX7_deliver_127 rfl (lv_at hl 2 rfl) ?_
              refine m_iald hx hb hK hP (k := 1) (by decide) (f := (U.1 2)) rfl (i := q) (by omega) (by decide) dX7_deliver_128 ?_
              refine lv_aload_n hx hb dX7_deliver_129 rfl (lv_at hl 1 rfl) ?_
              refine m_get hx hb hts inX7 hown hK hP (ci := 7) rfl (k := 0) (by decide) rfl 21 (by decide) (hts (.fieldLink RX7 71 "RollbackPairModel" "pFrame" "[I") (by decide +kernel)) rfl dX7_deliver_130 ?_
              refine lv_bipush (v := nI 24) hx hb dX7_deliver_133 (by decide) ?_
              refine m_iald hx hb hK hP (k := 20) (by decide) (f := (U.1 21)) rfl (i := 24) (by omega) (by decide) dX7_deliver_135 ?_
              refine lv_isub hx hb dX7_deliver_136 ?_
              refine lv_i2f hx hb dX7_deliver_137 ?_
              refine lv_fmul hx hb dX7_deliver_138 (av_2 (i2f_b _)).n ?_
              refine lv_fadd hx hb dX7_deliver_139 (av_3 g6 (i2f_b _)).n ?_
              refine m_fast hx hb hK hP hJ hS (k := 8) (by decide) (f := (U.2.1 9)) rfl (i := q) (by omega) (by decide) dX7_deliver_140 (fun H locs hP hS => ?_)
              rw [mm_up9] at hP
              refine lv_aload_n hx hb dX7_deliver_141 rfl (lv_at hl 1 rfl) ?_
              refine m_get hx hb hts inX7 hown hK hP (ci := 7) rfl (k := 0) (by decide) rfl 22 (by decide) (hts (.fieldLink RX7 74 "RollbackPairModel" "pAck" "[I") (by decide +kernel)) rfl dX7_deliver_142 ?_
              refine lv_bipush (v := nI 24) hx hb dX7_deliver_145 (by decide) ?_
              refine m_iald hx hb hK hP (k := 21) (by decide) (f := (U.1 22)) rfl (i := 24) (by omega) (by decide) dX7_deliver_147 ?_
              refine lv_aload_n hx hb dX7_deliver_148 rfl (lv_at hl 1 rfl) ?_
              refine m_get hx hb hts inX7 hown hK hP (ci := 7) rfl (k := 0) (by decide) rfl 5 (by decide) (hts (.fieldLink RX7 19 "RollbackPairModel" "told" "[I") (by decide +kernel)) rfl dX7_deliver_149 ?_
              refine lv_iload_n hx hb dX7_deliver_152 rfl (lv_at hl 2 rfl) ?_
              refine m_iald hx hb hK hP (k := 4) (by decide) (f := (U.1 5)) rfl (i := q) (by omega) (by decide) dX7_deliver_153 ?_
              refine lv_icmp_le (tgt := 190) hx hb dX7_deliver_154 (by decide) (fun c6 => ?_) (fun c6 => ?_)
              · have hnd : ¬ dropP U q := fun z => z.elim c2n (fun z => z.elim c3 (fun z => z.2 c5))
                have hE : mAcc U q = mTk1 U q := if_neg (fun z => z.1 c6)
                exact J () ls H locs ⟨hnd, lv_sub hl [1, 2] rfl, by rw [hE]; exact hP, hS⟩
              · refine lv_aload_n hx hb dX7_deliver_157 rfl (lv_at hl 1 rfl) ?_
                refine m_get hx hb hts inX7 hown hK hP (ci := 7) rfl (k := 0) (by decide) rfl 22 (by decide) (hts (.fieldLink RX7 74 "RollbackPairModel" "pAck" "[I") (by decide +kernel)) rfl dX7_deliver_158 ?_
                refine lv_bipush (v := nI 24) hx hb dX7_deliver_161 (by decide) ?_
                refine m_iald hx hb hK hP (k := 21) (by decide) (f := (U.1 22)) rfl (i := 24) (by omega) (by decide) dX7_deliver_163 ?_
                refine lv_aload_n hx hb dX7_deliver_164 rfl (lv_at hl 1 rfl) ?_
                refine m_get hx hb hts inX7 hown hK hP (ci := 7) rfl (k := 0) (by decide) rfl 12 (by decide) (hts (.fieldLink RX7 43 "RollbackPairModel" "known" "[I") (by decide +kernel)) rfl dX7_deliver_165 ?_
                refine lv_iconst (v := nI 2) hx hb dX7_deliver_168 (by decide) ?_
                refine lv_iload_n hx hb dX7_deliver_169 rfl (lv_at hl 2 rfl) ?_
                refine n_mul hx hb dX7_deliver_170 ?_
                refine lv_iload_n hx hb dX7_deliver_171 rfl (lv_at hl 2 rfl) ?_
                refine n_add hx hb dX7_deliver_172 ?_
                refine m_iald hx hb hK hP (k := 11) (by decide) (f := (U.1 12)) rfl (i := 2 * q + q) (by omega) (by decide) dX7_deliver_173 ?_
                refine lv_icmp_gt (tgt := 190) hx hb dX7_deliver_174 (by decide) (fun c7 => ?_) (fun c7 => ?_)
                · have hnd : ¬ dropP U q := fun z => z.elim c2n (fun z => z.elim c3 (fun z => z.2 c5))
                  have hE : mAcc U q = mTk1 U q := if_neg (fun z => z.2 c7)
                  exact J () ls H locs ⟨hnd, lv_sub hl [1, 2] rfl, by rw [hE]; exact hP, hS⟩
                · refine lv_aload_n hx hb dX7_deliver_177 rfl (lv_at hl 1 rfl) ?_
                  refine m_get hx hb hts inX7 hown hK hP (ci := 7) rfl (k := 0) (by decide) rfl 5 (by decide) (hts (.fieldLink RX7 19 "RollbackPairModel" "told" "[I") (by decide +kernel)) rfl dX7_deliver_178 ?_
                  refine lv_iload_n hx hb dX7_deliver_181 rfl (lv_at hl 2 rfl) ?_
                  refine lv_aload_n hx hb dX7_deliver_182 rfl (lv_at hl 1 rfl) ?_
                  refine m_get hx hb hts inX7 hown hK hP (ci := 7) rfl (k := 0) (by decide) rfl 22 (by decide) (hts (.fieldLink RX7 74 "RollbackPairModel" "pAck" "[I") (by decide +kernel)) rfl dX7_deliver_183 ?_
                  refine lv_bipush (v := nI 24) hx hb dX7_deliver_186 (by decide) ?_
                  refine m_iald hx hb hK hP (k := 21) (by decide) (f := (U.1 22)) rfl (i := 24) (by omega) (by decide) dX7_deliver_188 ?_
                  refine m_iast hx hb hK hP hJ hS (k := 4) (by decide) (f := (U.1 5)) rfl (i := q) (by omega) (by decide) dX7_deliver_189 (fun H locs hP hS => ?_)
                  rw [mm_up5] at hP
                  have hnd : ¬ dropP U q := fun z => z.elim c2n (fun z => z.elim c3 (fun z => z.2 c5))
                  have hE : mAcc U q = sI (mTk1 U q) 5 (upd (U.1 5) q (U.1 22 24)) := if_pos ⟨c6, c7⟩
                  exact J () ls H locs ⟨hnd, lv_sub hl [1, 2] rfl, by rw [hE]; exact hP, hS⟩
            · have hdr : dropP U q := Or.inr (Or.inr ⟨c4, c5⟩)
              refine lv_bipush (v := (-2)) hx hb dX7_deliver_77 (by decide) ?_
              exact r_i hx hb hr hlocks hK hP hS dX7_deliver_79 ⟨by unfold rDel2; rw [if_pos hdr], np, ns, by unfold mDel2; rw [if_pos hdr]⟩
  · refine lv_iconst (v := (-1)) hx hb dX7_deliver_16 (by decide) ?_
    have hz : S.1 19 q = 0 := by rw [hr0, c1]; exact nI_0
    exact r_i hx hb hr hlocks hK hP hS dX7_deliver_17 ⟨by unfold rDel; rw [if_pos hz], np, ns, by unfold mDel; rw [if_pos hz]⟩
