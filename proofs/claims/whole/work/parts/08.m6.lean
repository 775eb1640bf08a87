section RV
variable {p : Program} {l : Launch} {e : Env} {R : Room} {s : State} {m : MethodId} {args : Array Value} {below : List Frame} {meth : Method} {c : Code} {H : Heap} {locs : List Loc} {cells slots : Nat} {Q : State → Prop} {pc : Nat} {ls : Array Slot} {rest : List Value}
theorem j_val {x y : Int64} (h : x = y) (k : W p l e R s m args below meth c H locs cells slots Q (F0 m pc ls (.long y :: rest))) : W p l e R s m args below meth c H locs cells slots Q (F0 m pc ls (.long x :: rest)) := by rw [h]; exact k
theorem f_val {x y : UInt32} (h : x = y) (k : W p l e R s m args below meth c H locs cells slots Q (F0 m pc ls (.float y :: rest))) : W p l e R s m args below meth c H locs cells slots Q (F0 m pc ls (.float x :: rest)) := by rw [h]; exact k
end RV
theorem updL_updL (f : Nat → Int64) (k : Nat) (a b : Int64) : vp_updL (vp_updL f k a) k b = vp_updL f k b := by
  funext j; unfold vp_updL; split <;> rfl
theorem upd_upd (f : Nat → Int32) (k : Nat) (a b : Int32) : upd (upd f k a) k b = upd f k b := by
  funext j; unfold upd; split <;> rfl
/-- the bits of the first n inputs from b on -/
def pkB (inp : Nat → Int32) (b : Nat) : Nat → Int64
  | 0 => 0
  | j + 1 => pkB inp b j ||| ((inp (b + j)).toInt64 <<< ((nI (3 * j)).toInt64 &&& 63))
/-- a packet of peer q in the place k, its check left out -/
def mFill (S : SS) (q k c : Nat) (b : Int64) : SS := sB (sI (sI (sI (sI (sI S 20 (upd (S.1 20) k (S.1 8 q))) 21 (upd (S.1 21) k (S.1 2 q))) 22 (upd (S.1 22) k (S.1 12 (2 * q + (1 - q))))) 23 (upd (S.1 23) k (S.1 5 q))) 24 (upd (S.1 24) k (nI c))) (vp_updL S.2.2.1 k b)
/-- a packet of peer q goes into the row to the other one -/
def mPut (S : SS) (q r c : Nat) (b : Int64) : SS := sI (sI (mFill S q (12 * (1 - q) + r) c b) 26 (upd (S.1 26) (12 * (1 - q) + r) (mChk (mFill S q (12 * (1 - q) + r) c b) (12 * (1 - q) + r)))) 19 (upd (S.1 19) (1 - q) (nI (r + 1)))
def mNum (U : SS) (q : Nat) : SS := sI U 8 (upd (U.1 8) q (U.1 8 q + nI 1).toInt16.toInt32)
def mSend (S : SS) (q : Nat) : SS :=
  if tn (S.1 19 (1 - q)) < 12 then mNum (mPut S q (tn (S.1 19 (1 - q))) (min 16 (tn (S.1 12 (2 * q + q)) - tn (S.1 5 q))) (pkB (S.1 10) (1200 * q + 600 * q + tn (S.1 5 q)) (min 16 (tn (S.1 12 (2 * q + q)) - tn (S.1 5 q))))) q
  else mNum S q
theorem mSend_eq {S : SS} {q r n t : Nat} (hr : S.1 19 (1 - q) = nI r) (hr2 : r ≤ 12) (hn : S.1 12 (2 * q + q) = nI n) (hn2 : n ≤ 600) (ht : S.1 5 q = nI t) (ht2 : t ≤ n) : mSend S q = if r < 12 then mNum (mPut S q r (min 16 (n - t)) (pkB (S.1 10) (1200 * q + 600 * q + t) (min 16 (n - t)))) q else mNum S q := by
  unfold mSend
  rw [hr, hn, ht, tn_nI (by omega), tn_nI (by omega), tn_nI (by omega)]
set_option maxHeartbeats 4000000 in
set_option maxRecDepth 100000 in
/-- send(q) -/
theorem c_send (l : Launch) (D : va_G) (cs : Nat → ClassId) (ad : Nat → Nat) (hJ : Inj ad 26) (d w : Int32) (S : SS) (np ns : UInt32) (q r n t : Nat) (hq : q < 2) (hr0 : S.1 19 (1 - q) = nI r) (hr2 : r ≤ 12) (hn : S.1 12 (2 * q + q) = nI n) (hn2 : n ≤ 600) (ht : S.1 5 q = nI t) (ht2 : t ≤ n) (hsh : sh (S.1 8 q)) : CTv l yX7_send wsX7_send ({ frames := 1, cells := 0, slots := 0, locals := 22 }) D cs ad 26 (mm ad cs d w S np ns) [.ref (ad 0), .int (nI q)] (fun M2 => M2 = mm ad cs d w (mSend S q) np ns) := by
  refine Met.ofW (cc := cX7_send) (maxL := 6) (ret := none) (by decide) rfl ?_
  intro p e s m args below meth c s₁ B hml hv
  obtain ⟨rfl, hP, hK⟩ := hv
  have hx := B.exec
  have hb := B.bytes
  have hr := B.returns
  have hts := atoms_spec (ws := wsX7_send) B.pre
  have hown : s.vm.findClass RX7 = some m.cls := findClass_of_methodNamed B.named
  have hlocks := B.notSynchronized
  have hS : va_S (Ad ad 26) s.heap s.heap [] := va_S.rf
  have hl := lv_entry ([.ref (ad 0), .int (nI q)]) (n := 6) (Nat.le_of_ble_eq_true rfl)
  rw [lg_entry_eq]
  generalize (lg_sl ([.ref (ad 0), .int (nI q)]) ++ List.replicate (6 - (lg_sl ([.ref (ad 0), .int (nI q)])).length) Slot.unset).toArray = ls at hl ⊢
  have hl : lv_has ls 6 [(0, .ref (ad 0)), (1, .int (nI q))] := hl
  have inX7 : ∀ w ∈ u_ws RX7 TX7 29, w ∈ wsX7_send := by decide +kernel
  rw [mSend_eq hr0 hr2 hn hn2 ht ht2]
  obtain ⟨k, hk⟩ : ∃ k, k = 12 * (1 - q) + r := ⟨_, rfl⟩
  obtain ⟨cn, hcn⟩ : ∃ cn, cn = min 16 (n - t) := ⟨_, rfl⟩
  have hcn2 : cn ≤ n - t := by omega
  refine lv_iconst (v := nI 1) hx hb dX7_send_0 (by decide) ?_
  refine lv_iload_n hx hb dX7_send_1 rfl (lv_at hl 1 rfl) ?_
  refine n_sub hx hb (by omega) dX7_send_2 ?_
  refine lv_istore_n (lv' := [(2, .int (nI (1 - q))), (0, .ref (ad 0)), (1, .int (nI q))]) hx hb dX7_send_3 rfl hl (by decide) rfl (fun ls hl => ?_)
  refine lv_aload_n hx hb dX7_send_4 rfl (lv_at hl 1 rfl) ?_
  refine m_get hx hb hts inX7 hown hK hP (ci := 7) rfl (k := 0) (by decide) rfl 19 (by decide) (hts (.fieldLink RX7 65 "RollbackPairModel" "rows" "[I") (by decide +kernel)) rfl dX7_send_5 ?_
  refine lv_iload_n hx hb dX7_send_8 rfl (lv_at hl 0 rfl) ?_
  refine m_iald hx hb hK hP (k := 18) (by decide) (f := (S.1 19)) rfl (i := 1 - q) (by omega) (by decide) dX7_send_9 ?_
  refine n_val hr0 ?_
  refine lv_bipush (v := nI 12) hx hb dX7_send_10 (by decide) ?_
  refine n_cmp_ge (tgt := 218) hx hb dX7_send_12 (by decide) (by omega) (by omega) (fun c1 => ?_) (fun c1 => ?_)
  · refine lv_aload_n hx hb dX7_send_218 rfl (lv_at hl 1 rfl) ?_
    refine m_get hx hb hts inX7 hown hK hP (ci := 7) rfl (k := 0) (by decide) rfl 8 (by decide) (hts (.fieldLink RX7 30 "RollbackPairModel" "number" "[S") (by decide +kernel)) rfl dX7_send_219 ?_
    refine lv_iload_n hx hb dX7_send_222 rfl (lv_at hl 2 rfl) ?_
    refine lv_dup2_11 hx hb dX7_send_223 rfl rfl ?_
    refine m_sald hx hb hK hP (k := 7) (by decide) (f := (S.1 8)) rfl (i := q) (by omega) (by decide) dX7_send_224 ?_
    refine lv_iconst (v := nI 1) hx hb dX7_send_225 (by decide) ?_
    refine lv_iadd hx hb dX7_send_226 ?_
    refine lv_i2s hx hb dX7_send_227 rfl ?_
    refine m_sast hx hb hK hP hJ hS (k := 7) (by decide) (f := (S.1 8)) rfl (i := q) (y := (S.1 8 q + nI 1).toInt16.toInt32) (by omega) (by decide) (pk_vs _) dX7_send_228 (fun H locs hP hS => ?_)
    rw [mm_up8] at hP
    exact r_v hx hb hr hlocks hK hP hS dX7_send_229 (by rw [if_neg (by omega)]; rfl)
  · refine lv_bipush (v := nI 12) hx hb dX7_send_15 (by decide) ?_
    refine lv_iload_n hx hb dX7_send_17 rfl (lv_at hl 0 rfl) ?_
    refine n_mul hx hb dX7_send_18 ?_
    refine lv_aload_n hx hb dX7_send_19 rfl (lv_at hl 1 rfl) ?_
    refine m_get hx hb hts inX7 hown hK hP (ci := 7) rfl (k := 0) (by decide) rfl 19 (by decide) (hts (.fieldLink RX7 65 "RollbackPairModel" "rows" "[I") (by decide +kernel)) rfl dX7_send_20 ?_
    refine lv_iload_n hx hb dX7_send_23 rfl (lv_at hl 0 rfl) ?_
    refine m_iald hx hb hK hP (k := 18) (by decide) (f := (S.1 19)) rfl (i := 1 - q) (by omega) (by decide) dX7_send_24 ?_
    refine n_val hr0 ?_
    refine n_add hx hb dX7_send_25 ?_
    refine n_val (congrArg nI hk.symm) ?_
    have hk2 : k < 24 := by omega
    refine lv_istore_n (lv' := [(3, .int (nI k)), (2, .int (nI (1 - q))), (0, .ref (ad 0)), (1, .int (nI q))]) hx hb dX7_send_26 rfl hl (by decide) rfl (fun ls hl => ?_)
    refine lv_aload_n hx hb dX7_send_27 rfl (lv_at hl 2 rfl) ?_
    refine m_get hx hb hts inX7 hown hK hP (ci := 7) rfl (k := 0) (by decide) rfl 12 (by decide) (hts (.fieldLink RX7 43 "RollbackPairModel" "known" "[I") (by decide +kernel)) rfl dX7_send_28 ?_
    refine lv_iconst (v := nI 2) hx hb dX7_send_31 (by decide) ?_
    refine lv_iload_n hx hb dX7_send_32 rfl (lv_at hl 3 rfl) ?_
    refine n_mul hx hb dX7_send_33 ?_
    refine lv_iload_n hx hb dX7_send_34 rfl (lv_at hl 3 rfl) ?_
    refine n_add hx hb dX7_send_35 ?_
    refine m_iald hx hb hK hP (k := 11) (by decide) (f := (S.1 12)) rfl (i := 2 * q + q) (by omega) (by decide) dX7_send_36 ?_
    refine n_val hn ?_
    refine lv_istore (lv' := [(4, .int (nI n)), (3, .int (nI k)), (2, .int (nI (1 - q))), (0, .ref (ad 0)), (1, .int (nI q))]) hx hb dX7_send_37 hl (by decide) rfl (fun ls hl => ?_)
    refine lv_aload_n hx hb dX7_send_39 rfl (lv_at hl 3 rfl) ?_
    refine m_get hx hb hts inX7 hown hK hP (ci := 7) rfl (k := 0) (by decide) rfl 20 (by decide) (hts (.fieldLink RX7 68 "RollbackPairModel" "pNumber" "[S") (by decide +kernel)) rfl dX7_send_40 ?_
    refine lv_iload_n hx hb dX7_send_43 rfl (lv_at hl 1 rfl) ?_
    refine lv_aload_n hx hb dX7_send_44 rfl (lv_at hl 3 rfl) ?_
    refine m_get hx hb hts inX7 hown hK hP (ci := 7) rfl (k := 0) (by decide) rfl 8 (by decide) (hts (.fieldLink RX7 30 "RollbackPairModel" "number" "[S") (by decide +kernel)) rfl dX7_send_45 ?_
    refine lv_iload_n hx hb dX7_send_48 rfl (lv_at hl 4 rfl) ?_
    refine m_sald hx hb hK hP (k := 7) (by decide) (f := (S.1 8)) rfl (i := q) (by omega) (by decide) dX7_send_49 ?_
    refine m_sast hx hb hK hP hJ hS (k := 19) (by decide) (f := (S.1 20)) rfl (i := k) (y := S.1 8 q) (by omega) (by decide) hsh dX7_send_50 (fun H locs hP hS => ?_)
    rw [mm_up20] at hP
    refine lv_aload_n hx hb dX7_send_51 rfl (lv_at hl 3 rfl) ?_
    refine m_get hx hb hts inX7 hown hK hP (ci := 7) rfl (k := 0) (by decide) rfl 21 (by decide) (hts (.fieldLink RX7 71 "RollbackPairModel" "pFrame" "[I") (by decide +kernel)) rfl dX7_send_52 ?_
    refine lv_iload_n hx hb dX7_send_55 rfl (lv_at hl 1 rfl) ?_
    refine lv_aload_n hx hb dX7_send_56 rfl (lv_at hl 3 rfl) ?_
    refine m_get hx hb hts inX7 hown hK hP (ci := 7) rfl (k := 0) (by decide) rfl 2 (by decide) (hts (.fieldLink RX7 7 "RollbackPairModel" "at" "[I") (by decide +kernel)) rfl dX7_send_57 ?_
    refine lv_iload_n hx hb dX7_send_60 rfl (lv_at hl 4 rfl) ?_
    refine m_iald hx hb hK hP (k := 1) (by decide) (f := (S.1 2)) rfl (i := q) (by omega) (by decide) dX7_send_61 ?_
    refine m_iast hx hb hK hP hJ hS (k := 20) (by decide) (f := (S.1 21)) rfl (i := k) (by omega) (by decide) dX7_send_62 (fun H locs hP hS => ?_)
    rw [mm_up21] at hP
    refine lv_aload_n hx hb dX7_send_63 rfl (lv_at hl 3 rfl) ?_
    refine m_get hx hb hts inX7 hown hK hP (ci := 7) rfl (k := 0) (by decide) rfl 22 (by decide) (hts (.fieldLink RX7 74 "RollbackPairModel" "pAck" "[I") (by decide +kernel)) rfl dX7_send_64 ?_
    refine lv_iload_n hx hb dX7_send_67 rfl (lv_at hl 1 rfl) ?_
    refine lv_aload_n hx hb dX7_send_68 rfl (lv_at hl 3 rfl) ?_
    refine m_get hx hb hts inX7 hown hK hP (ci := 7) rfl (k := 0) (by decide) rfl 12 (by decide) (hts (.fieldLink RX7 43 "RollbackPairModel" "known" "[I") (by decide +kernel)) rfl dX7_send_69 ?_
    refine lv_iconst (v := nI 2) hx hb dX7_send_72 (by decide) ?_
    refine lv_iload_n hx hb dX7_send_73 rfl (lv_at hl 4 rfl) ?_
    refine n_mul hx hb dX7_send_74 ?_
    refine lv_iload_n hx hb dX7_send_75 rfl (lv_at hl 2 rfl) ?_
    refine n_add hx hb dX7_send_76 ?_
    refine m_iald hx hb hK hP (k := 11) (by decide) (f := (S.1 12)) rfl (i := 2 * q + (1 - q)) (by omega) (by decide) dX7_send_77 ?_
    refine m_iast hx hb hK hP hJ hS (k := 21) (by decide) (f := (S.1 22)) rfl (i := k) (by omega) (by decide) dX7_send_78 (fun H locs hP hS => ?_)
    rw [mm_up22] at hP
    refine lv_aload_n hx hb dX7_send_79 rfl (lv_at hl 3 rfl) ?_
    refine m_get hx hb hts inX7 hown hK hP (ci := 7) rfl (k := 0) (by decide) rfl 23 (by decide) (hts (.fieldLink RX7 77 "RollbackPairModel" "pFirst" "[I") (by decide +kernel)) rfl dX7_send_80 ?_
    refine lv_iload_n hx hb dX7_send_83 rfl (lv_at hl 1 rfl) ?_
    refine lv_aload_n hx hb dX7_send_84 rfl (lv_at hl 3 rfl) ?_
    refine m_get hx hb hts inX7 hown hK hP (ci := 7) rfl (k := 0) (by decide) rfl 5 (by decide) (hts (.fieldLink RX7 19 "RollbackPairModel" "told" "[I") (by decide +kernel)) rfl dX7_send_85 ?_
    refine lv_iload_n hx hb dX7_send_88 rfl (lv_at hl 4 rfl) ?_
    refine m_iald hx hb hK hP (k := 4) (by decide) (f := (S.1 5)) rfl (i := q) (by omega) (by decide) dX7_send_89 ?_
    refine m_iast hx hb hK hP hJ hS (k := 22) (by decide) (f := (S.1 23)) rfl (i := k) (by omega) (by decide) dX7_send_90 (fun H locs hP hS => ?_)
    rw [mm_up23] at hP
    refine lv_aload_n hx hb dX7_send_91 rfl (lv_at hl 3 rfl) ?_
    refine m_get hx hb hts inX7 hown hK hP (ci := 7) rfl (k := 0) (by decide) rfl 24 (by decide) (hts (.fieldLink RX7 80 "RollbackPairModel" "pCount" "[I") (by decide +kernel)) rfl dX7_send_92 ?_
    refine lv_iload_n hx hb dX7_send_95 rfl (lv_at hl 1 rfl) ?_
    refine lv_iload hx hb dX7_send_96 (lv_at hl 0 rfl) ?_
    refine lv_aload_n hx hb dX7_send_98 rfl (lv_at hl 3 rfl) ?_
    refine m_get hx hb hts inX7 hown hK hP (ci := 7) rfl (k := 0) (by decide) rfl 5 (by decide) (hts (.fieldLink RX7 19 "RollbackPairModel" "told" "[I") (by decide +kernel)) rfl dX7_send_99 ?_
    refine lv_iload_n hx hb dX7_send_102 rfl (lv_at hl 4 rfl) ?_
    refine m_iald hx hb hK hP (k := 4) (by decide) (f := (S.1 5)) rfl (i := q) (by omega) (by decide) dX7_send_103 ?_
    refine n_val ht ?_
    refine n_sub hx hb ht2 dX7_send_104 ?_
    refine lv_bipush (v := nI 16) hx hb dX7_send_105 (by decide) ?_
    refine jn (fun (_ : Unit) ls => lv_has ls 6 [(3, .int (nI k)), (2, .int (nI (1 - q))), (4, .int (nI n)), (0, .ref (ad 0)), (1, .int (nI q))]) 124 (fun _ => [.int (nI cn), .int (nI k), .ref (ad 23)]) (fun _ ls hl => ?_) (fun J => ?_)
    · refine m_iast hx hb hK hP hJ hS (k := 23) (by decide) (f := (S.1 24)) rfl (i := k) (by omega) (by decide) dX7_send_124 (fun H locs hP hS => ?_)
      rw [mm_up24] at hP
      refine lv_aload_n hx hb dX7_send_125 rfl (lv_at hl 3 rfl) ?_
      refine m_get hx hb hts inX7 hown hK hP (ci := 7) rfl (k := 0) (by decide) rfl 25 (by decide) (hts (.fieldLink RX7 83 "RollbackPairModel" "pBits" "[J") (by decide +kernel)) rfl dX7_send_126 ?_
      refine lv_iload_n hx hb dX7_send_129 rfl (lv_at hl 0 rfl) ?_
      refine lv_lconst (v := 0) hx hb dX7_send_130 (by decide) ?_
      refine m_last hx hb hK hP hJ hS (k := 24) (by decide) (f := S.2.2.1) rfl (i := k) (by omega) (by decide) dX7_send_131 (fun H locs hP hS => ?_)
      rw [mm_up25] at hP
      refine lv_iconst (v := nI 0) hx hb dX7_send_132 (by decide) ?_
      refine lv_istore (lv' := [(5, .int (nI 0)), (3, .int (nI k)), (2, .int (nI (1 - q))), (4, .int (nI n)), (0, .ref (ad 0)), (1, .int (nI q))]) hx hb dX7_send_133 hl (by decide) rfl (fun ls hl => ?_)
      refine lpW (fun i (j : Nat) ls H locs => j ≤ cn ∧ i = cn - j ∧ lv_has ls 6 [(5, .int (nI j)), (3, .int (nI k)), (2, .int (nI (1 - q))), (0, .ref (ad 0)), (1, .int (nI q))] ∧ va_P D vwCl (sg ad 26 (mm ad cs d w (mFill S q k cn (pkB (S.1 10) (1200 * q + 600 * q + t) j)) np ns)) H ∧ va_S (Ad ad 26) s.heap H locs) 135 (fun _ => []) (fun i j ls H locs hC ih => ?_) cn 0 ls _ _ ⟨Nat.zero_le _, rfl, lv_sub hl [0, 1, 2, 4, 5] rfl, hP, hS⟩
      obtain ⟨hj, hi, hl, hP, hS⟩ := hC
      refine lv_iload hx hb dX7_send_135 (lv_at hl 0 rfl) ?_
      refine lv_aload_n hx hb dX7_send_137 rfl (lv_at hl 3 rfl) ?_
      refine m_get hx hb hts inX7 hown hK hP (ci := 7) rfl (k := 0) (by decide) rfl 24 (by decide) (hts (.fieldLink RX7 80 "RollbackPairModel" "pCount" "[I") (by decide +kernel)) rfl dX7_send_138 ?_
      refine lv_iload_n hx hb dX7_send_141 rfl (lv_at hl 1 rfl) ?_
      refine m_iald hx hb hK hP (k := 23) (by decide) (f := (upd (S.1 24) k (nI cn))) rfl (i := k) (by omega) (by decide) dX7_send_142 ?_
      refine n_val (if_pos rfl) ?_
      refine n_cmp_ge (tgt := 197) hx hb dX7_send_143 (by decide) (by omega) (by omega) (fun c3 => ?_) (fun c3 => ?_)
      · have hjc : j = cn := by omega
        subst hjc
        refine lv_aload_n hx hb dX7_send_197 rfl (lv_at hl 3 rfl) ?_
        refine m_get hx hb hts inX7 hown hK hP (ci := 7) rfl (k := 0) (by decide) rfl 26 (by decide) (hts (.fieldLink RX7 87 "RollbackPairModel" "pCheck" "[I") (by decide +kernel)) rfl dX7_send_198 ?_
        refine lv_iload_n hx hb dX7_send_201 rfl (lv_at hl 1 rfl) ?_
        refine lv_aload_n hx hb dX7_send_202 rfl (lv_at hl 3 rfl) ?_
        refine lv_iload_n hx hb dX7_send_203 rfl (lv_at hl 1 rfl) ?_
        refine k_Vi (As := [.int (nI k)]) (rest := [.int (nI k), .ref (ad 25)]) (k := 0) (ci := 7) ⟨hx, hb, hml, hown, hts⟩ hK hP hS Ad_le (c_check l D cs ad hJ d w (mFill S q k j (pkB (S.1 10) (1200 * q + 600 * q + t) j)) np ns k (by omega)) (cwV 1 hts gX7_send_X7_check rfl rfl rfl (by decide +kernel) ⟨Nat.le_of_ble_eq_true rfl, Nat.le_of_ble_eq_true rfl⟩) (by decide) rfl rfl rfl rfl hl.1 (Nat.le_of_ble_eq_true rfl) dX7_send_204 ⟨Nat.le_of_ble_eq_true rfl, Nat.le_of_ble_eq_true rfl⟩ (fun r_1 M1 H locs hpo hP hS _ _ => ?_)
        obtain ⟨rfl, rfl⟩ := hpo
        refine m_iast hx hb hK hP hJ hS (k := 25) (by decide) (f := (S.1 26)) rfl (i := k) (by omega) (by decide) dX7_send_207 (fun H locs hP hS => ?_)
        rw [mm_up26] at hP
        refine lv_aload_n hx hb dX7_send_208 rfl (lv_at hl 3 rfl) ?_
        refine m_get hx hb hts inX7 hown hK hP (ci := 7) rfl (k := 0) (by decide) rfl 19 (by decide) (hts (.fieldLink RX7 65 "RollbackPairModel" "rows" "[I") (by decide +kernel)) rfl dX7_send_209 ?_
        refine lv_iload_n hx hb dX7_send_212 rfl (lv_at hl 2 rfl) ?_
        refine lv_dup2_11 hx hb dX7_send_213 rfl rfl ?_
        refine m_iald hx hb hK hP (k := 18) (by decide) (f := (S.1 19)) rfl (i := 1 - q) (by omega) (by decide) dX7_send_214 ?_
        refine n_val hr0 ?_
        refine lv_iconst (v := nI 1) hx hb dX7_send_215 (by decide) ?_
        refine n_add hx hb dX7_send_216 ?_
        refine m_iast hx hb hK hP hJ hS (k := 18) (by decide) (f := (S.1 19)) rfl (i := 1 - q) (by omega) (by decide) dX7_send_217 (fun H locs hP hS => ?_)
        rw [mm_up19] at hP
        refine lv_aload_n hx hb dX7_send_218 rfl (lv_at hl 3 rfl) ?_
        refine m_get hx hb hts inX7 hown hK hP (ci := 7) rfl (k := 0) (by decide) rfl 8 (by decide) (hts (.fieldLink RX7 30 "RollbackPairModel" "number" "[S") (by decide +kernel)) rfl dX7_send_219 ?_
        refine lv_iload_n hx hb dX7_send_222 rfl (lv_at hl 4 rfl) ?_
        refine lv_dup2_11 hx hb dX7_send_223 rfl rfl ?_
        refine m_sald hx hb hK hP (k := 7) (by decide) (f := (S.1 8)) rfl (i := q) (by omega) (by decide) dX7_send_224 ?_
        refine lv_iconst (v := nI 1) hx hb dX7_send_225 (by decide) ?_
        refine lv_iadd hx hb dX7_send_226 ?_
        refine lv_i2s hx hb dX7_send_227 rfl ?_
        refine m_sast hx hb hK hP hJ hS (k := 7) (by decide) (f := (S.1 8)) rfl (i := q) (y := (S.1 8 q + nI 1).toInt16.toInt32) (by omega) (by decide) (pk_vs _) dX7_send_228 (fun H locs hP hS => ?_)
        rw [mm_up8] at hP
        subst hk
        exact r_v hx hb hr hlocks hK hP hS dX7_send_229 (by rw [if_pos c1, ← hcn]; rfl)
      · refine lv_aload_n hx hb dX7_send_146 rfl (lv_at hl 3 rfl) ?_
        refine m_get hx hb hts inX7 hown hK hP (ci := 7) rfl (k := 0) (by decide) rfl 25 (by decide) (hts (.fieldLink RX7 83 "RollbackPairModel" "pBits" "[J") (by decide +kernel)) rfl dX7_send_147 ?_
        refine lv_iload_n hx hb dX7_send_150 rfl (lv_at hl 1 rfl) ?_
        refine lv_aload_n hx hb dX7_send_151 rfl (lv_at hl 3 rfl) ?_
        refine m_get hx hb hts inX7 hown hK hP (ci := 7) rfl (k := 0) (by decide) rfl 25 (by decide) (hts (.fieldLink RX7 83 "RollbackPairModel" "pBits" "[J") (by decide +kernel)) rfl dX7_send_152 ?_
        refine lv_iload_n hx hb dX7_send_155 rfl (lv_at hl 1 rfl) ?_
        refine m_lald hx hb hK hP (k := 24) (by decide) (f := (vp_updL S.2.2.1 k (pkB (S.1 10) (1200 * q + 600 * q + t) j))) rfl (i := k) (by omega) (by decide) dX7_send_156 ?_
        refine j_val (if_pos rfl) ?_
        refine lv_aload_n hx hb dX7_send_157 rfl (lv_at hl 3 rfl) ?_
        refine m_get hx hb hts inX7 hown hK hP (ci := 7) rfl (k := 0) (by decide) rfl 10 (by decide) (hts (.fieldLink RX7 37 "RollbackPairModel" "input" "[I") (by decide +kernel)) rfl dX7_send_158 ?_
        refine lv_sipush (v := nI 1200) hx hb dX7_send_161 (by decide) ?_
        refine lv_iload_n hx hb dX7_send_164 rfl (lv_at hl 4 rfl) ?_
        refine n_mul hx hb dX7_send_165 ?_
        refine lv_sipush (v := nI 600) hx hb dX7_send_166 (by decide) ?_
        refine lv_iload_n hx hb dX7_send_169 rfl (lv_at hl 4 rfl) ?_
        refine n_mul hx hb dX7_send_170 ?_
        refine n_add hx hb dX7_send_171 ?_
        refine lv_aload_n hx hb dX7_send_172 rfl (lv_at hl 3 rfl) ?_
        refine m_get hx hb hts inX7 hown hK hP (ci := 7) rfl (k := 0) (by decide) rfl 5 (by decide) (hts (.fieldLink RX7 19 "RollbackPairModel" "told" "[I") (by decide +kernel)) rfl dX7_send_173 ?_
        refine lv_iload_n hx hb dX7_send_176 rfl (lv_at hl 4 rfl) ?_
        refine m_iald hx hb hK hP (k := 4) (by decide) (f := (S.1 5)) rfl (i := q) (by omega) (by decide) dX7_send_177 ?_
        refine n_val ht ?_
        refine n_add hx hb dX7_send_178 ?_
        refine lv_iload hx hb dX7_send_179 (lv_at hl 0 rfl) ?_
        refine n_add hx hb dX7_send_181 ?_
        refine m_iald hx hb hK hP (k := 9) (by decide) (f := (S.1 10)) rfl (i := 1200 * q + (600 * q) + t + j) (by omega) (by decide) dX7_send_182 ?_
        refine lv_i2l hx hb dX7_send_183 rfl ?_
        refine lv_iconst (v := nI 3) hx hb dX7_send_184 (by decide) ?_
        refine lv_iload hx hb dX7_send_185 (lv_at hl 0 rfl) ?_
        refine n_mul hx hb dX7_send_187 ?_
        refine lv_lshl hx hb dX7_send_188 rfl ?_
        refine lv_lor hx hb dX7_send_189 ?_
        refine m_last hx hb hK hP hJ hS (k := 24) (by decide) (f := (vp_updL S.2.2.1 k (pkB (S.1 10) (1200 * q + 600 * q + t) j))) rfl (i := k) (by omega) (by decide) dX7_send_190 (fun H locs hP hS => ?_)
        rw [mm_up25] at hP
        refine lv_iinc (v := nI (j + 1)) (lv' := [(5, .int (nI (j + 1))), (3, .int (nI k)), (2, .int (nI (1 - q))), (0, .ref (ad 0)), (1, .int (nI q))]) hx hb dX7_send_191 hl (k := 0) rfl (nI_1 _) (by decide) rfl (fun ls hl => ?_)
        refine lv_goto (tgt := 135) hx hb dX7_send_194 (by decide) ?_
        rw [updL_updL] at hP
        exact ih (cn - (j + 1)) (by omega) (j + 1) ls H locs ⟨by omega, rfl, lv_sub hl [0, 1, 2, 3, 4] rfl, hP, hS⟩
    · refine n_cmp_le (tgt := 115) hx hb dX7_send_107 (by decide) (by omega) (by omega) (fun c2 => ?_) (fun c2 => ?_)
      · refine lv_iload hx hb dX7_send_115 (lv_at hl 0 rfl) ?_
        refine lv_aload_n hx hb dX7_send_117 rfl (lv_at hl 3 rfl) ?_
        refine m_get hx hb hts inX7 hown hK hP (ci := 7) rfl (k := 0) (by decide) rfl 5 (by decide) (hts (.fieldLink RX7 19 "RollbackPairModel" "told" "[I") (by decide +kernel)) rfl dX7_send_118 ?_
        refine lv_iload_n hx hb dX7_send_121 rfl (lv_at hl 4 rfl) ?_
        refine m_iald hx hb hK hP (k := 4) (by decide) (f := (S.1 5)) rfl (i := q) (by omega) (by decide) dX7_send_122 ?_
        refine n_val ht ?_
        refine n_sub hx hb ht2 dX7_send_123 ?_
        refine n_val (show nI (n - t) = nI cn by rw [show cn = n - t by omega]) ?_
        exact J () ls (lv_sub hl [1, 2, 0, 3, 4] rfl)
      · refine lv_bipush (v := nI 16) hx hb dX7_send_110 (by decide) ?_
        refine lv_goto (tgt := 124) hx hb dX7_send_112 (by decide) ?_
        refine n_val (show nI 16 = nI cn by rw [show cn = 16 by omega]) ?_
        exact J () ls (lv_sub hl [1, 2, 0, 3, 4] rfl)
