section RLP
variable {p : Program} {l : Launch} {e : Env} {R : Room} {s : State} {m : MethodId} {args : Array Value} {below : List Frame} {meth : Method} {c : Code} {cells slots : Nat} {Q : State → Prop}
/-- a loop with its head at pc2: k falls -/
theorem lpW {α : Type} (C : Nat → α → Array Slot → Heap → List Loc → Prop) (pc2 : Nat) (sf : α → List Value)
    (step : ∀ (k : Nat) (a : α) (ls : Array Slot) (H : Heap) (locs : List Loc), C k a ls H locs → (∀ k' : Nat, k' < k → ∀ (a' : α) (ls' : Array Slot) (H' : Heap) (locs' : List Loc), C k' a' ls' H' locs' → W p l e R s m args below meth c H' locs' cells slots Q (F0 m pc2 ls' (sf a'))) → W p l e R s m args below meth c H locs cells slots Q (F0 m pc2 ls (sf a))) :
    ∀ (k : Nat) (a : α) (ls : Array Slot) (H : Heap) (locs : List Loc), C k a ls H locs → W p l e R s m args below meth c H locs cells slots Q (F0 m pc2 ls (sf a)) := by
  intro k
  induction k using Nat.strongRecOn with
  | _ k ih => exact fun a ls H locs hC => step k a ls H locs hC (fun k' hk a' ls' H' locs' h => ih k' hk a' ls' H' locs' h)
end RLP
/-- the first frame from fr on, within n frames, for which peer q used another input of the other one than now -/
def mFw (S : SS) (q : Nat) : Nat → Nat → Nat
  | 0, fr => fr
  | n + 1, fr => if S.1 11 (1200 * q + 600 * (1 - q) + fr) = mUse S q (1 - q) fr then mFw S q n (fr + 1) else fr
def mPlays (S : SS) (q : Nat) : Nat → Nat → SS
  | 0, _ => S
  | n + 1, f => mPlays (mPlay S q f) q n (f + 1)
theorem mFw_ge (S : SS) (q : Nat) : ∀ n fr, fr ≤ mFw S q n fr ∧ mFw S q n fr ≤ fr + n
  | 0, fr => ⟨Nat.le_refl _, Nat.le_refl _⟩
  | n + 1, fr => by
    unfold mFw
    split
    · have := mFw_ge S q n (fr + 1); omega
    · omega
theorem mFw_s (S : SS) (q n fr : Nat) : mFw S q (n + 1) fr = if S.1 11 (1200 * q + 600 * (1 - q) + fr) = mUse S q (1 - q) fr then mFw S q n (fr + 1) else fr := rfl
abbrev pA (S : SS) (q f : Nat) : UInt32 × UInt32 := mv (S.2.1 13 (600 * q + f)) (S.2.1 14 (600 * q + f)) (mUse S q 0 f)
abbrev pB (S : SS) (q f : Nat) : UInt32 × UInt32 := mv (S.2.1 15 (600 * q + f)) (S.2.1 16 (600 * q + f)) (mUse S q 1 f)
theorem mPlay_st (S : SS) (q f : Nat) : (mPlay S q f).2.1 13 (600 * q + f + 1) = st_x (pA S q f) (pB S q f) ∧ (mPlay S q f).2.1 14 (600 * q + f + 1) = st_s (pA S q f) (pB S q f) ∧ (mPlay S q f).2.1 15 (600 * q + f + 1) = st_y (pA S q f) (pB S q f) ∧ (mPlay S q f).2.1 16 (600 * q + f + 1) = st_t (pA S q f) (pB S q f) ∧ (mPlay S q f).1 17 (600 * q + f + 1) = S.1 17 (600 * q + f) + st_m (pA S q f) (pB S q f) ∧ (mPlay S q f).2.2.2 (600 * q + f + 1) = st_w (pA S q f) (pB S q f) (S.2.2.2 (600 * q + f)) :=
  ⟨if_pos rfl, if_pos rfl, if_pos rfl, if_pos rfl, if_pos rfl, if_pos rfl⟩
theorem mPlay_Bd {S : SS} {q f : Nat} (hf : f ≤ 1000000) (h : BdAt S q f) : BdAt (mPlay S q f) q (f + 1) := by
  have h1 := st_b hf h (mUse S q 0 f) (mUse S q 1 f)
  obtain ⟨e1, e2, e3, e4, -, e6⟩ := mPlay_st S q f
  unfold BdAt
  rw [show 600 * q + (f + 1) = 600 * q + f + 1 by omega, e1, e2, e3, e4, e6]
  exact h1
set_option maxHeartbeats 4000000 in
set_option maxRecDepth 100000 in
/-- again(q, from) -/
theorem c_again (l : Launch) (D : va_G) (cs : Nat → ClassId) (ad : Nat → Nat) (hJ : Inj ad 26) (d w : Int32) (S : SS) (np ns : UInt32) (q fr0 a N0 N1 : Nat) (hq : q < 2) (hat : S.1 2 q = nI a) (ha : a ≤ 598) (hfr : fr0 ≤ a) (h0 : S.1 12 (2 * q + 0) = nI N0) (hN0 : N0 ≤ 600) (h1 : S.1 12 (2 * q + 1) = nI N1) (hN1 : N1 ≤ 600) (hB : ∀ f, f ≤ a → BdAt S q f) : CTi l yX7_again wsX7_again ({ frames := 2, cells := 0, slots := 0, locals := 62 }) D cs ad 26 (mm ad cs d w S np ns) [.ref (ad 0), .int (nI q), .int (nI fr0)] (fun r M2 => r = nI (a - mFw S q (a - fr0) fr0) ∧ ∃ np2 ns2, M2 = mm ad cs d w (mPlays S q (a - mFw S q (a - fr0) fr0) (mFw S q (a - fr0) fr0)) np2 ns2) := by
  refine Met.ofW (cc := cX7_again) (maxL := 7) (ret := (some .int)) (by decide) rfl ?_
  intro p e s m args below meth c s₁ B hml hv
  obtain ⟨rfl, hP, hK⟩ := hv
  have hx := B.exec
  have hb := B.bytes
  have hr := B.returns
  have hts := atoms_spec (ws := wsX7_again) B.pre
  have hown : s.vm.findClass RX7 = some m.cls := findClass_of_methodNamed B.named
  have hlocks := B.notSynchronized
  have hS : va_S (Ad ad 26) s.heap s.heap [] := va_S.rf
  have hl := lv_entry ([.ref (ad 0), .int (nI q), .int (nI fr0)]) (n := 7) (Nat.le_of_ble_eq_true rfl)
  rw [lg_entry_eq]
  generalize (lg_sl ([.ref (ad 0), .int (nI q), .int (nI fr0)]) ++ List.replicate (7 - (lg_sl ([.ref (ad 0), .int (nI q), .int (nI fr0)])).length) Slot.unset).toArray = ls at hl ⊢
  have hl : lv_has ls 7 [(0, .ref (ad 0)), (1, .int (nI q)), (2, .int (nI fr0))] := hl
  have inX7 : ∀ w ∈ u_ws RX7 TX7 29, w ∈ wsX7_again := by decide +kernel
  obtain ⟨N2, h2, hN2⟩ : ∃ N2, S.1 12 (2 * q + (1 - q)) = nI N2 ∧ N2 ≤ 600 := by
    rcases (show q = 0 ∨ q = 1 by omega) with rfl | rfl
    · exact ⟨N1, h1, hN1⟩
    · exact ⟨N0, h0, hN0⟩
  generalize hG : mFw S q (a - fr0) fr0 = G
  refine lv_iconst (v := nI 1) hx hb dX7_again_0 (by decide) ?_
  refine lv_iload_n hx hb dX7_again_1 rfl (lv_at hl 1 rfl) ?_
  refine n_sub hx hb (by omega) dX7_again_2 ?_
  refine lv_istore_n (lv' := [(3, .int (nI (1 - q))), (0, .ref (ad 0)), (1, .int (nI q)), (2, .int (nI fr0))]) hx hb dX7_again_3 rfl hl (by decide) rfl (fun ls hl => ?_)
  refine lv_iload_n hx hb dX7_again_4 rfl (lv_at hl 3 rfl) ?_
  refine lv_istore (lv' := [(4, .int (nI fr0)), (3, .int (nI (1 - q))), (0, .ref (ad 0)), (1, .int (nI q)), (2, .int (nI fr0))]) hx hb dX7_again_5 hl (by decide) rfl (fun ls hl => ?_)
  refine lpW (fun k (fr : Nat) ls H locs => fr ≤ a ∧ k = a - fr ∧ mFw S q (a - fr) fr = G ∧ lv_has ls 7 [(4, .int (nI fr)), (3, .int (nI (1 - q))), (0, .ref (ad 0)), (1, .int (nI q))] ∧ va_P D vwCl (sg ad 26 (mm ad cs d w S np ns)) H ∧ va_S (Ad ad 26) s.heap H locs) 7 (fun _ => []) (fun k fr ls H locs hC ih => ?_) (a - fr0) fr0 ls _ _ ⟨hfr, rfl, hG, lv_sub hl [0, 1, 2, 3] rfl, hP, hS⟩
  obtain ⟨hfa, hk, hGf, hl, hP, hS⟩ := hC
  refine lv_iload hx hb dX7_again_7 (lv_at hl 0 rfl) ?_
  refine lv_aload_n hx hb dX7_again_9 rfl (lv_at hl 2 rfl) ?_
  refine m_get hx hb hts inX7 hown hK hP (ci := 7) rfl (k := 0) (by decide) rfl 2 (by decide) (hts (.fieldLink RX7 7 "RollbackPairModel" "at" "[I") (by decide +kernel)) rfl dX7_again_10 ?_
  refine lv_iload_n hx hb dX7_again_13 rfl (lv_at hl 3 rfl) ?_
  refine m_iald hx hb hK hP (k := 1) (by decide) (f := (S.1 2)) rfl (i := q) (by omega) (by decide) dX7_again_14 ?_
  refine n_val hat ?_
  refine n_cmp_ge (tgt := 54) hx hb dX7_again_15 (by decide) (by omega) (by omega) (fun c1 => ?_) (fun c1 => ?_)
  · have hfG : fr = G := by rw [← hGf]; rw [show a - fr = 0 by omega]; rfl
    subst hfG
    refine lv_aload_n hx hb dX7_again_54 rfl (lv_at hl 2 rfl) ?_
    refine m_get hx hb hts inX7 hown hK hP (ci := 7) rfl (k := 0) (by decide) rfl 2 (by decide) (hts (.fieldLink RX7 7 "RollbackPairModel" "at" "[I") (by decide +kernel)) rfl dX7_again_55 ?_
    refine lv_iload_n hx hb dX7_again_58 rfl (lv_at hl 3 rfl) ?_
    refine m_iald hx hb hK hP (k := 1) (by decide) (f := (S.1 2)) rfl (i := q) (by omega) (by decide) dX7_again_59 ?_
    refine n_val hat ?_
    refine lv_iload hx hb dX7_again_60 (lv_at hl 0 rfl) ?_
    refine n_sub hx hb hfa dX7_again_62 ?_
    refine lv_istore (lv' := [(5, .int (nI (a - fr))), (4, .int (nI fr)), (3, .int (nI (1 - q))), (0, .ref (ad 0)), (1, .int (nI q))]) hx hb dX7_again_63 hl (by decide) rfl (fun ls hl => ?_)
    refine lv_iload hx hb dX7_again_65 (lv_at hl 1 rfl) ?_
    refine lv_istore (lv' := [(6, .int (nI fr)), (5, .int (nI (a - fr))), (4, .int (nI fr)), (3, .int (nI (1 - q))), (0, .ref (ad 0)), (1, .int (nI q))]) hx hb dX7_again_67 hl (by decide) rfl (fun ls hl => ?_)
    refine lpW (fun k (x : Nat × SS × UInt32 × UInt32) ls H locs => x.1 ≤ a ∧ k = a - x.1 ∧ mPlays x.2.1 q (a - x.1) x.1 = mPlays S q (a - fr) fr ∧ x.2.1.1 2 q = nI a ∧ x.2.1.1 12 (2 * q + 0) = nI N0 ∧ x.2.1.1 12 (2 * q + 1) = nI N1 ∧ BdAt x.2.1 q x.1 ∧ lv_has ls 7 [(6, .int (nI x.1)), (5, .int (nI (a - fr))), (0, .ref (ad 0)), (1, .int (nI q))] ∧ va_P D vwCl (sg ad 26 (mm ad cs d w x.2.1 x.2.2.1 x.2.2.2)) H ∧ va_S (Ad ad 26) s.heap H locs) 69 (fun _ => []) (fun k x ls H locs hC ih => ?_) (a - fr) (fr, S, np, ns) ls _ _ ⟨hfa, rfl, rfl, hat, h0, h1, hB fr hfa, lv_sub hl [0, 1, 4, 5] rfl, hP, hS⟩
    obtain ⟨f, S2, np2, ns2⟩ := x
    obtain ⟨hf2, hk2, hE, hat2, g0, g1, hB2, hl, hP, hS⟩ := hC
    dsimp only at hf2 hk2 hE hat2 g0 g1 hB2 hl hP hS ih ⊢
    refine lv_iload hx hb dX7_again_69 (lv_at hl 0 rfl) ?_
    refine lv_aload_n hx hb dX7_again_71 rfl (lv_at hl 2 rfl) ?_
    refine m_get hx hb hts inX7 hown hK hP (ci := 7) rfl (k := 0) (by decide) rfl 2 (by decide) (hts (.fieldLink RX7 7 "RollbackPairModel" "at" "[I") (by decide +kernel)) rfl dX7_again_72 ?_
    refine lv_iload_n hx hb dX7_again_75 rfl (lv_at hl 3 rfl) ?_
    refine m_iald hx hb hK hP (k := 1) (by decide) (f := (S2.1 2)) rfl (i := q) (by omega) (by decide) dX7_again_76 ?_
    refine n_val hat2 ?_
    refine n_cmp_ge (tgt := 93) hx hb dX7_again_77 (by decide) (by omega) (by omega) (fun c3 => ?_) (fun c3 => ?_)
    · refine lv_iload hx hb dX7_again_93 (lv_at hl 1 rfl) ?_
      refine lv_if_le (tgt := 103) hx hb dX7_again_95 (by decide) (fun c4 => ?_) (fun c4 => ?_)
      · refine lv_iconst (v := nI 0) hx hb dX7_again_103 (by decide) ?_
        have hE2 : mPlays S q (a - fr) fr = S2 := by rw [← hE, show a - f = 0 by omega]; rfl
        have hz : a - fr = 0 := Classical.byContradiction fun z => nI_nle (by omega) (by omega) c4
        exact r_i hx hb hr hlocks hK hP hS dX7_again_104 ⟨by rw [hz], np2, ns2, by rw [hE2]⟩
      · refine lv_iload hx hb dX7_again_98 (lv_at hl 1 rfl) ?_
        refine lv_goto (tgt := 104) hx hb dX7_again_100 (by decide) ?_
        have hE2 : mPlays S q (a - fr) fr = S2 := by rw [← hE, show a - f = 0 by omega]; rfl
        exact r_i hx hb hr hlocks hK hP hS dX7_again_104 ⟨rfl, np2, ns2, by rw [hE2]⟩
    · refine lv_aload_n hx hb dX7_again_80 rfl (lv_at hl 2 rfl) ?_
      refine lv_iload_n hx hb dX7_again_81 rfl (lv_at hl 3 rfl) ?_
      refine lv_iload hx hb dX7_again_82 (lv_at hl 0 rfl) ?_
      refine k_Vv (As := [.int (nI q), .int (nI f)]) (rest := []) (k := 0) (ci := 7) ⟨hx, hb, hml, hown, hts⟩ hK hP hS Ad_le (c_play l D cs ad hJ d w S2 np2 ns2 q f N0 N1 hq (by omega) g0 hN0 g1 hN1 hB2) (cwV 2 hts gX7_again_X7_play rfl rfl rfl (by decide +kernel) ⟨Nat.le_of_ble_eq_true rfl, Nat.le_of_ble_eq_true rfl⟩) (by decide) rfl rfl rfl rfl hl.1 (Nat.le_of_ble_eq_true rfl) dX7_again_84 ⟨Nat.le_of_ble_eq_true rfl, Nat.le_of_ble_eq_true rfl⟩ (fun M1 H locs hpo hP hS _ _ => ?_)
      obtain ⟨np3, ns3, rfl⟩ := hpo
      refine lv_iinc (v := nI (f + 1)) (lv' := [(6, .int (nI (f + 1))), (5, .int (nI (a - fr))), (0, .ref (ad 0)), (1, .int (nI q))]) hx hb dX7_again_87 hl (k := 0) rfl (nI_1 _) (by decide) rfl (fun ls hl => ?_)
      refine lv_goto (tgt := 69) hx hb dX7_again_90 (by decide) ?_
      exact ih (a - (f + 1)) (by omega) (f + 1, mPlay S2 q f, np3, ns3) ls H locs ⟨by omega, rfl, by rw [← hE, show a - f = (a - (f + 1)) + 1 by omega]; rfl, hat2, g0, g1, mPlay_Bd (by omega) hB2, lv_sub hl [0, 1, 2, 3] rfl, hP, hS⟩
  · refine lv_aload_n hx hb dX7_again_18 rfl (lv_at hl 2 rfl) ?_
    refine m_get hx hb hts inX7 hown hK hP (ci := 7) rfl (k := 0) (by decide) rfl 11 (by decide) (hts (.fieldLink RX7 40 "RollbackPairModel" "uses" "[I") (by decide +kernel)) rfl dX7_again_19 ?_
    refine lv_sipush (v := nI 1200) hx hb dX7_again_22 (by decide) ?_
    refine lv_iload_n hx hb dX7_again_25 rfl (lv_at hl 3 rfl) ?_
    refine n_mul hx hb dX7_again_26 ?_
    refine lv_sipush (v := nI 600) hx hb dX7_again_27 (by decide) ?_
    refine lv_iload_n hx hb dX7_again_30 rfl (lv_at hl 1 rfl) ?_
    refine n_mul hx hb dX7_again_31 ?_
    refine n_add hx hb dX7_again_32 ?_
    refine lv_iload hx hb dX7_again_33 (lv_at hl 0 rfl) ?_
    refine n_add hx hb dX7_again_35 ?_
    refine m_iald hx hb hK hP (k := 10) (by decide) (f := (S.1 11)) rfl (i := 1200 * q + (600 * (1 - q)) + fr) (by omega) (by decide) dX7_again_36 ?_
    refine lv_aload_n hx hb dX7_again_37 rfl (lv_at hl 2 rfl) ?_
    refine lv_iload_n hx hb dX7_again_38 rfl (lv_at hl 3 rfl) ?_
    refine lv_iload_n hx hb dX7_again_39 rfl (lv_at hl 1 rfl) ?_
    refine lv_iload hx hb dX7_again_40 (lv_at hl 0 rfl) ?_
    refine k_Vi (As := [.int (nI q), .int (nI (1 - q)), .int (nI fr)]) (rest := [.int ((S.1 11) (1200 * q + (600 * (1 - q)) + fr))]) (k := 0) (ci := 7) ⟨hx, hb, hml, hown, hts⟩ hK hP hS Ad_le (c_useOf l D cs ad hJ d w S np ns q (1 - q) fr N2 hq (by omega) (by omega) h2 hN2) (cwV 3 hts gX7_again_X7_useOf rfl rfl rfl (by decide +kernel) ⟨Nat.le_of_ble_eq_true rfl, Nat.le_of_ble_eq_true rfl⟩) (by decide) rfl rfl rfl rfl hl.1 (Nat.le_of_ble_eq_true rfl) dX7_again_42 ⟨Nat.le_of_ble_eq_true rfl, Nat.le_of_ble_eq_true rfl⟩ (fun r_2 M1 H locs hpo hP hS _ _ => ?_)
    obtain ⟨rfl, rfl⟩ := hpo
    refine lv_icmp_ne (tgt := 54) hx hb dX7_again_45 (by decide) (fun c2 => ?_) (fun c2 => ?_)
    · have hfG : fr = G := by rw [← hGf]; rw [show a - fr = (a - (fr + 1)) + 1 by omega]; rw [mFw_s, if_neg c2]
      subst hfG
      refine lv_aload_n hx hb dX7_again_54 rfl (lv_at hl 2 rfl) ?_
      refine m_get hx hb hts inX7 hown hK hP (ci := 7) rfl (k := 0) (by decide) rfl 2 (by decide) (hts (.fieldLink RX7 7 "RollbackPairModel" "at" "[I") (by decide +kernel)) rfl dX7_again_55 ?_
      refine lv_iload_n hx hb dX7_again_58 rfl (lv_at hl 3 rfl) ?_
      refine m_iald hx hb hK hP (k := 1) (by decide) (f := (S.1 2)) rfl (i := q) (by omega) (by decide) dX7_again_59 ?_
      refine n_val hat ?_
      refine lv_iload hx hb dX7_again_60 (lv_at hl 0 rfl) ?_
      refine n_sub hx hb hfa dX7_again_62 ?_
      refine lv_istore (lv' := [(5, .int (nI (a - fr))), (4, .int (nI fr)), (3, .int (nI (1 - q))), (0, .ref (ad 0)), (1, .int (nI q))]) hx hb dX7_again_63 hl (by decide) rfl (fun ls hl => ?_)
      refine lv_iload hx hb dX7_again_65 (lv_at hl 1 rfl) ?_
      refine lv_istore (lv' := [(6, .int (nI fr)), (5, .int (nI (a - fr))), (4, .int (nI fr)), (3, .int (nI (1 - q))), (0, .ref (ad 0)), (1, .int (nI q))]) hx hb dX7_again_67 hl (by decide) rfl (fun ls hl => ?_)
      refine lpW (fun k (x : Nat × SS × UInt32 × UInt32) ls H locs => x.1 ≤ a ∧ k = a - x.1 ∧ mPlays x.2.1 q (a - x.1) x.1 = mPlays S q (a - fr) fr ∧ x.2.1.1 2 q = nI a ∧ x.2.1.1 12 (2 * q + 0) = nI N0 ∧ x.2.1.1 12 (2 * q + 1) = nI N1 ∧ BdAt x.2.1 q x.1 ∧ lv_has ls 7 [(6, .int (nI x.1)), (5, .int (nI (a - fr))), (0, .ref (ad 0)), (1, .int (nI q))] ∧ va_P D vwCl (sg ad 26 (mm ad cs d w x.2.1 x.2.2.1 x.2.2.2)) H ∧ va_S (Ad ad 26) s.heap H locs) 69 (fun _ => []) (fun k x ls H locs hC ih => ?_) (a - fr) (fr, S, np, ns) ls _ _ ⟨hfa, rfl, rfl, hat, h0, h1, hB fr hfa, lv_sub hl [0, 1, 4, 5] rfl, hP, hS⟩
      obtain ⟨f, S2, np2, ns2⟩ := x
      obtain ⟨hf2, hk2, hE, hat2, g0, g1, hB2, hl, hP, hS⟩ := hC
      dsimp only at hf2 hk2 hE hat2 g0 g1 hB2 hl hP hS ih ⊢
      refine lv_iload hx hb dX7_again_69 (lv_at hl 0 rfl) ?_
      refine lv_aload_n hx hb dX7_again_71 rfl (lv_at hl 2 rfl) ?_
      refine m_get hx hb hts inX7 hown hK hP (ci := 7) rfl (k := 0) (by decide) rfl 2 (by decide) (hts (.fieldLink RX7 7 "RollbackPairModel" "at" "[I") (by decide +kernel)) rfl dX7_again_72 ?_
      refine lv_iload_n hx hb dX7_again_75 rfl (lv_at hl 3 rfl) ?_
      refine m_iald hx hb hK hP (k := 1) (by decide) (f := (S2.1 2)) rfl (i := q) (by omega) (by decide) dX7_again_76 ?_
      refine n_val hat2 ?_
      refine n_cmp_ge (tgt := 93) hx hb dX7_again_77 (by decide) (by omega) (by omega) (fun c3 => ?_) (fun c3 => ?_)
      · refine lv_iload hx hb dX7_again_93 (lv_at hl 1 rfl) ?_
        refine lv_if_le (tgt := 103) hx hb dX7_again_95 (by decide) (fun c4 => ?_) (fun c4 => ?_)
        · refine lv_iconst (v := nI 0) hx hb dX7_again_103 (by decide) ?_
          have hE2 : mPlays S q (a - fr) fr = S2 := by rw [← hE, show a - f = 0 by omega]; rfl
          have hz : a - fr = 0 := Classical.byContradiction fun z => nI_nle (by omega) (by omega) c4
          exact r_i hx hb hr hlocks hK hP hS dX7_again_104 ⟨by rw [hz], np2, ns2, by rw [hE2]⟩
        · refine lv_iload hx hb dX7_again_98 (lv_at hl 1 rfl) ?_
          refine lv_goto (tgt := 104) hx hb dX7_again_100 (by decide) ?_
          have hE2 : mPlays S q (a - fr) fr = S2 := by rw [← hE, show a - f = 0 by omega]; rfl
          exact r_i hx hb hr hlocks hK hP hS dX7_again_104 ⟨rfl, np2, ns2, by rw [hE2]⟩
      · refine lv_aload_n hx hb dX7_again_80 rfl (lv_at hl 2 rfl) ?_
        refine lv_iload_n hx hb dX7_again_81 rfl (lv_at hl 3 rfl) ?_
        refine lv_iload hx hb dX7_again_82 (lv_at hl 0 rfl) ?_
        refine k_Vv (As := [.int (nI q), .int (nI f)]) (rest := []) (k := 0) (ci := 7) ⟨hx, hb, hml, hown, hts⟩ hK hP hS Ad_le (c_play l D cs ad hJ d w S2 np2 ns2 q f N0 N1 hq (by omega) g0 hN0 g1 hN1 hB2) (cwV 2 hts gX7_again_X7_play rfl rfl rfl (by decide +kernel) ⟨Nat.le_of_ble_eq_true rfl, Nat.le_of_ble_eq_true rfl⟩) (by decide) rfl rfl rfl rfl hl.1 (Nat.le_of_ble_eq_true rfl) dX7_again_84 ⟨Nat.le_of_ble_eq_true rfl, Nat.le_of_ble_eq_true rfl⟩ (fun M1 H locs hpo hP hS _ _ => ?_)
        obtain ⟨np3, ns3, rfl⟩ := hpo
        refine lv_iinc (v := nI (f + 1)) (lv' := [(6, .int (nI (f + 1))), (5, .int (nI (a - fr))), (0, .ref (ad 0)), (1, .int (nI q))]) hx hb dX7_again_87 hl (k := 0) rfl (nI_1 _) (by decide) rfl (fun ls hl => ?_)
        refine lv_goto (tgt := 69) hx hb dX7_again_90 (by decide) ?_
        exact ih (a - (f + 1)) (by omega) (f + 1, mPlay S2 q f, np3, ns3) ls H locs ⟨by omega, rfl, by rw [← hE, show a - f = (a - (f + 1)) + 1 by omega]; rfl, hat2, g0, g1, mPlay_Bd (by omega) hB2, lv_sub hl [0, 1, 2, 3] rfl, hP, hS⟩
    · refine lv_iinc (v := nI (fr + 1)) (lv' := [(4, .int (nI (fr + 1))), (3, .int (nI (1 - q))), (0, .ref (ad 0)), (1, .int (nI q))]) hx hb dX7_again_48 hl (k := 0) rfl (nI_1 _) (by decide) rfl (fun ls hl => ?_)
      refine lv_goto (tgt := 7) hx hb dX7_again_51 (by decide) ?_
      exact ih (a - (fr + 1)) (by omega) (fr + 1) ls H locs ⟨by omega, rfl, by rw [← hGf, show a - fr = (a - (fr + 1)) + 1 by omega]; rw [mFw_s, if_pos c2], lv_sub hl [0, 1, 2, 3] rfl, hP, hS⟩
