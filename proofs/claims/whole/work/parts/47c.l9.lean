set_option maxHeartbeats 4000000 in
set_option maxRecDepth 100000 in
/-- the law at advance -/
theorem L_0 {p : Program} {e : Env} {s : State} {m : MethodId} {below : List Frame} {meth : Method} {c : Code} (l : Launch) {b L : Nat} {xs : Nat → Int32} {Q : State → Prop} {D : va_G} {cs : Nat → ClassId} {h0 dd ww : Nat} {N i : Nat} {S : SS} {M1 : Nat → va_E} {np ns : UInt32} {H : Heap} {locs : List Loc} {ls : Array Slot} (hx : p.tables.exec = Jvm.exec) (hb : c.code = cL_law) (hml : c.maxLocals = 8) (hown : s.vm.findClass RL = some m.cls) (hts : ∀ w ∈ wsL_law, w.before #[Value.ref b] s = true) (hX : va_X b L xs s s.heap) (hbl : b < s.heap.size) (hbA : ¬ Ge h0 b) (hK : va_K D vwCl (tysC cs) s) (hdd : dd ≤ 4) (hw1 : 1 ≤ ww) (hw2 : ww ≤ 8) (hN : N ≤ 520) (hLL : L ≤ 2051) (hi : i + 4 ≤ L) (hLI : LI D cs h0 dd ww N S M1 np ns s H locs) (hl : lv_has ls 8 [(0, .ref b), (1, .ref (a1 h0 0)), (2, .ref (a2 h0 0)), (3, .int (nI i))]) (K : ∀ (S' : SS) (M' : Nat → va_E) (np' ns' : UInt32) (H' : Heap) (locs' : List Loc) (ls' : Array Slot), LI D cs h0 dd ww (N + 1) S' M' np' ns' s H' locs' → lv_has ls' 8 [(0, .ref b), (1, .ref (a1 h0 0)), (2, .ref (a2 h0 0)), (3, .int (nI i))] → W p l e room_1 s m #[Value.ref b] below meth c H' locs' 600000 7302250 Q (F0 m 655 ls' [])) : W p l e room_1 s m #[Value.ref b] below meth c H locs 600000 7302250 Q (F0 m 128 ls []) := by
  obtain ⟨hP1, hC, hP2, hS⟩ := hLI
  by_cases hok : two (xs (i + 1)) ∧ ¬ xs (i + 2) < 0 ∧ xs (i + 2) ≤ nI 7
  · obtain ⟨q, hq, eq⟩ := two_q hok.1
    obtain ⟨j, hj, ej⟩ := in_0n (n := 7) (by decide) hok.2.1 (Int32.not_lt.mpr hok.2.2)
    obtain ⟨a, nt, t, r, r8, ha, I1, I2, I3, I4, I7, I8, hr, hr2, hr8, hr82, I12, I13, hs8, hs20⟩ := hC.all q hq
    have h6 := c6_advance l D cs (a1 h0) (a1_J h0 146) M1 dd ww N S hdd hw1 hw2 (by omega) hC q j hq (by omega)
    have h7 := c_advance l D cs (a2 h0) (a2_J h0 26) dd ww S np ns q a nt r8 t (xs (i + 2)) hq hdd hw1 hw2 I1 (by omega) I3 (by omega) I2 I7 I8 hr8 hr82 hs8 I12 hok.2.1 hok.2.2
    rw [← eq, ← ej] at h6
    rw [← eq] at h7
    refine lv_aload_n hx hb dL_law_128 rfl (lv_at hl 1 rfl) ?_
    refine lv_aload_n hx hb dL_law_129 rfl (lv_at hl 0 rfl) ?_
    refine lv_iload_n hx hb dL_law_130 rfl (lv_at hl 3 rfl) ?_
    refine lv_iconst (v := nI 1) hx hb dL_law_131 (by decide) ?_
    refine n_add hx hb dL_law_132 ?_
    refine va_sld hx hb hX hbl hbA hS (nI_in' (show i + 1 < L by omega) (by omega)) dL_law_133 ?_
    rw [nI_clamp (show i + 1 < 2 ^ 31 by omega)]
    refine lv_aload_n hx hb dL_law_134 rfl (lv_at hl 0 rfl) ?_
    refine lv_iload_n hx hb dL_law_135 rfl (lv_at hl 3 rfl) ?_
    refine lv_iconst (v := nI 2) hx hb dL_law_136 (by decide) ?_
    refine n_add hx hb dL_law_137 ?_
    refine va_sld hx hb hX hbl hbA hS (nI_in' (show i + 2 < L by omega) (by omega)) dL_law_138 ?_
    rw [nI_clamp (show i + 2 < 2 ^ 31 by omega)]
    refine k_Vi (ad := a1 h0) (As := [.int (xs (i + 1)), .int (xs (i + 2))]) (rest := []) (k := 0) (ci := 6) ⟨hx, hb, hml, hown, hts⟩ hK hP1 hS a1_G h6 (cwV 2 hts gL_law_X6_advance rfl rfl rfl (by decide +kernel) ⟨Nat.le_of_ble_eq_true rfl, Nat.le_of_ble_eq_true rfl⟩) (by decide) hC.1 rfl rfl rfl hl.1 (Nat.le_of_ble_eq_true rfl) dL_law_139 ⟨Nat.le_of_ble_eq_true rfl, Nat.le_of_ble_eq_true rfl⟩ (fun r1 M2 H locs hpo hP1 hS _ hf => ?_)
    replace hP2 := sg_apart hP2 hf a21
    obtain ⟨rfl, hC2⟩ := hpo
    refine lv_aload_n hx hb dL_law_142 rfl (lv_at hl 2 rfl) ?_
    refine lv_aload_n hx hb dL_law_143 rfl (lv_at hl 0 rfl) ?_
    refine lv_iload_n hx hb dL_law_144 rfl (lv_at hl 3 rfl) ?_
    refine lv_iconst (v := nI 1) hx hb dL_law_145 (by decide) ?_
    refine n_add hx hb dL_law_146 ?_
    refine va_sld hx hb hX hbl hbA hS (nI_in' (show i + 1 < L by omega) (by omega)) dL_law_147 ?_
    rw [nI_clamp (show i + 1 < 2 ^ 31 by omega)]
    refine lv_aload_n hx hb dL_law_148 rfl (lv_at hl 0 rfl) ?_
    refine lv_iload_n hx hb dL_law_149 rfl (lv_at hl 3 rfl) ?_
    refine lv_iconst (v := nI 2) hx hb dL_law_150 (by decide) ?_
    refine n_add hx hb dL_law_151 ?_
    refine va_sld hx hb hX hbl hbA hS (nI_in' (show i + 2 < L by omega) (by omega)) dL_law_152 ?_
    rw [nI_clamp (show i + 2 < 2 ^ 31 by omega)]
    refine k_Vi (ad := a2 h0) (As := [.int (xs (i + 1)), .int (xs (i + 2))]) (rest := [.int (rAdv ww S q)]) (k := 0) (ci := 7) ⟨hx, hb, hml, hown, hts⟩ hK hP2 hS a2_G h7 (cwV 2 hts gL_law_X7_advance rfl rfl rfl (by decide +kernel) ⟨Nat.le_of_ble_eq_true rfl, Nat.le_of_ble_eq_true rfl⟩) (by decide) rfl rfl rfl rfl hl.1 (Nat.le_of_ble_eq_true rfl) dL_law_153 ⟨Nat.le_of_ble_eq_true rfl, Nat.le_of_ble_eq_true rfl⟩ (fun r2 M3 H locs hpo hP2 hS _ hf => ?_)
    replace hP1 := sg_apart hP1 hf a12
    obtain ⟨rfl, np2, ns2, rfl⟩ := hpo
    refine lv_icmp_eq (tgt := 655) hx hb dL_law_156 (by decide) (fun c1 => ?_) (fun c1 => absurd rfl c1)
    exact K (mAdv dd ww S q (xs (i + 2))) M2 _ _ _ _ _ ⟨hP1, hC2, hP2, hS⟩ (lv_sub hl [0, 1, 2, 3] rfl)
  · have hno : ¬ (xs (i + 1) = 0 ∨ xs (i + 1) = 1) ∨ xs (i + 2) < 0 ∨ ¬ xs (i + 2) ≤ nI 7 := by
      by_cases z1 : two (xs (i + 1))
      · by_cases z2 : xs (i + 2) < 0
        · exact Or.inr (Or.inl z2)
        · exact Or.inr (Or.inr (fun z3 => hok ⟨z1, z2, z3⟩))
      · exact Or.inl z1
    refine lv_aload_n hx hb dL_law_128 rfl (lv_at hl 1 rfl) ?_
    refine lv_aload_n hx hb dL_law_129 rfl (lv_at hl 0 rfl) ?_
    refine lv_iload_n hx hb dL_law_130 rfl (lv_at hl 3 rfl) ?_
    refine lv_iconst (v := nI 1) hx hb dL_law_131 (by decide) ?_
    refine n_add hx hb dL_law_132 ?_
    refine va_sld hx hb hX hbl hbA hS (nI_in' (show i + 1 < L by omega) (by omega)) dL_law_133 ?_
    rw [nI_clamp (show i + 1 < 2 ^ 31 by omega)]
    refine lv_aload_n hx hb dL_law_134 rfl (lv_at hl 0 rfl) ?_
    refine lv_iload_n hx hb dL_law_135 rfl (lv_at hl 3 rfl) ?_
    refine lv_iconst (v := nI 2) hx hb dL_law_136 (by decide) ?_
    refine n_add hx hb dL_law_137 ?_
    refine va_sld hx hb hX hbl hbA hS (nI_in' (show i + 2 < L by omega) (by omega)) dL_law_138 ?_
    rw [nI_clamp (show i + 2 < 2 ^ 31 by omega)]
    refine k_Vi (ad := a1 h0) (As := [.int (xs (i + 1)), .int (xs (i + 2))]) (rest := []) (k := 0) (ci := 6) ⟨hx, hb, hml, hown, hts⟩ hK hP1 hS a1_G (c6_advance_no l D cs (a1 h0) (a1_J h0 146) M1 dd ww N S hdd hw1 hw2 (by omega) hC (xs (i + 1)) (xs (i + 2)) hno) (cwV 2 hts gL_law_X6_advance rfl rfl rfl (by decide +kernel) ⟨Nat.le_of_ble_eq_true rfl, Nat.le_of_ble_eq_true rfl⟩) (by decide) hC.1 rfl rfl rfl hl.1 (Nat.le_of_ble_eq_true rfl) dL_law_139 ⟨Nat.le_of_ble_eq_true rfl, Nat.le_of_ble_eq_true rfl⟩ (fun r1 M2 H locs hpo hP1 hS _ hf => ?_)
    replace hP2 := sg_apart hP2 hf a21
    obtain ⟨hMe, rfl⟩ := hpo
    rw [hMe] at hP1
    refine lv_aload_n hx hb dL_law_142 rfl (lv_at hl 2 rfl) ?_
    refine lv_aload_n hx hb dL_law_143 rfl (lv_at hl 0 rfl) ?_
    refine lv_iload_n hx hb dL_law_144 rfl (lv_at hl 3 rfl) ?_
    refine lv_iconst (v := nI 1) hx hb dL_law_145 (by decide) ?_
    refine n_add hx hb dL_law_146 ?_
    refine va_sld hx hb hX hbl hbA hS (nI_in' (show i + 1 < L by omega) (by omega)) dL_law_147 ?_
    rw [nI_clamp (show i + 1 < 2 ^ 31 by omega)]
    refine lv_aload_n hx hb dL_law_148 rfl (lv_at hl 0 rfl) ?_
    refine lv_iload_n hx hb dL_law_149 rfl (lv_at hl 3 rfl) ?_
    refine lv_iconst (v := nI 2) hx hb dL_law_150 (by decide) ?_
    refine n_add hx hb dL_law_151 ?_
    refine va_sld hx hb hX hbl hbA hS (nI_in' (show i + 2 < L by omega) (by omega)) dL_law_152 ?_
    rw [nI_clamp (show i + 2 < 2 ^ 31 by omega)]
    refine k_Vi (ad := a2 h0) (As := [.int (xs (i + 1)), .int (xs (i + 2))]) (rest := [.int (-2)]) (k := 0) (ci := 7) ⟨hx, hb, hml, hown, hts⟩ hK hP2 hS a2_G (c_advance_no l D cs (a2 h0) (a2_J h0 26) (nI dd) (nI ww) S np ns (xs (i + 1)) (xs (i + 2)) hno) (cwV 2 hts gL_law_X7_advance rfl rfl rfl (by decide +kernel) ⟨Nat.le_of_ble_eq_true rfl, Nat.le_of_ble_eq_true rfl⟩) (by decide) rfl rfl rfl rfl hl.1 (Nat.le_of_ble_eq_true rfl) dL_law_153 ⟨Nat.le_of_ble_eq_true rfl, Nat.le_of_ble_eq_true rfl⟩ (fun r2 M3 H locs hpo hP2 hS _ hf => ?_)
    replace hP1 := sg_apart hP1 hf a12
    obtain ⟨hMe, rfl⟩ := hpo
    rw [hMe] at hP2
    refine lv_icmp_eq (tgt := 655) hx hb dL_law_156 (by decide) (fun c1 => ?_) (fun c1 => absurd rfl c1)
    exact K S M1 np ns _ _ _ ⟨hP1, hC.mono, hP2, hS⟩ (lv_sub hl [0, 1, 2, 3] rfl)
set_option maxHeartbeats 4000000 in
set_option maxRecDepth 100000 in
/-- the law at deliver -/
theorem L_1 {p : Program} {e : Env} {s : State} {m : MethodId} {below : List Frame} {meth : Method} {c : Code} (l : Launch) {b L : Nat} {xs : Nat → Int32} {Q : State → Prop} {D : va_G} {cs : Nat → ClassId} {h0 dd ww : Nat} {N i : Nat} {S : SS} {M1 : Nat → va_E} {np ns : UInt32} {H : Heap} {locs : List Loc} {ls : Array Slot} (hx : p.tables.exec = Jvm.exec) (hb : c.code = cL_law) (hml : c.maxLocals = 8) (hown : s.vm.findClass RL = some m.cls) (hts : ∀ w ∈ wsL_law, w.before #[Value.ref b] s = true) (hX : va_X b L xs s s.heap) (hbl : b < s.heap.size) (hbA : ¬ Ge h0 b) (hK : va_K D vwCl (tysC cs) s) (hdd : dd ≤ 4) (hw1 : 1 ≤ ww) (hw2 : ww ≤ 8) (hN : N ≤ 520) (hLL : L ≤ 2051) (hi : i + 4 ≤ L) (hLI : LI D cs h0 dd ww N S M1 np ns s H locs) (hl : lv_has ls 8 [(0, .ref b), (1, .ref (a1 h0 0)), (2, .ref (a2 h0 0)), (3, .int (nI i))]) (K : ∀ (S' : SS) (M' : Nat → va_E) (np' ns' : UInt32) (H' : Heap) (locs' : List Loc) (ls' : Array Slot), LI D cs h0 dd ww (N + 1) S' M' np' ns' s H' locs' → lv_has ls' 8 [(0, .ref b), (1, .ref (a1 h0 0)), (2, .ref (a2 h0 0)), (3, .int (nI i))] → W p l e room_1 s m #[Value.ref b] below meth c H' locs' 600000 7302250 Q (F0 m 655 ls' [])) : W p l e room_1 s m #[Value.ref b] below meth c H locs 600000 7302250 Q (F0 m 161 ls []) := by
  obtain ⟨hP1, hC, hP2, hS⟩ := hLI
  by_cases hok : two (xs (i + 1))
  · obtain ⟨q, hq, eq⟩ := two_q hok
    obtain ⟨a, nt, t, r, r8, ha, I1, I2, I3, I4, I7, I8, hr, hr2, hr8, hr82, I12, I13, hs8, hs20⟩ := hC.all q hq
    have h6 := c6_deliver l D cs (a1 h0) (a1_J h0 146) M1 dd ww N S hdd hw1 hw2 (by omega) hC q hq
    have h7 := c_deliver l D cs (a2 h0) (a2_J h0 26) (nI dd) (nI ww) S np ns q a nt (a + dd) r hq hr hr2 hs20 I1 (by omega) I3 I4 I2 (by omega) I12 I13
    rw [← eq] at h6
    rw [← eq] at h7
    refine lv_aload_n hx hb dL_law_161 rfl (lv_at hl 1 rfl) ?_
    refine lv_aload_n hx hb dL_law_162 rfl (lv_at hl 0 rfl) ?_
    refine lv_iload_n hx hb dL_law_163 rfl (lv_at hl 3 rfl) ?_
    refine lv_iconst (v := nI 1) hx hb dL_law_164 (by decide) ?_
    refine n_add hx hb dL_law_165 ?_
    refine va_sld hx hb hX hbl hbA hS (nI_in' (show i + 1 < L by omega) (by omega)) dL_law_166 ?_
    rw [nI_clamp (show i + 1 < 2 ^ 31 by omega)]
    refine k_Vi (ad := a1 h0) (As := [.int (xs (i + 1))]) (rest := []) (k := 0) (ci := 6) ⟨hx, hb, hml, hown, hts⟩ hK hP1 hS a1_G h6 (cwV 1 hts gL_law_X6_deliver rfl rfl rfl (by decide +kernel) ⟨Nat.le_of_ble_eq_true rfl, Nat.le_of_ble_eq_true rfl⟩) (by decide) hC.1 rfl rfl rfl hl.1 (Nat.le_of_ble_eq_true rfl) dL_law_167 ⟨Nat.le_of_ble_eq_true rfl, Nat.le_of_ble_eq_true rfl⟩ (fun r1 M2 H locs hpo hP1 hS _ hf => ?_)
    replace hP2 := sg_apart hP2 hf a21
    obtain ⟨rfl, hC2⟩ := hpo
    refine lv_aload_n hx hb dL_law_170 rfl (lv_at hl 2 rfl) ?_
    refine lv_aload_n hx hb dL_law_171 rfl (lv_at hl 0 rfl) ?_
    refine lv_iload_n hx hb dL_law_172 rfl (lv_at hl 3 rfl) ?_
    refine lv_iconst (v := nI 1) hx hb dL_law_173 (by decide) ?_
    refine n_add hx hb dL_law_174 ?_
    refine va_sld hx hb hX hbl hbA hS (nI_in' (show i + 1 < L by omega) (by omega)) dL_law_175 ?_
    rw [nI_clamp (show i + 1 < 2 ^ 31 by omega)]
    refine k_Vi (ad := a2 h0) (As := [.int (xs (i + 1))]) (rest := [.int (rDel S q)]) (k := 0) (ci := 7) ⟨hx, hb, hml, hown, hts⟩ hK hP2 hS a2_G h7 (cwV 1 hts gL_law_X7_deliver rfl rfl rfl (by decide +kernel) ⟨Nat.le_of_ble_eq_true rfl, Nat.le_of_ble_eq_true rfl⟩) (by decide) rfl rfl rfl rfl hl.1 (Nat.le_of_ble_eq_true rfl) dL_law_176 ⟨Nat.le_of_ble_eq_true rfl, Nat.le_of_ble_eq_true rfl⟩ (fun r2 M3 H locs hpo hP2 hS _ hf => ?_)
    replace hP1 := sg_apart hP1 hf a12
    obtain ⟨rfl, np2, ns2, rfl⟩ := hpo
    refine lv_icmp_eq (tgt := 655) hx hb dL_law_179 (by decide) (fun c1 => ?_) (fun c1 => absurd rfl c1)
    exact K (mDel S q) M2 _ _ _ _ _ ⟨hP1, hC2, hP2, hS⟩ (lv_sub hl [0, 1, 2, 3] rfl)
  · have hno : ¬ (xs (i + 1) = 0 ∨ xs (i + 1) = 1) := hok
    refine lv_aload_n hx hb dL_law_161 rfl (lv_at hl 1 rfl) ?_
    refine lv_aload_n hx hb dL_law_162 rfl (lv_at hl 0 rfl) ?_
    refine lv_iload_n hx hb dL_law_163 rfl (lv_at hl 3 rfl) ?_
    refine lv_iconst (v := nI 1) hx hb dL_law_164 (by decide) ?_
    refine n_add hx hb dL_law_165 ?_
    refine va_sld hx hb hX hbl hbA hS (nI_in' (show i + 1 < L by omega) (by omega)) dL_law_166 ?_
    rw [nI_clamp (show i + 1 < 2 ^ 31 by omega)]
    refine k_Vi (ad := a1 h0) (As := [.int (xs (i + 1))]) (rest := []) (k := 0) (ci := 6) ⟨hx, hb, hml, hown, hts⟩ hK hP1 hS a1_G (c6_deliver_no l D cs (a1 h0) (a1_J h0 146) M1 dd ww N S hdd hw1 hw2 (by omega) hC (xs (i + 1)) hno) (cwV 1 hts gL_law_X6_deliver rfl rfl rfl (by decide +kernel) ⟨Nat.le_of_ble_eq_true rfl, Nat.le_of_ble_eq_true rfl⟩) (by decide) hC.1 rfl rfl rfl hl.1 (Nat.le_of_ble_eq_true rfl) dL_law_167 ⟨Nat.le_of_ble_eq_true rfl, Nat.le_of_ble_eq_true rfl⟩ (fun r1 M2 H locs hpo hP1 hS _ hf => ?_)
    replace hP2 := sg_apart hP2 hf a21
    obtain ⟨hMe, rfl⟩ := hpo
    rw [hMe] at hP1
    refine lv_aload_n hx hb dL_law_170 rfl (lv_at hl 2 rfl) ?_
    refine lv_aload_n hx hb dL_law_171 rfl (lv_at hl 0 rfl) ?_
    refine lv_iload_n hx hb dL_law_172 rfl (lv_at hl 3 rfl) ?_
    refine lv_iconst (v := nI 1) hx hb dL_law_173 (by decide) ?_
    refine n_add hx hb dL_law_174 ?_
    refine va_sld hx hb hX hbl hbA hS (nI_in' (show i + 1 < L by omega) (by omega)) dL_law_175 ?_
    rw [nI_clamp (show i + 1 < 2 ^ 31 by omega)]
    refine k_Vi (ad := a2 h0) (As := [.int (xs (i + 1))]) (rest := [.int (-1)]) (k := 0) (ci := 7) ⟨hx, hb, hml, hown, hts⟩ hK hP2 hS a2_G (c_deliver_no l D cs (a2 h0) (a2_J h0 26) (nI dd) (nI ww) S np ns (xs (i + 1)) hno) (cwV 1 hts gL_law_X7_deliver rfl rfl rfl (by decide +kernel) ⟨Nat.le_of_ble_eq_true rfl, Nat.le_of_ble_eq_true rfl⟩) (by decide) rfl rfl rfl rfl hl.1 (Nat.le_of_ble_eq_true rfl) dL_law_176 ⟨Nat.le_of_ble_eq_true rfl, Nat.le_of_ble_eq_true rfl⟩ (fun r2 M3 H locs hpo hP2 hS _ hf => ?_)
    replace hP1 := sg_apart hP1 hf a12
    obtain ⟨hMe, rfl⟩ := hpo
    rw [hMe] at hP2
    refine lv_icmp_eq (tgt := 655) hx hb dL_law_179 (by decide) (fun c1 => ?_) (fun c1 => absurd rfl c1)
    exact K S M1 np ns _ _ _ ⟨hP1, hC.mono, hP2, hS⟩ (lv_sub hl [0, 1, 2, 3] rfl)
set_option maxHeartbeats 4000000 in
set_option maxRecDepth 100000 in
/-- the law at alter -/
theorem L_2 {p : Program} {e : Env} {s : State} {m : MethodId} {below : List Frame} {meth : Method} {c : Code} (l : Launch) {b L : Nat} {xs : Nat → Int32} {Q : State → Prop} {D : va_G} {cs : Nat → ClassId} {h0 dd ww : Nat} {N i : Nat} {S : SS} {M1 : Nat → va_E} {np ns : UInt32} {H : Heap} {locs : List Loc} {ls : Array Slot} (hx : p.tables.exec = Jvm.exec) (hb : c.code = cL_law) (hml : c.maxLocals = 8) (hown : s.vm.findClass RL = some m.cls) (hts : ∀ w ∈ wsL_law, w.before #[Value.ref b] s = true) (hX : va_X b L xs s s.heap) (hbl : b < s.heap.size) (hbA : ¬ Ge h0 b) (hK : va_K D vwCl (tysC cs) s) (hdd : dd ≤ 4) (hw1 : 1 ≤ ww) (hw2 : ww ≤ 8) (hN : N ≤ 520) (hLL : L ≤ 2051) (hi : i + 4 ≤ L) (hLI : LI D cs h0 dd ww N S M1 np ns s H locs) (hl : lv_has ls 8 [(0, .ref b), (1, .ref (a1 h0 0)), (2, .ref (a2 h0 0)), (3, .int (nI i))]) (K : ∀ (S' : SS) (M' : Nat → va_E) (np' ns' : UInt32) (H' : Heap) (locs' : List Loc) (ls' : Array Slot), LI D cs h0 dd ww (N + 1) S' M' np' ns' s H' locs' → lv_has ls' 8 [(0, .ref b), (1, .ref (a1 h0 0)), (2, .ref (a2 h0 0)), (3, .int (nI i))] → W p l e room_1 s m #[Value.ref b] below meth c H' locs' 600000 7302250 Q (F0 m 655 ls' [])) : W p l e room_1 s m #[Value.ref b] below meth c H locs 600000 7302250 Q (F0 m 184 ls []) := by
  obtain ⟨hP1, hC, hP2, hS⟩ := hLI
  by_cases hok : noAl S (xs (i + 1)) (xs (i + 2))
  · have hno := hok
    refine lv_aload_n hx hb dL_law_184 rfl (lv_at hl 1 rfl) ?_
    refine lv_aload_n hx hb dL_law_185 rfl (lv_at hl 0 rfl) ?_
    refine lv_iload_n hx hb dL_law_186 rfl (lv_at hl 3 rfl) ?_
    refine lv_iconst (v := nI 1) hx hb dL_law_187 (by decide) ?_
    refine n_add hx hb dL_law_188 ?_
    refine va_sld hx hb hX hbl hbA hS (nI_in' (show i + 1 < L by omega) (by omega)) dL_law_189 ?_
    rw [nI_clamp (show i + 1 < 2 ^ 31 by omega)]
    refine lv_aload_n hx hb dL_law_190 rfl (lv_at hl 0 rfl) ?_
    refine lv_iload_n hx hb dL_law_191 rfl (lv_at hl 3 rfl) ?_
    refine lv_iconst (v := nI 2) hx hb dL_law_192 (by decide) ?_
    refine n_add hx hb dL_law_193 ?_
    refine va_sld hx hb hX hbl hbA hS (nI_in' (show i + 2 < L by omega) (by omega)) dL_law_194 ?_
    rw [nI_clamp (show i + 2 < 2 ^ 31 by omega)]
    refine k_Vi (ad := a1 h0) (As := [.int (xs (i + 1)), .int (xs (i + 2))]) (rest := []) (k := 0) (ci := 6) ⟨hx, hb, hml, hown, hts⟩ hK hP1 hS a1_G (c6_alter_no l D cs (a1 h0) (a1_J h0 146) M1 dd ww N S hdd hw1 hw2 (by omega) hC (xs (i + 1)) (xs (i + 2)) hno) (cwV 2 hts gL_law_X6_alter rfl rfl rfl (by decide +kernel) ⟨Nat.le_of_ble_eq_true rfl, Nat.le_of_ble_eq_true rfl⟩) (by decide) hC.1 rfl rfl rfl hl.1 (Nat.le_of_ble_eq_true rfl) dL_law_195 ⟨Nat.le_of_ble_eq_true rfl, Nat.le_of_ble_eq_true rfl⟩ (fun r1 M2 H locs hpo hP1 hS _ hf => ?_)
    replace hP2 := sg_apart hP2 hf a21
    obtain ⟨hMe, rfl⟩ := hpo
    rw [hMe] at hP1
    refine lv_aload_n hx hb dL_law_198 rfl (lv_at hl 2 rfl) ?_
    refine lv_aload_n hx hb dL_law_199 rfl (lv_at hl 0 rfl) ?_
    refine lv_iload_n hx hb dL_law_200 rfl (lv_at hl 3 rfl) ?_
    refine lv_iconst (v := nI 1) hx hb dL_law_201 (by decide) ?_
    refine n_add hx hb dL_law_202 ?_
    refine va_sld hx hb hX hbl hbA hS (nI_in' (show i + 1 < L by omega) (by omega)) dL_law_203 ?_
    rw [nI_clamp (show i + 1 < 2 ^ 31 by omega)]
    refine lv_aload_n hx hb dL_law_204 rfl (lv_at hl 0 rfl) ?_
    refine lv_iload_n hx hb dL_law_205 rfl (lv_at hl 3 rfl) ?_
    refine lv_iconst (v := nI 2) hx hb dL_law_206 (by decide) ?_
    refine n_add hx hb dL_law_207 ?_
    refine va_sld hx hb hX hbl hbA hS (nI_in' (show i + 2 < L by omega) (by omega)) dL_law_208 ?_
    rw [nI_clamp (show i + 2 < 2 ^ 31 by omega)]
    refine k_Vi (ad := a2 h0) (As := [.int (xs (i + 1)), .int (xs (i + 2))]) (rest := [.int (nI 0)]) (k := 0) (ci := 7) ⟨hx, hb, hml, hown, hts⟩ hK hP2 hS a2_G (c_alter_no l D cs (a2 h0) (a2_J h0 26) (nI dd) (nI ww) S np ns (xs (i + 1)) (xs (i + 2)) hno) (cwV 2 hts gL_law_X7_alter rfl rfl rfl (by decide +kernel) ⟨Nat.le_of_ble_eq_true rfl, Nat.le_of_ble_eq_true rfl⟩) (by decide) rfl rfl rfl rfl hl.1 (Nat.le_of_ble_eq_true rfl) dL_law_209 ⟨Nat.le_of_ble_eq_true rfl, Nat.le_of_ble_eq_true rfl⟩ (fun r2 M3 H locs hpo hP2 hS _ hf => ?_)
    replace hP1 := sg_apart hP1 hf a12
    obtain ⟨hMe, rfl⟩ := hpo
    rw [hMe] at hP2
    refine lv_icmp_eq (tgt := 655) hx hb dL_law_212 (by decide) (fun c1 => ?_) (fun c1 => absurd rfl c1)
    exact K S M1 np ns _ _ _ ⟨hP1, hC.mono, hP2, hS⟩ (lv_sub hl [0, 1, 2, 3] rfl)
  · have z1 : two (xs (i + 1)) := Decidable.byContradiction (fun z => hok (Or.inl z))
    obtain ⟨q, hq, eq⟩ := two_q z1
    obtain ⟨j, hj, ej⟩ := in_0n (n := 2) (by decide) (fun z => hok (Or.inr (Or.inl z))) (fun z => hok (Or.inr (Or.inr (Or.inl z))))
    obtain ⟨a, nt, t, r, r8, ha, I1, I2, I3, I4, I7, I8, hr, hr2, hr8, hr82, I12, I13, hs8, hs20⟩ := hC.all q hq
    have htq : tn (xs (i + 1)) = q := by rw [eq]; exact tn_nI (by omega)
    have hr1 : 1 ≤ r := by
      rcases Nat.eq_zero_or_pos r with z | z
      · exact absurd (Or.inr (Or.inr (Or.inr (Or.inl (by rw [htq, hr, z]; rfl))))) hok
      · exact z
    have hr3 : j = 1 → r ≠ 12 := fun z2 z3 => hok (Or.inr (Or.inr (Or.inr (Or.inr ⟨by rw [ej, z2], by rw [htq, hr, z3]⟩))))
    have h6 := c6_alter l D cs (a1 h0) (a1_J h0 146) M1 dd ww N S hdd hw1 hw2 (by omega) hC q j r hq hj hr hr1 hr2 hr3
    have h7 := c_alter l D cs (a2 h0) (a2_J h0 26) (nI dd) (nI ww) S np ns q r j hq hj hr hr1 hr2 hr3 hs20
    rw [← eq, ← ej] at h6
    rw [← eq, ← ej] at h7
    refine lv_aload_n hx hb dL_law_184 rfl (lv_at hl 1 rfl) ?_
    refine lv_aload_n hx hb dL_law_185 rfl (lv_at hl 0 rfl) ?_
    refine lv_iload_n hx hb dL_law_186 rfl (lv_at hl 3 rfl) ?_
    refine lv_iconst (v := nI 1) hx hb dL_law_187 (by decide) ?_
    refine n_add hx hb dL_law_188 ?_
    refine va_sld hx hb hX hbl hbA hS (nI_in' (show i + 1 < L by omega) (by omega)) dL_law_189 ?_
    rw [nI_clamp (show i + 1 < 2 ^ 31 by omega)]
    refine lv_aload_n hx hb dL_law_190 rfl (lv_at hl 0 rfl) ?_
    refine lv_iload_n hx hb dL_law_191 rfl (lv_at hl 3 rfl) ?_
    refine lv_iconst (v := nI 2) hx hb dL_law_192 (by decide) ?_
    refine n_add hx hb dL_law_193 ?_
    refine va_sld hx hb hX hbl hbA hS (nI_in' (show i + 2 < L by omega) (by omega)) dL_law_194 ?_
    rw [nI_clamp (show i + 2 < 2 ^ 31 by omega)]
    refine k_Vi (ad := a1 h0) (As := [.int (xs (i + 1)), .int (xs (i + 2))]) (rest := []) (k := 0) (ci := 6) ⟨hx, hb, hml, hown, hts⟩ hK hP1 hS a1_G h6 (cwV 2 hts gL_law_X6_alter rfl rfl rfl (by decide +kernel) ⟨Nat.le_of_ble_eq_true rfl, Nat.le_of_ble_eq_true rfl⟩) (by decide) hC.1 rfl rfl rfl hl.1 (Nat.le_of_ble_eq_true rfl) dL_law_195 ⟨Nat.le_of_ble_eq_true rfl, Nat.le_of_ble_eq_true rfl⟩ (fun r1 M2 H locs hpo hP1 hS _ hf => ?_)
    replace hP2 := sg_apart hP2 hf a21
    obtain ⟨rfl, hC2⟩ := hpo
    refine lv_aload_n hx hb dL_law_198 rfl (lv_at hl 2 rfl) ?_
    refine lv_aload_n hx hb dL_law_199 rfl (lv_at hl 0 rfl) ?_
    refine lv_iload_n hx hb dL_law_200 rfl (lv_at hl 3 rfl) ?_
    refine lv_iconst (v := nI 1) hx hb dL_law_201 (by decide) ?_
    refine n_add hx hb dL_law_202 ?_
    refine va_sld hx hb hX hbl hbA hS (nI_in' (show i + 1 < L by omega) (by omega)) dL_law_203 ?_
    rw [nI_clamp (show i + 1 < 2 ^ 31 by omega)]
    refine lv_aload_n hx hb dL_law_204 rfl (lv_at hl 0 rfl) ?_
    refine lv_iload_n hx hb dL_law_205 rfl (lv_at hl 3 rfl) ?_
    refine lv_iconst (v := nI 2) hx hb dL_law_206 (by decide) ?_
    refine n_add hx hb dL_law_207 ?_
    refine va_sld hx hb hX hbl hbA hS (nI_in' (show i + 2 < L by omega) (by omega)) dL_law_208 ?_
    rw [nI_clamp (show i + 2 < 2 ^ 31 by omega)]
    refine k_Vi (ad := a2 h0) (As := [.int (xs (i + 1)), .int (xs (i + 2))]) (rest := [.int (nI 1)]) (k := 0) (ci := 7) ⟨hx, hb, hml, hown, hts⟩ hK hP2 hS a2_G h7 (cwV 2 hts gL_law_X7_alter rfl rfl rfl (by decide +kernel) ⟨Nat.le_of_ble_eq_true rfl, Nat.le_of_ble_eq_true rfl⟩) (by decide) rfl rfl rfl rfl hl.1 (Nat.le_of_ble_eq_true rfl) dL_law_209 ⟨Nat.le_of_ble_eq_true rfl, Nat.le_of_ble_eq_true rfl⟩ (fun r2 M3 H locs hpo hP2 hS _ hf => ?_)
    replace hP1 := sg_apart hP1 hf a12
    obtain ⟨rfl, rfl⟩ := hpo
    refine lv_icmp_eq (tgt := 655) hx hb dL_law_212 (by decide) (fun c1 => ?_) (fun c1 => absurd rfl c1)
    exact K (mAl S q j) M2 _ _ _ _ _ ⟨hP1, hC2, hP2, hS⟩ (lv_sub hl [0, 1, 2, 3] rfl)
set_option maxHeartbeats 4000000 in
set_option maxRecDepth 100000 in
/-- the law at spoil -/
theorem L_3 {p : Program} {e : Env} {s : State} {m : MethodId} {below : List Frame} {meth : Method} {c : Code} (l : Launch) {b L : Nat} {xs : Nat → Int32} {Q : State → Prop} {D : va_G} {cs : Nat → ClassId} {h0 dd ww : Nat} {N i : Nat} {S : SS} {M1 : Nat → va_E} {np ns : UInt32} {H : Heap} {locs : List Loc} {ls : Array Slot} (hx : p.tables.exec = Jvm.exec) (hb : c.code = cL_law) (hml : c.maxLocals = 8) (hown : s.vm.findClass RL = some m.cls) (hts : ∀ w ∈ wsL_law, w.before #[Value.ref b] s = true) (hX : va_X b L xs s s.heap) (hbl : b < s.heap.size) (hbA : ¬ Ge h0 b) (hK : va_K D vwCl (tysC cs) s) (hdd : dd ≤ 4) (hw1 : 1 ≤ ww) (hw2 : ww ≤ 8) (hN : N ≤ 520) (hLL : L ≤ 2051) (hi : i + 4 ≤ L) (hLI : LI D cs h0 dd ww N S M1 np ns s H locs) (hl : lv_has ls 8 [(0, .ref b), (1, .ref (a1 h0 0)), (2, .ref (a2 h0 0)), (3, .int (nI i))]) (K : ∀ (S' : SS) (M' : Nat → va_E) (np' ns' : UInt32) (H' : Heap) (locs' : List Loc) (ls' : Array Slot), LI D cs h0 dd ww (N + 1) S' M' np' ns' s H' locs' → lv_has ls' 8 [(0, .ref b), (1, .ref (a1 h0 0)), (2, .ref (a2 h0 0)), (3, .int (nI i))] → W p l e room_1 s m #[Value.ref b] below meth c H' locs' 600000 7302250 Q (F0 m 655 ls' [])) : W p l e room_1 s m #[Value.ref b] below meth c H locs 600000 7302250 Q (F0 m 217 ls []) := by
  obtain ⟨hP1, hC, hP2, hS⟩ := hLI
  by_cases hok : noSl S (xs (i + 1)) (xs (i + 2))
  · have hno := hok
    refine lv_aload_n hx hb dL_law_217 rfl (lv_at hl 1 rfl) ?_
    refine lv_aload_n hx hb dL_law_218 rfl (lv_at hl 0 rfl) ?_
    refine lv_iload_n hx hb dL_law_219 rfl (lv_at hl 3 rfl) ?_
    refine lv_iconst (v := nI 1) hx hb dL_law_220 (by decide) ?_
    refine n_add hx hb dL_law_221 ?_
    refine va_sld hx hb hX hbl hbA hS (nI_in' (show i + 1 < L by omega) (by omega)) dL_law_222 ?_
    rw [nI_clamp (show i + 1 < 2 ^ 31 by omega)]
    refine lv_aload_n hx hb dL_law_223 rfl (lv_at hl 0 rfl) ?_
    refine lv_iload_n hx hb dL_law_224 rfl (lv_at hl 3 rfl) ?_
    refine lv_iconst (v := nI 2) hx hb dL_law_225 (by decide) ?_
    refine n_add hx hb dL_law_226 ?_
    refine va_sld hx hb hX hbl hbA hS (nI_in' (show i + 2 < L by omega) (by omega)) dL_law_227 ?_
    rw [nI_clamp (show i + 2 < 2 ^ 31 by omega)]
    refine lv_aload_n hx hb dL_law_228 rfl (lv_at hl 0 rfl) ?_
    refine lv_iload_n hx hb dL_law_229 rfl (lv_at hl 3 rfl) ?_
    refine lv_iconst (v := nI 3) hx hb dL_law_230 (by decide) ?_
    refine n_add hx hb dL_law_231 ?_
    refine va_sld hx hb hX hbl hbA hS (nI_in' (show i + 3 < L by omega) (by omega)) dL_law_232 ?_
    rw [nI_clamp (show i + 3 < 2 ^ 31 by omega)]
    refine k_Vi (ad := a1 h0) (As := [.int (xs (i + 1)), .int (xs (i + 2)), .int (xs (i + 3))]) (rest := []) (k := 0) (ci := 6) ⟨hx, hb, hml, hown, hts⟩ hK hP1 hS a1_G (c6_spoil_no l D cs (a1 h0) (a1_J h0 146) M1 dd ww N S hdd hw1 hw2 (by omega) hC (xs (i + 1)) (xs (i + 2)) (xs (i + 3)) hno) (cwV 3 hts gL_law_X6_spoil rfl rfl rfl (by decide +kernel) ⟨Nat.le_of_ble_eq_true rfl, Nat.le_of_ble_eq_true rfl⟩) (by decide) hC.1 rfl rfl rfl hl.1 (Nat.le_of_ble_eq_true rfl) dL_law_233 ⟨Nat.le_of_ble_eq_true rfl, Nat.le_of_ble_eq_true rfl⟩ (fun r1 M2 H locs hpo hP1 hS _ hf => ?_)
    replace hP2 := sg_apart hP2 hf a21
    obtain ⟨hMe, rfl⟩ := hpo
    rw [hMe] at hP1
    refine lv_aload_n hx hb dL_law_236 rfl (lv_at hl 2 rfl) ?_
    refine lv_aload_n hx hb dL_law_237 rfl (lv_at hl 0 rfl) ?_
    refine lv_iload_n hx hb dL_law_238 rfl (lv_at hl 3 rfl) ?_
    refine lv_iconst (v := nI 1) hx hb dL_law_239 (by decide) ?_
    refine n_add hx hb dL_law_240 ?_
    refine va_sld hx hb hX hbl hbA hS (nI_in' (show i + 1 < L by omega) (by omega)) dL_law_241 ?_
    rw [nI_clamp (show i + 1 < 2 ^ 31 by omega)]
    refine lv_aload_n hx hb dL_law_242 rfl (lv_at hl 0 rfl) ?_
    refine lv_iload_n hx hb dL_law_243 rfl (lv_at hl 3 rfl) ?_
    refine lv_iconst (v := nI 2) hx hb dL_law_244 (by decide) ?_
    refine n_add hx hb dL_law_245 ?_
    refine va_sld hx hb hX hbl hbA hS (nI_in' (show i + 2 < L by omega) (by omega)) dL_law_246 ?_
    rw [nI_clamp (show i + 2 < 2 ^ 31 by omega)]
    refine lv_aload_n hx hb dL_law_247 rfl (lv_at hl 0 rfl) ?_
    refine lv_iload_n hx hb dL_law_248 rfl (lv_at hl 3 rfl) ?_
    refine lv_iconst (v := nI 3) hx hb dL_law_249 (by decide) ?_
    refine n_add hx hb dL_law_250 ?_
    refine va_sld hx hb hX hbl hbA hS (nI_in' (show i + 3 < L by omega) (by omega)) dL_law_251 ?_
    rw [nI_clamp (show i + 3 < 2 ^ 31 by omega)]
    refine k_Vi (ad := a2 h0) (As := [.int (xs (i + 1)), .int (xs (i + 2)), .int (xs (i + 3))]) (rest := [.int (nI 0)]) (k := 0) (ci := 7) ⟨hx, hb, hml, hown, hts⟩ hK hP2 hS a2_G (c_spoil_no l D cs (a2 h0) (a2_J h0 26) (nI dd) (nI ww) S np ns (xs (i + 1)) (xs (i + 2)) (xs (i + 3)) hno) (cwV 3 hts gL_law_X7_spoil rfl rfl rfl (by decide +kernel) ⟨Nat.le_of_ble_eq_true rfl, Nat.le_of_ble_eq_true rfl⟩) (by decide) rfl rfl rfl rfl hl.1 (Nat.le_of_ble_eq_true rfl) dL_law_252 ⟨Nat.le_of_ble_eq_true rfl, Nat.le_of_ble_eq_true rfl⟩ (fun r2 M3 H locs hpo hP2 hS _ hf => ?_)
    replace hP1 := sg_apart hP1 hf a12
    obtain ⟨hMe, rfl⟩ := hpo
    rw [hMe] at hP2
    refine lv_icmp_eq (tgt := 655) hx hb dL_law_255 (by decide) (fun c1 => ?_) (fun c1 => absurd rfl c1)
    exact K S M1 np ns _ _ _ ⟨hP1, hC.mono, hP2, hS⟩ (lv_sub hl [0, 1, 2, 3] rfl)
  · have z1 : two (xs (i + 1)) := Decidable.byContradiction (fun z => hok (Or.inl z))
    obtain ⟨q, hq, eq⟩ := two_q z1
    obtain ⟨j, hj, ej⟩ := in_0n (n := 6) (by decide) (fun z => hok (Or.inr (Or.inl z))) (fun z => hok (Or.inr (Or.inr (Or.inl z))))
    obtain ⟨a, nt, t, r, r8, ha, I1, I2, I3, I4, I7, I8, hr, hr2, hr8, hr82, I12, I13, hs8, hs20⟩ := hC.all q hq
    have htq : tn (xs (i + 1)) = q := by rw [eq]; exact tn_nI (by omega)
    have hr1 : 1 ≤ r := by
      rcases Nat.eq_zero_or_pos r with z | z
      · exact absurd (Or.inr (Or.inr (Or.inr (by rw [htq, hr, z]; rfl)))) hok
      · exact z
    have h6 := c6_spoil l D cs (a1 h0) (a1_J h0 146) M1 dd ww N S hdd hw1 hw2 (by omega) hC q j r (xs (i + 3)) hq hj hr hr1 hr2
    have h7 := c_spoil l D cs (a2 h0) (a2_J h0 26) (nI dd) (nI ww) S np ns q r j (xs (i + 3)) hq hj hr hr1 hr2 hs20
    rw [← eq, ← ej] at h6
    rw [← eq, ← ej] at h7
    refine lv_aload_n hx hb dL_law_217 rfl (lv_at hl 1 rfl) ?_
    refine lv_aload_n hx hb dL_law_218 rfl (lv_at hl 0 rfl) ?_
    refine lv_iload_n hx hb dL_law_219 rfl (lv_at hl 3 rfl) ?_
    refine lv_iconst (v := nI 1) hx hb dL_law_220 (by decide) ?_
    refine n_add hx hb dL_law_221 ?_
    refine va_sld hx hb hX hbl hbA hS (nI_in' (show i + 1 < L by omega) (by omega)) dL_law_222 ?_
    rw [nI_clamp (show i + 1 < 2 ^ 31 by omega)]
    refine lv_aload_n hx hb dL_law_223 rfl (lv_at hl 0 rfl) ?_
    refine lv_iload_n hx hb dL_law_224 rfl (lv_at hl 3 rfl) ?_
    refine lv_iconst (v := nI 2) hx hb dL_law_225 (by decide) ?_
    refine n_add hx hb dL_law_226 ?_
    refine va_sld hx hb hX hbl hbA hS (nI_in' (show i + 2 < L by omega) (by omega)) dL_law_227 ?_
    rw [nI_clamp (show i + 2 < 2 ^ 31 by omega)]
    refine lv_aload_n hx hb dL_law_228 rfl (lv_at hl 0 rfl) ?_
    refine lv_iload_n hx hb dL_law_229 rfl (lv_at hl 3 rfl) ?_
    refine lv_iconst (v := nI 3) hx hb dL_law_230 (by decide) ?_
    refine n_add hx hb dL_law_231 ?_
    refine va_sld hx hb hX hbl hbA hS (nI_in' (show i + 3 < L by omega) (by omega)) dL_law_232 ?_
    rw [nI_clamp (show i + 3 < 2 ^ 31 by omega)]
    refine k_Vi (ad := a1 h0) (As := [.int (xs (i + 1)), .int (xs (i + 2)), .int (xs (i + 3))]) (rest := []) (k := 0) (ci := 6) ⟨hx, hb, hml, hown, hts⟩ hK hP1 hS a1_G h6 (cwV 3 hts gL_law_X6_spoil rfl rfl rfl (by decide +kernel) ⟨Nat.le_of_ble_eq_true rfl, Nat.le_of_ble_eq_true rfl⟩) (by decide) hC.1 rfl rfl rfl hl.1 (Nat.le_of_ble_eq_true rfl) dL_law_233 ⟨Nat.le_of_ble_eq_true rfl, Nat.le_of_ble_eq_true rfl⟩ (fun r1 M2 H locs hpo hP1 hS _ hf => ?_)
    replace hP2 := sg_apart hP2 hf a21
    obtain ⟨rfl, hC2⟩ := hpo
    refine lv_aload_n hx hb dL_law_236 rfl (lv_at hl 2 rfl) ?_
    refine lv_aload_n hx hb dL_law_237 rfl (lv_at hl 0 rfl) ?_
    refine lv_iload_n hx hb dL_law_238 rfl (lv_at hl 3 rfl) ?_
    refine lv_iconst (v := nI 1) hx hb dL_law_239 (by decide) ?_
    refine n_add hx hb dL_law_240 ?_
    refine va_sld hx hb hX hbl hbA hS (nI_in' (show i + 1 < L by omega) (by omega)) dL_law_241 ?_
    rw [nI_clamp (show i + 1 < 2 ^ 31 by omega)]
    refine lv_aload_n hx hb dL_law_242 rfl (lv_at hl 0 rfl) ?_
    refine lv_iload_n hx hb dL_law_243 rfl (lv_at hl 3 rfl) ?_
    refine lv_iconst (v := nI 2) hx hb dL_law_244 (by decide) ?_
    refine n_add hx hb dL_law_245 ?_
    refine va_sld hx hb hX hbl hbA hS (nI_in' (show i + 2 < L by omega) (by omega)) dL_law_246 ?_
    rw [nI_clamp (show i + 2 < 2 ^ 31 by omega)]
    refine lv_aload_n hx hb dL_law_247 rfl (lv_at hl 0 rfl) ?_
    refine lv_iload_n hx hb dL_law_248 rfl (lv_at hl 3 rfl) ?_
    refine lv_iconst (v := nI 3) hx hb dL_law_249 (by decide) ?_
    refine n_add hx hb dL_law_250 ?_
    refine va_sld hx hb hX hbl hbA hS (nI_in' (show i + 3 < L by omega) (by omega)) dL_law_251 ?_
    rw [nI_clamp (show i + 3 < 2 ^ 31 by omega)]
    refine k_Vi (ad := a2 h0) (As := [.int (xs (i + 1)), .int (xs (i + 2)), .int (xs (i + 3))]) (rest := [.int (nI 1)]) (k := 0) (ci := 7) ⟨hx, hb, hml, hown, hts⟩ hK hP2 hS a2_G h7 (cwV 3 hts gL_law_X7_spoil rfl rfl rfl (by decide +kernel) ⟨Nat.le_of_ble_eq_true rfl, Nat.le_of_ble_eq_true rfl⟩) (by decide) rfl rfl rfl rfl hl.1 (Nat.le_of_ble_eq_true rfl) dL_law_252 ⟨Nat.le_of_ble_eq_true rfl, Nat.le_of_ble_eq_true rfl⟩ (fun r2 M3 H locs hpo hP2 hS _ hf => ?_)
    replace hP1 := sg_apart hP1 hf a12
    obtain ⟨rfl, rfl⟩ := hpo
    refine lv_icmp_eq (tgt := 655) hx hb dL_law_255 (by decide) (fun c1 => ?_) (fun c1 => absurd rfl c1)
    exact K (mSpl S (12 * q) j (xs (i + 3))) M2 _ _ _ _ _ ⟨hP1, hC2, hP2, hS⟩ (lv_sub hl [0, 1, 2, 3] rfl)
