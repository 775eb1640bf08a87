theorem heap_same {H H1 : Heap} (hz : H1.size = H.size) (ho : ∀ q : Nat, q < H.size → H1[q]? = H[q]?) : H1 = H := by
  apply Array.ext_getElem?
  intro q
  by_cases h : q < H.size
  · exact ho q h
  · rw [Array.getElem?_eq_none (by omega), Array.getElem?_eq_none (by omega)]
theorem X_blind {b L sz k : Nat} {xs : Nat → Int32} : FrameBlind (va_Pc [.ref b, .int (nI k)] (fun U => va_X b L xs U U.heap ∧ b < U.heap.size ∧ U.heap.size = sz)) :=
  fun a U g mk q => ⟨q.1, va_X.moved (u := U) (U := U.calling g mk a) (Vm.Alike.refl U.vm) q.2.1, q.2.2⟩
/-- the script's number k is asked for -/
theorem k_cell {p : Program} {e : Env} {R : Room} {s : State} {m : MethodId} {args : Array Value} {below : List Frame} {meth : Method} {c : Code} {l : Launch} {H : Heap} {cells slots : Nat} {Q : State → Prop} {pc : Nat} {ls : Array Slot} {rest st0 : List Value} {b L : Nat} {xs : Nat → Int32} {h0 : Nat} (S : CallFix p m c cL_law 8 s args wsL_law RL) (hX : va_X b L xs s s.heap) (hbl : b < s.heap.size) (hh : h0 = s.heap.size) (hL : L ≤ 2051) (hS : va_S (Ge h0) s.heap H []) {k : Nat} (hk : k < 2 ^ 31) (cw : CallB R s args RL 9 yL_cell cL_cell 2 (some .int) wsL_cell ({ frames := 0, cells := 0, slots := 0, locals := 0 }) 0 0 2 ∧ (Cond.static yL_cell).before args s = true) (hst : st0 = .int (nI k) :: .ref b :: rest) (hsize : ls.size = 8) (hW : (rest.map fun v => v.category).sum ≤ 8) (hdg : decode cL_law pc = .ok (.invokestatic 9, 3)) (hcl : cells ≤ R.cells ∧ slots ≤ R.slots)
    (kk : W p l e R s m args below meth c H [] cells slots Q (F0 m (pc + 3) ls (.int (if k < L then xs k else 0) :: rest))) : W p l e R s m args below meth c H [] cells slots Q (F0 m pc ls st0) := by
  have hbA : ¬ Ge h0 b := by rw [hh]; exact Nat.not_le.mpr hbl
  have hXH : va_X b L xs s H := hX.kept (hS.2.1 b hbl hbA)
  have hbH : b < H.size := Nat.lt_of_lt_of_le hbl hS.1
  refine va_calli (va_runS (As := [.ref b, .int (nI k)]) (rest := rest) S (c_cell l b L xs k H.size hk hL) cw ⟨X_blind, fun U hU hW => ⟨rfl, by rw [hU]; exact va_X.moved hW.alike hXH, by rw [hU]; exact hbH, by rw [hU]⟩⟩ rfl rfl hsize hst (lv_room hW) hdg hcl) hS (fun q _ h => h.elim) (fun q h => h.elim) (fun r u t H1 locs1 ht hvm hw hB hz hk1 hS1 => ?_)
  have hz1 : H1.size = H.size := by rw [← ht]; exact hB
  have e1 : H1 = H := heap_same hz1 (fun q hq => hk1 q hq (fun h => h))
  subst e1
  subst hw
  exact va_forget (fun q hq => by have := hS1.2.2 q hq; rw [hh] at this; exact this) kk
theorem va_S_tr {h0 h1 : Nat} {H0 Hc H : Heap} {locs : List Loc} (h : va_S (Ge h0) H0 Hc []) (h2 : va_S (Ge (h0 + h1)) Hc H locs) : va_S (Ge h0) H0 H locs :=
  ⟨Nat.le_trans h.1 h2.1, fun q z1 z2 => (h2.2.1 q (Nat.lt_of_lt_of_le z1 h.1) (fun z => z2 (by have z : h0 + h1 ≤ q := z; show h0 ≤ q; omega))).trans (h.2.1 q z1 z2), fun x hx => by have z : h0 + h1 ≤ x.base := h2.2.2 x hx; show h0 ≤ x.base; omega⟩
theorem sg_nil {D : va_G} {ad : Nat → Nat} {M : Nat → va_E} {H : Heap} : va_P D vwCl (sg ad 0 M) H := sg_P.mpr (fun k hk => absurd hk (Nat.not_lt_zero k))
set_option maxHeartbeats 4000000 in
set_option maxRecDepth 100000 in
/-- THE LAW, from its entry -/
theorem whole_start {p : Program} {e : Env} {s : State} {m : MethodId} {below : List Frame} {meth : Method} {c : Code} (l : Launch) {b L : Nat} {xs : Nat → Int32} (hL : L ≤ 2051) (C0 : lw_At p s m meth c b L xs) : W p l e room_1 s m #[Value.ref b] below meth c s.heap [] 0 0 (lw_Z below #[Value.ref b] s) (entryFrame m ([Value.ref b] : List Value).toArray 8) := by
  obtain ⟨hx, hb, hr, hml, hown, hts0, hX, hbl, hlocks, hgv⟩ := id C0
  have hts : ∀ w ∈ wsL_law, w.before #[Value.ref b] s = true := fun w h => hts0 w (wsL_law_in w h)
  obtain ⟨D, cs, hK⟩ := law_K hts0
  have hXW := law_X hts0
  obtain ⟨h0, hh⟩ : ∃ h0, h0 = s.heap.size := ⟨_, rfl⟩
  have hbA : ¬ Ge h0 b := by rw [hh]; exact Nat.not_le.mpr hbl
  have hown : s.vm.findClass RL = some m.cls := hown
  have hS : va_S (Ge h0) s.heap s.heap [] := va_S.rf
  have hl := lv_entry ([.ref b]) (n := 8) (Nat.le_of_ble_eq_true rfl)
  rw [lg_entry_eq]
  generalize (lg_sl ([.ref b]) ++ List.replicate (8 - (lg_sl ([.ref b])).length) Slot.unset).toArray = ls at hl ⊢
  have hl : lv_has ls 8 [(0, .ref b)] := hl
  have hP0 : va_P D vwCl (sg (a1 h0) 0 (fun _ => .inr (0, []))) s.heap := sg_nil
  refine b_new (ad := a1 h0) (b := h0) (n := 0) hx hb hts0 wlX6 tyX6 tyX6_ok hown (hts0 (.classLink RL 7 RX6) (by decide +kernel)) (hts0 (.instantiable RX6 1) (by decide +kernel)) (hts0 (.initialized RX6) (by decide +kernel)) (fun _ => rfl) hK hP0 hh.symm hS (ci := 6) rfl (fs := [.null]) (by decide) (Nat.le_of_ble_eq_true rfl) (Nat.le_of_ble_eq_true rfl) dL_law_0 (fun H hP hS hz => ?_)
  refine lv_dup hx hb dL_law_3 rfl ?_
  refine lv_aload_n hx hb dL_law_4 rfl (lv_at hl 0 rfl) ?_
  refine lv_iconst (v := nI 0) hx hb dL_law_5 (by decide) ?_
  refine k_cell (k := 0) (rest := [.ref (a1 h0 0), .ref (a1 h0 0)]) ⟨hx, hb, hml, hown, hts⟩ hX hbl hh hL hS (by decide) (va_cwS 2 hts gL_law_L_cell rfl rfl rfl (by decide +kernel) ⟨Nat.le_of_ble_eq_true rfl, Nat.le_of_ble_eq_true rfl⟩) rfl hl.1 (Nat.le_of_ble_eq_true rfl) dL_law_6 ⟨Nat.le_of_ble_eq_true rfl, Nat.le_of_ble_eq_true rfl⟩ ?_
  obtain ⟨v0, ev0⟩ : ∃ v, (if 0 < L then xs 0 else 0) = v := ⟨_, rfl⟩
  rw [ev0]
  refine lv_aload_n hx hb dL_law_9 rfl (lv_at hl 0 rfl) ?_
  refine lv_iconst (v := nI 1) hx hb dL_law_10 (by decide) ?_
  refine k_cell (k := 1) (rest := [.int v0, .ref (a1 h0 0), .ref (a1 h0 0)]) ⟨hx, hb, hml, hown, hts⟩ hX hbl hh hL hS (by decide) (va_cwS 2 hts gL_law_L_cell rfl rfl rfl (by decide +kernel) ⟨Nat.le_of_ble_eq_true rfl, Nat.le_of_ble_eq_true rfl⟩) rfl hl.1 (Nat.le_of_ble_eq_true rfl) dL_law_11 ⟨Nat.le_of_ble_eq_true rfl, Nat.le_of_ble_eq_true rfl⟩ ?_
  obtain ⟨v1, ev1⟩ : ∃ v, (if 1 < L then xs 1 else 0) = v := ⟨_, rfl⟩
  rw [ev1]
  refine lv_aload_n hx hb dL_law_14 rfl (lv_at hl 0 rfl) ?_
  refine lv_iconst (v := nI 2) hx hb dL_law_15 (by decide) ?_
  refine k_cell (k := 2) (rest := [.int v1, .int v0, .ref (a1 h0 0), .ref (a1 h0 0)]) ⟨hx, hb, hml, hown, hts⟩ hX hbl hh hL hS (by decide) (va_cwS 2 hts gL_law_L_cell rfl rfl rfl (by decide +kernel) ⟨Nat.le_of_ble_eq_true rfl, Nat.le_of_ble_eq_true rfl⟩) rfl hl.1 (Nat.le_of_ble_eq_true rfl) dL_law_16 ⟨Nat.le_of_ble_eq_true rfl, Nat.le_of_ble_eq_true rfl⟩ ?_
  obtain ⟨v2, ev2⟩ : ∃ v, (if 2 < L then xs 2 else 0) = v := ⟨_, rfl⟩
  rw [ev2]
  refine k_I (ad := a1 h0) (b := h0) (n := 1) (n2 := 146) (As := [.int v0, .int v1, .int v2]) (rest := [.ref (a1 h0 0)]) (k := 0) ⟨hx, hb, hml, hown, hts⟩ hK hXW hP hz hS (i_X6 l D cs (a1 h0) h0 (fun _ => rfl) _ v0 v1 v2 (va_up_self _ _ _)) (cwI 3 hts ggL_law_X6_init rfl rfl rfl (hts0 (.initialized RX6) (by decide +kernel)) (hts0 (.methodLink RL 15 yX6_init) (by decide +kernel)) (hts0 (.instanceMethod yX6_init) (by decide +kernel)) rfl (by decide +kernel) ⟨Nat.le_of_ble_eq_true rfl, Nat.le_of_ble_eq_true rfl⟩) rfl rfl hl.1 (Nat.le_of_ble_eq_true rfl) dL_law_19 ⟨Nat.le_of_ble_eq_true rfl, Nat.le_of_ble_eq_true rfl⟩ (fun M1 H locs hC hP1 hS hz => ?_)
  refine va_forget (fun q hq => by have := hS.2.2 q hq; rw [hh] at this; exact this) ?_
  have hS : va_S (Ge h0) s.heap H [] := ⟨hS.1, hS.2.1, fun q h => by cases h⟩
  refine lv_astore_n (lv' := [(1, .ref (a1 h0 0)), (0, .ref b)]) hx hb dL_law_22 rfl hl (by decide) rfl (fun ls hl => ?_)
  have hP0 : va_P D vwCl (sg (a2 h0) 0 (fun _ => .inr (0, []))) H := sg_nil
  have hT : va_S (Ge (h0 + 146)) H H [] := va_S.rf
  obtain ⟨Hc, eHc⟩ : ∃ Hc, Hc = H := ⟨_, rfl⟩
  have hzc : Hc.size = h0 + 146 := by rw [eHc]; exact hz
  have hT : va_S (Ge (h0 + 146)) Hc H [] := by rw [eHc]; exact hT
  have hSc : va_S (Ge h0) s.heap Hc [] := by rw [eHc]; exact hS
  have hP1 : va_P D vwCl (sg (a1 h0) 146 M1) Hc := by rw [eHc]; exact hP1
  refine b_new (ad := a2 h0) (b := h0 + 146) (n := 0) hx hb hts0 wlX7 tyX7 tyX7_ok hown (hts0 (.classLink RL 18 RX7) (by decide +kernel)) (hts0 (.instantiable RX7 29) (by decide +kernel)) (hts0 (.initialized RX7) (by decide +kernel)) (fun _ => rfl) hK hP0 hz hT (ci := 7) rfl (fs := [.int 0, .int 0, .null, .null, .null, .null, .null, .null, .null, .null, .null, .null, .null, .null, .null, .null, .null, .null, .null, .null, .null, .null, .null, .null, .null, .null, .null, .float 0, .float 0]) (by decide) (Nat.le_of_ble_eq_true rfl) (Nat.le_of_ble_eq_true rfl) dL_law_23 (fun H hP hT hz => ?_)
  have hS : va_S (Ge h0) s.heap H [] := va_S_tr hSc hT
  refine lv_dup hx hb dL_law_26 rfl ?_
  refine lv_aload_n hx hb dL_law_27 rfl (lv_at hl 1 rfl) ?_
  refine lv_iconst (v := nI 0) hx hb dL_law_28 (by decide) ?_
  refine k_cell (k := 0) (rest := [.ref (a2 h0 0), .ref (a2 h0 0)]) ⟨hx, hb, hml, hown, hts⟩ hX hbl hh hL hS (by decide) (va_cwS 2 hts gL_law_L_cell rfl rfl rfl (by decide +kernel) ⟨Nat.le_of_ble_eq_true rfl, Nat.le_of_ble_eq_true rfl⟩) rfl hl.1 (Nat.le_of_ble_eq_true rfl) dL_law_29 ⟨Nat.le_of_ble_eq_true rfl, Nat.le_of_ble_eq_true rfl⟩ ?_
  rw [ev0]
  refine lv_aload_n hx hb dL_law_32 rfl (lv_at hl 1 rfl) ?_
  refine lv_iconst (v := nI 1) hx hb dL_law_33 (by decide) ?_
  refine k_cell (k := 1) (rest := [.int v0, .ref (a2 h0 0), .ref (a2 h0 0)]) ⟨hx, hb, hml, hown, hts⟩ hX hbl hh hL hS (by decide) (va_cwS 2 hts gL_law_L_cell rfl rfl rfl (by decide +kernel) ⟨Nat.le_of_ble_eq_true rfl, Nat.le_of_ble_eq_true rfl⟩) rfl hl.1 (Nat.le_of_ble_eq_true rfl) dL_law_34 ⟨Nat.le_of_ble_eq_true rfl, Nat.le_of_ble_eq_true rfl⟩ ?_
  rw [ev1]
  refine lv_aload_n hx hb dL_law_37 rfl (lv_at hl 1 rfl) ?_
  refine lv_iconst (v := nI 2) hx hb dL_law_38 (by decide) ?_
  refine k_cell (k := 2) (rest := [.int v1, .int v0, .ref (a2 h0 0), .ref (a2 h0 0)]) ⟨hx, hb, hml, hown, hts⟩ hX hbl hh hL hS (by decide) (va_cwS 2 hts gL_law_L_cell rfl rfl rfl (by decide +kernel) ⟨Nat.le_of_ble_eq_true rfl, Nat.le_of_ble_eq_true rfl⟩) rfl hl.1 (Nat.le_of_ble_eq_true rfl) dL_law_39 ⟨Nat.le_of_ble_eq_true rfl, Nat.le_of_ble_eq_true rfl⟩ ?_
  rw [ev2]
  refine k_I (ad := a2 h0) (b := h0 + 146) (n := 1) (n2 := 26) (As := [.int v0, .int v1, .int v2]) (rest := [.ref (a2 h0 0)]) (k := 0) ⟨hx, hb, hml, hown, hts⟩ hK hXW hP hz hT (i_X7 l D cs (a2 h0) (h0 + 146) (fun _ => rfl) _ v0 v1 v2 (va_up_self _ _ _)) (cwI 3 hts ggL_law_X7_init rfl rfl rfl (hts0 (.initialized RX7) (by decide +kernel)) (hts0 (.methodLink RL 20 yX7_init) (by decide +kernel)) (hts0 (.instanceMethod yX7_init) (by decide +kernel)) rfl (by decide +kernel) ⟨Nat.le_of_ble_eq_true rfl, Nat.le_of_ble_eq_true rfl⟩) rfl rfl hl.1 (Nat.le_of_ble_eq_true rfl) dL_law_42 ⟨Nat.le_of_ble_eq_true rfl, Nat.le_of_ble_eq_true rfl⟩ (fun M2 H locs hM2 hP2 hT hz => ?_)
  have hS : va_S (Ge h0) s.heap H locs := va_S_tr hSc hT
  have hP1 : va_P D vwCl (sg (a1 h0) 146 M1) H := by
    refine sg_P.mpr (fun k hk => ?_)
    have g := sg_P.mp hP1 k hk
    exact g.kept (hT.2.1 _ g.lt (fun z => by have z : h0 + 146 ≤ h0 + k := z; omega))
  rw [sg_congr hM2] at hP2
  refine lv_astore_n (lv' := [(2, .ref (a2 h0 0)), (1, .ref (a1 h0 0)), (0, .ref b)]) hx hb dL_law_45 rfl hl (by decide) rfl (fun ls hl => ?_)
  refine lv_iconst (v := nI 3) hx hb dL_law_46 (by decide) ?_
  refine lv_istore_n (lv' := [(3, .int (nI 3)), (2, .ref (a2 h0 0)), (1, .ref (a1 h0 0)), (0, .ref b)]) hx hb dL_law_47 rfl hl (by decide) rfl (fun ls hl => ?_)
  refine W.widen (k := 600000) (n := 7302250) (Nat.le_of_ble_eq_true rfl) (Nat.le_of_ble_eq_true rfl) ?_
  exact law_loop l hx hb hml hown hts hX hbl hbA hK (hdD_le v0) (hdW_le v1).1 (hdW_le v1).2 hr hlocks hh hL L 0 _ M1 0 0 H locs ls (by omega) (by omega) ⟨hP1, hC, hP2, hS⟩ (lv_sub hl [3, 2, 1, 0] rfl)
