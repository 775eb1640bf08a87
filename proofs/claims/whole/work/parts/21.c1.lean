section RAA
variable {p : Program} {l : Launch} {e : Env} {R : Room} {s : State} {m : MethodId} {args : Array Value} {below : List Frame} {meth : Method} {c : Code} {H : Heap} {locs : List Loc} {cells slots : Nat} {Q : State → Prop}
variable {cc : ByteArray} {pc : Nat} {ls : Array Slot} {rest : List Value} {D : va_G} {cs : Nat → ClassId} {ad : Nat → Nat} {n : Nat} {M : Nat → va_E} {H0 : Heap}
/-- a place of a row of rows of bytes -/
theorem m_aaldA (hx : p.tables.exec = Jvm.exec) (hb : c.code = cc) (hK : va_K D vwCl (tysC cs) s) (hP : va_P D vwCl (sg ad n M) H) (t : Nat) (ht : (tysC cs)[t]? = some (cs t, .array .byte)) {k : Nat} (hk : k < n) {N : Nat} {f : Nat → Option Nat} (hM : M k = eQ cs t N f) {i : Nat} (hi : i < N) (hN : N < 2 ^ 31) {r : Option Nat} (hr : f i = r) (hdg : decode cc pc = .ok (.aaload, 1))
    (kk : W p l e R s m args below meth c H locs cells slots Q (F0 m (pc + 1) ls (va_rf r :: rest))) : W p l e R s m args below meth c H locs cells slots Q (F0 m pc ls (.int (nI i) :: .ref (ad k) :: rest)) := by
  have hin := nI_in' hi hN
  have hlt : (nI i).toNatClampNeg < N := Nat.not_le.mp fun q => hin (Or.inr q)
  have hcl : (nI i).toNatClampNeg = i := nI_clamp (Nat.lt_trans hi hN)
  exact W.aald (v := va_rf r) (ty := .array .byte) hx hb (hP k _ (sg_atE hk hM)) ((hK.2 t _ ht).1 N (fun j => va_rf (f j))) rfl (fun q => by cases q) (by show ¬ (nI i < 0 ∨ (arrV _ _ _).slots.size ≤ _); rw [arrV_size]; exact hin) (by show (arrV _ _ _).slots[_]? = _; rw [arrV_read _ _ hlt, hcl, hr]) rfl rfl hdg kk
end RAA
theorem and_mod {c b N : Nat} (hN : N = 2 ^ b) (hb : b ≤ 30) (hc : c < 2 ^ 31) : nI c &&& nI (N - 1) = nI (c % N) := by
  subst hN
  have h1 : 2 ^ b ≤ 2 ^ 30 := Nat.pow_le_pow_right (by decide) hb
  exact pk_andN (by omega) b (by rw [pk_tn (by omega)])
set_option maxHeartbeats 4000000 in
set_option maxRecDepth 100000 in
/-- Inputs.learn(x) -/
theorem c_learn (l : Launch) (D : va_G) (cs : Nat → ClassId) (ad : Nat → Nat) (n : Nat) (hJ : Inj ad n) (M : Nat → va_E) (k k2 N b ct : Nat) (g : Nat → Int32) (ed : Int32) (hk : k < n) (hk2 : k2 < n) (hne : k ≠ k2) (hN : N = 2 ^ b) (hb0 : b ≤ 20) (hct : ct < 2 ^ 30) (h1 : M k = .inr (1, [.ref (ad k2), .int (nI ct), .int ed])) (h2 : M k2 = eB cs N g) (x : Int32) (hx8 : x.toInt8.toInt32 = x) : CTv l yX1_learn wsX1_learn ({ frames := 0, cells := 0, slots := 0, locals := 0 }) D cs ad n M [.ref (ad k), .int x] (fun M2 => M2 = va_up (va_up M k2 (eB cs N (upd g (ct % N) x))) k (.inr (1, [.ref (ad k2), .int (nI (ct + 1)), .int ed]))) := by
  refine Met.ofW (cc := cX1_learn) (maxL := 2) (ret := none) (by decide) rfl ?_
  intro p e s m args below meth c s₁ B hml hv
  obtain ⟨rfl, hP, hK⟩ := hv
  have hx := B.exec
  have hb := B.bytes
  have hr := B.returns
  have hts := atoms_spec (ws := wsX1_learn) B.pre
  have hown : s.vm.findClass RX1 = some m.cls := findClass_of_methodNamed B.named
  have hlocks := B.notSynchronized
  have hS : va_S (Ad ad n) s.heap s.heap [] := va_S.rf
  have hl := lv_entry ([.ref (ad k), .int x]) (n := 2) (Nat.le_of_ble_eq_true rfl)
  rw [lg_entry_eq]
  generalize (lg_sl ([.ref (ad k), .int x]) ++ List.replicate (2 - (lg_sl ([.ref (ad k), .int x])).length) Slot.unset).toArray = ls at hl ⊢
  have hl : lv_has ls 2 [(0, .ref (ad k)), (1, .int x)] := hl
  have inX1 : ∀ w ∈ u_ws RX1 TX1 3, w ∈ wsX1_learn := fun w h => List.mem_cons_of_mem _ (List.mem_append_right _ h)
  have hNb : N ≤ 2 ^ 20 := by rw [hN]; exact Nat.pow_le_pow_right (by decide) hb0
  have hN0 : 0 < N := by rw [hN]; exact Nat.two_pow_pos _
  refine lv_aload_n hx hb dX1_learn_0 rfl (lv_at hl 0 rfl) ?_
  refine m_get hx hb hts inX1 hown hK hP (ci := 1) rfl (k := k) (by omega) h1 0 (by decide) (hts (.fieldLink RX1 7 "RollbackPair$Inputs" "kept" "[B") (by decide +kernel)) rfl dX1_learn_1 ?_
  refine lv_aload_n hx hb dX1_learn_4 rfl (lv_at hl 0 rfl) ?_
  refine m_get hx hb hts inX1 hown hK hP (ci := 1) rfl (k := k) (by omega) h1 1 (by decide) (hts (.fieldLink RX1 13 "RollbackPair$Inputs" "count" "I") (by decide +kernel)) rfl dX1_learn_5 ?_
  refine lv_aload_n hx hb dX1_learn_8 rfl (lv_at hl 0 rfl) ?_
  refine m_get hx hb hts inX1 hown hK hP (ci := 1) rfl (k := k) (by omega) h1 0 (by decide) (hts (.fieldLink RX1 7 "RollbackPair$Inputs" "kept" "[B") (by decide +kernel)) rfl dX1_learn_9 ?_
  refine m_alen hx hb hK hP 1 rfl (k := k2) (by omega) h2 dX1_learn_12 ?_
  refine lv_iconst (v := nI 1) hx hb dX1_learn_13 (by decide) ?_
  refine n_sub hx hb (by omega) dX1_learn_14 ?_
  refine n_and (d := ct % N) hx hb (and_mod hN (by omega) (by omega)) dX1_learn_15 ?_
  refine lv_iload_n hx hb dX1_learn_16 rfl (lv_at hl 1 rfl) ?_
  refine lv_i2b hx hb dX1_learn_17 rfl ?_
  refine n_val hx8 ?_
  refine m_bast hx hb hK hP hJ hS (k := k2) (by omega) (f := g) h2 (i := ct % N) (y := x) (Nat.mod_lt _ hN0) (by omega) hx8 dX1_learn_18 (fun H locs hP hS => ?_)
  obtain ⟨M_1, eM_1⟩ : ∃ z, z = va_up M k2 (eB cs N (upd g (ct % N) x)) := ⟨_, rfl⟩
  rw [← eM_1] at hP
  have h1_1 : M_1 k = .inr (1, [.ref (ad k2), .int (nI ct), .int ed]) := by rw [eM_1]; exact (va_up_ne _ _ (by omega)).trans h1
  have h1_2 : M_1 k2 = eB cs N (upd g (ct % N) x) := by rw [eM_1]; exact va_up_self _ _ _
  refine lv_aload_n hx hb dX1_learn_19 rfl (lv_at hl 0 rfl) ?_
  refine lv_dup hx hb dX1_learn_20 rfl ?_
  refine m_get hx hb hts inX1 hown hK hP (ci := 1) rfl (k := k) (by omega) h1_1 1 (by decide) (hts (.fieldLink RX1 13 "RollbackPair$Inputs" "count" "I") (by decide +kernel)) rfl dX1_learn_21 ?_
  refine lv_iconst (v := nI 1) hx hb dX1_learn_24 (by decide) ?_
  refine n_add hx hb dX1_learn_25 ?_
  refine m_put hx hb hts inX1 tyX1 tyX1_ok nmX1 hown hK hP hJ hS (ci := 1) rfl (k := k) (by omega) h1_1 1 (by decide) (hts (.fieldLink RX1 13 "RollbackPair$Inputs" "count" "I") (by decide +kernel)) rfl rfl rfl (Nat.le_of_ble_eq_true rfl) (fs' := [.ref (ad k2), .int (nI (ct + 1)), .int ed]) rfl dX1_learn_26 (fun H locs hP hS => ?_)
  obtain ⟨M_2, eM_2⟩ : ∃ z, z = va_up M_1 k (.inr (1, [.ref (ad k2), .int (nI (ct + 1)), .int ed])) := ⟨_, rfl⟩
  rw [← eM_2] at hP
  have h2_1 : M_2 k = .inr (1, [.ref (ad k2), .int (nI (ct + 1)), .int ed]) := by rw [eM_2]; exact va_up_self _ _ _
  have h2_2 : M_2 k2 = eB cs N (upd g (ct % N) x) := by rw [eM_2]; exact (va_up_ne _ _ (by omega)).trans h1_2
  exact r_v hx hb hr hlocks hK hP hS dX1_learn_29 (by rw [eM_2, eM_1])
/-- the input that is used for a frame, out of a row of N places that holds the first ct ones -/
def inU (N ct : Nat) (g : Nat → Int32) (e : Int32) (f : Nat) : Int32 := if f < ct then g (f % N) else if ¬ e = 0 ∨ ct = 0 then nI 0 else g ((ct - 1) % N)
set_option maxHeartbeats 4000000 in
set_option maxRecDepth 100000 in
/-- Inputs.use(f) -/
theorem c_use (l : Launch) (D : va_G) (cs : Nat → ClassId) (ad : Nat → Nat) (n : Nat) (hJ : Inj ad n) (M : Nat → va_E) (k k2 N b ct : Nat) (g : Nat → Int32) (ed : Int32) (hk : k < n) (hk2 : k2 < n) (hne : k ≠ k2) (hN : N = 2 ^ b) (hb0 : b ≤ 20) (hct : ct < 2 ^ 30) (h1 : M k = .inr (1, [.ref (ad k2), .int (nI ct), .int ed])) (h2 : M k2 = eB cs N g) (f : Nat) (hf : f < 2 ^ 30) : CTi l yX1_use wsX1_use ({ frames := 0, cells := 0, slots := 0, locals := 0 }) D cs ad n M [.ref (ad k), .int (nI f)] (fun r M2 => M2 = M ∧ r = inU N ct g ed f) := by
  refine Met.ofW (cc := cX1_use) (maxL := 2) (ret := (some .int)) (by decide) rfl ?_
  intro p e s m args below meth c s₁ B hml hv
  obtain ⟨rfl, hP, hK⟩ := hv
  have hx := B.exec
  have hb := B.bytes
  have hr := B.returns
  have hts := atoms_spec (ws := wsX1_use) B.pre
  have hown : s.vm.findClass RX1 = some m.cls := findClass_of_methodNamed B.named
  have hlocks := B.notSynchronized
  have hS : va_S (Ad ad n) s.heap s.heap [] := va_S.rf
  have hl := lv_entry ([.ref (ad k), .int (nI f)]) (n := 2) (Nat.le_of_ble_eq_true rfl)
  rw [lg_entry_eq]
  generalize (lg_sl ([.ref (ad k), .int (nI f)]) ++ List.replicate (2 - (lg_sl ([.ref (ad k), .int (nI f)])).length) Slot.unset).toArray = ls at hl ⊢
  have hl : lv_has ls 2 [(0, .ref (ad k)), (1, .int (nI f))] := hl
  have inX1 : ∀ w ∈ u_ws RX1 TX1 3, w ∈ wsX1_use := fun w h => List.mem_cons_of_mem _ (List.mem_append_right _ h)
  have hNb : N ≤ 2 ^ 20 := by rw [hN]; exact Nat.pow_le_pow_right (by decide) hb0
  have hN0 : 0 < N := by rw [hN]; exact Nat.two_pow_pos _
  refine lv_iload_n hx hb dX1_use_0 rfl (lv_at hl 1 rfl) ?_
  refine lv_aload_n hx hb dX1_use_1 rfl (lv_at hl 0 rfl) ?_
  refine m_get hx hb hts inX1 hown hK hP (ci := 1) rfl (k := k) (by omega) h1 1 (by decide) (hts (.fieldLink RX1 13 "RollbackPair$Inputs" "count" "I") (by decide +kernel)) rfl dX1_use_2 ?_
  refine n_cmp_ge (tgt := 23) hx hb dX1_use_5 (by decide) (by omega) (by omega) (fun c1 => ?_) (fun c1 => ?_)
  · refine lv_aload_n hx hb dX1_use_23 rfl (lv_at hl 0 rfl) ?_
    refine m_get hx hb hts inX1 hown hK hP (ci := 1) rfl (k := k) (by omega) h1 2 (by decide) (hts (.fieldLink RX1 17 "RollbackPair$Inputs" "ended" "Z") (by decide +kernel)) rfl dX1_use_24 ?_
    refine lv_if_ne (tgt := 37) hx hb dX1_use_27 (by decide) (fun c2 => ?_) (fun c2 => ?_)
    · refine lv_iconst (v := nI 0) hx hb dX1_use_37 (by decide) ?_
      exact r_i hx hb hr hlocks hK hP hS dX1_use_38 ⟨rfl, by unfold inU; rw [if_neg (by omega), if_pos (Or.inl c2)]⟩
    · refine lv_aload_n hx hb dX1_use_30 rfl (lv_at hl 0 rfl) ?_
      refine m_get hx hb hts inX1 hown hK hP (ci := 1) rfl (k := k) (by omega) h1 1 (by decide) (hts (.fieldLink RX1 13 "RollbackPair$Inputs" "count" "I") (by decide +kernel)) rfl dX1_use_31 ?_
      refine n_if_ne (tgt := 39) hx hb dX1_use_34 (by decide) (by omega) (fun c3 => ?_) (fun c3 => ?_)
      · refine lv_aload_n hx hb dX1_use_39 rfl (lv_at hl 0 rfl) ?_
        refine m_get hx hb hts inX1 hown hK hP (ci := 1) rfl (k := k) (by omega) h1 0 (by decide) (hts (.fieldLink RX1 7 "RollbackPair$Inputs" "kept" "[B") (by decide +kernel)) rfl dX1_use_40 ?_
        refine lv_aload_n hx hb dX1_use_43 rfl (lv_at hl 0 rfl) ?_
        refine m_get hx hb hts inX1 hown hK hP (ci := 1) rfl (k := k) (by omega) h1 1 (by decide) (hts (.fieldLink RX1 13 "RollbackPair$Inputs" "count" "I") (by decide +kernel)) rfl dX1_use_44 ?_
        refine lv_iconst (v := nI 1) hx hb dX1_use_47 (by decide) ?_
        refine n_sub hx hb (by omega) dX1_use_48 ?_
        refine lv_aload_n hx hb dX1_use_49 rfl (lv_at hl 0 rfl) ?_
        refine m_get hx hb hts inX1 hown hK hP (ci := 1) rfl (k := k) (by omega) h1 0 (by decide) (hts (.fieldLink RX1 7 "RollbackPair$Inputs" "kept" "[B") (by decide +kernel)) rfl dX1_use_50 ?_
        refine m_alen hx hb hK hP 1 rfl (k := k2) (by omega) h2 dX1_use_53 ?_
        refine lv_iconst (v := nI 1) hx hb dX1_use_54 (by decide) ?_
        refine n_sub hx hb (by omega) dX1_use_55 ?_
        refine n_and (d := (ct - 1) % N) hx hb (and_mod hN (by omega) (by omega)) dX1_use_56 ?_
        refine m_bald hx hb hK hP (k := k2) (by omega) (f := g) h2 (i := (ct - 1) % N) (Nat.mod_lt _ hN0) (by omega) dX1_use_57 ?_
        exact r_i hx hb hr hlocks hK hP hS dX1_use_58 ⟨rfl, by unfold inU; rw [if_neg (by omega), if_neg (by intro z; rcases z with z | z; exact z c2; exact c3 z)]⟩
      · refine lv_iconst (v := nI 0) hx hb dX1_use_37 (by decide) ?_
        exact r_i hx hb hr hlocks hK hP hS dX1_use_38 ⟨rfl, by unfold inU; rw [if_neg (by omega), if_pos (Or.inr c3)]⟩
  · refine lv_aload_n hx hb dX1_use_8 rfl (lv_at hl 0 rfl) ?_
    refine m_get hx hb hts inX1 hown hK hP (ci := 1) rfl (k := k) (by omega) h1 0 (by decide) (hts (.fieldLink RX1 7 "RollbackPair$Inputs" "kept" "[B") (by decide +kernel)) rfl dX1_use_9 ?_
    refine lv_iload_n hx hb dX1_use_12 rfl (lv_at hl 1 rfl) ?_
    refine lv_aload_n hx hb dX1_use_13 rfl (lv_at hl 0 rfl) ?_
    refine m_get hx hb hts inX1 hown hK hP (ci := 1) rfl (k := k) (by omega) h1 0 (by decide) (hts (.fieldLink RX1 7 "RollbackPair$Inputs" "kept" "[B") (by decide +kernel)) rfl dX1_use_14 ?_
    refine m_alen hx hb hK hP 1 rfl (k := k2) (by omega) h2 dX1_use_17 ?_
    refine lv_iconst (v := nI 1) hx hb dX1_use_18 (by decide) ?_
    refine n_sub hx hb (by omega) dX1_use_19 ?_
    refine n_and (d := f % N) hx hb (and_mod hN (by omega) (by omega)) dX1_use_20 ?_
    refine m_bald hx hb hK hP (k := k2) (by omega) (f := g) h2 (i := f % N) (Nat.mod_lt _ hN0) (by omega) dX1_use_21 ?_
    exact r_i hx hb hr hlocks hK hP hS dX1_use_22 ⟨rfl, (if_pos c1).symm⟩
