/-! building: the cells from the address b on, one after another; the heap ends behind them -/
def Ge (b : Nat) : Nat → Prop := fun q => b ≤ q
def va_AA (U : State) : Prop := (Cond.arrayOver (.array .byte)).before #[] U = true
theorem va_AA.moved {u U : State} (hvm : u.vm.Alike U.vm) (h : va_AA u) : va_AA U := by
  obtain ⟨comp, c, k, h1, h2, h3, h4, h5⟩ := Jvm.Stand.arrayOver_specB h
  obtain ⟨k', hk', he⟩ := hvm.2.2 _ _ h3
  have hq : U.vm.bare = u.vm.bare := by first | exact hvm.bare_eq | exact hvm.bare_eq.symm
  have hi0 := (va_idx_bare U.vm comp).symm
  rw [hq] at hi0
  have hi := hi0.trans ((va_idx_bare u.vm comp).trans h2)
  have hkind : k'.kind = .array comp (.array .byte) := by rw [he]; exact h4
  have f1 : U.vm.findClass (FieldType.array .byte).toString = some comp := by rw [hvm.findClass]; exact h1
  have f2 : U.vm.findClass ("[" ++ (FieldType.array .byte).toString) = some c := by rw [hvm.findClass]; exact h5
  unfold va_AA Cond.before Cond.holds
  simp only [Cond.value]
  rw [f1, Option.bind_some]
  refine (congrArg (fun o : Option Nat => (o.bind (fun c => (U.vm.classes[c]?).map fun (k : Class) => match k.kind with | .array _ ty => decide (ty = FieldType.array .byte) && decide (U.vm.findClass ("[" ++ (FieldType.array .byte).toString) = some c) | _ => false) == some true)) hi).trans ?_
  simp [hk', hkind, f2]
/-- what the building asks of the tables beside the classes -/
def XW (U : State) : Prop := va_AO "RollbackPair$Packet" U ∧ va_AO "RollbackPair$State" U ∧ va_AO "RollbackPair$Peer" U ∧ va_AA U ∧ va_Nw (.methodLinkNest RX4 15 yX2_init "RollbackPair") U
theorem XW.warm {s U : State} (hW : s.WarmedH U.vm) (h : XW s) : XW U := ⟨h.1.moved hW.alike, h.2.1.moved hW.alike, h.2.2.1.moved hW.alike, h.2.2.2.1.moved hW.alike, va_Nw.warmM hW h.2.2.2.2⟩
theorem XW.same {s U : State} (hv : s.vm = U.vm) (h : XW s) : XW U := by
  have ha : s.vm.Alike U.vm := by rw [hv]; exact Vm.Alike.refl _
  exact ⟨h.1.moved ha, h.2.1.moved ha, h.2.2.1.moved ha, h.2.2.2.1.moved ha, va_Nw.same rfl hv h.2.2.2.2⟩
def BW (D : va_G) (cs : Nat → ClassId) (ad : Nat → Nat) (b n : Nat) (M : Nat → va_E) (U : State) : Prop := U.heap.size = b + n ∧ PW D cs ad n M U ∧ XW U
abbrev CB (l : Launch) (y : MethodName) (ws : List Cond) (rm : Room) (D : va_G) (cs : Nat → ClassId) (ad : Nat → Nat) (b n n2 : Nat) (M : Nat → va_E) (av : List Value) (post : (Nat → va_E) → Prop) (mc ms : Nat) : Prop := Met l y ws rm (va_Pc av (BW D cs ad b n M)) (va_Qv post (BW D cs ad b n2) (Ge b)) mc ms (Ge b)
theorem BW_blind {D : va_G} {cs : Nat → ClassId} {ad : Nat → Nat} {b n : Nat} {M : Nat → va_E} {av : List Value} : FrameBlind (va_Pc av (BW D cs ad b n M)) :=
  fun a U g mk q => ⟨q.1, q.2.1, ⟨q.2.2.1.1, va_K.moved (u := U) (U := U.calling g mk a) (Vm.Alike.refl U.vm) q.2.2.1.2⟩, XW.same (s := U) rfl q.2.2.2⟩
theorem sg_DB {ad : Nat → Nat} {b n : Nat} {M : Nat → va_E} (h : ∀ k, ad k = b + k) : va_D (Ge b) (sg ad n M) := by
  have hJ : Inj ad n := fun i j _ _ e => by rw [h, h] at e; omega
  refine ⟨(sg_D hJ).1, fun k q hk => ?_⟩
  obtain ⟨-, rfl⟩ := sg_of hk
  show b ≤ ad k
  rw [h]; omega
theorem sg_push {D : va_G} {ad : Nat → Nat} {n : Nat} {M : Nat → va_E} {H H1 : Heap} {e : va_E} (hP : va_P D vwCl (sg ad n M) H) (ho : ∀ q, q < H.size → H1[q]? = H[q]?) (he : va_at D vwCl (ad n, e) H1) : va_P D vwCl (sg ad (n + 1) (va_up M n e)) H1 := by
  refine sg_P.mpr (fun k hk => ?_)
  by_cases hn : k = n
  · subst hn; rw [va_up_self]; exact he
  · rw [va_up_ne _ _ hn]
    have h0 := sg_P.mp hP k (by omega)
    exact h0.kept (ho _ h0.lt)
section RBD
variable {p : Program} {l : Launch} {e : Env} {R : Room} {s : State} {m : MethodId} {args : Array Value} {below : List Frame} {meth : Method} {c : Code} {H : Heap} {locs : List Loc} {cells slots : Nat} {Q : State → Prop}
variable {cc : ByteArray} {pc : Nat} {ls : Array Slot} {rest st0 : List Value} {D : va_G} {cs : Nat → ClassId} {ad : Nat → Nat} {b n : Nat} {M : Nat → va_E} {H0 : Heap}
variable {y : MethodName} {bytes : ByteArray} {maxL nL nn index mc ms : Nat} {ws : List Cond} {rm : Room} {Ts : List Cond} {own : String} {As : List Value}
theorem b_put (hx : p.tables.exec = Jvm.exec) (hb : c.code = cc) {C : String} {T : u_T} {N ci : Nat} (hts : ∀ w ∈ Ts, w.before args s = true) (hin : ∀ w ∈ u_ws C T N, w ∈ Ts) (ty0 : Nat → FieldType) (hty : ∀ k, k < N → parseFieldDescriptor (T k).2.2.1 = some (ty0 k)) (hnm : ∀ a, a < N → ∀ b, b < N → a ≠ b → (T a).2.1 ≠ (T b).2.1) (hown : s.vm.findClass own = some m.cls) (hab : ∀ k, ad k = b + k) (hK : va_K D vwCl (tysC cs) s) (hP : va_P D vwCl (sg ad n M) H) (hS0 : va_S (Ge b) H0 H locs) (hc : vwCl[ci]? = some (C, T, N)) {k : Nat} (hk : k < n) {fs : List Value} (hM : M k = .inr (ci, fs)) (j : Nat) (hj : j < N) (hlink : (Cond.fieldLink own index (T j).1 (T j).2.1 (T j).2.2.1).before args s = true) (hfin : (T j).2.2.2 = false) {v : Value} (hn : narrow (ty0 j) v = v) (hfit : fits (ty0 j) v = true) (hl : j < fs.length) {fs' : List Value} (hfs : fs.set j v = fs') (hdg : decode cc pc = .ok (.putfield index, 3))
    (kk : ∀ (H1 : Heap) (locs1 : List Loc), va_P D vwCl (sg ad n (va_up M k (.inr (ci, fs')))) H1 → va_S (Ge b) H0 H1 locs1 → H1.size = H.size → W p l e R s m args below meth c H1 locs1 cells slots Q (F0 m (pc + 3) ls rest)) : W p l e R s m args below meth c H locs cells slots Q (F0 m pc ls (v :: .ref (ad k) :: rest)) := by
  subst hfs
  have hap := va_apart (own := own) hts hin ty0 hty hnm hK hc
  have hD : va_D (Ge b) (sg ad n M) := sg_DB hab
  have he := sg_atE (ad := ad) hk hM
  obtain ⟨r, h1, cell, q1, q2, q3, q4⟩ := hP k _ he
  have hr : r = (C, T, N) := Option.some.inj (h1.symm.trans hc)
  subst hr
  obtain ⟨hS, hfc, kC, hkC, hkind⟩ := hK.1 ci _ hc
  obtain ⟨cf, kf, fi, f, hi, hsl⟩ := hS j hj
  have hlay := hts _ (hin _ (u_in_lay hj))
  unfold u_lay at hlay
  rw [if_neg (by rw [hfin]; decide)] at hlay
  have hst := (u_facts hfc hkC (u_lays hts hin hj) hi).1
  have h6 := u_store hfc hkC hkind hlay hi (hty j hj) hn hfit
  refine W.putK hx hb (f := f) ⟨hown, hlink, ⟨_, _, _, hi⟩, hst⟩ (by rw [q2]; exact h6) q1 q3 (by rw [hsl]; exact k2_hasslot (q4 j hj)) rfl rfl hdg fun H' e1 e2 e3 => ?_
  rw [hsl] at e1 ⊢
  have h8 : va_at D vwCl (ad k, .inr (ci, fs.set j v)) H' := ⟨_, hc, t_OB.to (V := updV (vp_V fs) j v) ⟨_, e1, q2, q3, t_set q4 hap hj v⟩ (fun x _ => vp_updV_set hl v x)⟩
  have h9 := hP.set hD he h8 e3
  rw [sg_set hk] at h9
  exact kk H' _ h9 (hS0.put e2 e3 (hD.2 k _ he)) e2
theorem b_putF (hx : p.tables.exec = Jvm.exec) (hb : c.code = cc) {C : String} {T : u_T} {N ci : Nat} (hts : ∀ w ∈ Ts, w.before args s = true) (hin : ∀ w ∈ u_ws C T N, w ∈ Ts) (ty0 : Nat → FieldType) (hty : ∀ k, k < N → parseFieldDescriptor (T k).2.2.1 = some (ty0 k)) (hnm : ∀ a, a < N → ∀ b, b < N → a ≠ b → (T a).2.1 ≠ (T b).2.1) (hown : s.vm.findClass own = some m.cls) (hab : ∀ k, ad k = b + k) (hK : va_K D vwCl (tysC cs) s) (hP : va_P D vwCl (sg ad n M) H) (hS0 : va_S (Ge b) H0 H locs) (hc : vwCl[ci]? = some (C, T, N)) {k : Nat} (hk : k < n) {fs : List Value} (hM : M k = .inr (ci, fs)) (j : Nat) (hj : j < N) (hlink : (Cond.fieldLink own index (T j).1 (T j).2.1 (T j).2.2.1).before args s = true) (hfin : (T j).2.2.2 = true) (hin2 : meth.name = "<init>") (hdecl : (T j).1 = own) {v : Value} (hn : narrow (ty0 j) v = v) (hfit : fits (ty0 j) v = true) (hl : j < fs.length) {fs' : List Value} (hfs : fs.set j v = fs') (hdg : decode cc pc = .ok (.putfield index, 3))
    (kk : ∀ (H1 : Heap) (locs1 : List Loc), va_P D vwCl (sg ad n (va_up M k (.inr (ci, fs')))) H1 → va_S (Ge b) H0 H1 locs1 → H1.size = H.size → W p l e R s m args below meth c H1 locs1 cells slots Q (F0 m (pc + 3) ls rest)) : W p l e R s m args below meth c H locs cells slots Q (F0 m pc ls (v :: .ref (ad k) :: rest)) := by
  subst hfs
  have hap := va_apart (own := own) hts hin ty0 hty hnm hK hc
  have hD : va_D (Ge b) (sg ad n M) := sg_DB hab
  have he := sg_atE (ad := ad) hk hM
  obtain ⟨r, h1, cell, q1, q2, q3, q4⟩ := hP k _ he
  have hr : r = (C, T, N) := Option.some.inj (h1.symm.trans hc)
  subst hr
  obtain ⟨hS, hfc, kC, hkC, hkind⟩ := hK.1 ci _ hc
  obtain ⟨cf, kf, fi, f, hi, hsl⟩ := hS j hj
  have hlay := hts _ (hin _ (u_in_lay hj))
  unfold u_lay at hlay
  rw [if_pos hfin] at hlay
  have hst := (u_facts hfc hkC (u_lays hts hin hj) hi).1
  have hcf : m.cls = cf := by
    obtain ⟨_, _, c', _, _, _, -, -, hf', -, -, -, hown2, -⟩ := Cond.laysFinal_spec hlay
    have e1 : c' = cf := by have := hi.symm.trans hf'; simp at this; exact this.1.symm
    rw [hdecl] at hown2
    rw [← e1]; exact Option.some.inj (hown.symm.trans hown2)
  have h6 := u_fits hfc hkC hkind (Or.inr hlay) hi (hty j hj) hn hfit
  refine W.putFinK hx hb hown hlink hi hst hcf hin2 (by rw [q2]; exact h6) q1 q3 (by rw [hsl]; exact k2_hasslot (q4 j hj)) rfl rfl hdg fun H' e1 e2 e3 => ?_
  rw [hsl] at e1 ⊢
  have h8 : va_at D vwCl (ad k, .inr (ci, fs.set j v)) H' := ⟨_, hc, t_OB.to (V := updV (vp_V fs) j v) ⟨_, e1, q2, q3, t_set q4 hap hj v⟩ (fun x _ => vp_updV_set hl v x)⟩
  have h9 := hP.set hD he h8 e3
  rw [sg_set hk] at h9
  exact kk H' _ h9 (hS0.put e2 e3 (hD.2 k _ he)) e2
theorem b_iast (hx : p.tables.exec = Jvm.exec) (hb : c.code = cc) (hab : ∀ k, ad k = b + k) (hK : va_K D vwCl (tysC cs) s) (hP : va_P D vwCl (sg ad n M) H) (hS : va_S (Ge b) H0 H locs) {k : Nat} (hk : k < n) {N : Nat} {f : Nat → Int32} (hM : M k = eI cs N f) {i : Nat} {x : Int32} (hi : i < N) (hN : N < 2 ^ 31) (hdg : decode cc pc = .ok (.iastore, 1))
    (kk : ∀ (H1 : Heap) (locs1 : List Loc), va_P D vwCl (sg ad n (va_up M k (eI cs N (upd f i x)))) H1 → va_S (Ge b) H0 H1 locs1 → H1.size = H.size → W p l e R s m args below meth c H1 locs1 cells slots Q (F0 m (pc + 1) ls rest)) : W p l e R s m args below meth c H locs cells slots Q (F0 m pc ls (.int x :: .int (nI i) :: .ref (ad k) :: rest)) := by
  have hD : va_D (Ge b) (sg ad n M) := sg_DB hab
  have ha := sg_atE (ad := ad) hk hM
  refine W.iast hx hb (hP k _ ha) ((hK.2 0 _ rfl).1 N (fun j => .int (f j))) (fun q => by cases q) (by show ¬ (nI i < 0 ∨ (arrV _ _ _).slots.size ≤ _); rw [arrV_size]; exact nI_in' hi hN) rfl rfl hdg fun H1 e9 z oq => ?_
  have h9 : va_P D vwCl (sg ad n (va_up M k (eI cs N (upd f i x)))) H1 := by
    rw [← sg_set hk]
    refine hP.set hD ha ?_ oq
    show H1[ad k]? = some (vp_cell _ _)
    rw [e9, vp_cell_i, vp_cell_i, arrV_store, nI_clamp (Nat.lt_trans hi hN)]
    congr 2
    funext q
    by_cases hq : q = i
    · subst hq
      simp [updV, upd]
    · simp [updV, upd, hq]
  exact kk H1 _ h9 (hS.put z oq (hD.2 k _ ha)) z
theorem b_sast (hx : p.tables.exec = Jvm.exec) (hb : c.code = cc) (hab : ∀ k, ad k = b + k) (hK : va_K D vwCl (tysC cs) s) (hP : va_P D vwCl (sg ad n M) H) (hS : va_S (Ge b) H0 H locs) {k : Nat} (hk : k < n) {N : Nat} {f : Nat → Int32} (hM : M k = eS cs N f) {i : Nat} {x y : Int32} (hi : i < N) (hN : N < 2 ^ 31) (hy : x.toInt16.toInt32 = y) (hdg : decode cc pc = .ok (.sastore, 1))
    (kk : ∀ (H1 : Heap) (locs1 : List Loc), va_P D vwCl (sg ad n (va_up M k (eS cs N (upd f i y)))) H1 → va_S (Ge b) H0 H1 locs1 → H1.size = H.size → W p l e R s m args below meth c H1 locs1 cells slots Q (F0 m (pc + 1) ls rest)) : W p l e R s m args below meth c H locs cells slots Q (F0 m pc ls (.int x :: .int (nI i) :: .ref (ad k) :: rest)) := by
  have hD : va_D (Ge b) (sg ad n M) := sg_DB hab
  have ha := sg_atE (ad := ad) hk hM
  refine W.sast hx hb (hP k _ ha) ((hK.2 2 _ rfl).1 N (fun j => .int (f j))) (fun q => by cases q) (by show ¬ (nI i < 0 ∨ (arrV _ _ _).slots.size ≤ _); rw [arrV_size]; exact nI_in' hi hN) rfl rfl hdg fun H1 e9 z oq => ?_
  have h9 : va_P D vwCl (sg ad n (va_up M k (eS cs N (upd f i y)))) H1 := by
    rw [← sg_set hk]
    refine hP.set hD ha ?_ oq
    show H1[ad k]? = some (vp_cell _ _)
    rw [e9, vp_cell_i, vp_cell_i, arrV_store, nI_clamp (Nat.lt_trans hi hN)]
    congr 2
    funext q
    by_cases hq : q = i
    · subst hq
      simp [updV, upd]
      try (rw [← hy]; rfl)
    · simp [updV, upd, hq]
  exact kk H1 _ h9 (hS.put z oq (hD.2 k _ ha)) z
theorem b_fast (hx : p.tables.exec = Jvm.exec) (hb : c.code = cc) (hab : ∀ k, ad k = b + k) (hK : va_K D vwCl (tysC cs) s) (hP : va_P D vwCl (sg ad n M) H) (hS : va_S (Ge b) H0 H locs) {k : Nat} (hk : k < n) {N : Nat} {f : Nat → UInt32} (hM : M k = eF cs N f) {i : Nat} {x : UInt32} (hi : i < N) (hN : N < 2 ^ 31) (hdg : decode cc pc = .ok (.fastore, 1))
    (kk : ∀ (H1 : Heap) (locs1 : List Loc), va_P D vwCl (sg ad n (va_up M k (eF cs N (vf_upd f i x)))) H1 → va_S (Ge b) H0 H1 locs1 → H1.size = H.size → W p l e R s m args below meth c H1 locs1 cells slots Q (F0 m (pc + 1) ls rest)) : W p l e R s m args below meth c H locs cells slots Q (F0 m pc ls (.float x :: .int (nI i) :: .ref (ad k) :: rest)) := by
  have hD : va_D (Ge b) (sg ad n M) := sg_DB hab
  have ha := sg_atE (ad := ad) hk hM
  refine W.fast hx hb (hP k _ ha) ((hK.2 4 _ rfl).1 N (fun j => .float (f j))) (fun q => by cases q) (by show ¬ (nI i < 0 ∨ (arrV _ _ _).slots.size ≤ _); rw [arrV_size]; exact nI_in' hi hN) rfl rfl hdg fun H1 e9 z oq => ?_
  have h9 : va_P D vwCl (sg ad n (va_up M k (eF cs N (vf_upd f i x)))) H1 := by
    rw [← sg_set hk]
    refine hP.set hD ha ?_ oq
    show H1[ad k]? = some (vp_cell _ _)
    rw [e9, vp_cell_f, vp_cell_f, arrV_store, nI_clamp (Nat.lt_trans hi hN)]
    congr 2
    funext q
    by_cases hq : q = i
    · subst hq
      simp [updV, vf_upd]
    · simp [updV, vf_upd, hq]
  exact kk H1 _ h9 (hS.put z oq (hD.2 k _ ha)) z
theorem b_new (hx : p.tables.exec = Jvm.exec) (hb : c.code = cc) {C : String} {T : u_T} {N ci : Nat} (hts : ∀ w ∈ Ts, w.before args s = true) (hin : ∀ w ∈ u_ws C T N, w ∈ Ts) (ty : Nat → FieldType) (hty : ∀ k, k < N → parseFieldDescriptor (T k).2.2.1 = some (ty k)) (hown : s.vm.findClass own = some m.cls) (hcl : (Cond.classLink own index C).before args s = true) (hinst : (Cond.instantiable C N).before args s = true) (hini : (Cond.initialized C).before args s = true) (hab : ∀ k, ad k = b + k) (hK : va_K D vwCl (tysC cs) s) (hP : va_P D vwCl (sg ad n M) H) (hz : H.size = b + n) (hS : va_S (Ge b) H0 H locs) (hc : vwCl[ci]? = some (C, T, N)) {fs : List Value} (hfs : ∀ j, j < N → defaultValue (ty j) = vp_V fs j) (hcells : cells + 1 ≤ R.cells) (hslots : slots + N ≤ R.slots) (hdg : decode cc pc = .ok (.new index, 3))
    (kk : ∀ (H1 : Heap), va_P D vwCl (sg ad (n + 1) (va_up M n (.inr (ci, fs)))) H1 → va_S (Ge b) H0 H1 locs → H1.size = b + (n + 1) → W p l e R s m args below meth c H1 locs (cells + 1) (slots + N) Q (F0 m (pc + 3) ls (.ref (ad n) :: rest))) : W p l e R s m args below meth c H locs cells slots Q (F0 m pc ls rest) := by
  have hKn := hK.1 ci _ hc
  refine W.newcK hx hb hown hcl hinst hini rfl hdg hcells hslots hKn.2.1 rfl fun H1 kC hkC e1 z1 o1 => ?_
  have ea : H.size = ad n := by rw [hab]; exact hz
  rw [ea] at e1
  have h9 := kk H1 (sg_push hP o1 ⟨_, hc, (u_born ty hts hin hKn hkC e1 hty).to hfs⟩) ⟨Nat.le_trans hS.1 (by omega), fun x h1 h2 => (o1 x (Nat.lt_of_lt_of_le h1 hS.1)).trans (hS.2.1 x h1 h2), hS.2.2⟩ (by omega)
  rw [← ea] at h9
  exact h9
theorem b_newa (hx : p.tables.exec = Jvm.exec) (hb : c.code = cc) {atype : ArrayType} (harr : (Cond.arrayClass (newarray.typeOf atype)).before args s = true) (hab : ∀ k, ad k = b + k) (hK : va_K D vwCl (tysC cs) s) (hP : va_P D vwCl (sg ad n M) H) (hz : H.size = b + n) (hS : va_S (Ge b) H0 H locs) (t : Nat) (ht : (tysC cs)[t]? = some (cs t, newarray.typeOf atype)) (hra : va_RA s (cs t) (newarray.typeOf atype) = (s.vm.findClass ("[" ++ (newarray.typeOf atype).toString) = some (cs t))) {a0 : vp_A} {N' : Nat} (ha : ∀ cA : ClassId, vp_cell cA a0 = arrV cA N' (fun _ => defaultValue (newarray.typeOf atype))) (hN : N' < 2 ^ 31) (hbytes : N' * componentBytes (newarray.typeOf atype) ≤ 536870912) (hcells : cells + 1 ≤ R.cells) (hslots : slots + N' ≤ R.slots) (hdg : decode cc pc = .ok (.newarray atype, 2))
    (kk : ∀ (H1 : Heap), va_P D vwCl (sg ad (n + 1) (va_up M n (.inl (cs t, a0)))) H1 → va_S (Ge b) H0 H1 locs → H1.size = b + (n + 1) → W p l e R s m args below meth c H1 locs (cells + 1) (slots + N') Q (F0 m (pc + 2) ls (.ref (ad n) :: rest))) : W p l e R s m args below meth c H locs cells slots Q (F0 m pc ls (.int (nI N') :: rest)) := by
  refine va_newaK hx hb harr rfl hdg rfl (nI_pos hN) (nI_clamp hN) hbytes hcells hslots rfl fun H1 cA e1 z1 o1 hAr hNm => ?_
  have h2 := (hK.2 t _ ht).2
  rw [hra] at h2
  have ec : cA = cs t := Option.some.inj (hNm.symm.trans h2)
  subst ec
  have ea : H.size = ad n := by rw [hab]; exact hz
  rw [ea] at e1
  have h9 := kk H1 (sg_push hP o1 (by show H1[ad n]? = some (vp_cell _ _); rw [ha]; exact e1)) ⟨Nat.le_trans hS.1 (by omega), fun x h1 h2 => (o1 x (Nat.lt_of_lt_of_le h1 hS.1)).trans (hS.2.1 x h1 h2), hS.2.2⟩ (by omega)
  rw [← ea] at h9
  exact h9
theorem b_anew (hx : p.tables.exec = Jvm.exec) (hb : c.code = cc) {C : String} (hown : s.vm.findClass own = some m.cls) (hclink : (Cond.classLink own index C).before args s = true) (hover : va_AO C s) (hab : ∀ k, ad k = b + k) (hK : va_K D vwCl (tysC cs) s) (hP : va_P D vwCl (sg ad n M) H) (hz : H.size = b + n) (hS : va_S (Ge b) H0 H locs) (t : Nat) (ht : (tysC cs)[t]? = some (cs t, .object C)) {N' : Nat} (hN : N' < 2 ^ 31) (hbytes : N' * 4 ≤ 536870912) (hcells : cells + 1 ≤ R.cells) (hslots : slots + N' ≤ R.slots) (hdg : decode cc pc = .ok (.anewarray index, 3))
    (kk : ∀ (H1 : Heap), va_P D vwCl (sg ad (n + 1) (va_up M n (eQ cs t N' (fun _ => none)))) H1 → va_S (Ge b) H0 H1 locs → H1.size = b + (n + 1) → W p l e R s m args below meth c H1 locs (cells + 1) (slots + N') Q (F0 m (pc + 3) ls (.ref (ad n) :: rest))) : W p l e R s m args below meth c H locs cells slots Q (F0 m pc ls (.int (nI N') :: rest)) := by
  refine W.anew hx hb hown hclink (va_AO.use hover) rfl hdg rfl (nI_pos hN) (by rw [nI_clamp hN]; exact hbytes) hcells (by rw [nI_clamp hN]; exact hslots) fun cA kA comp f1 f2 f3 f4 => ?_
  rw [nI_clamp hN]
  generalize hH1 : H.push ({ cls := cA, slots := Array.replicate N' .null, vm := .none } : Cell) = H1
  have z1 : H1.size = H.size + 1 := by rw [← hH1, Array.size_push]
  have e1 : H1[H.size]? = some (arrV cA N' (fun _ => .null)) := by rw [← hH1, Array.getElem?_push_size, ← arrV_new]
  have o1 : ∀ q : Nat, q < H.size → H1[q]? = H[q]? := fun q hq => by rw [← hH1, Array.getElem?_push, if_neg (Nat.ne_of_lt hq)]
  obtain ⟨kA2, comp2, g1, g2, g3, g4⟩ := (hK.2 t _ ht).2
  have ec : cA = cs t := Option.some.inj (f1.symm.trans g4)
  subst ec
  have ea : H.size = ad n := by rw [hab]; exact hz
  rw [ea] at e1
  have h9 := kk H1 (sg_push hP o1 (by show H1[ad n]? = some (vp_cell _ _); rw [vp_cell_q]; exact e1)) ⟨Nat.le_trans hS.1 (by omega), fun x h1 h2 => (o1 x (Nat.lt_of_lt_of_le h1 hS.1)).trans (hS.2.1 x h1 h2), hS.2.2⟩ (by omega)
  rw [← ea] at h9
  exact h9
theorem b_aast (hx : p.tables.exec = Jvm.exec) (hb : c.code = cc) (hab : ∀ k, ad k = b + k) (hK : va_K D vwCl (tysC cs) s) (hP : va_P D vwCl (sg ad n M) H) (hS : va_S (Ge b) H0 H locs) (t ci : Nat) {r : vw_C} (ht : (tysC cs)[t]? = some (cs t, .object r.1)) (hc : vwCl[ci]? = some r) {k k2 : Nat} (hk : k < n) (hk2 : k2 < n) {N : Nat} {f : Nat → Option Nat} {vs : List Value} (hM : M k = eQ cs t N f) (hM2 : M k2 = .inr (ci, vs)) {i : Nat} (hi : i < N) (hN : N < 2 ^ 31) (hdg : decode cc pc = .ok (.aastore, 1))
    (kk : ∀ (H1 : Heap) (locs1 : List Loc), va_P D vwCl (sg ad n (va_up M k (eQ cs t N (va_up f i (some (ad k2)))))) H1 → va_S (Ge b) H0 H1 locs1 → H1.size = H.size → W p l e R s m args below meth c H1 locs1 cells slots Q (F0 m (pc + 1) ls rest)) : W p l e R s m args below meth c H locs cells slots Q (F0 m pc ls (.ref (ad k2) :: .int (nI i) :: .ref (ad k) :: rest)) := by
  have hD : va_D (Ge b) (sg ad n M) := sg_DB hab
  have ha := sg_atE (ad := ad) hk hM
  have hin := nI_in' hi hN
  have hlt : (nI i).toNatClampNeg < N := Nat.not_le.mp fun q => hin (Or.inr q)
  have h0 : ¬ nI i < 0 := fun q => hin (Or.inl q)
  obtain ⟨r', hr', cell, g1, g2, g3, -⟩ := hP k2 _ (sg_atE hk2 hM2)
  have hcls := (hK.1 ci r hc).2
  obtain ⟨kA, comp, k1, k2', k3, -⟩ := (hK.2 t _ ht).2
  have hcomp : comp = D.1 ci := Option.some.inj (k3.symm.trans hcls.1)
  subst hcomp
  obtain ⟨kC, hkC, hkind⟩ := hcls.2
  refine W.aast hx hb (hP k _ ha) (fun q h => by cases h) (fun h => by cases h) k1 k2' rfl hkC ⟨h0, by show _ < (arrV _ _ _).slots.size; rw [arrV_size]; exact hlt⟩ g1 (fun q h => by rw [g3] at h; cases h) (by rw [g2]; exact hkC) (by rw [g2]; exact va_assign hcls) rfl rfl hdg fun H1 e9 z oq => ?_
  have h9 : va_P D vwCl (sg ad n (va_up M k (eQ cs t N (va_up f i (some (ad k2)))))) H1 := by
    rw [← sg_set hk]
    refine hP.set hD ha ?_ oq
    show H1[ad k]? = some (vp_cell _ _)
    rw [e9, vp_cell_q, vp_cell_q, arrV_store, nI_clamp (Nat.lt_trans hi hN)]
    congr 2
    funext q
    by_cases hq : q = i
    · subst hq
      simp [updV, va_up, va_rf]
    · simp [updV, va_up, hq]
  exact kk H1 _ h9 (hS.put z oq (hD.2 k _ ha)) z
theorem b_ret {post : (Nat → va_E) → Prop} (hx : p.tables.exec = Jvm.exec) (hb : c.code = cc) (hr : meth.sig.returnType = none) (hlocks : meth.locks = false) (hK : va_K D vwCl (tysC cs) s) (hX : XW s) (hP : va_P D vwCl (sg ad n M) H) (hz : H.size = b + n) (hS : va_S (Ge b) s.heap H locs) (hdg : decode cc pc = .ok (.return_, 1)) (hpost : post M) : W p l e R s m args below meth c H locs cells slots (MQ below (va_Qv post (BW D cs ad b n) (Ge b)) args s cells slots (Ge b)) (F0 m pc ls []) :=
  W.vret hx hb hr (fun t ht hW => ⟨⟨M, rfl, hpost, by rw [ht]; exact hz, ⟨by rw [ht]; exact hP, va_K.moved hW.alike hK⟩, hX.warm hW⟩, hS.F ht⟩) hS.2.2 hdg
theorem k_I {post : (Nat → va_E) → Prop} {n2 k : Nat} (S : CallFix p m c cc nL s args Ts own) (hK : va_K D vwCl (tysC cs) s) (hX : XW s) (hP : va_P D vwCl (sg ad n M) H) (hz : H.size = b + n) (hS : va_S (Ge b) H0 H locs) (hM : CB l y ws rm D cs ad b n n2 M (.ref (ad k) :: As) post mc ms) (cw : CallB R s args own index y bytes maxL none ws rm mc ms nn ∧ y.name = "<init>" ∧ (Cond.instanceMethod y).before args s = true) (hst : st0 = As.reverse ++ .ref (ad k) :: rest) (hn : As.length = nn) (hsize : ls.size = nL) (hW : (rest.map fun v => v.category).sum ≤ 8) (hdg : decode cc pc = .ok (.invokespecial index, 3)) (hcl : cells + mc ≤ R.cells ∧ slots + ms ≤ R.slots)
    (kk : ∀ (M1 : Nat → va_E) (H1 : Heap) (locs1 : List Loc), post M1 → va_P D vwCl (sg ad n2 M1) H1 → va_S (Ge b) H0 H1 locs1 → H1.size = b + n2 → W p l e R s m args below meth c H1 locs1 (cells + mc) (slots + ms) Q (F0 m (pc + 3) ls rest)) : W p l e R s m args below meth c H locs cells slots Q (F0 m pc ls st0) := by
  refine va_callv (va_runI (As := As) (rest := rest) S hM cw ⟨BW_blind, fun U hU hW => ⟨rfl, by rw [hU]; exact hz, ⟨by rw [hU]; exact hP, va_K.moved hW.alike hK⟩, hX.warm hW⟩⟩ rfl hn hsize hst (lv_room hW) hdg hcl) hS (fun q _ h => h) (fun q h => h) (fun u t H1 locs1 ht hvm hw hB hz2 hk1 hS1 => ?_)
  obtain ⟨b1, ⟨b2, -⟩, -⟩ := hB
  rw [ht] at b1 b2
  exact kk u H1 locs1 hw b2 hS1 b1
theorem k_IN {post : (Nat → va_E) → Prop} {n2 k : Nat} {host : String} (S : CallFix p m c cc nL s args Ts own) (hK : va_K D vwCl (tysC cs) s) (hX : XW s) (hP : va_P D vwCl (sg ad n M) H) (hz : H.size = b + n) (hS : va_S (Ge b) H0 H locs) (hM : CB l y ws rm D cs ad b n n2 M (.ref (ad k) :: As) post mc ms) (cw : va_CN R s args own index y host bytes maxL none ws rm mc ms nn ∧ y.name = "<init>" ∧ (Cond.instanceMethod y).before args s = true) (hst : st0 = As.reverse ++ .ref (ad k) :: rest) (hn : As.length = nn) (hsize : ls.size = nL) (hW : (rest.map fun v => v.category).sum ≤ 8) (hdg : decode cc pc = .ok (.invokespecial index, 3)) (hcl : cells + mc ≤ R.cells ∧ slots + ms ≤ R.slots)
    (kk : ∀ (M1 : Nat → va_E) (H1 : Heap) (locs1 : List Loc), post M1 → va_P D vwCl (sg ad n2 M1) H1 → va_S (Ge b) H0 H1 locs1 → H1.size = b + n2 → W p l e R s m args below meth c H1 locs1 (cells + mc) (slots + ms) Q (F0 m (pc + 3) ls rest)) : W p l e R s m args below meth c H locs cells slots Q (F0 m pc ls st0) := by
  refine va_callv (va_runIN (As := As) (rest := rest) S hM cw ⟨BW_blind, fun U hU hW => ⟨rfl, by rw [hU]; exact hz, ⟨by rw [hU]; exact hP, va_K.moved hW.alike hK⟩, hX.warm hW⟩⟩ rfl hn hsize hst (lv_room hW) hdg hcl) hS (fun q _ h => h) (fun q h => h) (fun u t H1 locs1 ht hvm hw hB hz2 hk1 hS1 => ?_)
  obtain ⟨b1, ⟨b2, -⟩, -⟩ := hB
  rw [ht] at b1 b2
  exact kk u H1 locs1 hw b2 hS1 b1
theorem lpB {α : Type} (C : Nat → α → Array Slot → Heap → List Loc → Prop) (pc2 : Nat) (ce sl : α → Nat)
    (step : ∀ (k : Nat) (a : α) (ls : Array Slot) (H : Heap) (locs : List Loc), C k a ls H locs → (∀ k' : Nat, k' < k → ∀ (a' : α) (ls' : Array Slot) (H' : Heap) (locs' : List Loc), C k' a' ls' H' locs' → W p l e R s m args below meth c H' locs' (ce a') (sl a') Q (F0 m pc2 ls' [])) → W p l e R s m args below meth c H locs (ce a) (sl a) Q (F0 m pc2 ls [])) :
    ∀ (k : Nat) (a : α) (ls : Array Slot) (H : Heap) (locs : List Loc), C k a ls H locs → W p l e R s m args below meth c H locs (ce a) (sl a) Q (F0 m pc2 ls []) := by
  intro k
  induction k using Nat.strongRecOn with
  | _ k ih => exact fun a ls H locs hC => step k a ls H locs hC (fun k' hk a' ls' H' locs' h => ih k' hk a' ls' H' locs' h)
end RBD
