/-! a stretch of cells: the k-th cell lies at the address ad k and holds M k -/
def sg (ad : Nat → Nat) (n : Nat) (M : Nat → va_E) : va_W := (List.range n).map (fun k => (ad k, M k))
theorem sg_at {ad : Nat → Nat} {n k : Nat} {M : Nat → va_E} (h : k < n) : (sg ad n M)[k]? = some (ad k, M k) := by
  unfold sg
  rw [List.getElem?_map, List.getElem?_range h]
  rfl
theorem sg_atE {ad : Nat → Nat} {n k : Nat} {M : Nat → va_E} {e : va_E} (h : k < n) (hM : M k = e) : (sg ad n M)[k]? = some (ad k, e) := by
  rw [sg_at h, hM]
theorem sg_of {ad : Nat → Nat} {n k : Nat} {M : Nat → va_E} {q : Nat × va_E} (h : (sg ad n M)[k]? = some q) : k < n ∧ q = (ad k, M k) := by
  have hl := (List.getElem?_eq_some_iff.mp h).1
  have hk : k < n := by unfold sg at hl; simpa using hl
  rw [sg_at hk] at h
  exact ⟨hk, (Option.some.inj h).symm⟩
theorem sg_set {ad : Nat → Nat} {n k : Nat} {M : Nat → va_E} {e : va_E} (hk : k < n) : (sg ad n M).set k (ad k, e) = sg ad n (va_up M k e) := by
  apply List.ext_getElem?
  intro i
  by_cases hi : i < n
  · rw [sg_at hi]
    by_cases h : i = k
    · subst h
      rw [List.getElem?_set_self (by unfold sg; simpa using hk), va_up_self]
    · rw [List.getElem?_set_ne (Ne.symm h), sg_at hi, va_up_ne M e h]
  · rw [List.getElem?_eq_none (by unfold sg; simp; omega), List.getElem?_eq_none (by unfold sg; simp; omega)]
def Ad (ad : Nat → Nat) (n : Nat) : Nat → Prop := fun q => ∃ k : Nat, k < n ∧ q = ad k
def Inj (ad : Nat → Nat) (n : Nat) : Prop := ∀ i j : Nat, i < n → j < n → ad i = ad j → i = j
theorem sg_D {ad : Nat → Nat} {n : Nat} {M : Nat → va_E} (h : Inj ad n) : va_D (Ad ad n) (sg ad n M) := by
  refine ⟨fun i j x y hx hy hxy => ?_, fun k q hk => ?_⟩
  · obtain ⟨h1, rfl⟩ := sg_of hx
    obtain ⟨h2, rfl⟩ := sg_of hy
    exact h i j h1 h2 hxy
  · obtain ⟨h1, rfl⟩ := sg_of hk
    exact ⟨k, h1, rfl⟩
theorem sg_P {D : va_G} {cl : List vw_C} {ad : Nat → Nat} {n : Nat} {M : Nat → va_E} {H : Heap} : va_P D cl (sg ad n M) H ↔ ∀ k : Nat, k < n → va_at D cl (ad k, M k) H := by
  constructor
  · intro h k hk
    exact h k _ (sg_at hk)
  · intro h k q hq
    obtain ⟨h1, rfl⟩ := sg_of hq
    exact h k h1
theorem sg_congr {ad : Nat → Nat} {n : Nat} {M M' : Nat → va_E} (h : ∀ k : Nat, k < n → M k = M' k) : sg ad n M = sg ad n M' := by
  unfold sg
  apply List.map_congr_left
  intro a ha
  rw [h a (List.mem_range.mp ha)]
/-- the array classes -/
abbrev tysC (cs : Nat → ClassId) : List (ClassId × FieldType) := [(cs 0, .int), (cs 1, .byte), (cs 2, .short), (cs 3, .boolean), (cs 4, .float), (cs 5, .long), (cs 6, .double), (cs 7, .object "RollbackPair$Packet"), (cs 8, .object "RollbackPair$State"), (cs 9, .object "RollbackPair$Peer"), (cs 10, .array .byte)]
abbrev eI (cs : Nat → ClassId) (n : Nat) (f : Nat → Int32) : va_E := .inl (cs 0, n, .inl f)
abbrev eB (cs : Nat → ClassId) (n : Nat) (f : Nat → Int32) : va_E := .inl (cs 1, n, .inl f)
abbrev eS (cs : Nat → ClassId) (n : Nat) (f : Nat → Int32) : va_E := .inl (cs 2, n, .inl f)
abbrev eZ (cs : Nat → ClassId) (n : Nat) (f : Nat → Int32) : va_E := .inl (cs 3, n, .inl f)
abbrev eF (cs : Nat → ClassId) (n : Nat) (f : Nat → UInt32) : va_E := .inl (cs 4, n, .inr (.inr (.inl f)))
abbrev eJ (cs : Nat → ClassId) (n : Nat) (f : Nat → Int64) : va_E := .inl (cs 5, n, .inr (.inl f))
abbrev eD (cs : Nat → ClassId) (n : Nat) (f : Nat → UInt64) : va_E := .inl (cs 6, n, .inr (.inr (.inr (.inl f))))
abbrev eQ (cs : Nat → ClassId) (t n : Nat) (f : Nat → Option Nat) : va_E := .inl (cs t, n, .inr (.inr (.inr (.inr f))))
theorem nI_in' {j n : Nat} (h : j < n) (hn : n < 2 ^ 31) : vp_in (nI j) n := vp_in_nI h hn
/-- the world of a contract: the cells and the classes -/
def PW (D : va_G) (cs : Nat → ClassId) (ad : Nat → Nat) (n : Nat) (M : Nat → va_E) (U : State) : Prop := va_P D vwCl (sg ad n M) U.heap ∧ va_K D vwCl (tysC cs) U
abbrev CTi (l : Launch) (y : MethodName) (ws : List Cond) (rm : Room) (D : va_G) (cs : Nat → ClassId) (ad : Nat → Nat) (n : Nat) (M : Nat → va_E) (av : List Value) (post : Int32 → (Nat → va_E) → Prop) : Prop := Met l y ws rm (va_Pc av (PW D cs ad n M)) (va_Qi post (PW D cs ad n) (Ad ad n)) 0 0 (Ad ad n)
abbrev CTf (l : Launch) (y : MethodName) (ws : List Cond) (rm : Room) (D : va_G) (cs : Nat → ClassId) (ad : Nat → Nat) (n : Nat) (M : Nat → va_E) (av : List Value) (post : UInt32 → (Nat → va_E) → Prop) : Prop := Met l y ws rm (va_Pc av (PW D cs ad n M)) (va_Qf post (PW D cs ad n) (Ad ad n)) 0 0 (Ad ad n)
abbrev CTd (l : Launch) (y : MethodName) (ws : List Cond) (rm : Room) (D : va_G) (cs : Nat → ClassId) (ad : Nat → Nat) (n : Nat) (M : Nat → va_E) (av : List Value) (post : UInt64 → (Nat → va_E) → Prop) : Prop := Met l y ws rm (va_Pc av (PW D cs ad n M)) (va_Qd post (PW D cs ad n) (Ad ad n)) 0 0 (Ad ad n)
abbrev CTv (l : Launch) (y : MethodName) (ws : List Cond) (rm : Room) (D : va_G) (cs : Nat → ClassId) (ad : Nat → Nat) (n : Nat) (M : Nat → va_E) (av : List Value) (post : (Nat → va_E) → Prop) : Prop := Met l y ws rm (va_Pc av (PW D cs ad n M)) (va_Qv post (PW D cs ad n) (Ad ad n)) 0 0 (Ad ad n)
abbrev CTq (l : Launch) (y : MethodName) (ws : List Cond) (rm : Room) (D : va_G) (cs : Nat → ClassId) (ad : Nat → Nat) (n : Nat) (M : Nat → va_E) (av : List Value) (post : Option Nat → (Nat → va_E) → Prop) : Prop := Met l y ws rm (va_Pc av (PW D cs ad n M)) (va_Qq post (PW D cs ad n) (Ad ad n)) 0 0 (Ad ad n)
theorem PW_blind {D : va_G} {cs : Nat → ClassId} {ad : Nat → Nat} {n : Nat} {M : Nat → va_E} {av : List Value} : FrameBlind (va_Pc av (PW D cs ad n M)) :=
  fun a U g mk q => ⟨q.1, q.2.1, va_K.moved (u := U) (U := U.calling g mk a) (Vm.Alike.refl U.vm) q.2.2⟩
section RWS
variable {p : Program} {l : Launch} {e : Env} {R : Room} {s : State} {m : MethodId} {args : Array Value} {below : List Frame} {meth : Method} {c : Code} {H : Heap} {locs : List Loc} {cells slots : Nat} {Q : State → Prop}
variable {cc : ByteArray} {pc : Nat} {ls : Array Slot} {rest : List Value} {D : va_G} {cs : Nat → ClassId} {ad : Nat → Nat} {n : Nat} {M : Nat → va_E} {H0 : Heap}
theorem m_get (hx : p.tables.exec = Jvm.exec) (hb : c.code = cc) {own C : String} {T : u_T} {N ci index : Nat} {Ts : List Cond} (hts : ∀ w ∈ Ts, w.before args s = true) (hin : ∀ w ∈ u_ws C T N, w ∈ Ts) (hown : s.vm.findClass own = some m.cls) (hK : va_K D vwCl (tysC cs) s) (hP : va_P D vwCl (sg ad n M) H) (hc : vwCl[ci]? = some (C, T, N)) {k : Nat} (hk : k < n) {fs : List Value} (hM : M k = .inr (ci, fs)) (j : Nat) (hj : j < N) (hlink : (Cond.fieldLink own index (T j).1 (T j).2.1 (T j).2.2.1).before args s = true) {v : Value} (hv : fs[j]? = some v) (hdg : decode cc pc = .ok (.getfield index, 3))
    (kk : W p l e R s m args below meth c H locs cells slots Q (F0 m (pc + 3) ls (v :: rest))) : W p l e R s m args below meth c H locs cells slots Q (F0 m pc ls (.ref (ad k) :: rest)) :=
  va_get hx hb hts hin hown hK hP k (sg_atE hk hM) hc j hj hlink (fun _ h => h) hv hdg kk
theorem m_put (hx : p.tables.exec = Jvm.exec) (hb : c.code = cc) {own C : String} {T : u_T} {N ci index : Nat} {Ts : List Cond} (hts : ∀ w ∈ Ts, w.before args s = true) (hin : ∀ w ∈ u_ws C T N, w ∈ Ts) (ty0 : Nat → FieldType) (hty : ∀ k, k < N → parseFieldDescriptor (T k).2.2.1 = some (ty0 k)) (hnm : ∀ a, a < N → ∀ b, b < N → a ≠ b → (T a).2.1 ≠ (T b).2.1) (hown : s.vm.findClass own = some m.cls) (hK : va_K D vwCl (tysC cs) s) (hP : va_P D vwCl (sg ad n M) H) (hJ : Inj ad n) (hS : va_S (Ad ad n) H0 H locs) (hc : vwCl[ci]? = some (C, T, N)) {k : Nat} (hk : k < n) {fs : List Value} (hM : M k = .inr (ci, fs)) (j : Nat) (hj : j < N) (hlink : (Cond.fieldLink own index (T j).1 (T j).2.1 (T j).2.2.1).before args s = true) (hfin : (T j).2.2.2 = false) {v : Value} (hn : narrow (ty0 j) v = v) (hfit : fits (ty0 j) v = true) (hl : j < fs.length) {fs' : List Value} (hfs : fs.set j v = fs') (hdg : decode cc pc = .ok (.putfield index, 3))
    (kk : ∀ (H1 : Heap) (locs1 : List Loc), va_P D vwCl (sg ad n (va_up M k (.inr (ci, fs')))) H1 → va_S (Ad ad n) H0 H1 locs1 → W p l e R s m args below meth c H1 locs1 cells slots Q (F0 m (pc + 3) ls rest)) : W p l e R s m args below meth c H locs cells slots Q (F0 m pc ls (v :: .ref (ad k) :: rest)) := by
  subst hfs
  refine va_put hx hb hts hin ty0 hty hnm hown hK hP (sg_D hJ) hS k (sg_atE hk hM) hc j hj hlink (fun _ h => h) hfin (hty j hj) hn hfit hl hdg (fun H1 locs1 h1 _ h3 => ?_)
  rw [sg_set hk] at h1
  exact kk H1 locs1 h1 h3
theorem m_iald (hx : p.tables.exec = Jvm.exec) (hb : c.code = cc) (hK : va_K D vwCl (tysC cs) s) (hP : va_P D vwCl (sg ad n M) H) {k : Nat} (hk : k < n) {N : Nat} {f : Nat → Int32} (hM : M k = eI cs N f) {i : Nat} (hi : i < N) (hN : N < 2 ^ 31) (hdg : decode cc pc = .ok (.iaload, 1))
    (kk : W p l e R s m args below meth c H locs cells slots Q (F0 m (pc + 1) ls (.int (f i) :: rest))) : W p l e R s m args below meth c H locs cells slots Q (F0 m pc ls (.int (nI i) :: .ref (ad k) :: rest)) :=
  va_iald hx hb hK hP k 0 (sg_atE hk hM) rfl (nI_in' hi hN) hdg (by rw [nI_clamp (Nat.lt_trans hi hN)]; exact kk)
theorem m_bald (hx : p.tables.exec = Jvm.exec) (hb : c.code = cc) (hK : va_K D vwCl (tysC cs) s) (hP : va_P D vwCl (sg ad n M) H) {k : Nat} (hk : k < n) {N : Nat} {f : Nat → Int32} (hM : M k = eB cs N f) {i : Nat} (hi : i < N) (hN : N < 2 ^ 31) (hdg : decode cc pc = .ok (.baload, 1))
    (kk : W p l e R s m args below meth c H locs cells slots Q (F0 m (pc + 1) ls (.int (f i) :: rest))) : W p l e R s m args below meth c H locs cells slots Q (F0 m pc ls (.int (nI i) :: .ref (ad k) :: rest)) :=
  va_bald hx hb hK hP k 1 (sg_atE hk hM) rfl (nI_in' hi hN) hdg (by rw [nI_clamp (Nat.lt_trans hi hN)]; exact kk)
theorem m_sald (hx : p.tables.exec = Jvm.exec) (hb : c.code = cc) (hK : va_K D vwCl (tysC cs) s) (hP : va_P D vwCl (sg ad n M) H) {k : Nat} (hk : k < n) {N : Nat} {f : Nat → Int32} (hM : M k = eS cs N f) {i : Nat} (hi : i < N) (hN : N < 2 ^ 31) (hdg : decode cc pc = .ok (.saload, 1))
    (kk : W p l e R s m args below meth c H locs cells slots Q (F0 m (pc + 1) ls (.int (f i) :: rest))) : W p l e R s m args below meth c H locs cells slots Q (F0 m pc ls (.int (nI i) :: .ref (ad k) :: rest)) :=
  va_sald hx hb hK hP k 2 (sg_atE hk hM) rfl (nI_in' hi hN) hdg (by rw [nI_clamp (Nat.lt_trans hi hN)]; exact kk)
theorem m_zald (hx : p.tables.exec = Jvm.exec) (hb : c.code = cc) (hK : va_K D vwCl (tysC cs) s) (hP : va_P D vwCl (sg ad n M) H) {k : Nat} (hk : k < n) {N : Nat} {f : Nat → Int32} (hM : M k = eZ cs N f) {i : Nat} (hi : i < N) (hN : N < 2 ^ 31) (hdg : decode cc pc = .ok (.baload, 1))
    (kk : W p l e R s m args below meth c H locs cells slots Q (F0 m (pc + 1) ls (.int (f i) :: rest))) : W p l e R s m args below meth c H locs cells slots Q (F0 m pc ls (.int (nI i) :: .ref (ad k) :: rest)) :=
  va_zald hx hb hK hP k 3 (sg_atE hk hM) rfl (nI_in' hi hN) hdg (by rw [nI_clamp (Nat.lt_trans hi hN)]; exact kk)
theorem m_fald (hx : p.tables.exec = Jvm.exec) (hb : c.code = cc) (hK : va_K D vwCl (tysC cs) s) (hP : va_P D vwCl (sg ad n M) H) {k : Nat} (hk : k < n) {N : Nat} {f : Nat → UInt32} (hM : M k = eF cs N f) {i : Nat} (hi : i < N) (hN : N < 2 ^ 31) (hdg : decode cc pc = .ok (.faload, 1))
    (kk : W p l e R s m args below meth c H locs cells slots Q (F0 m (pc + 1) ls (.float (f i) :: rest))) : W p l e R s m args below meth c H locs cells slots Q (F0 m pc ls (.int (nI i) :: .ref (ad k) :: rest)) :=
  va_fald hx hb hK hP k 4 (sg_atE hk hM) rfl (nI_in' hi hN) hdg (by rw [nI_clamp (Nat.lt_trans hi hN)]; exact kk)
theorem m_lald (hx : p.tables.exec = Jvm.exec) (hb : c.code = cc) (hK : va_K D vwCl (tysC cs) s) (hP : va_P D vwCl (sg ad n M) H) {k : Nat} (hk : k < n) {N : Nat} {f : Nat → Int64} (hM : M k = eJ cs N f) {i : Nat} (hi : i < N) (hN : N < 2 ^ 31) (hdg : decode cc pc = .ok (.laload, 1))
    (kk : W p l e R s m args below meth c H locs cells slots Q (F0 m (pc + 1) ls (.long (f i) :: rest))) : W p l e R s m args below meth c H locs cells slots Q (F0 m pc ls (.int (nI i) :: .ref (ad k) :: rest)) :=
  va_lald hx hb hK hP k 5 (sg_atE hk hM) rfl (nI_in' hi hN) hdg (by rw [nI_clamp (Nat.lt_trans hi hN)]; exact kk)
theorem m_dald (hx : p.tables.exec = Jvm.exec) (hb : c.code = cc) (hK : va_K D vwCl (tysC cs) s) (hP : va_P D vwCl (sg ad n M) H) {k : Nat} (hk : k < n) {N : Nat} {f : Nat → UInt64} (hM : M k = eD cs N f) {i : Nat} (hi : i < N) (hN : N < 2 ^ 31) (hdg : decode cc pc = .ok (.daload, 1))
    (kk : W p l e R s m args below meth c H locs cells slots Q (F0 m (pc + 1) ls (.double (f i) :: rest))) : W p l e R s m args below meth c H locs cells slots Q (F0 m pc ls (.int (nI i) :: .ref (ad k) :: rest)) :=
  va_dald hx hb hK hP k 6 (sg_atE hk hM) rfl (nI_in' hi hN) hdg (by rw [nI_clamp (Nat.lt_trans hi hN)]; exact kk)
/-- a place of a row of objects: t its class's place among the array classes -/
theorem m_aald (hx : p.tables.exec = Jvm.exec) (hb : c.code = cc) (hK : va_K D vwCl (tysC cs) s) (hP : va_P D vwCl (sg ad n M) H) (t : Nat) {C : String} (ht : (tysC cs)[t]? = some (cs t, .object C)) {k : Nat} (hk : k < n) {N : Nat} {f : Nat → Option Nat} (hM : M k = eQ cs t N f) {i : Nat} (hi : i < N) (hN : N < 2 ^ 31) {r : Option Nat} (hr : f i = r) (hdg : decode cc pc = .ok (.aaload, 1))
    (kk : W p l e R s m args below meth c H locs cells slots Q (F0 m (pc + 1) ls (va_rf r :: rest))) : W p l e R s m args below meth c H locs cells slots Q (F0 m pc ls (.int (nI i) :: .ref (ad k) :: rest)) :=
  va_aldq hx hb hK hP k t (sg_atE hk hM) ht (nI_in' hi hN) hdg (by rw [nI_clamp (Nat.lt_trans hi hN), hr]; exact kk)
theorem m_iast (hx : p.tables.exec = Jvm.exec) (hb : c.code = cc) (hK : va_K D vwCl (tysC cs) s) (hP : va_P D vwCl (sg ad n M) H) (hJ : Inj ad n) (hS : va_S (Ad ad n) H0 H locs) {k : Nat} (hk : k < n) {N : Nat} {f : Nat → Int32} (hM : M k = eI cs N f) {i : Nat} {x : Int32} (hi : i < N) (hN : N < 2 ^ 31) (hdg : decode cc pc = .ok (.iastore, 1))
    (kk : ∀ (H1 : Heap) (locs1 : List Loc), va_P D vwCl (sg ad n (va_up M k (eI cs N (upd f i x)))) H1 → va_S (Ad ad n) H0 H1 locs1 → W p l e R s m args below meth c H1 locs1 cells slots Q (F0 m (pc + 1) ls rest)) : W p l e R s m args below meth c H locs cells slots Q (F0 m pc ls (.int x :: .int (nI i) :: .ref (ad k) :: rest)) := by
  refine va_iast hx hb hK hP (sg_D hJ) hS k 0 (sg_atE hk hM) rfl (nI_in' hi hN) hdg (fun H1 locs1 h1 _ h3 => ?_)
  rw [sg_set hk, nI_clamp (Nat.lt_trans hi hN)] at h1
  exact kk H1 locs1 h1 h3
theorem m_bast (hx : p.tables.exec = Jvm.exec) (hb : c.code = cc) (hK : va_K D vwCl (tysC cs) s) (hP : va_P D vwCl (sg ad n M) H) (hJ : Inj ad n) (hS : va_S (Ad ad n) H0 H locs) {k : Nat} (hk : k < n) {N : Nat} {f : Nat → Int32} (hM : M k = eB cs N f) {i : Nat} {x y : Int32} (hi : i < N) (hN : N < 2 ^ 31) (hy : x.toInt8.toInt32 = y) (hdg : decode cc pc = .ok (.bastore, 1))
    (kk : ∀ (H1 : Heap) (locs1 : List Loc), va_P D vwCl (sg ad n (va_up M k (eB cs N (upd f i y)))) H1 → va_S (Ad ad n) H0 H1 locs1 → W p l e R s m args below meth c H1 locs1 cells slots Q (F0 m (pc + 1) ls rest)) : W p l e R s m args below meth c H locs cells slots Q (F0 m pc ls (.int x :: .int (nI i) :: .ref (ad k) :: rest)) := by
  refine va_bast hx hb hK hP (sg_D hJ) hS k 1 (sg_atE hk hM) rfl (nI_in' hi hN) hdg (fun H1 locs1 h1 _ h3 => ?_)
  rw [sg_set hk, nI_clamp (Nat.lt_trans hi hN), vp_nar_byte, hy] at h1
  exact kk H1 locs1 h1 h3
theorem m_sast (hx : p.tables.exec = Jvm.exec) (hb : c.code = cc) (hK : va_K D vwCl (tysC cs) s) (hP : va_P D vwCl (sg ad n M) H) (hJ : Inj ad n) (hS : va_S (Ad ad n) H0 H locs) {k : Nat} (hk : k < n) {N : Nat} {f : Nat → Int32} (hM : M k = eS cs N f) {i : Nat} {x y : Int32} (hi : i < N) (hN : N < 2 ^ 31) (hy : x.toInt16.toInt32 = y) (hdg : decode cc pc = .ok (.sastore, 1))
    (kk : ∀ (H1 : Heap) (locs1 : List Loc), va_P D vwCl (sg ad n (va_up M k (eS cs N (upd f i y)))) H1 → va_S (Ad ad n) H0 H1 locs1 → W p l e R s m args below meth c H1 locs1 cells slots Q (F0 m (pc + 1) ls rest)) : W p l e R s m args below meth c H locs cells slots Q (F0 m pc ls (.int x :: .int (nI i) :: .ref (ad k) :: rest)) := by
  refine va_sast hx hb hK hP (sg_D hJ) hS k 2 (sg_atE hk hM) rfl (nI_in' hi hN) hdg (fun H1 locs1 h1 _ h3 => ?_)
  rw [sg_set hk, nI_clamp (Nat.lt_trans hi hN), vp_nar_short, hy] at h1
  exact kk H1 locs1 h1 h3
theorem m_zast (hx : p.tables.exec = Jvm.exec) (hb : c.code = cc) (hK : va_K D vwCl (tysC cs) s) (hP : va_P D vwCl (sg ad n M) H) (hJ : Inj ad n) (hS : va_S (Ad ad n) H0 H locs) {k : Nat} (hk : k < n) {N : Nat} {f : Nat → Int32} (hM : M k = eZ cs N f) {i : Nat} {x y : Int32} (hi : i < N) (hN : N < 2 ^ 31) (hy : vp_nar .boolean x = y) (hdg : decode cc pc = .ok (.bastore, 1))
    (kk : ∀ (H1 : Heap) (locs1 : List Loc), va_P D vwCl (sg ad n (va_up M k (eZ cs N (upd f i y)))) H1 → va_S (Ad ad n) H0 H1 locs1 → W p l e R s m args below meth c H1 locs1 cells slots Q (F0 m (pc + 1) ls rest)) : W p l e R s m args below meth c H locs cells slots Q (F0 m pc ls (.int x :: .int (nI i) :: .ref (ad k) :: rest)) := by
  refine va_zast hx hb hK hP (sg_D hJ) hS k 3 (sg_atE hk hM) rfl (nI_in' hi hN) hdg (fun H1 locs1 h1 _ h3 => ?_)
  rw [sg_set hk, nI_clamp (Nat.lt_trans hi hN), hy] at h1
  exact kk H1 locs1 h1 h3
theorem m_fast (hx : p.tables.exec = Jvm.exec) (hb : c.code = cc) (hK : va_K D vwCl (tysC cs) s) (hP : va_P D vwCl (sg ad n M) H) (hJ : Inj ad n) (hS : va_S (Ad ad n) H0 H locs) {k : Nat} (hk : k < n) {N : Nat} {f : Nat → UInt32} (hM : M k = eF cs N f) {i : Nat} {x : UInt32} (hi : i < N) (hN : N < 2 ^ 31) (hdg : decode cc pc = .ok (.fastore, 1))
    (kk : ∀ (H1 : Heap) (locs1 : List Loc), va_P D vwCl (sg ad n (va_up M k (eF cs N (vf_upd f i x)))) H1 → va_S (Ad ad n) H0 H1 locs1 → W p l e R s m args below meth c H1 locs1 cells slots Q (F0 m (pc + 1) ls rest)) : W p l e R s m args below meth c H locs cells slots Q (F0 m pc ls (.float x :: .int (nI i) :: .ref (ad k) :: rest)) := by
  refine va_fast hx hb hK hP (sg_D hJ) hS k 4 (sg_atE hk hM) rfl (nI_in' hi hN) hdg (fun H1 locs1 h1 _ h3 => ?_)
  rw [sg_set hk, nI_clamp (Nat.lt_trans hi hN)] at h1
  exact kk H1 locs1 h1 h3
theorem m_last (hx : p.tables.exec = Jvm.exec) (hb : c.code = cc) (hK : va_K D vwCl (tysC cs) s) (hP : va_P D vwCl (sg ad n M) H) (hJ : Inj ad n) (hS : va_S (Ad ad n) H0 H locs) {k : Nat} (hk : k < n) {N : Nat} {f : Nat → Int64} (hM : M k = eJ cs N f) {i : Nat} {x : Int64} (hi : i < N) (hN : N < 2 ^ 31) (hdg : decode cc pc = .ok (.lastore, 1))
    (kk : ∀ (H1 : Heap) (locs1 : List Loc), va_P D vwCl (sg ad n (va_up M k (eJ cs N (vp_updL f i x)))) H1 → va_S (Ad ad n) H0 H1 locs1 → W p l e R s m args below meth c H1 locs1 cells slots Q (F0 m (pc + 1) ls rest)) : W p l e R s m args below meth c H locs cells slots Q (F0 m pc ls (.long x :: .int (nI i) :: .ref (ad k) :: rest)) := by
  refine va_last hx hb hK hP (sg_D hJ) hS k 5 (sg_atE hk hM) rfl (nI_in' hi hN) hdg (fun H1 locs1 h1 _ h3 => ?_)
  rw [sg_set hk, nI_clamp (Nat.lt_trans hi hN)] at h1
  exact kk H1 locs1 h1 h3
theorem m_dast (hx : p.tables.exec = Jvm.exec) (hb : c.code = cc) (hK : va_K D vwCl (tysC cs) s) (hP : va_P D vwCl (sg ad n M) H) (hJ : Inj ad n) (hS : va_S (Ad ad n) H0 H locs) {k : Nat} (hk : k < n) {N : Nat} {f : Nat → UInt64} (hM : M k = eD cs N f) {i : Nat} {x : UInt64} (hi : i < N) (hN : N < 2 ^ 31) (hdg : decode cc pc = .ok (.dastore, 1))
    (kk : ∀ (H1 : Heap) (locs1 : List Loc), va_P D vwCl (sg ad n (va_up M k (eD cs N (vf_upd f i x)))) H1 → va_S (Ad ad n) H0 H1 locs1 → W p l e R s m args below meth c H1 locs1 cells slots Q (F0 m (pc + 1) ls rest)) : W p l e R s m args below meth c H locs cells slots Q (F0 m pc ls (.double x :: .int (nI i) :: .ref (ad k) :: rest)) := by
  refine va_dast hx hb hK hP (sg_D hJ) hS k 6 (sg_atE hk hM) rfl (nI_in' hi hN) hdg (fun H1 locs1 h1 _ h3 => ?_)
  rw [sg_set hk, nI_clamp (Nat.lt_trans hi hN)] at h1
  exact kk H1 locs1 h1 h3
/-- an object goes into a place of a row of objects -/
theorem m_aast (hx : p.tables.exec = Jvm.exec) (hb : c.code = cc) (hK : va_K D vwCl (tysC cs) s) (hP : va_P D vwCl (sg ad n M) H) (hJ : Inj ad n) (hS : va_S (Ad ad n) H0 H locs) (t ci : Nat) {r : vw_C} (ht : (tysC cs)[t]? = some (cs t, .object r.1)) (hc : vwCl[ci]? = some r) {k k2 : Nat} (hk : k < n) (hk2 : k2 < n) {N : Nat} {f : Nat → Option Nat} {vs : List Value} (hM : M k = eQ cs t N f) (hM2 : M k2 = .inr (ci, vs)) {i : Nat} (hi : i < N) (hN : N < 2 ^ 31) (hdg : decode cc pc = .ok (.aastore, 1))
    (kk : ∀ (H1 : Heap) (locs1 : List Loc), va_P D vwCl (sg ad n (va_up M k (eQ cs t N (va_up f i (some (ad k2)))))) H1 → va_S (Ad ad n) H0 H1 locs1 → W p l e R s m args below meth c H1 locs1 cells slots Q (F0 m (pc + 1) ls rest)) : W p l e R s m args below meth c H locs cells slots Q (F0 m pc ls (.ref (ad k2) :: .int (nI i) :: .ref (ad k) :: rest)) := by
  refine va_astq hx hb hK hP (sg_D hJ) hS k t k2 ci (sg_atE hk hM) ht (sg_atE hk2 hM2) hc (nI_in' hi hN) hdg (fun H1 locs1 h1 _ h3 => ?_)
  rw [sg_set hk, nI_clamp (Nat.lt_trans hi hN)] at h1
  exact kk H1 locs1 h1 h3
theorem m_alen (hx : p.tables.exec = Jvm.exec) (hb : c.code = cc) (hK : va_K D vwCl (tysC cs) s) (hP : va_P D vwCl (sg ad n M) H) (t : Nat) {ty : FieldType} (ht : (tysC cs)[t]? = some (cs t, ty)) {k : Nat} (hk : k < n) {x : vp_A} (hM : M k = .inl (cs t, x)) (hdg : decode cc pc = .ok (.arraylength, 1))
    (kk : W p l e R s m args below meth c H locs cells slots Q (F0 m (pc + 1) ls (.int (nI x.1) :: rest))) : W p l e R s m args below meth c H locs cells slots Q (F0 m pc ls (.ref (ad k) :: rest)) :=
  va_alen hx hb hK hP k t (sg_atE hk hM) ht rfl hdg kk
-- whole numbers
theorem n_add (hx : p.tables.exec = Jvm.exec) (hb : c.code = cc) {a b : Nat} (hdg : decode cc pc = .ok (.iadd, 1)) (k : W p l e R s m args below meth c H locs cells slots Q (F0 m (pc + 1) ls (.int (nI (a + b)) :: rest))) : W p l e R s m args below meth c H locs cells slots Q (F0 m pc ls (.int (nI b) :: .int (nI a) :: rest)) :=
  lv_iadd hx hb hdg (by rw [nI_add]; exact k)
theorem n_mul (hx : p.tables.exec = Jvm.exec) (hb : c.code = cc) {a b : Nat} (hdg : decode cc pc = .ok (.imul, 1)) (k : W p l e R s m args below meth c H locs cells slots Q (F0 m (pc + 1) ls (.int (nI (a * b)) :: rest))) : W p l e R s m args below meth c H locs cells slots Q (F0 m pc ls (.int (nI b) :: .int (nI a) :: rest)) :=
  lv_imul hx hb hdg (by rw [pk_mul]; exact k)
theorem n_sub (hx : p.tables.exec = Jvm.exec) (hb : c.code = cc) {a b : Nat} (h : b ≤ a) (hdg : decode cc pc = .ok (.isub, 1)) (k : W p l e R s m args below meth c H locs cells slots Q (F0 m (pc + 1) ls (.int (nI (a - b)) :: rest))) : W p l e R s m args below meth c H locs cells slots Q (F0 m pc ls (.int (nI b) :: .int (nI a) :: rest)) :=
  lv_isub hx hb hdg (by rw [pk_sub h]; exact k)
theorem n_and (hx : p.tables.exec = Jvm.exec) (hb : c.code = cc) {a b d : Nat} (h : nI a &&& nI b = nI d) (hdg : decode cc pc = .ok (.iand, 1)) (k : W p l e R s m args below meth c H locs cells slots Q (F0 m (pc + 1) ls (.int (nI d) :: rest))) : W p l e R s m args below meth c H locs cells slots Q (F0 m pc ls (.int (nI b) :: .int (nI a) :: rest)) :=
  lv_iand hx hb hdg (by rw [h]; exact k)
theorem n_val {x y : Int32} (h : x = y) (k : W p l e R s m args below meth c H locs cells slots Q (F0 m pc ls (.int y :: rest))) : W p l e R s m args below meth c H locs cells slots Q (F0 m pc ls (.int x :: rest)) := by rw [h]; exact k
theorem n_cmp_ge (hx : p.tables.exec = Jvm.exec) (hb : c.code = cc) {a b : Nat} {off : Int} {tgt : Nat} (hdg : decode cc pc = .ok (.if_icmp .ge off, 3)) (ht : (pc : Int) + off = (tgt : Int)) (ha : a < 2 ^ 31) (hb2 : b < 2 ^ 31)
    (kt : b ≤ a → W p l e R s m args below meth c H locs cells slots Q (F0 m tgt ls rest)) (kf : a < b → W p l e R s m args below meth c H locs cells slots Q (F0 m (pc + 3) ls rest)) : W p l e R s m args below meth c H locs cells slots Q (F0 m pc ls (.int (nI b) :: .int (nI a) :: rest)) :=
  lv_icmp_ge hx hb hdg ht (fun h => kt ((nI_leI hb2 ha).mp h)) (fun h => kf (Nat.lt_of_not_le fun q => h (nI_le q ha)))
theorem n_cmp_lt (hx : p.tables.exec = Jvm.exec) (hb : c.code = cc) {a b : Nat} {off : Int} {tgt : Nat} (hdg : decode cc pc = .ok (.if_icmp .lt off, 3)) (ht : (pc : Int) + off = (tgt : Int)) (ha : a < 2 ^ 31) (hb2 : b < 2 ^ 31)
    (kt : a < b → W p l e R s m args below meth c H locs cells slots Q (F0 m tgt ls rest)) (kf : b ≤ a → W p l e R s m args below meth c H locs cells slots Q (F0 m (pc + 3) ls rest)) : W p l e R s m args below meth c H locs cells slots Q (F0 m pc ls (.int (nI b) :: .int (nI a) :: rest)) :=
  lv_icmp_lt hx hb hdg ht (fun h => kt ((nI_ltI ha hb2).mp h)) (fun h => kf (Nat.le_of_not_lt fun q => h (nI_lt q hb2)))
theorem n_cmp_gt (hx : p.tables.exec = Jvm.exec) (hb : c.code = cc) {a b : Nat} {off : Int} {tgt : Nat} (hdg : decode cc pc = .ok (.if_icmp .gt off, 3)) (ht : (pc : Int) + off = (tgt : Int)) (ha : a < 2 ^ 31) (hb2 : b < 2 ^ 31)
    (kt : b < a → W p l e R s m args below meth c H locs cells slots Q (F0 m tgt ls rest)) (kf : a ≤ b → W p l e R s m args below meth c H locs cells slots Q (F0 m (pc + 3) ls rest)) : W p l e R s m args below meth c H locs cells slots Q (F0 m pc ls (.int (nI b) :: .int (nI a) :: rest)) :=
  lv_icmp_gt hx hb hdg ht (fun h => kt ((nI_ltI hb2 ha).mp h)) (fun h => kf (Nat.le_of_not_lt fun q => h (nI_lt q ha)))
theorem n_cmp_le (hx : p.tables.exec = Jvm.exec) (hb : c.code = cc) {a b : Nat} {off : Int} {tgt : Nat} (hdg : decode cc pc = .ok (.if_icmp .le off, 3)) (ht : (pc : Int) + off = (tgt : Int)) (ha : a < 2 ^ 31) (hb2 : b < 2 ^ 31)
    (kt : a ≤ b → W p l e R s m args below meth c H locs cells slots Q (F0 m tgt ls rest)) (kf : b < a → W p l e R s m args below meth c H locs cells slots Q (F0 m (pc + 3) ls rest)) : W p l e R s m args below meth c H locs cells slots Q (F0 m pc ls (.int (nI b) :: .int (nI a) :: rest)) :=
  lv_icmp_le hx hb hdg ht (fun h => kt ((nI_leI ha hb2).mp h)) (fun h => kf (Nat.lt_of_not_le fun q => h (nI_le q hb2)))
theorem n_cmp_eq (hx : p.tables.exec = Jvm.exec) (hb : c.code = cc) {a b : Nat} {off : Int} {tgt : Nat} (hdg : decode cc pc = .ok (.if_icmp .eq off, 3)) (ht : (pc : Int) + off = (tgt : Int)) (ha : a < 2 ^ 31) (hb2 : b < 2 ^ 31)
    (kt : a = b → W p l e R s m args below meth c H locs cells slots Q (F0 m tgt ls rest)) (kf : a ≠ b → W p l e R s m args below meth c H locs cells slots Q (F0 m (pc + 3) ls rest)) : W p l e R s m args below meth c H locs cells slots Q (F0 m pc ls (.int (nI b) :: .int (nI a) :: rest)) :=
  lv_icmp_eq hx hb hdg ht (fun h => kt ((nI_eq ha hb2).mp h)) (fun h => kf (fun q => h (by rw [q])))
theorem n_cmp_ne (hx : p.tables.exec = Jvm.exec) (hb : c.code = cc) {a b : Nat} {off : Int} {tgt : Nat} (hdg : decode cc pc = .ok (.if_icmp .ne off, 3)) (ht : (pc : Int) + off = (tgt : Int)) (ha : a < 2 ^ 31) (hb2 : b < 2 ^ 31)
    (kt : a ≠ b → W p l e R s m args below meth c H locs cells slots Q (F0 m tgt ls rest)) (kf : a = b → W p l e R s m args below meth c H locs cells slots Q (F0 m (pc + 3) ls rest)) : W p l e R s m args below meth c H locs cells slots Q (F0 m pc ls (.int (nI b) :: .int (nI a) :: rest)) :=
  lv_icmp_ne hx hb hdg ht (fun h => kt (fun q => h (by rw [q]))) (fun h => kf ((nI_eq ha hb2).mp h))
theorem n_if_ne (hx : p.tables.exec = Jvm.exec) (hb : c.code = cc) {a : Nat} {off : Int} {tgt : Nat} (hdg : decode cc pc = .ok (.ifCond .ne off, 3)) (ht : (pc : Int) + off = (tgt : Int)) (ha : a < 2 ^ 31)
    (kt : a ≠ 0 → W p l e R s m args below meth c H locs cells slots Q (F0 m tgt ls rest)) (kf : a = 0 → W p l e R s m args below meth c H locs cells slots Q (F0 m (pc + 3) ls rest)) : W p l e R s m args below meth c H locs cells slots Q (F0 m pc ls (.int (nI a) :: rest)) :=
  lv_if_ne hx hb hdg ht (fun h => kt (fun q => h (by rw [q]; exact nI_0))) (fun h => kf ((nI_eq ha (by decide)).mp (h.trans nI_0.symm)))
theorem n_if_eq (hx : p.tables.exec = Jvm.exec) (hb : c.code = cc) {a : Nat} {off : Int} {tgt : Nat} (hdg : decode cc pc = .ok (.ifCond .eq off, 3)) (ht : (pc : Int) + off = (tgt : Int)) (ha : a < 2 ^ 31)
    (kt : a = 0 → W p l e R s m args below meth c H locs cells slots Q (F0 m tgt ls rest)) (kf : a ≠ 0 → W p l e R s m args below meth c H locs cells slots Q (F0 m (pc + 3) ls rest)) : W p l e R s m args below meth c H locs cells slots Q (F0 m pc ls (.int (nI a) :: rest)) :=
  lv_if_eq hx hb hdg ht (fun h => kt ((nI_eq ha (by decide)).mp (h.trans nI_0.symm))) (fun h => kf (fun q => h (by rw [q]; exact nI_0)))
theorem n_if_lt (hx : p.tables.exec = Jvm.exec) (hb : c.code = cc) {a : Nat} {off : Int} (hdg : decode cc pc = .ok (.ifCond .lt off, 3)) {tgt : Nat} (ht : (pc : Int) + off = (tgt : Int)) (ha : a < 2 ^ 31)
    (kf : W p l e R s m args below meth c H locs cells slots Q (F0 m (pc + 3) ls rest)) : W p l e R s m args below meth c H locs cells slots Q (F0 m pc ls (.int (nI a) :: rest)) :=
  lv_if_lt hx hb hdg ht (fun h => absurd h (nI_pos ha)) (fun _ => kf)
end RWS
