set_option maxHeartbeats 4000000 in
set_option maxRecDepth 100000 in
/-- the law at about -/
theorem L_4 {p : Program} {e : Env} {s : State} {m : MethodId} {below : List Frame} {meth : Method} {c : Code} (l : Launch) {b L : Nat} {xs : Nat → Int32} {Q : State → Prop} {D : va_G} {cs : Nat → ClassId} {h0 dd ww : Nat} {N i : Nat} {S : SS} {M1 : Nat → va_E} {np ns : UInt32} {H : Heap} {locs : List Loc} {ls : Array Slot} (hx : p.tables.exec = Jvm.exec) (hb : c.code = cL_law) (hml : c.maxLocals = 8) (hown : s.vm.findClass RL = some m.cls) (hts : ∀ w ∈ wsL_law, w.before #[Value.ref b] s = true) (hX : va_X b L xs s s.heap) (hbl : b < s.heap.size) (hbA : ¬ Ge h0 b) (hK : va_K D vwCl (tysC cs) s) (hdd : dd ≤ 4) (hw1 : 1 ≤ ww) (hw2 : ww ≤ 8) (hN : N ≤ 520) (hLL : L ≤ 2051) (hi : i + 4 ≤ L) (hLI : LI D cs h0 dd ww N S M1 np ns s H locs) (hl : lv_has ls 8 [(0, .ref b), (1, .ref (a1 h0 0)), (2, .ref (a2 h0 0)), (3, .int (nI i))]) (K : ∀ (S' : SS) (M' : Nat → va_E) (np' ns' : UInt32) (H' : Heap) (locs' : List Loc) (ls' : Array Slot), LI D cs h0 dd ww (N + 1) S' M' np' ns' s H' locs' → lv_has ls' 8 [(0, .ref b), (1, .ref (a1 h0 0)), (2, .ref (a2 h0 0)), (3, .int (nI i))] → W p l e room_1 s m #[Value.ref b] below meth c H' locs' 600000 7302250 Q (F0 m 655 ls' [])) : W p l e room_1 s m #[Value.ref b] below meth c H locs 600000 7302250 Q (F0 m 260 ls []) := by
  obtain ⟨hP1, hC, hP2, hS⟩ := hLI
  refine lv_aload_n hx hb dL_law_260 rfl (lv_at hl 1 rfl) ?_
  refine lv_aload_n hx hb dL_law_261 rfl (lv_at hl 0 rfl) ?_
  refine lv_iload_n hx hb dL_law_262 rfl (lv_at hl 3 rfl) ?_
  refine lv_iconst (v := nI 1) hx hb dL_law_263 (by decide) ?_
  refine n_add hx hb dL_law_264 ?_
  refine va_sld hx hb hX hbl hbA hS (nI_in' (show i + 1 < L by omega) (by omega)) dL_law_265 ?_
  rw [nI_clamp (show i + 1 < 2 ^ 31 by omega)]
  refine lv_aload_n hx hb dL_law_266 rfl (lv_at hl 0 rfl) ?_
  refine lv_iload_n hx hb dL_law_267 rfl (lv_at hl 3 rfl) ?_
  refine lv_iconst (v := nI 2) hx hb dL_law_268 (by decide) ?_
  refine n_add hx hb dL_law_269 ?_
  refine va_sld hx hb hX hbl hbA hS (nI_in' (show i + 2 < L by omega) (by omega)) dL_law_270 ?_
  rw [nI_clamp (show i + 2 < 2 ^ 31 by omega)]
  refine k_Vi (ad := a1 h0) (As := [.int (xs (i + 1)), .int (xs (i + 2))]) (rest := []) (k := 0) (ci := 6) ⟨hx, hb, hml, hown, hts⟩ hK hP1 hS a1_G (c6_about l D cs (a1 h0) (a1_J h0 146) M1 dd ww N S hdd hw1 hw2 (by omega) hC (xs (i + 1)) (xs (i + 2))) (cwV 2 hts gL_law_X6_about rfl rfl rfl (by decide +kernel) ⟨Nat.le_of_ble_eq_true rfl, Nat.le_of_ble_eq_true rfl⟩) (by decide) hC.1 rfl rfl rfl hl.1 (Nat.le_of_ble_eq_true rfl) dL_law_271 ⟨Nat.le_of_ble_eq_true rfl, Nat.le_of_ble_eq_true rfl⟩ (fun r1 M2 H locs hpo hP1 hS _ hf => ?_)
  replace hP2 := sg_apart hP2 hf a21
  obtain ⟨hMe, rfl⟩ := hpo
  rw [hMe] at hP1
  refine lv_aload_n hx hb dL_law_274 rfl (lv_at hl 2 rfl) ?_
  refine lv_aload_n hx hb dL_law_275 rfl (lv_at hl 0 rfl) ?_
  refine lv_iload_n hx hb dL_law_276 rfl (lv_at hl 3 rfl) ?_
  refine lv_iconst (v := nI 1) hx hb dL_law_277 (by decide) ?_
  refine n_add hx hb dL_law_278 ?_
  refine va_sld hx hb hX hbl hbA hS (nI_in' (show i + 1 < L by omega) (by omega)) dL_law_279 ?_
  rw [nI_clamp (show i + 1 < 2 ^ 31 by omega)]
  refine lv_aload_n hx hb dL_law_280 rfl (lv_at hl 0 rfl) ?_
  refine lv_iload_n hx hb dL_law_281 rfl (lv_at hl 3 rfl) ?_
  refine lv_iconst (v := nI 2) hx hb dL_law_282 (by decide) ?_
  refine n_add hx hb dL_law_283 ?_
  refine va_sld hx hb hX hbl hbA hS (nI_in' (show i + 2 < L by omega) (by omega)) dL_law_284 ?_
  rw [nI_clamp (show i + 2 < 2 ^ 31 by omega)]
  refine k_Vi (ad := a2 h0) (As := [.int (xs (i + 1)), .int (xs (i + 2))]) (rest := [.int (rAb S (xs (i + 1)) (xs (i + 2)))]) (k := 0) (ci := 7) ⟨hx, hb, hml, hown, hts⟩ hK hP2 hS a2_G (c_about l D cs (a2 h0) (a2_J h0 26) (nI dd) (nI ww) S np ns (xs (i + 1)) (xs (i + 2)) ) (cwV 2 hts gL_law_X7_about rfl rfl rfl (by decide +kernel) ⟨Nat.le_of_ble_eq_true rfl, Nat.le_of_ble_eq_true rfl⟩) (by decide) rfl rfl rfl rfl hl.1 (Nat.le_of_ble_eq_true rfl) dL_law_285 ⟨Nat.le_of_ble_eq_true rfl, Nat.le_of_ble_eq_true rfl⟩ (fun r2 M3 H locs hpo hP2 hS _ hf => ?_)
  replace hP1 := sg_apart hP1 hf a12
  obtain ⟨hMe, rfl⟩ := hpo
  rw [hMe] at hP2
  refine lv_icmp_eq (tgt := 655) hx hb dL_law_288 (by decide) (fun c1 => ?_) (fun c1 => absurd rfl c1)
  exact K S M1 np ns _ _ _ ⟨hP1, hC.mono, hP2, hS⟩ (lv_sub hl [0, 1, 2, 3] rfl)
set_option maxHeartbeats 4000000 in
set_option maxRecDepth 100000 in
/-- the law at known -/
theorem L_5 {p : Program} {e : Env} {s : State} {m : MethodId} {below : List Frame} {meth : Method} {c : Code} (l : Launch) {b L : Nat} {xs : Nat → Int32} {Q : State → Prop} {D : va_G} {cs : Nat → ClassId} {h0 dd ww : Nat} {N i : Nat} {S : SS} {M1 : Nat → va_E} {np ns : UInt32} {H : Heap} {locs : List Loc} {ls : Array Slot} (hx : p.tables.exec = Jvm.exec) (hb : c.code = cL_law) (hml : c.maxLocals = 8) (hown : s.vm.findClass RL = some m.cls) (hts : ∀ w ∈ wsL_law, w.before #[Value.ref b] s = true) (hX : va_X b L xs s s.heap) (hbl : b < s.heap.size) (hbA : ¬ Ge h0 b) (hK : va_K D vwCl (tysC cs) s) (hdd : dd ≤ 4) (hw1 : 1 ≤ ww) (hw2 : ww ≤ 8) (hN : N ≤ 520) (hLL : L ≤ 2051) (hi : i + 4 ≤ L) (hLI : LI D cs h0 dd ww N S M1 np ns s H locs) (hl : lv_has ls 8 [(0, .ref b), (1, .ref (a1 h0 0)), (2, .ref (a2 h0 0)), (3, .int (nI i))]) (K : ∀ (S' : SS) (M' : Nat → va_E) (np' ns' : UInt32) (H' : Heap) (locs' : List Loc) (ls' : Array Slot), LI D cs h0 dd ww (N + 1) S' M' np' ns' s H' locs' → lv_has ls' 8 [(0, .ref b), (1, .ref (a1 h0 0)), (2, .ref (a2 h0 0)), (3, .int (nI i))] → W p l e room_1 s m #[Value.ref b] below meth c H' locs' 600000 7302250 Q (F0 m 655 ls' [])) : W p l e room_1 s m #[Value.ref b] below meth c H locs 600000 7302250 Q (F0 m 293 ls []) := by
  obtain ⟨hP1, hC, hP2, hS⟩ := hLI
  refine lv_aload_n hx hb dL_law_293 rfl (lv_at hl 1 rfl) ?_
  refine lv_aload_n hx hb dL_law_294 rfl (lv_at hl 0 rfl) ?_
  refine lv_iload_n hx hb dL_law_295 rfl (lv_at hl 3 rfl) ?_
  refine lv_iconst (v := nI 1) hx hb dL_law_296 (by decide) ?_
  refine n_add hx hb dL_law_297 ?_
  refine va_sld hx hb hX hbl hbA hS (nI_in' (show i + 1 < L by omega) (by omega)) dL_law_298 ?_
  rw [nI_clamp (show i + 1 < 2 ^ 31 by omega)]
  refine lv_aload_n hx hb dL_law_299 rfl (lv_at hl 0 rfl) ?_
  refine lv_iload_n hx hb dL_law_300 rfl (lv_at hl 3 rfl) ?_
  refine lv_iconst (v := nI 2) hx hb dL_law_301 (by decide) ?_
  refine n_add hx hb dL_law_302 ?_
  refine va_sld hx hb hX hbl hbA hS (nI_in' (show i + 2 < L by omega) (by omega)) dL_law_303 ?_
  rw [nI_clamp (show i + 2 < 2 ^ 31 by omega)]
  refine k_Vi (ad := a1 h0) (As := [.int (xs (i + 1)), .int (xs (i + 2))]) (rest := []) (k := 0) (ci := 6) ⟨hx, hb, hml, hown, hts⟩ hK hP1 hS a1_G (c6_known l D cs (a1 h0) (a1_J h0 146) M1 dd ww N S hdd hw1 hw2 (by omega) hC (xs (i + 1)) (xs (i + 2))) (cwV 2 hts gL_law_X6_known rfl rfl rfl (by decide +kernel) ⟨Nat.le_of_ble_eq_true rfl, Nat.le_of_ble_eq_true rfl⟩) (by decide) hC.1 rfl rfl rfl hl.1 (Nat.le_of_ble_eq_true rfl) dL_law_304 ⟨Nat.le_of_ble_eq_true rfl, Nat.le_of_ble_eq_true rfl⟩ (fun r1 M2 H locs hpo hP1 hS _ hf => ?_)
  replace hP2 := sg_apart hP2 hf a21
  obtain ⟨hMe, rfl⟩ := hpo
  rw [hMe] at hP1
  refine lv_aload_n hx hb dL_law_307 rfl (lv_at hl 2 rfl) ?_
  refine lv_aload_n hx hb dL_law_308 rfl (lv_at hl 0 rfl) ?_
  refine lv_iload_n hx hb dL_law_309 rfl (lv_at hl 3 rfl) ?_
  refine lv_iconst (v := nI 1) hx hb dL_law_310 (by decide) ?_
  refine n_add hx hb dL_law_311 ?_
  refine va_sld hx hb hX hbl hbA hS (nI_in' (show i + 1 < L by omega) (by omega)) dL_law_312 ?_
  rw [nI_clamp (show i + 1 < 2 ^ 31 by omega)]
  refine lv_aload_n hx hb dL_law_313 rfl (lv_at hl 0 rfl) ?_
  refine lv_iload_n hx hb dL_law_314 rfl (lv_at hl 3 rfl) ?_
  refine lv_iconst (v := nI 2) hx hb dL_law_315 (by decide) ?_
  refine n_add hx hb dL_law_316 ?_
  refine va_sld hx hb hX hbl hbA hS (nI_in' (show i + 2 < L by omega) (by omega)) dL_law_317 ?_
  rw [nI_clamp (show i + 2 < 2 ^ 31 by omega)]
  refine k_Vi (ad := a2 h0) (As := [.int (xs (i + 1)), .int (xs (i + 2))]) (rest := [.int (rKn S (xs (i + 1)) (xs (i + 2)))]) (k := 0) (ci := 7) ⟨hx, hb, hml, hown, hts⟩ hK hP2 hS a2_G (c_known l D cs (a2 h0) (a2_J h0 26) (nI dd) (nI ww) S np ns (xs (i + 1)) (xs (i + 2)) (hC.A hN)) (cwV 2 hts gL_law_X7_known rfl rfl rfl (by decide +kernel) ⟨Nat.le_of_ble_eq_true rfl, Nat.le_of_ble_eq_true rfl⟩) (by decide) rfl rfl rfl rfl hl.1 (Nat.le_of_ble_eq_true rfl) dL_law_318 ⟨Nat.le_of_ble_eq_true rfl, Nat.le_of_ble_eq_true rfl⟩ (fun r2 M3 H locs hpo hP2 hS _ hf => ?_)
  replace hP1 := sg_apart hP1 hf a12
  obtain ⟨hMe, rfl⟩ := hpo
  rw [hMe] at hP2
  refine lv_icmp_eq (tgt := 655) hx hb dL_law_321 (by decide) (fun c1 => ?_) (fun c1 => absurd rfl c1)
  exact K S M1 np ns _ _ _ ⟨hP1, hC.mono, hP2, hS⟩ (lv_sub hl [0, 1, 2, 3] rfl)
set_option maxHeartbeats 4000000 in
set_option maxRecDepth 100000 in
/-- the law at used -/
theorem L_6 {p : Program} {e : Env} {s : State} {m : MethodId} {below : List Frame} {meth : Method} {c : Code} (l : Launch) {b L : Nat} {xs : Nat → Int32} {Q : State → Prop} {D : va_G} {cs : Nat → ClassId} {h0 dd ww : Nat} {N i : Nat} {S : SS} {M1 : Nat → va_E} {np ns : UInt32} {H : Heap} {locs : List Loc} {ls : Array Slot} (hx : p.tables.exec = Jvm.exec) (hb : c.code = cL_law) (hml : c.maxLocals = 8) (hown : s.vm.findClass RL = some m.cls) (hts : ∀ w ∈ wsL_law, w.before #[Value.ref b] s = true) (hX : va_X b L xs s s.heap) (hbl : b < s.heap.size) (hbA : ¬ Ge h0 b) (hK : va_K D vwCl (tysC cs) s) (hdd : dd ≤ 4) (hw1 : 1 ≤ ww) (hw2 : ww ≤ 8) (hN : N ≤ 520) (hLL : L ≤ 2051) (hi : i + 4 ≤ L) (hLI : LI D cs h0 dd ww N S M1 np ns s H locs) (hl : lv_has ls 8 [(0, .ref b), (1, .ref (a1 h0 0)), (2, .ref (a2 h0 0)), (3, .int (nI i))]) (K : ∀ (S' : SS) (M' : Nat → va_E) (np' ns' : UInt32) (H' : Heap) (locs' : List Loc) (ls' : Array Slot), LI D cs h0 dd ww (N + 1) S' M' np' ns' s H' locs' → lv_has ls' 8 [(0, .ref b), (1, .ref (a1 h0 0)), (2, .ref (a2 h0 0)), (3, .int (nI i))] → W p l e room_1 s m #[Value.ref b] below meth c H' locs' 600000 7302250 Q (F0 m 655 ls' [])) : W p l e room_1 s m #[Value.ref b] below meth c H locs 600000 7302250 Q (F0 m 326 ls []) := by
  obtain ⟨hP1, hC, hP2, hS⟩ := hLI
  refine lv_aload_n hx hb dL_law_326 rfl (lv_at hl 1 rfl) ?_
  refine lv_aload_n hx hb dL_law_327 rfl (lv_at hl 0 rfl) ?_
  refine lv_iload_n hx hb dL_law_328 rfl (lv_at hl 3 rfl) ?_
  refine lv_iconst (v := nI 1) hx hb dL_law_329 (by decide) ?_
  refine n_add hx hb dL_law_330 ?_
  refine va_sld hx hb hX hbl hbA hS (nI_in' (show i + 1 < L by omega) (by omega)) dL_law_331 ?_
  rw [nI_clamp (show i + 1 < 2 ^ 31 by omega)]
  refine lv_aload_n hx hb dL_law_332 rfl (lv_at hl 0 rfl) ?_
  refine lv_iload_n hx hb dL_law_333 rfl (lv_at hl 3 rfl) ?_
  refine lv_iconst (v := nI 2) hx hb dL_law_334 (by decide) ?_
  refine n_add hx hb dL_law_335 ?_
  refine va_sld hx hb hX hbl hbA hS (nI_in' (show i + 2 < L by omega) (by omega)) dL_law_336 ?_
  rw [nI_clamp (show i + 2 < 2 ^ 31 by omega)]
  refine lv_aload_n hx hb dL_law_337 rfl (lv_at hl 0 rfl) ?_
  refine lv_iload_n hx hb dL_law_338 rfl (lv_at hl 3 rfl) ?_
  refine lv_iconst (v := nI 3) hx hb dL_law_339 (by decide) ?_
  refine n_add hx hb dL_law_340 ?_
  refine va_sld hx hb hX hbl hbA hS (nI_in' (show i + 3 < L by omega) (by omega)) dL_law_341 ?_
  rw [nI_clamp (show i + 3 < 2 ^ 31 by omega)]
  refine k_Vi (ad := a1 h0) (As := [.int (xs (i + 1)), .int (xs (i + 2)), .int (xs (i + 3))]) (rest := []) (k := 0) (ci := 6) ⟨hx, hb, hml, hown, hts⟩ hK hP1 hS a1_G (c6_used l D cs (a1 h0) (a1_J h0 146) M1 dd ww N S hdd hw1 hw2 (by omega) hC (xs (i + 1)) (xs (i + 2)) (xs (i + 3))) (cwV 3 hts gL_law_X6_used rfl rfl rfl (by decide +kernel) ⟨Nat.le_of_ble_eq_true rfl, Nat.le_of_ble_eq_true rfl⟩) (by decide) hC.1 rfl rfl rfl hl.1 (Nat.le_of_ble_eq_true rfl) dL_law_342 ⟨Nat.le_of_ble_eq_true rfl, Nat.le_of_ble_eq_true rfl⟩ (fun r1 M2 H locs hpo hP1 hS _ hf => ?_)
  replace hP2 := sg_apart hP2 hf a21
  obtain ⟨hMe, rfl⟩ := hpo
  rw [hMe] at hP1
  refine lv_aload_n hx hb dL_law_345 rfl (lv_at hl 2 rfl) ?_
  refine lv_aload_n hx hb dL_law_346 rfl (lv_at hl 0 rfl) ?_
  refine lv_iload_n hx hb dL_law_347 rfl (lv_at hl 3 rfl) ?_
  refine lv_iconst (v := nI 1) hx hb dL_law_348 (by decide) ?_
  refine n_add hx hb dL_law_349 ?_
  refine va_sld hx hb hX hbl hbA hS (nI_in' (show i + 1 < L by omega) (by omega)) dL_law_350 ?_
  rw [nI_clamp (show i + 1 < 2 ^ 31 by omega)]
  refine lv_aload_n hx hb dL_law_351 rfl (lv_at hl 0 rfl) ?_
  refine lv_iload_n hx hb dL_law_352 rfl (lv_at hl 3 rfl) ?_
  refine lv_iconst (v := nI 2) hx hb dL_law_353 (by decide) ?_
  refine n_add hx hb dL_law_354 ?_
  refine va_sld hx hb hX hbl hbA hS (nI_in' (show i + 2 < L by omega) (by omega)) dL_law_355 ?_
  rw [nI_clamp (show i + 2 < 2 ^ 31 by omega)]
  refine lv_aload_n hx hb dL_law_356 rfl (lv_at hl 0 rfl) ?_
  refine lv_iload_n hx hb dL_law_357 rfl (lv_at hl 3 rfl) ?_
  refine lv_iconst (v := nI 3) hx hb dL_law_358 (by decide) ?_
  refine n_add hx hb dL_law_359 ?_
  refine va_sld hx hb hX hbl hbA hS (nI_in' (show i + 3 < L by omega) (by omega)) dL_law_360 ?_
  rw [nI_clamp (show i + 3 < 2 ^ 31 by omega)]
  refine k_Vi (ad := a2 h0) (As := [.int (xs (i + 1)), .int (xs (i + 2)), .int (xs (i + 3))]) (rest := [.int (rUs S (xs (i + 1)) (xs (i + 2)) (xs (i + 3)))]) (k := 0) (ci := 7) ⟨hx, hb, hml, hown, hts⟩ hK hP2 hS a2_G (c_used l D cs (a2 h0) (a2_J h0 26) (nI dd) (nI ww) S np ns (xs (i + 1)) (xs (i + 2)) (xs (i + 3)) (hC.A hN)) (cwV 3 hts gL_law_X7_used rfl rfl rfl (by decide +kernel) ⟨Nat.le_of_ble_eq_true rfl, Nat.le_of_ble_eq_true rfl⟩) (by decide) rfl rfl rfl rfl hl.1 (Nat.le_of_ble_eq_true rfl) dL_law_361 ⟨Nat.le_of_ble_eq_true rfl, Nat.le_of_ble_eq_true rfl⟩ (fun r2 M3 H locs hpo hP2 hS _ hf => ?_)
  replace hP1 := sg_apart hP1 hf a12
  obtain ⟨hMe, rfl⟩ := hpo
  rw [hMe] at hP2
  refine lv_icmp_eq (tgt := 655) hx hb dL_law_364 (by decide) (fun c1 => ?_) (fun c1 => absurd rfl c1)
  exact K S M1 np ns _ _ _ ⟨hP1, hC.mono, hP2, hS⟩ (lv_sub hl [0, 1, 2, 3] rfl)
set_option maxHeartbeats 4000000 in
set_option maxRecDepth 100000 in
/-- the law at sum -/
theorem L_7 {p : Program} {e : Env} {s : State} {m : MethodId} {below : List Frame} {meth : Method} {c : Code} (l : Launch) {b L : Nat} {xs : Nat → Int32} {Q : State → Prop} {D : va_G} {cs : Nat → ClassId} {h0 dd ww : Nat} {N i : Nat} {S : SS} {M1 : Nat → va_E} {np ns : UInt32} {H : Heap} {locs : List Loc} {ls : Array Slot} (hx : p.tables.exec = Jvm.exec) (hb : c.code = cL_law) (hml : c.maxLocals = 8) (hown : s.vm.findClass RL = some m.cls) (hts : ∀ w ∈ wsL_law, w.before #[Value.ref b] s = true) (hX : va_X b L xs s s.heap) (hbl : b < s.heap.size) (hbA : ¬ Ge h0 b) (hK : va_K D vwCl (tysC cs) s) (hdd : dd ≤ 4) (hw1 : 1 ≤ ww) (hw2 : ww ≤ 8) (hN : N ≤ 520) (hLL : L ≤ 2051) (hi : i + 4 ≤ L) (hLI : LI D cs h0 dd ww N S M1 np ns s H locs) (hl : lv_has ls 8 [(0, .ref b), (1, .ref (a1 h0 0)), (2, .ref (a2 h0 0)), (3, .int (nI i))]) (K : ∀ (S' : SS) (M' : Nat → va_E) (np' ns' : UInt32) (H' : Heap) (locs' : List Loc) (ls' : Array Slot), LI D cs h0 dd ww (N + 1) S' M' np' ns' s H' locs' → lv_has ls' 8 [(0, .ref b), (1, .ref (a1 h0 0)), (2, .ref (a2 h0 0)), (3, .int (nI i))] → W p l e room_1 s m #[Value.ref b] below meth c H' locs' 600000 7302250 Q (F0 m 655 ls' [])) : W p l e room_1 s m #[Value.ref b] below meth c H locs 600000 7302250 Q (F0 m 369 ls []) := by
  obtain ⟨hP1, hC, hP2, hS⟩ := hLI
  refine lv_aload_n hx hb dL_law_369 rfl (lv_at hl 1 rfl) ?_
  refine lv_aload_n hx hb dL_law_370 rfl (lv_at hl 0 rfl) ?_
  refine lv_iload_n hx hb dL_law_371 rfl (lv_at hl 3 rfl) ?_
  refine lv_iconst (v := nI 1) hx hb dL_law_372 (by decide) ?_
  refine n_add hx hb dL_law_373 ?_
  refine va_sld hx hb hX hbl hbA hS (nI_in' (show i + 1 < L by omega) (by omega)) dL_law_374 ?_
  rw [nI_clamp (show i + 1 < 2 ^ 31 by omega)]
  refine lv_aload_n hx hb dL_law_375 rfl (lv_at hl 0 rfl) ?_
  refine lv_iload_n hx hb dL_law_376 rfl (lv_at hl 3 rfl) ?_
  refine lv_iconst (v := nI 2) hx hb dL_law_377 (by decide) ?_
  refine n_add hx hb dL_law_378 ?_
  refine va_sld hx hb hX hbl hbA hS (nI_in' (show i + 2 < L by omega) (by omega)) dL_law_379 ?_
  rw [nI_clamp (show i + 2 < 2 ^ 31 by omega)]
  refine k_Vi (ad := a1 h0) (As := [.int (xs (i + 1)), .int (xs (i + 2))]) (rest := []) (k := 0) (ci := 6) ⟨hx, hb, hml, hown, hts⟩ hK hP1 hS a1_G (c6_sum l D cs (a1 h0) (a1_J h0 146) M1 dd ww N S hdd hw1 hw2 (by omega) hC (xs (i + 1)) (xs (i + 2))) (cwV 2 hts gL_law_X6_sum rfl rfl rfl (by decide +kernel) ⟨Nat.le_of_ble_eq_true rfl, Nat.le_of_ble_eq_true rfl⟩) (by decide) hC.1 rfl rfl rfl hl.1 (Nat.le_of_ble_eq_true rfl) dL_law_380 ⟨Nat.le_of_ble_eq_true rfl, Nat.le_of_ble_eq_true rfl⟩ (fun r1 M2 H locs hpo hP1 hS _ hf => ?_)
  replace hP2 := sg_apart hP2 hf a21
  obtain ⟨hMe, rfl⟩ := hpo
  rw [hMe] at hP1
  refine lv_aload_n hx hb dL_law_383 rfl (lv_at hl 2 rfl) ?_
  refine lv_aload_n hx hb dL_law_384 rfl (lv_at hl 0 rfl) ?_
  refine lv_iload_n hx hb dL_law_385 rfl (lv_at hl 3 rfl) ?_
  refine lv_iconst (v := nI 1) hx hb dL_law_386 (by decide) ?_
  refine n_add hx hb dL_law_387 ?_
  refine va_sld hx hb hX hbl hbA hS (nI_in' (show i + 1 < L by omega) (by omega)) dL_law_388 ?_
  rw [nI_clamp (show i + 1 < 2 ^ 31 by omega)]
  refine lv_aload_n hx hb dL_law_389 rfl (lv_at hl 0 rfl) ?_
  refine lv_iload_n hx hb dL_law_390 rfl (lv_at hl 3 rfl) ?_
  refine lv_iconst (v := nI 2) hx hb dL_law_391 (by decide) ?_
  refine n_add hx hb dL_law_392 ?_
  refine va_sld hx hb hX hbl hbA hS (nI_in' (show i + 2 < L by omega) (by omega)) dL_law_393 ?_
  rw [nI_clamp (show i + 2 < 2 ^ 31 by omega)]
  refine k_Vi (ad := a2 h0) (As := [.int (xs (i + 1)), .int (xs (i + 2))]) (rest := [.int (rSu S (xs (i + 1)) (xs (i + 2)))]) (k := 0) (ci := 7) ⟨hx, hb, hml, hown, hts⟩ hK hP2 hS a2_G (c_sum l D cs (a2 h0) (a2_J h0 26) (nI dd) (nI ww) S np ns (xs (i + 1)) (xs (i + 2)) (hC.A hN) (hC.B hN)) (cwV 2 hts gL_law_X7_sum rfl rfl rfl (by decide +kernel) ⟨Nat.le_of_ble_eq_true rfl, Nat.le_of_ble_eq_true rfl⟩) (by decide) rfl rfl rfl rfl hl.1 (Nat.le_of_ble_eq_true rfl) dL_law_394 ⟨Nat.le_of_ble_eq_true rfl, Nat.le_of_ble_eq_true rfl⟩ (fun r2 M3 H locs hpo hP2 hS _ hf => ?_)
  replace hP1 := sg_apart hP1 hf a12
  obtain ⟨hMe, rfl⟩ := hpo
  rw [hMe] at hP2
  refine lv_icmp_eq (tgt := 655) hx hb dL_law_397 (by decide) (fun c1 => ?_) (fun c1 => absurd rfl c1)
  exact K S M1 np ns _ _ _ ⟨hP1, hC.mono, hP2, hS⟩ (lv_sub hl [0, 1, 2, 3] rfl)
set_option maxHeartbeats 4000000 in
set_option maxRecDepth 100000 in
/-- the law at hits -/
theorem L_10 {p : Program} {e : Env} {s : State} {m : MethodId} {below : List Frame} {meth : Method} {c : Code} (l : Launch) {b L : Nat} {xs : Nat → Int32} {Q : State → Prop} {D : va_G} {cs : Nat → ClassId} {h0 dd ww : Nat} {N i : Nat} {S : SS} {M1 : Nat → va_E} {np ns : UInt32} {H : Heap} {locs : List Loc} {ls : Array Slot} (hx : p.tables.exec = Jvm.exec) (hb : c.code = cL_law) (hml : c.maxLocals = 8) (hown : s.vm.findClass RL = some m.cls) (hts : ∀ w ∈ wsL_law, w.before #[Value.ref b] s = true) (hX : va_X b L xs s s.heap) (hbl : b < s.heap.size) (hbA : ¬ Ge h0 b) (hK : va_K D vwCl (tysC cs) s) (hdd : dd ≤ 4) (hw1 : 1 ≤ ww) (hw2 : ww ≤ 8) (hN : N ≤ 520) (hLL : L ≤ 2051) (hi : i + 4 ≤ L) (hLI : LI D cs h0 dd ww N S M1 np ns s H locs) (hl : lv_has ls 8 [(0, .ref b), (1, .ref (a1 h0 0)), (2, .ref (a2 h0 0)), (3, .int (nI i))]) (K : ∀ (S' : SS) (M' : Nat → va_E) (np' ns' : UInt32) (H' : Heap) (locs' : List Loc) (ls' : Array Slot), LI D cs h0 dd ww (N + 1) S' M' np' ns' s H' locs' → lv_has ls' 8 [(0, .ref b), (1, .ref (a1 h0 0)), (2, .ref (a2 h0 0)), (3, .int (nI i))] → W p l e room_1 s m #[Value.ref b] below meth c H' locs' 600000 7302250 Q (F0 m 655 ls' [])) : W p l e room_1 s m #[Value.ref b] below meth c H locs 600000 7302250 Q (F0 m 528 ls []) := by
  obtain ⟨hP1, hC, hP2, hS⟩ := hLI
  refine lv_aload_n hx hb dL_law_528 rfl (lv_at hl 1 rfl) ?_
  refine lv_aload_n hx hb dL_law_529 rfl (lv_at hl 0 rfl) ?_
  refine lv_iload_n hx hb dL_law_530 rfl (lv_at hl 3 rfl) ?_
  refine lv_iconst (v := nI 1) hx hb dL_law_531 (by decide) ?_
  refine n_add hx hb dL_law_532 ?_
  refine va_sld hx hb hX hbl hbA hS (nI_in' (show i + 1 < L by omega) (by omega)) dL_law_533 ?_
  rw [nI_clamp (show i + 1 < 2 ^ 31 by omega)]
  refine k_Vi (ad := a1 h0) (As := [.int (xs (i + 1))]) (rest := []) (k := 0) (ci := 6) ⟨hx, hb, hml, hown, hts⟩ hK hP1 hS a1_G (c6_hits l D cs (a1 h0) (a1_J h0 146) M1 dd ww N S hdd hw1 hw2 (by omega) hC (xs (i + 1))) (cwV 1 hts gL_law_X6_hits rfl rfl rfl (by decide +kernel) ⟨Nat.le_of_ble_eq_true rfl, Nat.le_of_ble_eq_true rfl⟩) (by decide) hC.1 rfl rfl rfl hl.1 (Nat.le_of_ble_eq_true rfl) dL_law_534 ⟨Nat.le_of_ble_eq_true rfl, Nat.le_of_ble_eq_true rfl⟩ (fun r1 M2 H locs hpo hP1 hS _ hf => ?_)
  replace hP2 := sg_apart hP2 hf a21
  obtain ⟨hMe, rfl⟩ := hpo
  rw [hMe] at hP1
  refine lv_aload_n hx hb dL_law_537 rfl (lv_at hl 2 rfl) ?_
  refine lv_aload_n hx hb dL_law_538 rfl (lv_at hl 0 rfl) ?_
  refine lv_iload_n hx hb dL_law_539 rfl (lv_at hl 3 rfl) ?_
  refine lv_iconst (v := nI 1) hx hb dL_law_540 (by decide) ?_
  refine n_add hx hb dL_law_541 ?_
  refine va_sld hx hb hX hbl hbA hS (nI_in' (show i + 1 < L by omega) (by omega)) dL_law_542 ?_
  rw [nI_clamp (show i + 1 < 2 ^ 31 by omega)]
  refine k_Vi (ad := a2 h0) (As := [.int (xs (i + 1))]) (rest := [.int (rHi S (xs (i + 1)))]) (k := 0) (ci := 7) ⟨hx, hb, hml, hown, hts⟩ hK hP2 hS a2_G (c_hits l D cs (a2 h0) (a2_J h0 26) (nI dd) (nI ww) S np ns (xs (i + 1)) (hC.A hN)) (cwV 1 hts gL_law_X7_hits rfl rfl rfl (by decide +kernel) ⟨Nat.le_of_ble_eq_true rfl, Nat.le_of_ble_eq_true rfl⟩) (by decide) rfl rfl rfl rfl hl.1 (Nat.le_of_ble_eq_true rfl) dL_law_543 ⟨Nat.le_of_ble_eq_true rfl, Nat.le_of_ble_eq_true rfl⟩ (fun r2 M3 H locs hpo hP2 hS _ hf => ?_)
  replace hP1 := sg_apart hP1 hf a12
  obtain ⟨hMe, rfl⟩ := hpo
  rw [hMe] at hP2
  refine lv_icmp_eq (tgt := 655) hx hb dL_law_546 (by decide) (fun c1 => ?_) (fun c1 => absurd rfl c1)
  exact K S M1 np ns _ _ _ ⟨hP1, hC.mono, hP2, hS⟩ (lv_sub hl [0, 1, 2, 3] rfl)
