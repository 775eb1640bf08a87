set_option maxHeartbeats 4000000 in
set_option maxRecDepth 100000 in
/-- the law at place -/
theorem L_8 {p : Program} {e : Env} {s : State} {m : MethodId} {below : List Frame} {meth : Method} {c : Code} (l : Launch) {b L : Nat} {xs : Nat → Int32} {Q : State → Prop} {D : va_G} {cs : Nat → ClassId} {h0 dd ww : Nat} {N i : Nat} {S : SS} {M1 : Nat → va_E} {np ns : UInt32} {H : Heap} {locs : List Loc} {ls : Array Slot} (hx : p.tables.exec = Jvm.exec) (hb : c.code = cL_law) (hml : c.maxLocals = 8) (hown : s.vm.findClass RL = some m.cls) (hts : ∀ w ∈ wsL_law, w.before #[Value.ref b] s = true) (hX : va_X b L xs s s.heap) (hbl : b < s.heap.size) (hbA : ¬ Ge h0 b) (hK : va_K D vwCl (tysC cs) s) (hdd : dd ≤ 4) (hw1 : 1 ≤ ww) (hw2 : ww ≤ 8) (hN : N ≤ 520) (hLL : L ≤ 2051) (hi : i + 4 ≤ L) (hLI : LI D cs h0 dd ww N S M1 np ns s H locs) (hl : lv_has ls 8 [(0, .ref b), (1, .ref (a1 h0 0)), (2, .ref (a2 h0 0)), (3, .int (nI i))]) (K : ∀ (S' : SS) (M' : Nat → va_E) (np' ns' : UInt32) (H' : Heap) (locs' : List Loc) (ls' : Array Slot), LI D cs h0 dd ww (N + 1) S' M' np' ns' s H' locs' → lv_has ls' 8 [(0, .ref b), (1, .ref (a1 h0 0)), (2, .ref (a2 h0 0)), (3, .int (nI i))] → W p l e room_1 s m #[Value.ref b] below meth c H' locs' 600000 7302250 Q (F0 m 655 ls' [])) : W p l e room_1 s m #[Value.ref b] below meth c H locs 600000 7302250 Q (F0 m 402 ls []) := by
  obtain ⟨hP1, hC, hP2, hS⟩ := hLI
  have hne := hC.pl hN (xs (i + 1)) (xs (i + 2))
  refine lv_aload_n hx hb dL_law_402 rfl (lv_at hl 1 rfl) ?_
  refine lv_aload_n hx hb dL_law_403 rfl (lv_at hl 0 rfl) ?_
  refine lv_iload_n hx hb dL_law_404 rfl (lv_at hl 3 rfl) ?_
  refine lv_iconst (v := nI 1) hx hb dL_law_405 (by decide) ?_
  refine n_add hx hb dL_law_406 ?_
  refine va_sld hx hb hX hbl hbA hS (nI_in' (show i + 1 < L by omega) (by omega)) dL_law_407 ?_
  rw [nI_clamp (show i + 1 < 2 ^ 31 by omega)]
  refine lv_aload_n hx hb dL_law_408 rfl (lv_at hl 0 rfl) ?_
  refine lv_iload_n hx hb dL_law_409 rfl (lv_at hl 3 rfl) ?_
  refine lv_iconst (v := nI 2) hx hb dL_law_410 (by decide) ?_
  refine n_add hx hb dL_law_411 ?_
  refine va_sld hx hb hX hbl hbA hS (nI_in' (show i + 2 < L by omega) (by omega)) dL_law_412 ?_
  rw [nI_clamp (show i + 2 < 2 ^ 31 by omega)]
  refine k_Vf (ad := a1 h0) (As := [.int (xs (i + 1)), .int (xs (i + 2))]) (rest := []) (k := 0) (ci := 6) ⟨hx, hb, hml, hown, hts⟩ hK hP1 hS a1_G (c6_place l D cs (a1 h0) (a1_J h0 146) M1 dd ww N S hdd hw1 hw2 (by omega) hC (xs (i + 1)) (xs (i + 2))) (cwV 2 hts gL_law_X6_place rfl rfl rfl (by decide +kernel) ⟨Nat.le_of_ble_eq_true rfl, Nat.le_of_ble_eq_true rfl⟩) (by decide) hC.1 rfl rfl rfl hl.1 (Nat.le_of_ble_eq_true rfl) dL_law_413 ⟨Nat.le_of_ble_eq_true rfl, Nat.le_of_ble_eq_true rfl⟩ (fun r1 M2 H locs hpo hP1 hS _ hf => ?_)
  replace hP2 := sg_apart hP2 hf a21
  obtain ⟨hMe, rfl⟩ := hpo
  rw [hMe] at hP1
  refine lv_f2d hx hb dL_law_416 hne ?_
  refine lv_dstore (lv' := [(4, .double (FP.f2d (rPl S (xs (i + 1)) (xs (i + 2))))), (0, .ref b), (1, .ref (a1 h0 0)), (2, .ref (a2 h0 0)), (3, .int (nI i))]) hx hb dL_law_417 hl (by decide) rfl (fun ls hl => ?_)
  refine lv_aload_n hx hb dL_law_419 rfl (lv_at hl 3 rfl) ?_
  refine lv_aload_n hx hb dL_law_420 rfl (lv_at hl 1 rfl) ?_
  refine lv_iload_n hx hb dL_law_421 rfl (lv_at hl 4 rfl) ?_
  refine lv_iconst (v := nI 1) hx hb dL_law_422 (by decide) ?_
  refine n_add hx hb dL_law_423 ?_
  refine va_sld hx hb hX hbl hbA hS (nI_in' (show i + 1 < L by omega) (by omega)) dL_law_424 ?_
  rw [nI_clamp (show i + 1 < 2 ^ 31 by omega)]
  refine lv_aload_n hx hb dL_law_425 rfl (lv_at hl 1 rfl) ?_
  refine lv_iload_n hx hb dL_law_426 rfl (lv_at hl 4 rfl) ?_
  refine lv_iconst (v := nI 2) hx hb dL_law_427 (by decide) ?_
  refine n_add hx hb dL_law_428 ?_
  refine va_sld hx hb hX hbl hbA hS (nI_in' (show i + 2 < L by omega) (by omega)) dL_law_429 ?_
  rw [nI_clamp (show i + 2 < 2 ^ 31 by omega)]
  refine k_Vf (ad := a2 h0) (As := [.int (xs (i + 1)), .int (xs (i + 2))]) (rest := []) (k := 0) (ci := 7) ⟨hx, hb, hml, hown, hts⟩ hK hP2 hS a2_G (c_place l D cs (a2 h0) (a2_J h0 26) (nI dd) (nI ww) S np ns (xs (i + 1)) (xs (i + 2)) (hC.A hN)) (cwV 2 hts gL_law_X7_place rfl rfl rfl (by decide +kernel) ⟨Nat.le_of_ble_eq_true rfl, Nat.le_of_ble_eq_true rfl⟩) (by decide) rfl rfl rfl rfl hl.1 (Nat.le_of_ble_eq_true rfl) dL_law_430 ⟨Nat.le_of_ble_eq_true rfl, Nat.le_of_ble_eq_true rfl⟩ (fun r2 M3 H locs hpo hP2 hS _ hf => ?_)
  replace hP1 := sg_apart hP1 hf a12
  obtain ⟨hMe, rfl⟩ := hpo
  rw [hMe] at hP2
  refine lv_f2d hx hb dL_law_433 hne ?_
  refine lv_dstore (lv' := [(6, .double (FP.f2d (rPl S (xs (i + 1)) (xs (i + 2))))), (4, .double (FP.f2d (rPl S (xs (i + 1)) (xs (i + 2))))), (0, .ref b), (1, .ref (a1 h0 0)), (2, .ref (a2 h0 0)), (3, .int (nI i))]) hx hb dL_law_434 hl (by decide) rfl (fun ls hl => ?_)
  refine lv_dload hx hb dL_law_436 (lv_at hl 1 rfl) ?_
  refine lv_dload hx hb dL_law_438 (lv_at hl 0 rfl) ?_
  refine lv_dcmp hx hb dL_law_440 ?_
  refine lv_if_eq (tgt := 462) hx hb dL_law_441 (by decide) (fun c1 => ?_) (fun c1 => ?_)
  · refine lv_goto (tgt := 655) hx hb dL_law_462 (by decide) ?_
    exact K S M1 np ns _ _ _ ⟨hP1, hC.mono, hP2, hS⟩ (lv_sub hl [2, 3, 4, 5] rfl)
  · refine lv_dload hx hb dL_law_444 (lv_at hl 1 rfl) ?_
    refine lv_dload hx hb dL_law_446 (lv_at hl 1 rfl) ?_
    refine lv_dcmp hx hb dL_law_448 ?_
    refine lv_if_eq (tgt := 460) hx hb dL_law_449 (by decide) (fun c2 => absurd c2 c1) (fun c2 => ?_)
    refine lv_dload hx hb dL_law_452 (lv_at hl 0 rfl) ?_
    refine lv_dload hx hb dL_law_454 (lv_at hl 0 rfl) ?_
    refine lv_dcmp hx hb dL_law_456 ?_
    refine lv_if_ne (tgt := 462) hx hb dL_law_457 (by decide) (fun c3 => ?_) (fun c3 => absurd c3 c1)
    refine lv_goto (tgt := 655) hx hb dL_law_462 (by decide) ?_
    exact K S M1 np ns _ _ _ ⟨hP1, hC.mono, hP2, hS⟩ (lv_sub hl [2, 3, 4, 5] rfl)
set_option maxHeartbeats 4000000 in
set_option maxRecDepth 100000 in
/-- the law at speed -/
theorem L_9 {p : Program} {e : Env} {s : State} {m : MethodId} {below : List Frame} {meth : Method} {c : Code} (l : Launch) {b L : Nat} {xs : Nat → Int32} {Q : State → Prop} {D : va_G} {cs : Nat → ClassId} {h0 dd ww : Nat} {N i : Nat} {S : SS} {M1 : Nat → va_E} {np ns : UInt32} {H : Heap} {locs : List Loc} {ls : Array Slot} (hx : p.tables.exec = Jvm.exec) (hb : c.code = cL_law) (hml : c.maxLocals = 8) (hown : s.vm.findClass RL = some m.cls) (hts : ∀ w ∈ wsL_law, w.before #[Value.ref b] s = true) (hX : va_X b L xs s s.heap) (hbl : b < s.heap.size) (hbA : ¬ Ge h0 b) (hK : va_K D vwCl (tysC cs) s) (hdd : dd ≤ 4) (hw1 : 1 ≤ ww) (hw2 : ww ≤ 8) (hN : N ≤ 520) (hLL : L ≤ 2051) (hi : i + 4 ≤ L) (hLI : LI D cs h0 dd ww N S M1 np ns s H locs) (hl : lv_has ls 8 [(0, .ref b), (1, .ref (a1 h0 0)), (2, .ref (a2 h0 0)), (3, .int (nI i))]) (K : ∀ (S' : SS) (M' : Nat → va_E) (np' ns' : UInt32) (H' : Heap) (locs' : List Loc) (ls' : Array Slot), LI D cs h0 dd ww (N + 1) S' M' np' ns' s H' locs' → lv_has ls' 8 [(0, .ref b), (1, .ref (a1 h0 0)), (2, .ref (a2 h0 0)), (3, .int (nI i))] → W p l e room_1 s m #[Value.ref b] below meth c H' locs' 600000 7302250 Q (F0 m 655 ls' [])) : W p l e room_1 s m #[Value.ref b] below meth c H locs 600000 7302250 Q (F0 m 465 ls []) := by
  obtain ⟨hP1, hC, hP2, hS⟩ := hLI
  have hne := hC.sp hN (xs (i + 1)) (xs (i + 2))
  refine lv_aload_n hx hb dL_law_465 rfl (lv_at hl 1 rfl) ?_
  refine lv_aload_n hx hb dL_law_466 rfl (lv_at hl 0 rfl) ?_
  refine lv_iload_n hx hb dL_law_467 rfl (lv_at hl 3 rfl) ?_
  refine lv_iconst (v := nI 1) hx hb dL_law_468 (by decide) ?_
  refine n_add hx hb dL_law_469 ?_
  refine va_sld hx hb hX hbl hbA hS (nI_in' (show i + 1 < L by omega) (by omega)) dL_law_470 ?_
  rw [nI_clamp (show i + 1 < 2 ^ 31 by omega)]
  refine lv_aload_n hx hb dL_law_471 rfl (lv_at hl 0 rfl) ?_
  refine lv_iload_n hx hb dL_law_472 rfl (lv_at hl 3 rfl) ?_
  refine lv_iconst (v := nI 2) hx hb dL_law_473 (by decide) ?_
  refine n_add hx hb dL_law_474 ?_
  refine va_sld hx hb hX hbl hbA hS (nI_in' (show i + 2 < L by omega) (by omega)) dL_law_475 ?_
  rw [nI_clamp (show i + 2 < 2 ^ 31 by omega)]
  refine k_Vf (ad := a1 h0) (As := [.int (xs (i + 1)), .int (xs (i + 2))]) (rest := []) (k := 0) (ci := 6) ⟨hx, hb, hml, hown, hts⟩ hK hP1 hS a1_G (c6_speed l D cs (a1 h0) (a1_J h0 146) M1 dd ww N S hdd hw1 hw2 (by omega) hC (xs (i + 1)) (xs (i + 2))) (cwV 2 hts gL_law_X6_speed rfl rfl rfl (by decide +kernel) ⟨Nat.le_of_ble_eq_true rfl, Nat.le_of_ble_eq_true rfl⟩) (by decide) hC.1 rfl rfl rfl hl.1 (Nat.le_of_ble_eq_true rfl) dL_law_476 ⟨Nat.le_of_ble_eq_true rfl, Nat.le_of_ble_eq_true rfl⟩ (fun r1 M2 H locs hpo hP1 hS _ hf => ?_)
  replace hP2 := sg_apart hP2 hf a21
  obtain ⟨hMe, rfl⟩ := hpo
  rw [hMe] at hP1
  refine lv_f2d hx hb dL_law_479 hne ?_
  refine lv_dstore (lv' := [(4, .double (FP.f2d (rSp S (xs (i + 1)) (xs (i + 2))))), (0, .ref b), (1, .ref (a1 h0 0)), (2, .ref (a2 h0 0)), (3, .int (nI i))]) hx hb dL_law_480 hl (by decide) rfl (fun ls hl => ?_)
  refine lv_aload_n hx hb dL_law_482 rfl (lv_at hl 3 rfl) ?_
  refine lv_aload_n hx hb dL_law_483 rfl (lv_at hl 1 rfl) ?_
  refine lv_iload_n hx hb dL_law_484 rfl (lv_at hl 4 rfl) ?_
  refine lv_iconst (v := nI 1) hx hb dL_law_485 (by decide) ?_
  refine n_add hx hb dL_law_486 ?_
  refine va_sld hx hb hX hbl hbA hS (nI_in' (show i + 1 < L by omega) (by omega)) dL_law_487 ?_
  rw [nI_clamp (show i + 1 < 2 ^ 31 by omega)]
  refine lv_aload_n hx hb dL_law_488 rfl (lv_at hl 1 rfl) ?_
  refine lv_iload_n hx hb dL_law_489 rfl (lv_at hl 4 rfl) ?_
  refine lv_iconst (v := nI 2) hx hb dL_law_490 (by decide) ?_
  refine n_add hx hb dL_law_491 ?_
  refine va_sld hx hb hX hbl hbA hS (nI_in' (show i + 2 < L by omega) (by omega)) dL_law_492 ?_
  rw [nI_clamp (show i + 2 < 2 ^ 31 by omega)]
  refine k_Vf (ad := a2 h0) (As := [.int (xs (i + 1)), .int (xs (i + 2))]) (rest := []) (k := 0) (ci := 7) ⟨hx, hb, hml, hown, hts⟩ hK hP2 hS a2_G (c_speed l D cs (a2 h0) (a2_J h0 26) (nI dd) (nI ww) S np ns (xs (i + 1)) (xs (i + 2)) (hC.A hN)) (cwV 2 hts gL_law_X7_speed rfl rfl rfl (by decide +kernel) ⟨Nat.le_of_ble_eq_true rfl, Nat.le_of_ble_eq_true rfl⟩) (by decide) rfl rfl rfl rfl hl.1 (Nat.le_of_ble_eq_true rfl) dL_law_493 ⟨Nat.le_of_ble_eq_true rfl, Nat.le_of_ble_eq_true rfl⟩ (fun r2 M3 H locs hpo hP2 hS _ hf => ?_)
  replace hP1 := sg_apart hP1 hf a12
  obtain ⟨hMe, rfl⟩ := hpo
  rw [hMe] at hP2
  refine lv_f2d hx hb dL_law_496 hne ?_
  refine lv_dstore (lv' := [(6, .double (FP.f2d (rSp S (xs (i + 1)) (xs (i + 2))))), (4, .double (FP.f2d (rSp S (xs (i + 1)) (xs (i + 2))))), (0, .ref b), (1, .ref (a1 h0 0)), (2, .ref (a2 h0 0)), (3, .int (nI i))]) hx hb dL_law_497 hl (by decide) rfl (fun ls hl => ?_)
  refine lv_dload hx hb dL_law_499 (lv_at hl 1 rfl) ?_
  refine lv_dload hx hb dL_law_501 (lv_at hl 0 rfl) ?_
  refine lv_dcmp hx hb dL_law_503 ?_
  refine lv_if_eq (tgt := 525) hx hb dL_law_504 (by decide) (fun c1 => ?_) (fun c1 => ?_)
  · refine lv_goto (tgt := 655) hx hb dL_law_525 (by decide) ?_
    exact K S M1 np ns _ _ _ ⟨hP1, hC.mono, hP2, hS⟩ (lv_sub hl [2, 3, 4, 5] rfl)
  · refine lv_dload hx hb dL_law_507 (lv_at hl 1 rfl) ?_
    refine lv_dload hx hb dL_law_509 (lv_at hl 1 rfl) ?_
    refine lv_dcmp hx hb dL_law_511 ?_
    refine lv_if_eq (tgt := 523) hx hb dL_law_512 (by decide) (fun c2 => absurd c2 c1) (fun c2 => ?_)
    refine lv_dload hx hb dL_law_515 (lv_at hl 0 rfl) ?_
    refine lv_dload hx hb dL_law_517 (lv_at hl 0 rfl) ?_
    refine lv_dcmp hx hb dL_law_519 ?_
    refine lv_if_ne (tgt := 525) hx hb dL_law_520 (by decide) (fun c3 => ?_) (fun c3 => absurd c3 c1)
    refine lv_goto (tgt := 655) hx hb dL_law_525 (by decide) ?_
    exact K S M1 np ns _ _ _ ⟨hP1, hC.mono, hP2, hS⟩ (lv_sub hl [2, 3, 4, 5] rfl)
set_option maxHeartbeats 4000000 in
set_option maxRecDepth 100000 in
/-- the law at work -/
theorem L_11 {p : Program} {e : Env} {s : State} {m : MethodId} {below : List Frame} {meth : Method} {c : Code} (l : Launch) {b L : Nat} {xs : Nat → Int32} {Q : State → Prop} {D : va_G} {cs : Nat → ClassId} {h0 dd ww : Nat} {N i : Nat} {S : SS} {M1 : Nat → va_E} {np ns : UInt32} {H : Heap} {locs : List Loc} {ls : Array Slot} (hx : p.tables.exec = Jvm.exec) (hb : c.code = cL_law) (hml : c.maxLocals = 8) (hown : s.vm.findClass RL = some m.cls) (hts : ∀ w ∈ wsL_law, w.before #[Value.ref b] s = true) (hX : va_X b L xs s s.heap) (hbl : b < s.heap.size) (hbA : ¬ Ge h0 b) (hK : va_K D vwCl (tysC cs) s) (hdd : dd ≤ 4) (hw1 : 1 ≤ ww) (hw2 : ww ≤ 8) (hN : N ≤ 520) (hLL : L ≤ 2051) (hi : i + 4 ≤ L) (hLI : LI D cs h0 dd ww N S M1 np ns s H locs) (hl : lv_has ls 8 [(0, .ref b), (1, .ref (a1 h0 0)), (2, .ref (a2 h0 0)), (3, .int (nI i))]) (K : ∀ (S' : SS) (M' : Nat → va_E) (np' ns' : UInt32) (H' : Heap) (locs' : List Loc) (ls' : Array Slot), LI D cs h0 dd ww (N + 1) S' M' np' ns' s H' locs' → lv_has ls' 8 [(0, .ref b), (1, .ref (a1 h0 0)), (2, .ref (a2 h0 0)), (3, .int (nI i))] → W p l e room_1 s m #[Value.ref b] below meth c H' locs' 600000 7302250 Q (F0 m 655 ls' [])) : W p l e room_1 s m #[Value.ref b] below meth c H locs 600000 7302250 Q (F0 m 551 ls []) := by
  obtain ⟨hP1, hC, hP2, hS⟩ := hLI
  refine lv_aload_n hx hb dL_law_551 rfl (lv_at hl 1 rfl) ?_
  refine lv_aload_n hx hb dL_law_552 rfl (lv_at hl 0 rfl) ?_
  refine lv_iload_n hx hb dL_law_553 rfl (lv_at hl 3 rfl) ?_
  refine lv_iconst (v := nI 1) hx hb dL_law_554 (by decide) ?_
  refine n_add hx hb dL_law_555 ?_
  refine va_sld hx hb hX hbl hbA hS (nI_in' (show i + 1 < L by omega) (by omega)) dL_law_556 ?_
  rw [nI_clamp (show i + 1 < 2 ^ 31 by omega)]
  refine k_Vd (ad := a1 h0) (As := [.int (xs (i + 1))]) (rest := []) (k := 0) (ci := 6) ⟨hx, hb, hml, hown, hts⟩ hK hP1 hS a1_G (c6_work l D cs (a1 h0) (a1_J h0 146) M1 dd ww N S hdd hw1 hw2 (by omega) hC (xs (i + 1))) (cwV 1 hts gL_law_X6_work rfl rfl rfl (by decide +kernel) ⟨Nat.le_of_ble_eq_true rfl, Nat.le_of_ble_eq_true rfl⟩) (by decide) hC.1 rfl rfl rfl hl.1 (Nat.le_of_ble_eq_true rfl) dL_law_557 ⟨Nat.le_of_ble_eq_true rfl, Nat.le_of_ble_eq_true rfl⟩ (fun r1 M2 H locs hpo hP1 hS _ hf => ?_)
  replace hP2 := sg_apart hP2 hf a21
  obtain ⟨hMe, rfl⟩ := hpo
  rw [hMe] at hP1
  refine lv_dstore (lv' := [(4, .double (rWo S (xs (i + 1)))), (0, .ref b), (1, .ref (a1 h0 0)), (2, .ref (a2 h0 0)), (3, .int (nI i))]) hx hb dL_law_560 hl (by decide) rfl (fun ls hl => ?_)
  refine lv_aload_n hx hb dL_law_562 rfl (lv_at hl 3 rfl) ?_
  refine lv_aload_n hx hb dL_law_563 rfl (lv_at hl 1 rfl) ?_
  refine lv_iload_n hx hb dL_law_564 rfl (lv_at hl 4 rfl) ?_
  refine lv_iconst (v := nI 1) hx hb dL_law_565 (by decide) ?_
  refine n_add hx hb dL_law_566 ?_
  refine va_sld hx hb hX hbl hbA hS (nI_in' (show i + 1 < L by omega) (by omega)) dL_law_567 ?_
  rw [nI_clamp (show i + 1 < 2 ^ 31 by omega)]
  refine k_Vd (ad := a2 h0) (As := [.int (xs (i + 1))]) (rest := []) (k := 0) (ci := 7) ⟨hx, hb, hml, hown, hts⟩ hK hP2 hS a2_G (c_work l D cs (a2 h0) (a2_J h0 26) (nI dd) (nI ww) S np ns (xs (i + 1)) (hC.A hN)) (cwV 1 hts gL_law_X7_work rfl rfl rfl (by decide +kernel) ⟨Nat.le_of_ble_eq_true rfl, Nat.le_of_ble_eq_true rfl⟩) (by decide) rfl rfl rfl rfl hl.1 (Nat.le_of_ble_eq_true rfl) dL_law_568 ⟨Nat.le_of_ble_eq_true rfl, Nat.le_of_ble_eq_true rfl⟩ (fun r2 M3 H locs hpo hP2 hS _ hf => ?_)
  replace hP1 := sg_apart hP1 hf a12
  obtain ⟨hMe, rfl⟩ := hpo
  rw [hMe] at hP2
  refine lv_dstore (lv' := [(6, .double (rWo S (xs (i + 1)))), (4, .double (rWo S (xs (i + 1)))), (0, .ref b), (1, .ref (a1 h0 0)), (2, .ref (a2 h0 0)), (3, .int (nI i))]) hx hb dL_law_571 hl (by decide) rfl (fun ls hl => ?_)
  refine lv_dload hx hb dL_law_573 (lv_at hl 1 rfl) ?_
  refine lv_dload hx hb dL_law_575 (lv_at hl 0 rfl) ?_
  refine lv_dcmp hx hb dL_law_577 ?_
  refine lv_if_eq (tgt := 599) hx hb dL_law_578 (by decide) (fun c1 => ?_) (fun c1 => ?_)
  · refine lv_goto (tgt := 655) hx hb dL_law_599 (by decide) ?_
    exact K S M1 np ns _ _ _ ⟨hP1, hC.mono, hP2, hS⟩ (lv_sub hl [2, 3, 4, 5] rfl)
  · refine lv_dload hx hb dL_law_581 (lv_at hl 1 rfl) ?_
    refine lv_dload hx hb dL_law_583 (lv_at hl 1 rfl) ?_
    refine lv_dcmp hx hb dL_law_585 ?_
    refine lv_if_eq (tgt := 597) hx hb dL_law_586 (by decide) (fun c2 => absurd c2 c1) (fun c2 => ?_)
    refine lv_dload hx hb dL_law_589 (lv_at hl 0 rfl) ?_
    refine lv_dload hx hb dL_law_591 (lv_at hl 0 rfl) ?_
    refine lv_dcmp hx hb dL_law_593 ?_
    refine lv_if_ne (tgt := 599) hx hb dL_law_594 (by decide) (fun c3 => ?_) (fun c3 => absurd c3 c1)
    refine lv_goto (tgt := 655) hx hb dL_law_599 (by decide) ?_
    exact K S M1 np ns _ _ _ ⟨hP1, hC.mono, hP2, hS⟩ (lv_sub hl [2, 3, 4, 5] rfl)
set_option maxHeartbeats 4000000 in
set_option maxRecDepth 100000 in
/-- the law at advice -/
theorem L_12 {p : Program} {e : Env} {s : State} {m : MethodId} {below : List Frame} {meth : Method} {c : Code} (l : Launch) {b L : Nat} {xs : Nat → Int32} {Q : State → Prop} {D : va_G} {cs : Nat → ClassId} {h0 dd ww : Nat} {N i : Nat} {S : SS} {M1 : Nat → va_E} {np ns : UInt32} {H : Heap} {locs : List Loc} {ls : Array Slot} (hx : p.tables.exec = Jvm.exec) (hb : c.code = cL_law) (hml : c.maxLocals = 8) (hown : s.vm.findClass RL = some m.cls) (hts : ∀ w ∈ wsL_law, w.before #[Value.ref b] s = true) (hX : va_X b L xs s s.heap) (hbl : b < s.heap.size) (hbA : ¬ Ge h0 b) (hK : va_K D vwCl (tysC cs) s) (hdd : dd ≤ 4) (hw1 : 1 ≤ ww) (hw2 : ww ≤ 8) (hN : N ≤ 520) (hLL : L ≤ 2051) (hi : i + 4 ≤ L) (hLI : LI D cs h0 dd ww N S M1 np ns s H locs) (hl : lv_has ls 8 [(0, .ref b), (1, .ref (a1 h0 0)), (2, .ref (a2 h0 0)), (3, .int (nI i))]) (K : ∀ (S' : SS) (M' : Nat → va_E) (np' ns' : UInt32) (H' : Heap) (locs' : List Loc) (ls' : Array Slot), LI D cs h0 dd ww (N + 1) S' M' np' ns' s H' locs' → lv_has ls' 8 [(0, .ref b), (1, .ref (a1 h0 0)), (2, .ref (a2 h0 0)), (3, .int (nI i))] → W p l e room_1 s m #[Value.ref b] below meth c H' locs' 600000 7302250 Q (F0 m 655 ls' [])) : W p l e room_1 s m #[Value.ref b] below meth c H locs 600000 7302250 Q (F0 m 602 ls []) := by
  obtain ⟨hP1, hC, hP2, hS⟩ := hLI
  have hne := hC.av (xs (i + 1))
  refine lv_aload_n hx hb dL_law_602 rfl (lv_at hl 1 rfl) ?_
  refine lv_aload_n hx hb dL_law_603 rfl (lv_at hl 0 rfl) ?_
  refine lv_iload_n hx hb dL_law_604 rfl (lv_at hl 3 rfl) ?_
  refine lv_iconst (v := nI 1) hx hb dL_law_605 (by decide) ?_
  refine n_add hx hb dL_law_606 ?_
  refine va_sld hx hb hX hbl hbA hS (nI_in' (show i + 1 < L by omega) (by omega)) dL_law_607 ?_
  rw [nI_clamp (show i + 1 < 2 ^ 31 by omega)]
  refine k_Vf (ad := a1 h0) (As := [.int (xs (i + 1))]) (rest := []) (k := 0) (ci := 6) ⟨hx, hb, hml, hown, hts⟩ hK hP1 hS a1_G (c6_advice l D cs (a1 h0) (a1_J h0 146) M1 dd ww N S hdd hw1 hw2 (by omega) hC (xs (i + 1))) (cwV 1 hts gL_law_X6_advice rfl rfl rfl (by decide +kernel) ⟨Nat.le_of_ble_eq_true rfl, Nat.le_of_ble_eq_true rfl⟩) (by decide) hC.1 rfl rfl rfl hl.1 (Nat.le_of_ble_eq_true rfl) dL_law_608 ⟨Nat.le_of_ble_eq_true rfl, Nat.le_of_ble_eq_true rfl⟩ (fun r1 M2 H locs hpo hP1 hS _ hf => ?_)
  replace hP2 := sg_apart hP2 hf a21
  obtain ⟨hMe, rfl⟩ := hpo
  rw [hMe] at hP1
  refine lv_f2d hx hb dL_law_611 hne ?_
  refine lv_dstore (lv' := [(4, .double (FP.f2d (rAv S (xs (i + 1))))), (0, .ref b), (1, .ref (a1 h0 0)), (2, .ref (a2 h0 0)), (3, .int (nI i))]) hx hb dL_law_612 hl (by decide) rfl (fun ls hl => ?_)
  refine lv_aload_n hx hb dL_law_614 rfl (lv_at hl 3 rfl) ?_
  refine lv_aload_n hx hb dL_law_615 rfl (lv_at hl 1 rfl) ?_
  refine lv_iload_n hx hb dL_law_616 rfl (lv_at hl 4 rfl) ?_
  refine lv_iconst (v := nI 1) hx hb dL_law_617 (by decide) ?_
  refine n_add hx hb dL_law_618 ?_
  refine va_sld hx hb hX hbl hbA hS (nI_in' (show i + 1 < L by omega) (by omega)) dL_law_619 ?_
  rw [nI_clamp (show i + 1 < 2 ^ 31 by omega)]
  refine k_Vf (ad := a2 h0) (As := [.int (xs (i + 1))]) (rest := []) (k := 0) (ci := 7) ⟨hx, hb, hml, hown, hts⟩ hK hP2 hS a2_G (c_advice l D cs (a2 h0) (a2_J h0 26) (nI dd) (nI ww) S np ns (xs (i + 1)) (hC.A hN)) (cwV 1 hts gL_law_X7_advice rfl rfl rfl (by decide +kernel) ⟨Nat.le_of_ble_eq_true rfl, Nat.le_of_ble_eq_true rfl⟩) (by decide) rfl rfl rfl rfl hl.1 (Nat.le_of_ble_eq_true rfl) dL_law_620 ⟨Nat.le_of_ble_eq_true rfl, Nat.le_of_ble_eq_true rfl⟩ (fun r2 M3 H locs hpo hP2 hS _ hf => ?_)
  replace hP1 := sg_apart hP1 hf a12
  obtain ⟨hMe, rfl⟩ := hpo
  rw [hMe] at hP2
  refine lv_f2d hx hb dL_law_623 hne ?_
  refine lv_dstore (lv' := [(6, .double (FP.f2d (rAv S (xs (i + 1))))), (4, .double (FP.f2d (rAv S (xs (i + 1))))), (0, .ref b), (1, .ref (a1 h0 0)), (2, .ref (a2 h0 0)), (3, .int (nI i))]) hx hb dL_law_624 hl (by decide) rfl (fun ls hl => ?_)
  refine lv_dload hx hb dL_law_626 (lv_at hl 1 rfl) ?_
  refine lv_dload hx hb dL_law_628 (lv_at hl 0 rfl) ?_
  refine lv_dcmp hx hb dL_law_630 ?_
  refine lv_if_eq (tgt := 652) hx hb dL_law_631 (by decide) (fun c1 => ?_) (fun c1 => ?_)
  · refine lv_goto (tgt := 655) hx hb dL_law_652 (by decide) ?_
    exact K S M1 np ns _ _ _ ⟨hP1, hC.mono, hP2, hS⟩ (lv_sub hl [2, 3, 4, 5] rfl)
  · refine lv_dload hx hb dL_law_634 (lv_at hl 1 rfl) ?_
    refine lv_dload hx hb dL_law_636 (lv_at hl 1 rfl) ?_
    refine lv_dcmp hx hb dL_law_638 ?_
    refine lv_if_eq (tgt := 650) hx hb dL_law_639 (by decide) (fun c2 => absurd c2 c1) (fun c2 => ?_)
    refine lv_dload hx hb dL_law_642 (lv_at hl 0 rfl) ?_
    refine lv_dload hx hb dL_law_644 (lv_at hl 0 rfl) ?_
    refine lv_dcmp hx hb dL_law_646 ?_
    refine lv_if_ne (tgt := 652) hx hb dL_law_647 (by decide) (fun c3 => ?_) (fun c3 => absurd c3 c1)
    refine lv_goto (tgt := 655) hx hb dL_law_652 (by decide) ?_
    exact K S M1 np ns _ _ _ ⟨hP1, hC.mono, hP2, hS⟩ (lv_sub hl [2, 3, 4, 5] rfl)
