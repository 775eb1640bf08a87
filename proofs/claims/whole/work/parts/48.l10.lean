set_option maxHeartbeats 4000000 in
set_option maxRecDepth 100000 in
/-- one turn of the law's loop, from its first row to its end -/
theorem L_body {p : Program} {e : Env} {s : State} {m : MethodId} {below : List Frame} {meth : Method} {c : Code} (l : Launch) {b L : Nat} {xs : Nat → Int32} {Q : State → Prop} {D : va_G} {cs : Nat → ClassId} {h0 dd ww : Nat} {N i : Nat} {S : SS} {M1 : Nat → va_E} {np ns : UInt32} {H : Heap} {locs : List Loc} {ls : Array Slot} (hx : p.tables.exec = Jvm.exec) (hb : c.code = cL_law) (hml : c.maxLocals = 8) (hown : s.vm.findClass RL = some m.cls) (hts : ∀ w ∈ wsL_law, w.before #[Value.ref b] s = true) (hX : va_X b L xs s s.heap) (hbl : b < s.heap.size) (hbA : ¬ Ge h0 b) (hK : va_K D vwCl (tysC cs) s) (hdd : dd ≤ 4) (hw1 : 1 ≤ ww) (hw2 : ww ≤ 8) (hN : N ≤ 520) (hLL : L ≤ 2051) (hi : i + 4 ≤ L) (hLI : LI D cs h0 dd ww N S M1 np ns s H locs) (hl : lv_has ls 8 [(0, .ref b), (1, .ref (a1 h0 0)), (2, .ref (a2 h0 0)), (3, .int (nI i))]) (K : ∀ (S' : SS) (M' : Nat → va_E) (np' ns' : UInt32) (H' : Heap) (locs' : List Loc) (ls' : Array Slot), LI D cs h0 dd ww (N + 1) S' M' np' ns' s H' locs' → lv_has ls' 8 [(0, .ref b), (1, .ref (a1 h0 0)), (2, .ref (a2 h0 0)), (3, .int (nI i))] → W p l e room_1 s m #[Value.ref b] below meth c H' locs' 600000 7302250 Q (F0 m 655 ls' [])) : W p l e room_1 s m #[Value.ref b] below meth c H locs 600000 7302250 Q (F0 m 56 ls []) := by
  have hLI0 := hLI
  obtain ⟨hP1, hC, hP2, hS⟩ := hLI
  obtain ⟨r, hr, er⟩ := and15 (xs i)
  refine lv_aload_n hx hb dL_law_56 rfl (lv_at hl 0 rfl) ?_
  refine lv_iload_n hx hb dL_law_57 rfl (lv_at hl 3 rfl) ?_
  refine va_sld hx hb hX hbl hbA hS (nI_in' (show i < L by omega) (by omega)) dL_law_58 ?_
  rw [nI_clamp (show i < 2 ^ 31 by omega)]
  refine lv_bipush (v := nI 15) hx hb dL_law_59 (by decide) ?_
  refine lv_iand hx hb dL_law_61 ?_
  refine n_val er ?_
  rcases (show r = 0 ∨ r = 1 ∨ r = 2 ∨ r = 3 ∨ r = 4 ∨ r = 5 ∨ r = 6 ∨ r = 7 ∨ r = 8 ∨ r = 9 ∨ r = 10 ∨ r = 11 ∨ r = 12 ∨ r = 13 ∨ r = 14 ∨ r = 15 by omega) with rfl | rfl | rfl | rfl | rfl | rfl | rfl | rfl | rfl | rfl | rfl | rfl | rfl | rfl | rfl | rfl
  · refine lv_tableIn (off := 66) (tgt := 128) hx hb dL_law_62 (by decide) (by decide) (by decide) (by decide) ?_
    exact L_0 l hx hb hml hown hts hX hbl hbA hK hdd hw1 hw2 hN hLL hi hLI0 hl K
  · refine lv_tableIn (off := 99) (tgt := 161) hx hb dL_law_62 (by decide) (by decide) (by decide) (by decide) ?_
    exact L_1 l hx hb hml hown hts hX hbl hbA hK hdd hw1 hw2 hN hLL hi hLI0 hl K
  · refine lv_tableIn (off := 122) (tgt := 184) hx hb dL_law_62 (by decide) (by decide) (by decide) (by decide) ?_
    exact L_2 l hx hb hml hown hts hX hbl hbA hK hdd hw1 hw2 hN hLL hi hLI0 hl K
  · refine lv_tableIn (off := 155) (tgt := 217) hx hb dL_law_62 (by decide) (by decide) (by decide) (by decide) ?_
    exact L_3 l hx hb hml hown hts hX hbl hbA hK hdd hw1 hw2 hN hLL hi hLI0 hl K
  · refine lv_tableIn (off := 198) (tgt := 260) hx hb dL_law_62 (by decide) (by decide) (by decide) (by decide) ?_
    exact L_4 l hx hb hml hown hts hX hbl hbA hK hdd hw1 hw2 hN hLL hi hLI0 hl K
  · refine lv_tableIn (off := 231) (tgt := 293) hx hb dL_law_62 (by decide) (by decide) (by decide) (by decide) ?_
    exact L_5 l hx hb hml hown hts hX hbl hbA hK hdd hw1 hw2 hN hLL hi hLI0 hl K
  · refine lv_tableIn (off := 264) (tgt := 326) hx hb dL_law_62 (by decide) (by decide) (by decide) (by decide) ?_
    exact L_6 l hx hb hml hown hts hX hbl hbA hK hdd hw1 hw2 hN hLL hi hLI0 hl K
  · refine lv_tableIn (off := 307) (tgt := 369) hx hb dL_law_62 (by decide) (by decide) (by decide) (by decide) ?_
    exact L_7 l hx hb hml hown hts hX hbl hbA hK hdd hw1 hw2 hN hLL hi hLI0 hl K
  · refine lv_tableIn (off := 340) (tgt := 402) hx hb dL_law_62 (by decide) (by decide) (by decide) (by decide) ?_
    exact L_8 l hx hb hml hown hts hX hbl hbA hK hdd hw1 hw2 hN hLL hi hLI0 hl K
  · refine lv_tableIn (off := 403) (tgt := 465) hx hb dL_law_62 (by decide) (by decide) (by decide) (by decide) ?_
    exact L_9 l hx hb hml hown hts hX hbl hbA hK hdd hw1 hw2 hN hLL hi hLI0 hl K
  · refine lv_tableIn (off := 466) (tgt := 528) hx hb dL_law_62 (by decide) (by decide) (by decide) (by decide) ?_
    exact L_10 l hx hb hml hown hts hX hbl hbA hK hdd hw1 hw2 hN hLL hi hLI0 hl K
  · refine lv_tableIn (off := 489) (tgt := 551) hx hb dL_law_62 (by decide) (by decide) (by decide) (by decide) ?_
    exact L_11 l hx hb hml hown hts hX hbl hbA hK hdd hw1 hw2 hN hLL hi hLI0 hl K
  · refine lv_tableIn (off := 540) (tgt := 602) hx hb dL_law_62 (by decide) (by decide) (by decide) (by decide) ?_
    exact L_12 l hx hb hml hown hts hX hbl hbA hK hdd hw1 hw2 hN hLL hi hLI0 hl K
  · refine lv_tableOut (tgt := 655) hx hb dL_law_62 (by decide) (by decide) ?_
    exact K S M1 np ns _ _ _ ⟨hP1, hC.mono, hP2, hS⟩ hl
  · refine lv_tableOut (tgt := 655) hx hb dL_law_62 (by decide) (by decide) ?_
    exact K S M1 np ns _ _ _ ⟨hP1, hC.mono, hP2, hS⟩ hl
  · refine lv_tableOut (tgt := 655) hx hb dL_law_62 (by decide) (by decide) ?_
    exact K S M1 np ns _ _ _ ⟨hP1, hC.mono, hP2, hS⟩ hl
set_option maxHeartbeats 4000000 in
set_option maxRecDepth 100000 in
/-- the law's loop -/
theorem law_loop {p : Program} {e : Env} {s : State} {m : MethodId} {below : List Frame} {meth : Method} {c : Code} (l : Launch) {b L : Nat} {xs : Nat → Int32} {D : va_G} {cs : Nat → ClassId} {h0 dd ww : Nat} (hx : p.tables.exec = Jvm.exec) (hb : c.code = cL_law) (hml : c.maxLocals = 8) (hown : s.vm.findClass RL = some m.cls) (hts : ∀ w ∈ wsL_law, w.before #[Value.ref b] s = true) (hX : va_X b L xs s s.heap) (hbl : b < s.heap.size) (hbA : ¬ Ge h0 b) (hK : va_K D vwCl (tysC cs) s) (hdd : dd ≤ 4) (hw1 : 1 ≤ ww) (hw2 : ww ≤ 8) (hr : meth.sig.returnType = ret) (hlocks : meth.locks = false) (hh : h0 = s.heap.size) (hLL : L ≤ 2051) : ∀ (n N : Nat) (S : SS) (M1 : Nat → va_E) (np ns : UInt32) (H : Heap) (locs : List Loc) (ls : Array Slot), L ≤ 3 + 4 * N + n → N ≤ 515 → LI D cs h0 dd ww N S M1 np ns s H locs → lv_has ls 8 [(0, .ref b), (1, .ref (a1 h0 0)), (2, .ref (a2 h0 0)), (3, .int (nI (3 + 4 * N)))] → W p l e room_1 s m #[Value.ref b] below meth c H locs 600000 7302250 (lw_Z below #[Value.ref b] s) (F0 m 48 ls []) := by
  intro n
  induction n with
  | zero =>
    intro N S M1 np ns H locs ls hn hN hLI hl
    have hS := hLI.2.2.2
    refine lv_iload_n hx hb dL_law_48 rfl (lv_at hl 3 rfl) ?_
    refine lv_aload_n hx hb dL_law_49 rfl (lv_at hl 0 rfl) ?_
    refine va_slen hx hb hX hbl hbA hS dL_law_50 ?_
    refine lv_iconst (v := nI 4) hx hb dL_law_51 (by decide) ?_
    refine lv_isub hx hb dL_law_52 ?_
    refine lv_icmp_gt (tgt := 661) hx hb dL_law_53 (by decide) (fun c1 => ?_) (fun c1 => absurd ((sub4 (L := L) (i := 3 + 4 * N) (by omega) (by omega)).mpr (by omega)) c1)
    refine lv_iconst (v := 1) hx hb dL_law_661 (by decide) ?_
    refine va_forget (fun q hq => by have := hS.2.2 q hq; rw [hh] at this; exact this) ?_
    exact lw_ret hx hb hr hlocks dL_law_662
  | succ n ih =>
    intro N S M1 np ns H locs ls hn hN hLI hl
    have hS := hLI.2.2.2
    refine lv_iload_n hx hb dL_law_48 rfl (lv_at hl 3 rfl) ?_
    refine lv_aload_n hx hb dL_law_49 rfl (lv_at hl 0 rfl) ?_
    refine va_slen hx hb hX hbl hbA hS dL_law_50 ?_
    refine lv_iconst (v := nI 4) hx hb dL_law_51 (by decide) ?_
    refine lv_isub hx hb dL_law_52 ?_
    refine lv_icmp_gt (tgt := 661) hx hb dL_law_53 (by decide) (fun c1 => ?_) (fun c1 => ?_)
    · refine lv_iconst (v := 1) hx hb dL_law_661 (by decide) ?_
      refine va_forget (fun q hq => by have := hS.2.2 q hq; rw [hh] at this; exact this) ?_
      exact lw_ret hx hb hr hlocks dL_law_662
    · have c2 : ¬ ((L : Int) - 4 < ((3 + 4 * N : Nat) : Int)) := fun z => c1 ((sub4 (L := L) (i := 3 + 4 * N) (by omega) (by omega)).mpr z)
      refine L_body l hx hb hml hown hts hX hbl hbA hK hdd hw1 hw2 (N := N) (i := 3 + 4 * N) (by omega) hLL (by omega) hLI hl (fun S' M' np' ns' H' locs' ls' hLI' hl' => ?_)
      refine lv_iinc (v := nI (3 + 4 * (N + 1))) (lv' := [(3, .int (nI (3 + 4 * (N + 1)))), (0, .ref b), (1, .ref (a1 h0 0)), (2, .ref (a2 h0 0))]) hx hb dL_law_655 hl' (k := 3) rfl (nI_add _ _) (by decide) rfl (fun ls hl => ?_)
      refine lv_goto (tgt := 48) hx hb dL_law_658 (by decide) ?_
      exact ih (N + 1) S' M' np' ns' H' locs' ls (by omega) (by omega) hLI' (lv_sub hl [1, 2, 3, 0] rfl)
