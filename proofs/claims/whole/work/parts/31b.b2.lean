theorem b_outer (c : ClassId) (N h0 : Nat) : ∀ i : Nat, Jvm.Free.Multi.outerC c N h0 i = arrV c N (fun j => va_rf (if j < i then some (h0 + 1 + j) else none))
  | 0 => by
    show ({ cls := c, slots := Array.replicate N .null, vm := .none } : Cell) = _
    rw [arrV_new]
    refine congrArg (arrV c N) (funext fun j => ?_)
    simp [va_rf]
  | i + 1 => by
    show (Jvm.Free.Multi.outerC c N h0 i).setSlot i (.ref (h0 + 1 + i)) = _
    rw [b_outer c N h0 i, arrV_store]
    refine congrArg (arrV c N) (funext fun j => ?_)
    by_cases e : j = i
    · subst e
      simp [updV, va_rf]
    · by_cases h : j < i
      · simp [updV, e, h, Nat.lt_succ_of_lt h]
      · simp [updV, e, h, show ¬ j < i + 1 by omega]
section RBM
variable {p : Program} {l : Launch} {e : Env} {R : Room} {s : State} {m : MethodId} {args : Array Value} {below : List Frame} {meth : Method} {c : Code} {H : Heap} {locs : List Loc} {cells slots : Nat} {Q : State → Prop}
variable {cc : ByteArray} {pc : Nat} {ls : Array Slot} {rest st0 : List Value} {D : va_G} {cs : Nat → ClassId} {ad : Nat → Nat} {b n : Nat} {M : Nat → va_E} {H0 : Heap} {own : String} {index : Nat}
theorem b_mna (hx : p.tables.exec = Jvm.exec) (hb : c.code = cc) (hown : s.vm.findClass own = some m.cls) (hclink : (Cond.classLink own index ("[" ++ (FieldType.array .byte).toString)).before args s = true) (hover : va_AA s) (harr : (Cond.arrayClass .byte).before args s = true) (hab : ∀ k, ad k = b + k) (hK : va_K D vwCl (tysC cs) s) (hP : va_P D vwCl (sg ad n M) H) (hz : H.size = b + n) (hS : va_S (Ge b) H0 H locs) (hcells : cells + (1 + 2) ≤ R.cells) (hslots : slots + (2 + 2 * 16) ≤ R.slots) (hdg : decode cc pc = .ok (.multianewarray index 2, 4))
    (kk : ∀ (H1 : Heap), va_P D vwCl (sg ad (n + 3) (va_up (va_up (va_up M n (eQ cs 10 2 (fun i => if i < 2 then some (ad (n + 1 + i)) else none))) (n + 1) (eB cs 16 (fun _ => 0))) (n + 1 + 1) (eB cs 16 (fun _ => 0)))) H1 → va_S (Ge b) H0 H1 locs → H1.size = b + (n + 3) → W p l e R s m args below meth c H1 locs (cells + (1 + 2)) (slots + (2 + 2 * 16)) Q (F0 m (pc + 4) ls (.ref (ad n) :: rest))) : W p l e R s m args below meth c H locs cells slots Q (F0 m pc ls (.int (nI 16) :: .int (nI 2) :: rest)) := by
  intro T hT Xs
  have c2 : (nI 2).toNatClampNeg = 2 := nI_clamp (by decide)
  have c16 : (nI 16).toNatClampNeg = 16 := nI_clamp (by decide)
  obtain ⟨vm₁, cA, comp, -, fA, fC, hO, -, X', step⟩ := Xs.multianewarray2F hx hown hclink (show (Cond.arrayOver (.array .byte)).before args s = true from hover) harr (g := F0 m pc ls (.int (nI 16) :: .int (nI 2) :: rest)) rfl (by rw [hb]; exact hdg) rfl (nI_pos (by decide)) (nI_pos (by decide)) (by rw [c2]; decide) (by rw [c16]; decide) (by rw [c16]; decide) rfl rfl (by rw [c2]; exact hcells) (by rw [c2, c16]; exact hslots)
  rw [c2, c16] at X' step
  have ec : comp = cs 1 := Option.some.inj (fC.symm.trans (hK.2 1 _ rfl).2)
  have eA : cA = cs 10 := Option.some.inj (fA.symm.trans (hK.2 10 _ rfl).2)
  subst ec
  subst eA
  generalize hF : Jvm.Free.Multi.fill (T.setVm vm₁) (cs 10) (cs 1) 2 16 (defaultValue .byte) 2 = F at X' step
  have hTh : (T.setVm vm₁).heap = H := hT
  obtain ⟨f1, f2, -, -⟩ := Jvm.Free.Multi.fill_facts (T.setVm vm₁) (cs 10) (cs 1) 2 16 (defaultValue .byte) 2
  rw [hF, hTh] at f1 f2
  have hold : ∀ x : Nat, x < H.size → F.heap[x]? = H[x]? := fun x hx9 => by
    have := Jvm.Free.Multi.fill_old (T.setVm vm₁) (cs 10) (cs 1) 2 16 (defaultValue .byte) (a := x) (by rw [hTh]; exact hx9) 2
    rw [hF, hTh] at this
    exact this
  have hrow : ∀ j : Nat, j < 2 → F.heap[H.size + 1 + j]? = some (arrV (cs 1) 16 (fun _ => defaultValue .byte)) := fun j hj => by
    have := Jvm.Free.Multi.fill_inner (T.setVm vm₁) (cs 10) (cs 1) 2 16 (defaultValue .byte) 2 j hj
    rw [hF, hTh] at this
    rw [this, ← arrV_new]
    rfl
  rw [b_outer] at f2
  have ea : ∀ j, ad (n + j) = H.size + j := fun j => by rw [hab, hz]; omega
  have hP3 : va_P D vwCl (sg ad (n + 3) (va_up (va_up (va_up M n (eQ cs 10 2 (fun i => if i < 2 then some (ad (n + 1 + i)) else none))) (n + 1) (eB cs 16 (fun _ => 0))) (n + 1 + 1) (eB cs 16 (fun _ => 0)))) F.heap := by
    refine sg_P.mpr (fun k hk => ?_)
    by_cases h2 : k = n + 1 + 1
    · subst h2
      rw [va_up_self]
      show F.heap[ad (n + 1 + 1)]? = some (vp_cell _ _)
      rw [vp_cell_i, show ad (n + 1 + 1) = H.size + 1 + 1 by rw [hab, hz]; omega]
      exact hrow 1 (by decide)
    · rw [va_up_ne _ _ h2]
      by_cases h1 : k = n + 1
      · subst h1
        rw [va_up_self]
        show F.heap[ad (n + 1)]? = some (vp_cell _ _)
        rw [vp_cell_i, show ad (n + 1) = H.size + 1 + 0 by rw [hab, hz]; omega]
        exact hrow 0 (by decide)
      · rw [va_up_ne _ _ h1]
        by_cases h0 : k = n
        · subst h0
          rw [va_up_self]
          show F.heap[ad k]? = some (vp_cell _ _)
          rw [vp_cell_q, show ad k = H.size by rw [hab, hz], f2]
          congr 2
          funext j
          by_cases hj : j < 2
          · rw [if_pos hj, if_pos hj, show ad (k + 1 + j) = H.size + 1 + j by rw [hab, hz]; omega]
          · rw [if_neg hj, if_neg hj]
        · rw [va_up_ne _ _ h0]
          have h9 := sg_P.mp hP k (by omega)
          exact h9.kept (hold _ h9.lt)
  have h9 := kk F.heap hP3 ⟨Nat.le_trans hS.1 (by omega), fun x h1 h2 => (hold x (Nat.lt_of_lt_of_le h1 hS.1)).trans (hS.2.1 x h1 h2), hS.2.2⟩ (by omega)
  obtain ⟨t2, a1, b1⟩ := h9 F rfl X'
  refine ⟨t2, step _ ?_, b1⟩
  have e0 : ad n = (T.setVm vm₁).heap.size := by rw [hTh, hab, hz]
  rw [e0] at a1
  exact a1
end RBM
