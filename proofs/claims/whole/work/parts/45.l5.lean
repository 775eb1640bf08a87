/-! the law's loop: two worlds, and the script -/
abbrev a1 (h0 : Nat) : Nat → Nat := fun k => h0 + k
abbrev a2 (h0 : Nat) : Nat → Nat := fun k => h0 + 146 + k
def LI (D : va_G) (cs : Nat → ClassId) (h0 dd ww N : Nat) (S : SS) (M1 : Nat → va_E) (np ns : UInt32) (s : State) (H : Heap) (locs : List Loc) : Prop :=
  va_P D vwCl (sg (a1 h0) 146 M1) H ∧ CR dd ww N (a1 h0) cs M1 S ∧ va_P D vwCl (sg (a2 h0) 26 (mm (a2 h0) cs (nI dd) (nI ww) S np ns)) H ∧ va_S (Ge h0) s.heap H locs
theorem a1_J (h0 n : Nat) : Inj (a1 h0) n := fun i j _ _ e => by have e : h0 + i = h0 + j := e; omega
theorem a2_J (h0 n : Nat) : Inj (a2 h0) n := fun i j _ _ e => by have e : h0 + 146 + i = h0 + 146 + j := e; omega
theorem a1_G {h0 n : Nat} : ∀ q, Ad (a1 h0) n q → Ge h0 q := fun q h => by obtain ⟨k, -, rfl⟩ := h; show h0 ≤ h0 + k; omega
theorem a2_G {h0 n : Nat} : ∀ q, Ad (a2 h0) n q → Ge h0 q := fun q h => by obtain ⟨k, -, rfl⟩ := h; show h0 ≤ h0 + 146 + k; omega
/-- a world stays where the heap changed only in the other one -/
theorem sg_apart {D : va_G} {ad ad2 : Nat → Nat} {n n2 : Nat} {M : Nat → va_E} {H H1 : Heap} (hP : va_P D vwCl (sg ad n M) H) (hf : ∀ q : Nat, q < H.size → ¬ Ad ad2 n2 q → H1[q]? = H[q]?) (hd : ∀ k j, k < n → j < n2 → ad k ≠ ad2 j) : va_P D vwCl (sg ad n M) H1 := by
  refine sg_P.mpr (fun k hk => ?_)
  have h0 := sg_P.mp hP k hk
  exact h0.kept (hf _ h0.lt (fun ⟨j, hj, e⟩ => hd k j hk hj e))
theorem a12 {h0 : Nat} : ∀ k j, k < 146 → j < 26 → a1 h0 k ≠ a2 h0 j := fun k j h1 h2 e => by have e : h0 + k = h0 + 146 + j := e; omega
theorem a21 {h0 : Nat} : ∀ k j, k < 26 → j < 146 → a2 h0 k ≠ a1 h0 j := fun k j h1 h2 e => by have e : h0 + 146 + k = h0 + j := e; omega
theorem and15 (x : Int32) : ∃ r : Nat, r < 16 ∧ x &&& nI 15 = nI r := by
  refine ⟨x.toBitVec.toNat % 16, Nat.mod_lt _ (by decide), ?_⟩
  rw [← Int32.toBitVec_inj]
  apply BitVec.eq_of_toNat_eq
  show (x.toBitVec &&& (15 : BitVec 32)).toNat = (BitVec.ofNat 32 (x.toBitVec.toNat % 16)).toNat
  rw [BitVec.toNat_and, BitVec.toNat_ofNat, show ((15 : BitVec 32)).toNat = 2 ^ 4 - 1 from rfl, Nat.and_two_pow_sub_one_eq_mod]
  omega
