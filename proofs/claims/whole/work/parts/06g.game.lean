/-! the game's step, in floats; e8: an eighth as a float's whole number, e1: one as a double's -/
def e8 : Int := 2 ^ 146
def e1 : Int := 2 ^ 1074
theorem Fc {K : UInt32} {z : Int} (h1 : K.toNat % 2 ^ 31 < 2139095040) (h2 : zf K = z) : Fb K z z := ⟨(FP.Core.fin_bits32 K).mpr h1, Int.le_of_eq h2.symm, Int.le_of_eq h2⟩
theorem Dc {K : UInt64} {z : Int} (h1 : K.toNat % 2 ^ 63 < 9218868437227405312) (h2 : zd K = z) : Db K z z := ⟨(FP.Core.fin_bits K).mpr h1, Int.le_of_eq h2.symm, Int.le_of_eq h2⟩
theorem Fc_7_8 : Fb 1063256064 (7 * e8) (7 * e8) := Fc (by decide) (by decide +kernel)
theorem Fc_35 : Fb 1080033280 (28 * e8) (28 * e8) := Fc (by decide) (by decide +kernel)
theorem Fc_35n : Fb 3227516928 (-(28 * e8)) (-(28 * e8)) := Fc (by decide) (by decide +kernel)
theorem Fc_4 : Fb 1082130432 (32 * e8) (32 * e8) := Fc (by decide) (by decide +kernel)
theorem Fc_4n : Fb 3229614080 (-(32 * e8)) (-(32 * e8)) := Fc (by decide) (by decide +kernel)
theorem Fc_h : Fb 1056964608 (4 * e8) (4 * e8) := Fc (by decide) (by decide +kernel)
theorem Fc_hn : Fb 3204448256 (-(4 * e8)) (-(4 * e8)) := Fc (by decide) (by decide +kernel)
theorem Fc_37 : Fb 1108606976 (296 * e8) (296 * e8) := Fc (by decide) (by decide +kernel)
theorem Fc_5n : Fb 3231711232 (-(40 * e8)) (-(40 * e8)) := Fc (by decide) (by decide +kernel)
theorem Fc_32 : Fb 1107296256 (256 * e8) (256 * e8) := Fc (by decide) (by decide +kernel)
theorem Fc_32n : Fb 3254779904 (-(256 * e8)) (-(256 * e8)) := Fc (by decide) (by decide +kernel)
theorem Fc_64 : Fb 1115684864 (512 * e8) (512 * e8) := Fc (by decide) (by decide +kernel)
theorem Fc_0 : Fb 0 0 0 := Fc (by decide) (by decide +kernel)
theorem Fc_1 : Fb 1065353216 (8 * e8) (8 * e8) := Fc (by decide) (by decide +kernel)
theorem Fc_1n : Fb 3212836864 (-(8 * e8)) (-(8 * e8)) := Fc (by decide) (by decide +kernel)
theorem Fc_315 : Fb 1107034112 (252 * e8) (252 * e8) := Fc (by decide) (by decide +kernel)
theorem Fc_325 : Fb 1107427328 (260 * e8) (260 * e8) := Fc (by decide) (by decide +kernel)
theorem Fc_27 : Fb 1104674816 (216 * e8) (216 * e8) := Fc (by decide) (by decide +kernel)
theorem Fc_03 : Fb 1050253722 0 (4 * e8) := ⟨(FP.Core.fin_bits32 _).mpr (by decide), by decide +kernel, by decide +kernel⟩
theorem Dc_4 : Db 4616189618054758400 (4 * e1) (4 * e1) := Dc (by decide) (by decide +kernel)
theorem Dc_4n : Db 13839561654909534208 (-(4 * e1)) (-(4 * e1)) := Dc (by decide) (by decide +kernel)
theorem Dc_16 : Db 4625196817309499392 (16 * e1) (16 * e1) := Dc (by decide) (by decide +kernel)
theorem Dc_16n : Db 13848568854164275200 (-(16 * e1)) (-(16 * e1)) := Dc (by decide) (by decide +kernel)
theorem Dc_32 : Db 4629700416936869888 (32 * e1) (32 * e1) := Dc (by decide) (by decide +kernel)
theorem Dc_32n : Db 13853072453791645696 (-(32 * e1)) (-(32 * e1)) := Dc (by decide) (by decide +kernel)
/-- a product's bounds out of those of its factors' sizes -/
theorem ab_mul {x y a b : Int} (hx1 : -a ≤ x) (hx2 : x ≤ a) (hy1 : -b ≤ y) (hy2 : y ≤ b) : -(a * b) ≤ x * y ∧ x * y ≤ a * b := by
  have h : (x * y).natAbs ≤ (a * b).natAbs := by
    rw [Int.natAbs_mul, Int.natAbs_mul]
    exact Nat.mul_le_mul (by omega) (by omega)
  have h0 : 0 ≤ a * b := Int.mul_nonneg (by omega) (by omega)
  omega
/-- a factor within a, another within b, and a number V of the format at least their product: the product is within V -/
theorem Fb_mulS {x y A V : UInt32} {a b v : Int} (hx : Fb x (-a) a) (hy : Fb y (-b) b) (hA : Fb A (-v) (-v)) (hV : Fb V v v) (h : a * b ≤ v * 2 ^ 149) : Fb (FP.fmul x y) (-v) v := by
  have := ab_mul hx.2.1 hx.2.2 hy.2.1 hy.2.2
  refine Fb_mul hx.1 hy.1 hA hV ?_ ?_
  · rw [Int.neg_mul]; omega
  · omega
theorem Db_mulS {x y A V : UInt64} {a b v : Int} (hx : Db x (-a) a) (hy : Db y (-b) b) (hA : Db A (-v) (-v)) (hV : Db V v v) (h : a * b ≤ v * 2 ^ 1074) : Db (FP.dmul x y) (-v) v := by
  have := ab_mul hx.2.1 hx.2.2 hy.2.1 hy.2.2
  refine Db_mul hx.1 hy.1 hA hV ?_ ?_
  · rw [Int.neg_mul]; omega
  · omega
theorem cg_lt {o : Option Ordering} (h : ¬ 0 ≤ Op.cmpValue o .g) : o = some .lt := by
  cases o with
  | none => exact absurd (by decide) h
  | some o => cases o <;> first | rfl | exact absurd (by decide) h
theorem cg_ge {o : Option Ordering} (h : 0 ≤ Op.cmpValue o .g) : o ≠ some .lt := by
  intro e; rw [e] at h; exact absurd h (by decide)
theorem cl_gt {o : Option Ordering} (h : ¬ Op.cmpValue o .l ≤ 0) : o = some .gt := by
  cases o with
  | none => exact absurd (by decide) h
  | some o => cases o <;> first | rfl | exact absurd (by decide) h
theorem cl_le {o : Option Ordering} (h : Op.cmpValue o .l ≤ 0) : o ≠ some .gt := by
  intro e; rw [e] at h; exact absurd h (by decide)
theorem fc_z {a b : UInt32} (ha : FP.Core.FFin a) (hb : FP.Core.FFin b) : FP.fcmp a b = some (compare (zf a) (zf b)) := FP.Core.fcmp_zval ha.ne_nan hb.ne_nan
theorem fc_lt {a b : UInt32} (ha : FP.Core.FFin a) (hb : FP.Core.FFin b) : FP.fcmp a b = some .lt ↔ zf a < zf b := by
  rw [fc_z ha hb, Option.some.injEq, Int.compare_eq_lt]
theorem fc_gt {a b : UInt32} (ha : FP.Core.FFin a) (hb : FP.Core.FFin b) : FP.fcmp a b = some .gt ↔ zf b < zf a := by
  rw [fc_z ha hb, Option.some.injEq, Int.compare_eq_gt]
/-- the push of an input -/
def psh (i : Int32) : UInt32 := if (i &&& nI 1 = nI 1 ↔ i &&& nI 2 = nI 2) then FP.fconst0 else if i &&& nI 2 = nI 2 then FP.fconst1 else 3212836864
/-- the speed, with its push, ahead of the brake -/
def mvV (v : UInt32) (i : Int32) : UInt32 := FP.fadd (FP.fmul v 1063256064) (FP.fmul (psh i) 1050253722)
def mvS (v : UInt32) (i : Int32) : UInt32 := if i &&& nI 4 = nI 4 then FP.fmul (mvV v i) 1056964608 else mvV v i
/-- place and speed of a player behind a frame, ahead of a hit -/
def mv (x v : UInt32) (i : Int32) : UInt32 × UInt32 :=
  if ¬ 0 ≤ Op.cmpValue (FP.fcmp (FP.fadd x (mvS v i)) FP.fconst0) .g then (FP.fneg (FP.fadd x (mvS v i)), FP.fmul (FP.fneg (mvS v i)) 1056964608)
  else if ¬ Op.cmpValue (FP.fcmp (FP.fadd x (mvS v i)) 1107296256) .l ≤ 0 then (FP.fsub 1115684864 (FP.fadd x (mvS v i)), FP.fmul (FP.fneg (mvS v i)) 1056964608)
  else (FP.fadd x (mvS v i), mvS v i)
theorem psh_b (i : Int32) : Fb (psh i) (-(8 * e8)) (8 * e8) := by
  unfold psh
  split
  · exact (show Fb FP.fconst0 0 0 from Fc_0).wk (by decide +kernel) (by decide +kernel)
  · split
    · exact (show Fb FP.fconst1 _ _ from Fc_1).wk (by decide +kernel) (by decide +kernel)
    · exact Fc_1n.wk (by decide +kernel) (by decide +kernel)
theorem mv_1 {v : UInt32} (hv : Fb v (-(32 * e8)) (32 * e8)) : Fb (FP.fmul v 1063256064) (-(28 * e8)) (28 * e8) :=
  Fb_mulS hv (Fc_7_8.wk (lo2 := -(7 * e8)) (hi2 := 7 * e8) (by decide +kernel) (by decide +kernel)) Fc_35n Fc_35 (by decide +kernel)
theorem mv_2 (i : Int32) : Fb (FP.fmul (psh i) 1050253722) (-(4 * e8)) (4 * e8) :=
  Fb_mulS (psh_b i) (Fc_03.wk (lo2 := -(4 * e8)) (hi2 := 4 * e8) (by decide +kernel) (by decide +kernel)) Fc_hn Fc_h (by decide +kernel)
theorem mv_3 {v : UInt32} (hv : Fb v (-(32 * e8)) (32 * e8)) (i : Int32) : Fb (mvV v i) (-(32 * e8)) (32 * e8) :=
  Fb_add (mv_1 hv) (mv_2 i) Fc_4n Fc_4 (by omega) (by omega)
theorem mv_h {v : UInt32} (hv : Fb v (-(32 * e8)) (32 * e8)) : Fb (FP.fmul v 1056964608) (-(32 * e8)) (32 * e8) :=
  Fb_mulS hv (Fc_h.wk (lo2 := -(4 * e8)) (hi2 := 4 * e8) (by decide +kernel) (by decide +kernel)) Fc_4n Fc_4 (by decide +kernel)
theorem mv_4 {v : UInt32} (hv : Fb v (-(32 * e8)) (32 * e8)) (i : Int32) : Fb (mvS v i) (-(32 * e8)) (32 * e8) := by
  unfold mvS
  split
  · exact mv_h (mv_3 hv i)
  · exact mv_3 hv i
theorem mv_5 {v : UInt32} (hv : Fb v (-(32 * e8)) (32 * e8)) : Fb (FP.fmul (FP.fneg v) 1056964608) (-(32 * e8)) (32 * e8) :=
  mv_h ((Fb_neg hv).wk (by omega) (by omega))
theorem mv_x {x v : UInt32} (hx : Fb x (-(8 * e8)) (264 * e8)) (hv : Fb v (-(32 * e8)) (32 * e8)) : Fb (FP.fadd x v) (-(40 * e8)) (296 * e8) :=
  Fb_add hx hv Fc_5n Fc_37 (by omega) (by omega)
theorem mv_64 {x : UInt32} (hx : Fb x (-(40 * e8)) (296 * e8)) (h : 256 * e8 < zf x) : Fb (FP.fsub 1115684864 x) (216 * e8) (256 * e8) :=
  Fb_sub Fc_64 (⟨hx.1, Int.le_of_lt h, hx.2.2⟩ : Fb x (256 * e8) (296 * e8)) Fc_27 Fc_32 (by omega) (by omega)
theorem e8_pos : 0 < e8 := by decide +kernel
theorem mv_gt {x : UInt32} (hx : FP.Core.FFin x) (h : ¬ Op.cmpValue (FP.fcmp x 1107296256) .l ≤ 0) : 256 * e8 < zf x := by
  have h1 := (fc_gt hx Fc_32.1).mp (cl_gt h)
  have := Fc_32.2
  omega
theorem mv_b {x v : UInt32} (hx : Fb x (-(8 * e8)) (264 * e8)) (hv : Fb v (-(32 * e8)) (32 * e8)) (i : Int32) : Fb (mv x v i).1 0 (256 * e8) ∧ Fb (mv x v i).2 (-(32 * e8)) (32 * e8) := by
  have h4 := mv_4 hv i
  have hX := mv_x hx h4
  have e0 := e8_pos
  have z0 : zf FP.fconst0 = 0 := by decide +kernel
  have z32 : zf 1107296256 = 256 * e8 := by decide +kernel
  unfold mv
  split
  · rename_i h
    have h1 := (fc_lt hX.1 Fc_0.1).mp (cg_lt h)
    have h2 : zf (FP.fadd x (mvS v i)) < zf FP.fconst0 := h1
    have h3 := Fb_neg (⟨hX.1, hX.2.1, by omega⟩ : Fb (FP.fadd x (mvS v i)) (-(40 * e8)) 0)
    exact ⟨h3.wk (by omega) (by omega), mv_5 h4⟩
  · rename_i h
    have h1 : ¬ zf (FP.fadd x (mvS v i)) < zf FP.fconst0 := fun q => cg_ge (Classical.byContradiction h) ((fc_lt hX.1 Fc_0.1).mpr q)
    split
    · rename_i h5
      exact ⟨(mv_64 hX (mv_gt hX.1 h5)).wk (by omega) (Int.le_refl _), mv_5 h4⟩
    · rename_i h5
      have h6 : ¬ zf 1107296256 < zf (FP.fadd x (mvS v i)) := fun q => cl_le (Classical.byContradiction h5) ((fc_gt hX.1 Fc_32.1).mpr q)
      exact ⟨(⟨hX.1, by omega, by omega⟩ : Fb (FP.fadd x (mvS v i)) 0 (256 * e8)), h4⟩
/-- the two are nearer than 1 -/
abbrev hitP (A B : UInt32 × UInt32) : Prop := ¬ 0 ≤ Op.cmpValue (FP.fcmp (FP.fsub B.1 A.1) FP.fconst1) .g
def mid (A B : UInt32 × UInt32) : UInt32 := FP.fmul (FP.fadd A.1 B.1) 1056964608
def st_x (A B : UInt32 × UInt32) : UInt32 := if hitP A B then FP.fsub (mid A B) 1056964608 else A.1
def st_s (A B : UInt32 × UInt32) : UInt32 := if hitP A B then B.2 else A.2
def st_y (A B : UInt32 × UInt32) : UInt32 := if hitP A B then FP.fadd (mid A B) 1056964608 else B.1
def st_t (A B : UInt32 × UInt32) : UInt32 := if hitP A B then A.2 else B.2
def st_m (A B : UInt32 × UInt32) : Int32 := if hitP A B then nI 1 else nI 0
def st_w (A B : UInt32 × UInt32) (wk : UInt64) : UInt64 := FP.dadd wk (FP.dadd (FP.dmul (FP.f2d (st_s A B)) (FP.f2d (st_s A B))) (FP.dmul (FP.f2d (st_t A B)) (FP.f2d (st_t A B))))
theorem pl_1 {x y : UInt32} (hx : Fb x 0 (256 * e8)) (hy : Fb y 0 (256 * e8)) : Fb (FP.fsub y x) (-(256 * e8)) (256 * e8) :=
  Fb_sub hy hx Fc_32n Fc_32 (by omega) (by omega)
theorem pl_2 {x y : UInt32} (hx : Fb x 0 (256 * e8)) (hy : Fb y 0 (256 * e8)) : Fb (FP.fadd x y) 0 (512 * e8) :=
  Fb_add hx hy Fc_0 Fc_64 (by omega) (by omega)
theorem pl_3 {x : UInt32} (hx : Fb x 0 (512 * e8)) : Fb (FP.fmul x 1056964608) 0 (256 * e8) := by
  have e0 := e8_pos
  have hz : zf 1056964608 = 4 * e8 := by decide +kernel
  refine Fb_mul hx.1 Fc_h.1 Fc_0 Fc_32 ?_ ?_
  · rw [hz]
    have := Int.mul_nonneg hx.2.1 (show (0 : Int) ≤ 4 * e8 by omega)
    omega
  · rw [hz]
    have := Int.mul_le_mul_of_nonneg_right hx.2.2 (show (0 : Int) ≤ 4 * e8 by omega)
    have h2 : 512 * e8 * (4 * e8) = 256 * e8 * 2 ^ 149 := by decide +kernel
    omega
theorem pl_4 {x : UInt32} (hx : Fb x 0 (256 * e8)) : Fb (FP.fsub x 1056964608) (-(4 * e8)) (252 * e8) :=
  Fb_sub hx Fc_h Fc_hn Fc_315 (by omega) (by omega)
theorem pl_5 {x : UInt32} (hx : Fb x 0 (256 * e8)) : Fb (FP.fadd x 1056964608) (4 * e8) (260 * e8) :=
  Fb_add hx Fc_h Fc_h Fc_325 (by omega) (by omega)
theorem wk_1 {x : UInt32} (hx : Fb x (-(32 * e8)) (32 * e8)) : Db (FP.f2d x) (-(4 * e1)) (4 * e1) :=
  Db_f2d hx Dc_4n Dc_4 (by decide +kernel) (by decide +kernel)
theorem wk_2 {x : UInt64} (hx : Db x (-(4 * e1)) (4 * e1)) : Db (FP.dmul x x) (-(16 * e1)) (16 * e1) :=
  Db_mulS hx hx Dc_16n Dc_16 (by decide +kernel)
theorem wk_3 {x y : UInt64} (hx : Db x (-(16 * e1)) (16 * e1)) (hy : Db y (-(16 * e1)) (16 * e1)) : Db (FP.dadd x y) (-(32 * e1)) (32 * e1) :=
  Db_add hx hy Dc_32n Dc_32 (by omega) (by omega)
theorem Dc_i (v : Int32) : Db (FP.i2d v) (v.toInt * e1) (v.toInt * e1) := by
  have h : zd (FP.i2d v) = v.toInt * e1 := by
    have h1 := FP.Core.DInt_zval (FP.Core.i2d_int v)
    have h2 : ((FP.Core.one64 : Nat) : Int) = e1 := by decide +kernel
    rw [h2] at h1
    exact h1
  exact ⟨FP.Core.i2d_fin v, Int.le_of_eq h.symm, Int.le_of_eq h⟩
theorem wk_4 {wk z : UInt64} {k : Nat} (hk : k ≤ 1000000) (hw : Db wk (-(32 * (k : Int) * e1)) (32 * (k : Int) * e1)) (hz : Db z (-(32 * e1)) (32 * e1)) : Db (FP.dadd wk z) (-(32 * ((k + 1 : Nat) : Int) * e1)) (32 * ((k + 1 : Nat) : Int) * e1) := by
  have h1 := Dc_i (nI (32 * (k + 1)))
  rw [nI_toInt (by omega)] at h1
  have h2 := Dc_i (Int32.ofInt (-(32 * (k + 1) : Nat)))
  rw [Int32.toInt_ofInt_of_le (by omega) (by omega)] at h2
  have e2 : (((32 * (k + 1) : Nat) : Int)) * e1 = 32 * ((k + 1 : Nat) : Int) * e1 := by push_cast; rfl
  have e3 : (-(((32 * (k + 1) : Nat) : Int))) * e1 = -(32 * ((k + 1 : Nat) : Int) * e1) := by rw [Int.neg_mul, e2]
  rw [e2] at h1
  rw [e3] at h2
  have e4 : 32 * ((k + 1 : Nat) : Int) * e1 = 32 * (k : Int) * e1 + 32 * e1 := by push_cast; rw [Int.mul_add, Int.add_mul]; rfl
  exact Db_add hw hz h2 h1 (by omega) (by omega)
/-- a state within its bounds, behind k frames -/
def Bd (x v y t : UInt32) (wk : UInt64) (k : Nat) : Prop := Fb x (-(8 * e8)) (264 * e8) ∧ Fb v (-(32 * e8)) (32 * e8) ∧ Fb y (-(8 * e8)) (264 * e8) ∧ Fb t (-(32 * e8)) (32 * e8) ∧ Db wk (-(32 * (k : Int) * e1)) (32 * (k : Int) * e1)
theorem st_b {x v y t : UInt32} {wk : UInt64} {k : Nat} (hk : k ≤ 1000000) (h : Bd x v y t wk k) (a b : Int32) :
    Bd (st_x (mv x v a) (mv y t b)) (st_s (mv x v a) (mv y t b)) (st_y (mv x v a) (mv y t b)) (st_t (mv x v a) (mv y t b)) (st_w (mv x v a) (mv y t b) wk) (k + 1) := by
  obtain ⟨h1, h2, h3, h4, h5⟩ := h
  obtain ⟨a1, a2⟩ := mv_b h1 h2 a
  obtain ⟨b1, b2⟩ := mv_b h3 h4 b
  have e0 := e8_pos
  have hs : Fb (st_s (mv x v a) (mv y t b)) (-(32 * e8)) (32 * e8) := by unfold st_s; split <;> assumption
  have ht : Fb (st_t (mv x v a) (mv y t b)) (-(32 * e8)) (32 * e8) := by unfold st_t; split <;> assumption
  refine ⟨?_, hs, ?_, ht, wk_4 hk h5 (wk_3 (wk_2 (wk_1 hs)) (wk_2 (wk_1 ht)))⟩
  · unfold st_x
    split
    · exact (pl_4 (pl_3 (pl_2 a1 b1))).wk (by omega) (by omega)
    · exact a1.wk (by omega) (by omega)
  · unfold st_y
    split
    · exact (pl_5 (pl_3 (pl_2 a1 b1))).wk (by omega) (by omega)
    · exact b1.wk (by omega) (by omega)
/-- advice: a float within 2^33 stays so -/
theorem Fc_a : Fb 1342177280 (2 ^ 36 * e8) (2 ^ 36 * e8) := Fc (by decide) (by decide +kernel)
theorem Fc_an : Fb 3489660928 (-(2 ^ 36 * e8)) (-(2 ^ 36 * e8)) := Fc (by decide) (by decide +kernel)
theorem Fc_b : Fb 1337982976 (3 * 2 ^ 34 * e8) (3 * 2 ^ 34 * e8) := Fc (by decide) (by decide +kernel)
theorem Fc_bn : Fb 3485466624 (-(3 * 2 ^ 34 * e8)) (-(3 * 2 ^ 34 * e8)) := Fc (by decide) (by decide +kernel)
theorem Fc_c : Fb 1325400064 (2 ^ 34 * e8) (2 ^ 34 * e8) := Fc (by decide) (by decide +kernel)
theorem Fc_cn : Fb 3472883712 (-(2 ^ 34 * e8)) (-(2 ^ 34 * e8)) := Fc (by decide) (by decide +kernel)
theorem Fc_75 : Fb 1061158912 (6 * e8) (6 * e8) := Fc (by decide) (by decide +kernel)
theorem Fc_25 : Fb 1048576000 (2 * e8) (2 * e8) := Fc (by decide) (by decide +kernel)
theorem i2f_b (v : Int32) : Fb (FP.i2f v) (-(2 ^ 36 * e8)) (2 ^ 36 * e8) := by
  obtain ⟨s, c, q, h1, h2⟩ := FP.Core.mag_bits32 (FP.Core.i2f_mag v) (by decide)
  have hz : zf (FP.i2f v) = FP.Core.signed s (c * 2 ^ (q - FP.Core.b32.qmin).toNat) := by
    show FP.Core.zval _ (FP.Core.val32 (FP.Core.i2f v)) = _
    rw [h1]; rfl
  have hu : ((2 ^ 23 * 2 ^ (160 - 1) : Nat) : Int) = 2 ^ 36 * e8 := by decide +kernel
  generalize c * 2 ^ (q - FP.Core.b32.qmin).toNat = X at *
  refine ⟨⟨s, c, q, h1⟩, ?_, ?_⟩ <;> rw [hz] <;> cases s <;> simp only [FP.Core.signed, if_true, Bool.false_eq_true, if_false] <;> omega
theorem av_1 {a : UInt32} (ha : Fb a (-(2 ^ 36 * e8)) (2 ^ 36 * e8)) : Fb (FP.fmul a 1061158912) (-(3 * 2 ^ 34 * e8)) (3 * 2 ^ 34 * e8) :=
  Fb_mulS ha (Fc_75.wk (lo2 := -(6 * e8)) (hi2 := 6 * e8) (by decide +kernel) (by decide +kernel)) Fc_bn Fc_b (by decide +kernel)
theorem av_2 {a : UInt32} (ha : Fb a (-(2 ^ 36 * e8)) (2 ^ 36 * e8)) : Fb (FP.fmul 1048576000 a) (-(2 ^ 34 * e8)) (2 ^ 34 * e8) :=
  Fb_mulS (Fc_25.wk (lo2 := -(2 * e8)) (hi2 := 2 * e8) (by decide +kernel) (by decide +kernel)) ha Fc_cn Fc_c (by decide +kernel)
theorem av_3 {a b : UInt32} (ha : Fb a (-(2 ^ 36 * e8)) (2 ^ 36 * e8)) (hb : Fb b (-(2 ^ 36 * e8)) (2 ^ 36 * e8)) : Fb (FP.fadd (FP.fmul a 1061158912) (FP.fmul 1048576000 b)) (-(2 ^ 36 * e8)) (2 ^ 36 * e8) :=
  Fb_add (av_1 ha) (av_2 hb) Fc_an Fc_a (by omega) (by omega)
/-- finite factors: no NaN -/
theorem fm_n {a b : UInt32} (ha : FP.Core.FFin a) (hb : FP.Core.FFin b) : vf_n32 (FP.fmul a b) := by
  have h := FP.Core.fmul_out ha hb
  have h1 := (FP.Core.ne_nan32 _).mp ((FP.Core.notNaN_iff32 _).mp h)
  unfold vf_n32
  rw [UInt32.le_iff_toNat_le, FP.Core.mask_toNat32]
  exact h1
theorem dm_n {a b : UInt64} (ha : FP.Core.DFin a) (hb : FP.Core.DFin b) : vf_n64 (FP.dmul a b) := by
  have h := FP.Core.dmul_out ha hb
  have h1 := (FP.Core.ne_nan _).mp ((FP.Core.notNaN_iff _).mp h)
  unfold vf_n64
  rw [UInt64.le_iff_toNat_le, FP.Core.mask_toNat]
  exact h1
theorem mv_e1 {x v : UInt32} {i : Int32} (h : ¬ 0 ≤ Op.cmpValue (FP.fcmp (FP.fadd x (mvS v i)) FP.fconst0) .g) : mv x v i = (FP.fneg (FP.fadd x (mvS v i)), FP.fmul (FP.fneg (mvS v i)) 1056964608) := if_pos h
theorem mv_e2 {x v : UInt32} {i : Int32} (h : 0 ≤ Op.cmpValue (FP.fcmp (FP.fadd x (mvS v i)) FP.fconst0) .g) (h2 : ¬ Op.cmpValue (FP.fcmp (FP.fadd x (mvS v i)) 1107296256) .l ≤ 0) : mv x v i = (FP.fsub 1115684864 (FP.fadd x (mvS v i)), FP.fmul (FP.fneg (mvS v i)) 1056964608) := by
  unfold mv; rw [if_neg (fun q => q h), if_pos h2]
theorem mv_e3 {x v : UInt32} {i : Int32} (h : 0 ≤ Op.cmpValue (FP.fcmp (FP.fadd x (mvS v i)) FP.fconst0) .g) (h2 : Op.cmpValue (FP.fcmp (FP.fadd x (mvS v i)) 1107296256) .l ≤ 0) : mv x v i = (FP.fadd x (mvS v i), mvS v i) := by
  unfold mv; rw [if_neg (fun q => q h), if_neg (fun q => q h2)]
theorem st_hit {A B : UInt32 × UInt32} (h : hitP A B) : st_x A B = FP.fsub (mid A B) 1056964608 ∧ st_s A B = B.2 ∧ st_y A B = FP.fadd (mid A B) 1056964608 ∧ st_t A B = A.2 ∧ st_m A B = nI 1 := ⟨if_pos h, if_pos h, if_pos h, if_pos h, if_pos h⟩
theorem st_no {A B : UInt32 × UInt32} (h : ¬ hitP A B) : st_x A B = A.1 ∧ st_s A B = A.2 ∧ st_y A B = B.1 ∧ st_t A B = B.2 ∧ st_m A B = nI 0 := ⟨if_neg h, if_neg h, if_neg h, if_neg h, if_neg h⟩
section RJN
variable {p : Program} {l : Launch} {e : Env} {R : Room} {s : State} {m : MethodId} {args : Array Value} {below : List Frame} {meth : Method} {c : Code} {H : Heap} {locs : List Loc} {cells slots : Nat} {Q : State → Prop}
/-- two ways meet at pc2: the way behind it is walked once -/
theorem jn {α : Type} (C : α → Array Slot → Prop) (pc2 : Nat) (sf : α → List Value) {g : JFrame} (J : ∀ (a : α) (ls : Array Slot), C a ls → W p l e R s m args below meth c H locs cells slots Q (F0 m pc2 ls (sf a))) (k : (∀ (a : α) (ls : Array Slot), C a ls → W p l e R s m args below meth c H locs cells slots Q (F0 m pc2 ls (sf a))) → W p l e R s m args below meth c H locs cells slots Q g) : W p l e R s m args below meth c H locs cells slots Q g := k J
theorem jnH {α : Type} (C : α → Array Slot → Heap → List Loc → Prop) (pc2 : Nat) (sf : α → List Value) {g : JFrame} (J : ∀ (a : α) (ls : Array Slot) (H : Heap) (locs : List Loc), C a ls H locs → W p l e R s m args below meth c H locs cells slots Q (F0 m pc2 ls (sf a))) (k : (∀ (a : α) (ls : Array Slot) (H : Heap) (locs : List Loc), C a ls H locs → W p l e R s m args below meth c H locs cells slots Q (F0 m pc2 ls (sf a))) → W p l e R s m args below meth c H locs cells slots Q g) : W p l e R s m args below meth c H locs cells slots Q g := k J
end RJN
