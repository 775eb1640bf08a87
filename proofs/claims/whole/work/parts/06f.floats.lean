/-! floats and doubles as whole numbers of their least units; what is bounded stays finite -/
/-- what a product of two data of a format rounds to -/
theorem fl_mul_units {f : FP.Core.Fmt} {s t : Bool} {c d : Nat} {q r : Int} (hx : FP.Core.fits f (.fin s c q)) (hy : FP.Core.fits f (.fin t d r)) (hq : f.qmin ≤ 0) :
    f.qmin + f.qmin ≤ q + r ∧ FP.Core.signed (s != t) (FP.Core.inUnits (c * d) (q + r) (f.qmin + f.qmin)) = FP.Core.zval f (.fin s c q) * FP.Core.zval f (.fin t d r) := by
  have h1 := hx.2.1
  have h2 := hy.2.1
  refine ⟨by omega, ?_⟩
  have hu : FP.Core.inUnits (c * d) (q + r) (f.qmin + f.qmin) = FP.Core.inUnits c q f.qmin * FP.Core.inUnits d r f.qmin := by
    unfold FP.Core.inUnits
    rw [show (q + r - (f.qmin + f.qmin)).toNat = (q - f.qmin).toNat + (r - f.qmin).toNat by omega, Nat.pow_add]
    ac_rfl
  rw [hu]
  simp only [FP.Core.zval, FP.Core.sgn, FP.Core.zmag]
  generalize FP.Core.inUnits c q f.qmin = a
  generalize FP.Core.inUnits d r f.qmin = b
  cases s <;> cases t <;> simp [FP.Core.signed, Int.neg_mul, Int.mul_neg]
theorem fl_mul_le {f : FP.Core.Fmt} (hf : FP.Core.Good f) {x y V : FP.Core.Datum} (hx : ∃ s c q, x = .fin s c q) (hy : ∃ s c q, y = .fin s c q) (fx : FP.Core.fits f x) (fy : FP.Core.fits f y) (fV : FP.Core.fits f V) (hV : V ≠ .nan)
    (h : FP.Core.zval f x * FP.Core.zval f y ≤ FP.Core.zval f V * ((2 ^ (-f.qmin).toNat : Nat) : Int)) : FP.Core.zval f (FP.Core.round f (FP.Core.exactProduct x y)) ≤ FP.Core.zval f V := by
  obtain ⟨s, c, q, rfl⟩ := hx
  obtain ⟨t, d, r, rfl⟩ := hy
  have hq := FP.Core.qmin_neg hf
  obtain ⟨h1, h2⟩ := fl_mul_units fx fy (by omega)
  refine FP.Core.zval_round_le hf fV hV (e0 := f.qmin + f.qmin) (by omega) h1 ?_
  rw [h2, show (f.qmin - (f.qmin + f.qmin)).toNat = (-f.qmin).toNat by omega]
  exact h
theorem fl_mul_ge {f : FP.Core.Fmt} (hf : FP.Core.Good f) {x y V : FP.Core.Datum} (hx : ∃ s c q, x = .fin s c q) (hy : ∃ s c q, y = .fin s c q) (fx : FP.Core.fits f x) (fy : FP.Core.fits f y) (fV : FP.Core.fits f V) (hV : V ≠ .nan)
    (h : FP.Core.zval f V * ((2 ^ (-f.qmin).toNat : Nat) : Int) ≤ FP.Core.zval f x * FP.Core.zval f y) : FP.Core.zval f V ≤ FP.Core.zval f (FP.Core.round f (FP.Core.exactProduct x y)) := by
  obtain ⟨s, c, q, rfl⟩ := hx
  obtain ⟨t, d, r, rfl⟩ := hy
  have hq := FP.Core.qmin_neg hf
  obtain ⟨h1, h2⟩ := fl_mul_units fx fy (by omega)
  refine FP.Core.zval_round_ge hf fV hV (e0 := f.qmin + f.qmin) (by omega) h1 ?_
  rw [h2, show (f.qmin - (f.qmin + f.qmin)).toNat = (-f.qmin).toNat by omega]
  exact h
/-- a rounded finite number within two numbers of the format is finite -/
theorem fl_fin {f : FP.Core.Fmt} (hf : FP.Core.Good f) {s : Bool} {c : Nat} {q : Int} {A V : FP.Core.Datum} (hA : ∃ s c q, A = .fin s c q) (hV : ∃ s c q, V = .fin s c q) (fA : FP.Core.fits f A) (fV : FP.Core.fits f V)
    (h1 : FP.Core.zval f A ≤ FP.Core.zval f (FP.Core.round f (.fin s c q))) (h2 : FP.Core.zval f (FP.Core.round f (.fin s c q)) ≤ FP.Core.zval f V) : ∃ s2 c2 q2, FP.Core.round f (.fin s c q) = .fin s2 c2 q2 := by
  rcases FP.Core.roundRatio_cases f s c 1 q with ⟨c', q', h⟩ | h
  · exact ⟨s, c', q', h⟩
  · exfalso
    obtain ⟨s1, c1, q1, rfl⟩ := hA
    obtain ⟨s2, c2, q2, rfl⟩ := hV
    have b1 := FP.Core.zmag_lt_top hf fA
    have b2 := FP.Core.zmag_lt_top hf fV
    have hR : FP.Core.round f (.fin s c q) = .inf s := h
    rw [hR] at h1 h2
    simp only [FP.Core.zval, FP.Core.sgn, FP.Core.zmag] at h1 h2
    generalize FP.Core.inUnits c1 q1 f.qmin = a at *
    generalize FP.Core.inUnits c2 q2 f.qmin = b at *
    generalize f.tails * 2 ^ (f.exps - 2) = T at *
    cases s <;> cases s1 <;> cases s2 <;> simp [FP.Core.signed] at h1 h2 <;> omega
/-- a float's value in units of 2^-149 -/
def zf (a : UInt32) : Int := FP.Core.zval FP.Core.b32 (FP.Core.val32 a)
/-- a double's value in units of 2^-1074 -/
def zd (a : UInt64) : Int := FP.Core.zval FP.Core.b64 (FP.Core.val64 a)
/-- finite, and between two numbers -/
def Fb (a : UInt32) (lo hi : Int) : Prop := FP.Core.FFin a ∧ lo ≤ zf a ∧ zf a ≤ hi
def Db (a : UInt64) (lo hi : Int) : Prop := FP.Core.DFin a ∧ lo ≤ zd a ∧ zd a ≤ hi
theorem Fb.wk {a : UInt32} {lo hi lo2 hi2 : Int} (h : Fb a lo hi) (h1 : lo2 ≤ lo) (h2 : hi ≤ hi2) : Fb a lo2 hi2 := ⟨h.1, Int.le_trans h1 h.2.1, Int.le_trans h.2.2 h2⟩
theorem Db.wk {a : UInt64} {lo hi lo2 hi2 : Int} (h : Db a lo hi) (h1 : lo2 ≤ lo) (h2 : hi ≤ hi2) : Db a lo2 hi2 := ⟨h.1, Int.le_trans h1 h.2.1, Int.le_trans h.2.2 h2⟩
theorem Fb.n {a : UInt32} {lo hi : Int} (h : Fb a lo hi) : vf_n32 a := by
  have h1 := (FP.Core.fin_bits32 a).mp h.1
  unfold vf_n32
  rw [UInt32.le_iff_toNat_le, FP.Core.mask_toNat32]
  exact Nat.le_of_lt h1
theorem Db.n {a : UInt64} {lo hi : Int} (h : Db a lo hi) : vf_n64 a := by
  have h1 := (FP.Core.fin_bits a).mp h.1
  unfold vf_n64
  rw [UInt64.le_iff_toNat_le, FP.Core.mask_toNat]
  exact Nat.le_of_lt h1
theorem Fb_add {a b A V : UInt32} {l1 h1 l2 h2 lo hi : Int} (ha : Fb a l1 h1) (hb : Fb b l2 h2) (hA : Fb A lo lo) (hV : Fb V hi hi) (p1 : lo ≤ l1 + l2) (p2 : h1 + h2 ≤ hi) : Fb (FP.fadd a b) lo hi := by
  have q1 := FP.Core.sum_ge FP.Core.good_b32 ha.1 hb.1 (FP.Core.val32_fits a) (FP.Core.val32_fits b) (FP.Core.val32_fits A) hA.1.ne_nan (show zf A ≤ zf a + zf b by have := ha.2; have := hb.2; have := hA.2; omega)
  have q2 := FP.Core.sum_le FP.Core.good_b32 ha.1 hb.1 (FP.Core.val32_fits a) (FP.Core.val32_fits b) (FP.Core.val32_fits V) hV.1.ne_nan (show zf a + zf b ≤ zf V by have := ha.2; have := hb.2; have := hV.2; omega)
  have hv : FP.Core.val32 (FP.fadd a b) = FP.Core.round FP.Core.b32 (FP.Core.exactSum (FP.Core.val32 a) (FP.Core.val32 b)) := FP.Core.val32_fadd a b
  obtain ⟨s, c, q, e1⟩ := ha.1
  obtain ⟨t, d, r, e2⟩ := hb.1
  have hfin : FP.Core.FFin (FP.fadd a b) := by
    have g1 := q1
    have g2 := q2
    rw [e1, e2] at g1 g2
    obtain ⟨s2, c2, q3, h⟩ := fl_fin FP.Core.good_b32 hA.1 hV.1 (FP.Core.val32_fits A) (FP.Core.val32_fits V) g1 g2
    exact ⟨s2, c2, q3, by rw [hv, e1, e2]; exact h⟩
  refine ⟨hfin, ?_, ?_⟩
  · show lo ≤ FP.Core.zval _ _
    rw [hv]; exact Int.le_trans hA.2.1 q1
  · show FP.Core.zval _ _ ≤ hi
    rw [hv]; exact Int.le_trans q2 hV.2.2
theorem Fb_neg {a : UInt32} {lo hi : Int} (ha : Fb a lo hi) : Fb (FP.fneg a) (-hi) (-lo) := by
  have hv := FP.val32_fneg a
  obtain ⟨s, c, q, e1⟩ := ha.1
  have hz : zf (FP.fneg a) = - zf a := by
    show FP.Core.zval _ _ = - FP.Core.zval _ _
    rw [hv, FP.Core.zval_negate]
  refine ⟨⟨!s, c, q, by rw [hv, e1]; rfl⟩, ?_, ?_⟩ <;> rw [hz] <;> have := ha.2 <;> omega
theorem Fb_sub {a b A V : UInt32} {l1 h1 l2 h2 lo hi : Int} (ha : Fb a l1 h1) (hb : Fb b l2 h2) (hA : Fb A lo lo) (hV : Fb V hi hi) (p1 : lo ≤ l1 - h2) (p2 : h1 - l2 ≤ hi) : Fb (FP.fsub a b) lo hi := by
  have hn : FP.Core.fIsNaN b = false := hb.1.notNaN
  have h := Fb_add ha (Fb_neg hb) hA hV (by omega) (by omega)
  rw [FP.fneg_core hn] at h
  have e : FP.fsub a b = FP.fadd a (FP.Core.fneg b) := FP.Core.fsub_eq a b
  rw [e]; exact h
theorem Fb_mul {a b A V : UInt32} {lo hi : Int} (ha : FP.Core.FFin a) (hb : FP.Core.FFin b) (hA : Fb A lo lo) (hV : Fb V hi hi) (p1 : lo * 2 ^ 149 ≤ zf a * zf b) (p2 : zf a * zf b ≤ hi * 2 ^ 149) : Fb (FP.fmul a b) lo hi := by
  have hu : (((2 ^ (-FP.Core.b32.qmin).toNat : Nat)) : Int) = 2 ^ 149 := by decide +kernel
  have hA2 : zf A = lo := by have := hA.2; omega
  have hV2 : zf V = hi := by have := hV.2; omega
  have q1 := fl_mul_ge FP.Core.good_b32 ha hb (FP.Core.val32_fits a) (FP.Core.val32_fits b) (FP.Core.val32_fits A) hA.1.ne_nan (by rw [hu]; show zf A * _ ≤ zf a * zf b; rw [hA2]; exact p1)
  have q2 := fl_mul_le FP.Core.good_b32 ha hb (FP.Core.val32_fits a) (FP.Core.val32_fits b) (FP.Core.val32_fits V) hV.1.ne_nan (by rw [hu]; show zf a * zf b ≤ zf V * _; rw [hV2]; exact p2)
  have hv : FP.Core.val32 (FP.fmul a b) = FP.Core.round FP.Core.b32 (FP.Core.exactProduct (FP.Core.val32 a) (FP.Core.val32 b)) := FP.Core.val32_fmul a b
  obtain ⟨s, c, q, e1⟩ := ha
  obtain ⟨t, d, r, e2⟩ := hb
  have hfin : FP.Core.FFin (FP.fmul a b) := by
    have g1 := q1
    have g2 := q2
    rw [e1, e2] at g1 g2
    obtain ⟨s2, c2, q3, h⟩ := fl_fin FP.Core.good_b32 hA.1 hV.1 (FP.Core.val32_fits A) (FP.Core.val32_fits V) g1 g2
    exact ⟨s2, c2, q3, by rw [hv, e1, e2]; exact h⟩
  refine ⟨hfin, ?_, ?_⟩
  · show lo ≤ FP.Core.zval _ _
    rw [hv]; exact Int.le_trans hA.2.1 q1
  · show FP.Core.zval _ _ ≤ hi
    rw [hv]; exact Int.le_trans q2 hV.2.2
theorem Db_add {a b A V : UInt64} {l1 h1 l2 h2 lo hi : Int} (ha : Db a l1 h1) (hb : Db b l2 h2) (hA : Db A lo lo) (hV : Db V hi hi) (p1 : lo ≤ l1 + l2) (p2 : h1 + h2 ≤ hi) : Db (FP.dadd a b) lo hi := by
  have q1 := FP.Core.sum_ge FP.Core.good_b64 ha.1 hb.1 (FP.Core.val64_fits a) (FP.Core.val64_fits b) (FP.Core.val64_fits A) hA.1.ne_nan (show zd A ≤ zd a + zd b by have := ha.2; have := hb.2; have := hA.2; omega)
  have q2 := FP.Core.sum_le FP.Core.good_b64 ha.1 hb.1 (FP.Core.val64_fits a) (FP.Core.val64_fits b) (FP.Core.val64_fits V) hV.1.ne_nan (show zd a + zd b ≤ zd V by have := ha.2; have := hb.2; have := hV.2; omega)
  have hv : FP.Core.val64 (FP.dadd a b) = FP.Core.round FP.Core.b64 (FP.Core.exactSum (FP.Core.val64 a) (FP.Core.val64 b)) := FP.Core.val64_dadd a b
  obtain ⟨s, c, q, e1⟩ := ha.1
  obtain ⟨t, d, r, e2⟩ := hb.1
  have hfin : FP.Core.DFin (FP.dadd a b) := by
    have g1 := q1
    have g2 := q2
    rw [e1, e2] at g1 g2
    obtain ⟨s2, c2, q3, h⟩ := fl_fin FP.Core.good_b64 hA.1 hV.1 (FP.Core.val64_fits A) (FP.Core.val64_fits V) g1 g2
    exact ⟨s2, c2, q3, by rw [hv, e1, e2]; exact h⟩
  refine ⟨hfin, ?_, ?_⟩
  · show lo ≤ FP.Core.zval _ _
    rw [hv]; exact Int.le_trans hA.2.1 q1
  · show FP.Core.zval _ _ ≤ hi
    rw [hv]; exact Int.le_trans q2 hV.2.2
theorem Db_mul {a b A V : UInt64} {lo hi : Int} (ha : FP.Core.DFin a) (hb : FP.Core.DFin b) (hA : Db A lo lo) (hV : Db V hi hi) (p1 : lo * 2 ^ 1074 ≤ zd a * zd b) (p2 : zd a * zd b ≤ hi * 2 ^ 1074) : Db (FP.dmul a b) lo hi := by
  have hu : (((2 ^ (-FP.Core.b64.qmin).toNat : Nat)) : Int) = 2 ^ 1074 := by decide +kernel
  have hA2 : zd A = lo := by have := hA.2; omega
  have hV2 : zd V = hi := by have := hV.2; omega
  have q1 := fl_mul_ge FP.Core.good_b64 ha hb (FP.Core.val64_fits a) (FP.Core.val64_fits b) (FP.Core.val64_fits A) hA.1.ne_nan (by rw [hu]; show zd A * _ ≤ zd a * zd b; rw [hA2]; exact p1)
  have q2 := fl_mul_le FP.Core.good_b64 ha hb (FP.Core.val64_fits a) (FP.Core.val64_fits b) (FP.Core.val64_fits V) hV.1.ne_nan (by rw [hu]; show zd a * zd b ≤ zd V * _; rw [hV2]; exact p2)
  have hv : FP.Core.val64 (FP.dmul a b) = FP.Core.round FP.Core.b64 (FP.Core.exactProduct (FP.Core.val64 a) (FP.Core.val64 b)) := FP.Core.val64_dmul a b
  obtain ⟨s, c, q, e1⟩ := ha
  obtain ⟨t, d, r, e2⟩ := hb
  have hfin : FP.Core.DFin (FP.dmul a b) := by
    have g1 := q1
    have g2 := q2
    rw [e1, e2] at g1 g2
    obtain ⟨s2, c2, q3, h⟩ := fl_fin FP.Core.good_b64 hA.1 hV.1 (FP.Core.val64_fits A) (FP.Core.val64_fits V) g1 g2
    exact ⟨s2, c2, q3, by rw [hv, e1, e2]; exact h⟩
  refine ⟨hfin, ?_, ?_⟩
  · show lo ≤ FP.Core.zval _ _
    rw [hv]; exact Int.le_trans hA.2.1 q1
  · show FP.Core.zval _ _ ≤ hi
    rw [hv]; exact Int.le_trans q2 hV.2.2
theorem Db_f2d {a : UInt32} {A V : UInt64} {lo hi L U : Int} (ha : Fb a L U) (hA : Db A lo lo) (hV : Db V hi hi) (p1 : lo ≤ L * 2 ^ 925) (p2 : U * 2 ^ 925 ≤ hi) : Db (FP.f2d a) lo hi := by
  have hn : FP.Core.fIsNaN a = false := ha.1.notNaN
  have hv : FP.Core.val64 (FP.f2d a) = FP.Core.round FP.Core.b64 (FP.Core.val32 a) := by rw [FP.f2d_core hn]; exact FP.Core.val64_f2d a
  have hfit := FP.Core.val32_fits a
  obtain ⟨hf, hl, hh⟩ := ha
  obtain ⟨s, c, q, e1⟩ := hf
  rw [e1] at hfit
  have hq : FP.Core.b32.qmin ≤ q := hfit.2.1
  have h32 : FP.Core.b32.qmin = -149 := by decide +kernel
  have h64 : FP.Core.b64.qmin = -1074 := by decide +kernel
  have hz : FP.Core.signed s (FP.Core.inUnits c q FP.Core.b64.qmin) = zf a * 2 ^ 925 := by
    unfold zf
    rw [e1]
    simp only [FP.Core.zval, FP.Core.sgn, FP.Core.zmag]
    have hu : FP.Core.inUnits c q FP.Core.b64.qmin = FP.Core.inUnits c q FP.Core.b32.qmin * 2 ^ 925 := by
      unfold FP.Core.inUnits
      rw [h32, h64, show (q - -1074).toNat = (q - -149).toNat + 925 by omega, Nat.pow_add, Nat.mul_assoc]
    rw [hu, FP.Core.signed_mul]
    rfl
  have hA2 : zd A = lo := by have := hA.2; omega
  have hV2 : zd V = hi := by have := hV.2; omega
  have q1 := FP.Core.zval_round_ge FP.Core.good_b64 (s := s) (c := c) (q := q) (e0 := FP.Core.b64.qmin) (FP.Core.val64_fits A) hA.1.ne_nan (Int.le_refl _) (by omega) (by
    rw [Int.sub_self, hz]; show zd A * ((1 : Nat) : Int) ≤ _; rw [hA2]; have := Int.mul_le_mul_of_nonneg_right hl (show (0 : Int) ≤ 2 ^ 925 by decide +kernel); omega)
  have q2 := FP.Core.zval_round_le FP.Core.good_b64 (s := s) (c := c) (q := q) (e0 := FP.Core.b64.qmin) (FP.Core.val64_fits V) hV.1.ne_nan (Int.le_refl _) (by omega) (by
    rw [Int.sub_self, hz]; show _ ≤ zd V * ((1 : Nat) : Int); rw [hV2]; have := Int.mul_le_mul_of_nonneg_right hh (show (0 : Int) ≤ 2 ^ 925 by decide +kernel); omega)
  rw [← e1, ← hv] at q1 q2
  have hfin : FP.Core.DFin (FP.f2d a) := by
    have := FP.Core.f2d_fin ⟨s, c, q, e1⟩
    rw [FP.f2d_core hn]; exact this
  exact ⟨hfin, Int.le_trans hA.2.1 q1, Int.le_trans q2 hV.2.2⟩
