theorem d2f_nn {x : UInt64} (h : FP.dIsNaN x = false) : FP.fIsNaN (FP.d2f x) = false := by rw [FP.d2f_nan]; exact h
theorem d2f_ne {x : UInt64} (h : FP.dIsNaN x = false) : FP.Core.val32 (FP.d2f x) ≠ .nan := (FP.Core.notNaN_iff32 _).mp (d2f_nn h)
theorem inf_or_fin {x : UInt64} (h : FP.dIsNaN x = false) : fin64 x ∨ x = 9218868437227405312 ∨ x = 18442240474082181120 := by
  have h1 := (FP.Core.ne_nan x).mp ((FP.Core.notNaN_iff x).mp h)
  have hl := x.toNat_lt
  unfold fin64
  by_cases h2 : x.toNat % 9223372036854775808 < 9218868437227405312
  · exact Or.inl h2
  · right
    by_cases h3 : x.toNat < 9223372036854775808
    · left; apply UInt64.toNat_inj.mp; show x.toNat = 9218868437227405312; omega
    · right; apply UInt64.toNat_inj.mp; show x.toNat = 18442240474082181120; omega
theorem dgt_iff {x y : UInt64} (hx : FP.Core.val64 x ≠ .nan) (hy : FP.Core.val64 y ≠ .nan) : dGt x y ↔ FP.Core.zval FP.Core.b64 (FP.Core.val64 y) < FP.Core.zval FP.Core.b64 (FP.Core.val64 x) := by
  show FP.Core.dcmp x y = some .gt ↔ _
  rw [FP.Core.dcmp_gt]
  exact ⟨fun h => h.2.2, fun h => ⟨hx, hy, h⟩⟩
theorem dlt_iff' {x y : UInt64} (hx : FP.Core.val64 x ≠ .nan) (hy : FP.Core.val64 y ≠ .nan) : dLt x y ↔ FP.Core.zval FP.Core.b64 (FP.Core.val64 x) < FP.Core.zval FP.Core.b64 (FP.Core.val64 y) := by
  show FP.Core.dcmp x y = some .lt ↔ _
  rw [FP.Core.dcmp_lt]
  exact ⟨fun h => h.2.2, fun h => ⟨hx, hy, h⟩⟩
theorem fgt_iff {x y : UInt32} (hx : FP.Core.val32 x ≠ .nan) (hy : FP.Core.val32 y ≠ .nan) : fGt x y ↔ FP.Core.zval FP.Core.b32 (FP.Core.val32 y) < FP.Core.zval FP.Core.b32 (FP.Core.val32 x) := by
  show FP.Core.fcmp x y = some .gt ↔ _
  rw [FP.Core.fcmp_gt]
  exact ⟨fun h => h.2.2, fun h => ⟨hx, hy, h⟩⟩
theorem flt_iff {x y : UInt32} (hx : FP.Core.val32 x ≠ .nan) (hy : FP.Core.val32 y ≠ .nan) : fLt x y ↔ FP.Core.zval FP.Core.b32 (FP.Core.val32 x) < FP.Core.zval FP.Core.b32 (FP.Core.val32 y) := by
  show FP.Core.fcmp x y = some .lt ↔ _
  rw [FP.Core.fcmp_lt]
  exact ⟨fun h => h.2.2, fun h => ⟨hx, hy, h⟩⟩
theorem feq_bits {x y : UInt32} (hx : FP.Core.val32 x ≠ .nan) (hy : FP.Core.val32 y ≠ .nan) (hz : y.toNat % 2147483648 ≠ 0) (h : FP.Core.zval FP.Core.b32 (FP.Core.val32 x) = FP.Core.zval FP.Core.b32 (FP.Core.val32 y)) : x = y :=
  FP.Core.eq_bits32 (fun q => hz ((FP.Core.zero_bits232 y).mp q)) (FP.Core.fcmp_eq.mpr ⟨hx, hy, h⟩)
theorem un32_pos : 0 < (un32 2139095039 : Int) := by decide +kernel
/-- the reference's way to hold a number, and the class's -/
def heldm (x : UInt64) : UInt64 := if fGt (FP.d2f x) fMX then dMX else if fLt (FP.d2f x) fNX then dNX else FP.f2d (FP.d2f x)
theorem heldm_eq {x : UInt64} (h : FP.dIsNaN x = false) : heldm x = FP.f2d (heldf x) := by
  rcases inf_or_fin h with hf | rfl | rfl
  · have nx := fin64_ne hf
    have nf := d2f_ne h
    have hp := un32_pos
    unfold heldm heldf
    by_cases h1 : dGt x dMX
    · rw [if_pos h1, f2d_MX]
      have z1 := (dgt_iff nx nn_dMX).mp h1
      rw [zv_MX] at z1
      have z2 := d2f_ge hf nn_fMX (Int.le_of_lt z1)
      by_cases h2 : fGt (FP.d2f x) fMX
      · rw [if_pos h2]
      · rw [if_neg h2]
        have h3 : ¬ FP.Core.zval FP.Core.b32 (FP.Core.val32 fMX) < FP.Core.zval FP.Core.b32 (FP.Core.val32 (FP.d2f x)) := fun q => h2 ((fgt_iff nf nn_fMX).mpr q)
        have e : FP.d2f x = fMX := feq_bits nf nn_fMX (by decide) (by omega)
        rw [e, if_neg, f2d_MX]
        intro q
        have := (flt_iff nn_fMX nn_fNX).mp q
        rw [zf_MX, zf_NX] at this
        omega
    · rw [if_neg h1]
      have z1 : FP.Core.zval FP.Core.b64 (FP.Core.val64 x) ≤ FP.Core.zval FP.Core.b64 (FP.Core.val64 dMX) := Int.not_lt.mp fun q => h1 ((dgt_iff nx nn_dMX).mpr q)
      rw [zv_MX] at z1
      have z2 := d2f_le hf nn_fMX z1
      have h2 : ¬ fGt (FP.d2f x) fMX := fun q => by have := (fgt_iff nf nn_fMX).mp q; omega
      rw [if_neg h2]
      by_cases h3 : dLt x dNX
      · rw [if_pos h3, f2d_NX]
        have y1 := (dlt_iff' nx nn_dNX).mp h3
        rw [zv_NX] at y1
        have y2 := d2f_le hf nn_fNX (Int.le_of_lt y1)
        by_cases h4 : fLt (FP.d2f x) fNX
        · rw [if_pos h4]
        · rw [if_neg h4]
          have h5 : ¬ FP.Core.zval FP.Core.b32 (FP.Core.val32 (FP.d2f x)) < FP.Core.zval FP.Core.b32 (FP.Core.val32 fNX) := fun q => h4 ((flt_iff nf nn_fNX).mpr q)
          have e : FP.d2f x = fNX := feq_bits nf nn_fNX (by decide) (by omega)
          rw [e, f2d_NX]
      · rw [if_neg h3]
        have y1 : FP.Core.zval FP.Core.b64 (FP.Core.val64 dNX) ≤ FP.Core.zval FP.Core.b64 (FP.Core.val64 x) := Int.not_lt.mp fun q => h3 ((dlt_iff' nx nn_dNX).mpr q)
        rw [zv_NX] at y1
        have y2 := d2f_ge hf nn_fNX y1
        have h4 : ¬ fLt (FP.d2f x) fNX := fun q => by have := (flt_iff nf nn_fNX).mp q; omega
        rw [if_neg h4]
  · decide +kernel
  · decide +kernel
theorem fin32_of {y : UInt32} (hn : FP.Core.val32 y ≠ .nan) (h1 : FP.Core.zval FP.Core.b32 (FP.Core.val32 y) ≤ (un32 2139095039 : Int)) (h2 : -(un32 2139095039 : Int) ≤ FP.Core.zval FP.Core.b32 (FP.Core.val32 y)) : fin32 y := by
  have hz := FP.Core.zmag_toNat32 hn
  have hm : FP.Core.zmag FP.Core.b32 (FP.Core.val32 y) ≤ un32 2139095039 := by
    unfold FP.Core.zval at h1 h2
    generalize FP.Core.sgn (FP.Core.val32 y) = sg at h1 h2
    generalize FP.Core.zmag FP.Core.b32 (FP.Core.val32 y) = z at h1 h2 ⊢
    generalize un32 2139095039 = u at h1 h2 ⊢
    cases sg with
    | false => have h1 : (z : Int) ≤ (u : Int) := h1; omega
    | true => have h2 : -(u : Int) ≤ -(z : Int) := h2; omega
  rw [hz] at hm
  unfold fin32
  have := (FP.Core.unitsOf_le_iff (f := FP.Core.b32)).mp hm
  exact Nat.lt_of_le_of_lt this (by decide)
theorem heldf_fin {x : UInt64} (h : FP.dIsNaN x = false) : fin32 (heldf x) := by
  rcases inf_or_fin h with hf | rfl | rfl
  · have nx := fin64_ne hf
    have nf := d2f_ne h
    unfold heldf
    by_cases h1 : dGt x dMX
    · rw [if_pos h1]; decide
    · rw [if_neg h1]
      by_cases h3 : dLt x dNX
      · rw [if_pos h3]; decide
      · rw [if_neg h3]
        have z1 : FP.Core.zval FP.Core.b64 (FP.Core.val64 x) ≤ FP.Core.zval FP.Core.b64 (FP.Core.val64 dMX) := Int.not_lt.mp fun q => h1 ((dgt_iff nx nn_dMX).mpr q)
        rw [zv_MX] at z1
        have z2 := d2f_le hf nn_fMX z1
        have y1 : FP.Core.zval FP.Core.b64 (FP.Core.val64 dNX) ≤ FP.Core.zval FP.Core.b64 (FP.Core.val64 x) := Int.not_lt.mp fun q => h3 ((dlt_iff' nx nn_dNX).mpr q)
        rw [zv_NX] at y1
        have y2 := d2f_ge hf nn_fNX y1
        rw [zf_MX] at z2
        rw [zf_NX] at y2
        exact fin32_of nf z2 y2
  · decide +kernel
  · decide +kernel
/-- a finite float cut to a long, as it is and as a double -/
theorem f2l_d2l {x : UInt32} (h : fin32 x) : FP.d2l (FP.f2d x) = FP.f2l x := by
  have hd := fin_f2d h
  obtain ⟨p1, p2⟩ := f2d_parts h
  have n32 := ((fin32_iff x).mpr h).ne_nan
  apply Int64.toInt_inj.mp
  rw [show FP.d2l (FP.f2d x) = FP.Core.d2l (FP.f2d x) from rfl, show FP.f2l x = FP.Core.f2l x from rfl, FP.Core.d2l_val (fin64_ne hd), FP.Core.f2l_val n32]
  have e1 : FP.Core.sgn (FP.Core.val64 (FP.f2d x)) = FP.Core.sgn (FP.Core.val32 x) := by
    rw [FP.Core.sgn_bits (fin64_ne hd), FP.Core.sgn_bits32 n32]
    exact decide_eq_decide.mpr p1
  have e2 : FP.Core.zmag FP.Core.b64 (FP.Core.val64 (FP.f2d x)) / FP.Core.one64 = FP.Core.zmag FP.Core.b32 (FP.Core.val32 x) / FP.Core.one32 := by
    rw [zmg_eq hd, p2, FP.Core.zmag_toNat32 n32]
    unfold FP.Core.one64 FP.Core.one32
    rw [show (2 : Nat) ^ 1074 = 2 ^ 149 * 2 ^ 925 by rw [← Nat.pow_add], Nat.mul_div_mul_right _ _ (Nat.two_pow_pos 925)]
  rw [e1, e2]
/-- no NaN comes of finite numbers -/
theorem nn_mul {x y : UInt64} (hx : fin64 x) (hy : fin64 y) : FP.dIsNaN (FP.dmul x y) = false := FP.Core.dmul_out ((fin64_iff x).mpr hx) ((fin64_iff y).mpr hy)
theorem nn_add {x y : UInt64} (hx : fin64 x) (hy : fin64 y) : FP.dIsNaN (FP.dadd x y) = false := FP.Core.dadd_out (fin64_nn hx) ((fin64_iff y).mpr hy)
theorem nn_sub {x y : UInt64} (hx : fin64 x) (hy : fin64 y) : FP.dIsNaN (FP.dsub x y) = false := FP.Core.dsub_out (fin64_nn hx) ((fin64_iff y).mpr hy)
theorem nn_div {x y : UInt64} (hx : fin64 x) (hy : fin64 y) (h : 0 < zmg y) : FP.dIsNaN (FP.ddiv x y) = false := FP.Core.ddiv_out (fin64_nn hx) ((fin64_iff y).mpr hy) (fun q => by have := dzero_iff.mp q; omega)
theorem nn_rem {x y : UInt64} (hx : fin64 x) (hy : fin64 y) (h : 0 < zmg y) : FP.dIsNaN (FP.drem x y) = false := fin64_nn (drem_facts hx hy h).1
