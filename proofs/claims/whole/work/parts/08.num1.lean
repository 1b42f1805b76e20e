/-! numbers: a double that isn't below zero, by its whole number of 2^-1074 -/
abbrev fin64 (x : UInt64) : Prop := x.toNat % 9223372036854775808 < 9218868437227405312
abbrev fin32 (x : UInt32) : Prop := x.toNat % 2147483648 < 2139095040
theorem fin64_iff (x : UInt64) : FP.Core.DFin x ↔ fin64 x := FP.Core.fin_bits x
theorem fin32_iff (x : UInt32) : FP.Core.FFin x ↔ fin32 x := FP.Core.fin_bits32 x
theorem fin64_ne {x : UInt64} (h : fin64 x) : FP.Core.val64 x ≠ .nan := ((fin64_iff x).mpr h).ne_nan
theorem fin64_nn {x : UInt64} (h : fin64 x) : FP.dIsNaN x = false := ((fin64_iff x).mpr h).notNaN
theorem fin32_nn {x : UInt32} (h : fin32 x) : FP.fIsNaN x = false := ((fin32_iff x).mpr h).notNaN
theorem n64_of {r : UInt64} (h : FP.dIsNaN r = false) : vf_n64 r := by
  unfold vf_n64
  have h1 := (FP.Core.ne_nan r).mp ((FP.Core.notNaN_iff r).mp h)
  rw [UInt64.le_iff_toNat_le, FP.Core.mask_toNat]
  exact h1
theorem n32_of {r : UInt32} (h : FP.fIsNaN r = false) : vf_n32 r := by
  unfold vf_n32
  have h1 := (FP.Core.ne_nan32 r).mp ((FP.Core.notNaN_iff32 r).mp h)
  rw [UInt32.le_iff_toNat_le, FP.Core.mask_toNat32]
  exact h1
theorem n64_fin {r : UInt64} (h : fin64 r) : vf_n64 r := n64_of (fin64_nn h)
theorem n32_fin {r : UInt32} (h : fin32 r) : vf_n32 r := n32_of (fin32_nn h)
/-- the units of bits, in the two formats -/
abbrev un64 (m : Nat) : Nat := FP.Core.unitsOf FP.Core.b64 m
abbrev un32 (m : Nat) : Nat := FP.Core.unitsOf FP.Core.b32 m
theorem un64_lo {m : Nat} (h : m < 2 ^ 52) : un64 m = m := by
  unfold un64 FP.Core.unitsOf
  rw [FP.Core.tails_b64, if_pos h]
theorem un64_hi {m k : Nat} (h1 : 2 ^ 52 ≤ m) (h2 : m < 2 ^ 53) : un64 (k * 2 ^ 52 + m) = m * 2 ^ k := by
  unfold un64 FP.Core.unitsOf
  rw [FP.Core.tails_b64, if_neg (by omega)]
  have e1 : (k * 2 ^ 52 + m) / 2 ^ 52 - 1 = k := by omega
  have e2 : 2 ^ 52 + (k * 2 ^ 52 + m) % 2 ^ 52 = m := by omega
  rw [e1, e2]
theorem un32_lo {m : Nat} (h : m < 2 ^ 23) : un32 m = m := by
  unfold un32 FP.Core.unitsOf
  rw [FP.Core.tails_b32, if_pos h]
theorem un32_hi {m k : Nat} (h1 : 2 ^ 23 ≤ m) (h2 : m < 2 ^ 24) : un32 (k * 2 ^ 23 + m) = m * 2 ^ k := by
  unfold un32 FP.Core.unitsOf
  rw [FP.Core.tails_b32, if_neg (by omega)]
  have e1 : (k * 2 ^ 23 + m) / 2 ^ 23 - 1 = k := by omega
  have e2 : 2 ^ 23 + (k * 2 ^ 23 + m) % 2 ^ 23 = m := by omega
  rw [e1, e2]
theorem un64_inj {a b : Nat} (h : un64 a = un64 b) : a = b := by
  rcases Nat.lt_trichotomy a b with h1 | h1 | h1
  · exact absurd h (Nat.ne_of_lt (FP.Core.unitsOf_lt h1))
  · exact h1
  · exact absurd h.symm (Nat.ne_of_lt (FP.Core.unitsOf_lt h1))
theorem un32_inj {a b : Nat} (h : un32 a = un32 b) : a = b := by
  rcases Nat.lt_trichotomy a b with h1 | h1 | h1
  · exact absurd h (Nat.ne_of_lt (FP.Core.unitsOf_lt h1))
  · exact h1
  · exact absurd h.symm (Nat.ne_of_lt (FP.Core.unitsOf_lt h1))
/-- x is the number of z units -/
def P64 (x : UInt64) (z : Nat) : Prop := x.toNat < 9218868437227405312 ∧ un64 x.toNat = z
theorem P64.fin {x : UInt64} {z : Nat} (h : P64 x z) : fin64 x := by have := h.1; unfold fin64; omega
theorem P64.inj {x y : UInt64} {z : Nat} (h : P64 x z) (h' : P64 y z) : x = y := UInt64.toNat_inj.mp (un64_inj (h.2.trans h'.2.symm))
theorem P64.zmag {x : UInt64} {z : Nat} (h : P64 x z) : FP.Core.zmag FP.Core.b64 (FP.Core.val64 x) = z := by
  rw [FP.Core.zmag_bits (fin64_ne h.fin), Nat.mod_eq_of_lt (by have := h.1; omega)]
  exact h.2
theorem P64.zval {x : UInt64} {z : Nat} (h : P64 x z) : FP.Core.zval FP.Core.b64 (FP.Core.val64 x) = (z : Int) := by
  unfold FP.Core.zval
  rw [h.zmag, FP.Core.sgn_bits (fin64_ne h.fin), decide_eq_false (by have := h.1; omega)]
  rfl
theorem P64.cmp {x y : UInt64} {a b : Nat} (hx : P64 x a) (hy : P64 y b) : FP.dcmp x y = some (compare (a : Int) (b : Int)) := by
  show FP.Core.dcmp x y = _
  rw [FP.Core.dcmp_zval (fin64_ne hx.fin) (fin64_ne hy.fin), hx.zval, hy.zval]
theorem P64.lt {x y : UInt64} {a b : Nat} (hx : P64 x a) (hy : P64 y b) : dLt x y ↔ a < b := by
  unfold dLt; rw [hx.cmp hy, Option.some.injEq, FP.Core.compare_lt_iff]; omega
theorem P64.gt {x y : UInt64} {a b : Nat} (hx : P64 x a) (hy : P64 y b) : dGt x y ↔ b < a := by
  unfold dGt; rw [hx.cmp hy, Option.some.injEq, FP.Core.compare_gt_iff]; omega
theorem P64.eq {x y : UInt64} {a b : Nat} (hx : P64 x a) (hy : P64 y b) : dEq x y ↔ a = b := by
  unfold dEq; rw [hx.cmp hy, Option.some.injEq, FP.Core.compare_eq_iff]; omega
theorem P64.ge {x y : UInt64} {a b : Nat} (hx : P64 x a) (hy : P64 y b) : dGe x y ↔ b ≤ a := by
  have h1 := hx.gt hy; have h2 := hx.eq hy
  unfold dGe; unfold dGt at h1; unfold dEq at h2
  rw [h1, h2]; omega
theorem P64.le {x y : UInt64} {a b : Nat} (hx : P64 x a) (hy : P64 y b) : dLe x y ↔ a ≤ b := by
  have h1 := hx.lt hy; have h2 := hx.eq hy
  unfold dLe; unfold dLt at h1; unfold dEq at h2
  rw [h1, h2]; omega
/-- whole numbers of units that a double can be -/
def Rep (z : Nat) : Prop := ∃ m, m < 9218868437227405312 ∧ un64 m = z
theorem Rep.of {c j : Nat} (hc : c < 2 ^ 53) (hz : c * 2 ^ j < 2 ^ 2098) : Rep (c * 2 ^ j) := by
  by_cases h0 : c * 2 ^ j < 2 ^ 53
  · generalize c * 2 ^ j = z at h0 hz ⊢
    by_cases h1 : z < 2 ^ 52
    · exact ⟨z, by omega, un64_lo h1⟩
    · have := un64_hi (m := z) (k := 0) (by omega) h0
      refine ⟨z, by omega, ?_⟩
      simpa using this
  · have hpos : c * 2 ^ j ≠ 0 := by omega
    obtain ⟨k, hk⟩ : ∃ k, (c * 2 ^ j).log2 = 52 + (k + 1) := by
      have : 53 ≤ (c * 2 ^ j).log2 := (Nat.le_log2 hpos).mpr (by omega)
      exact ⟨(c * 2 ^ j).log2 - 53, by omega⟩
    have l1 : 2 ^ (52 + (k + 1)) ≤ c * 2 ^ j := by rw [← hk]; exact Nat.log2_self_le hpos
    have l2 : c * 2 ^ j < 2 ^ (53 + (k + 1)) := by
      have := Nat.lt_log2_self (n := c * 2 ^ j)
      rw [hk] at this
      have e : 52 + (k + 1) + 1 = 53 + (k + 1) := by omega
      rw [e] at this; exact this
    have hj : k + 1 ≤ j := by
      rcases Nat.lt_or_ge j (k + 1) with h | h
      · exfalso
        have h2 : c * 2 ^ j < 2 ^ 53 * 2 ^ j := Nat.mul_lt_mul_of_pos_right hc (Nat.two_pow_pos j)
        rw [← Nat.pow_add] at h2
        have h3 : 2 ^ (53 + j) ≤ 2 ^ (52 + (k + 1)) := Nat.pow_le_pow_right (by decide) (by omega)
        omega
      · exact h
    obtain ⟨i, rfl⟩ : ∃ i, j = k + 1 + i := ⟨j - (k + 1), by omega⟩
    have e0 : c * 2 ^ (k + 1 + i) = c * 2 ^ i * 2 ^ (k + 1) := by rw [Nat.pow_add, Nat.mul_comm (2 ^ (k + 1)), Nat.mul_assoc]
    rw [e0] at l1 l2 hz ⊢
    generalize c * 2 ^ i = m at l1 l2 hz ⊢
    have m1 : 2 ^ 52 ≤ m := by
      rw [Nat.pow_add 2 52 (k + 1)] at l1
      exact Nat.le_of_mul_le_mul_right l1 (Nat.two_pow_pos _)
    have m2 : m < 2 ^ 53 := by
      rw [Nat.pow_add 2 53 (k + 1)] at l2
      exact Nat.lt_of_mul_lt_mul_right l2
    have hk2 : k + 1 < 2046 := by
      rcases Nat.lt_or_ge (k + 1) 2046 with h | h
      · exact h
      · exfalso
        have h3 : 2 ^ 2046 ≤ 2 ^ (k + 1) := Nat.pow_le_pow_right (by decide) h
        have h4 : 2 ^ 52 * 2 ^ 2046 ≤ m * 2 ^ (k + 1) := Nat.mul_le_mul m1 h3
        rw [← Nat.pow_add] at h4
        omega
    exact ⟨(k + 1) * 2 ^ 52 + m, by omega, un64_hi m1 m2⟩
/-- a result whose exact value is one -/
theorem P64.of_ratio {x : UInt64} {A B : Nat} {e : Int} {z : Nat} (hv : FP.Core.val64 x = FP.Core.roundRatio FP.Core.b64 false A B e) (hB : 0 < B) (e0 : Int) (h0 : e0 ≤ -1074) (h0e : e0 ≤ e) (hr : Rep z) (h : FP.Core.inUnits A e e0 = z * 2 ^ (-1074 - e0).toNat * B) : P64 x z := by
  obtain ⟨m, hm, rfl⟩ := hr
  have hq : FP.Core.b64.qmin = -1074 := FP.Core.qmin_b64
  have hx := FP.Core.lt_full64 x
  have hh := FP.Core.half_b64
  have g1 := FP.Core.mag_le FP.Core.good_b64 (n := x.toNat) (m := m) hv hB (by rw [hq]; exact h0) h0e (by rw [hq]; exact Nat.le_of_eq h)
  have g2 := FP.Core.mag_ge FP.Core.good_b64 (n := x.toNat) (m := m) hv hB (by rw [hq]; exact h0) h0e (by rw [FP.Core.infBits_b64]; omega) (by rw [hq]; exact Nat.le_of_eq h.symm)
  rw [FP.Core.mag_toNat64] at g1 g2
  have hs : FP.Core.sgn (FP.Core.val64 x) = false := by rw [hv]; exact FP.Core.sgn_roundRatio _ _ _ _ _
  have hnn : FP.Core.val64 x ≠ .nan := by rw [hv]; exact FP.Core.roundRatio_ne_nan _ _ _ _ _
  rw [FP.Core.sgn_bits hnn] at hs
  have hlt : ¬ 2 ^ 63 ≤ x.toNat := of_decide_eq_false hs
  have hxm : x.toNat = m := by
    rw [Nat.mod_eq_of_lt (by omega)] at g1 g2
    omega
  exact ⟨by rw [hxm]; exact hm, by rw [hxm]⟩
