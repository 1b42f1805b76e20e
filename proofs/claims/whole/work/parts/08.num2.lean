theorem Rep.form {z : Nat} (h : Rep z) : z < 2 ^ 2098 ∧ ∃ c j, c < 2 ^ 53 ∧ z = c * 2 ^ j := by
  obtain ⟨m, hm, rfl⟩ := h
  by_cases h1 : m < 2 ^ 52
  · rw [un64_lo h1]
    exact ⟨Nat.lt_of_lt_of_le h1 (Nat.pow_le_pow_right (by decide) (by decide)), m, 0, by omega, by simp⟩
  · obtain ⟨k, r, hr1, hr2, rfl⟩ : ∃ k r, 2 ^ 52 ≤ r ∧ r < 2 ^ 53 ∧ m = k * 2 ^ 52 + r := ⟨m / 2 ^ 52 - 1, 2 ^ 52 + m % 2 ^ 52, by omega, by omega, by omega⟩
    rw [un64_hi hr1 hr2]
    have hk : k ≤ 2045 := by omega
    refine ⟨?_, r, k, hr2, rfl⟩
    have h3 : r * 2 ^ k < 2 ^ 53 * 2 ^ k := Nat.mul_lt_mul_of_pos_right hr2 (Nat.two_pow_pos k)
    have h4 : 2 ^ 53 * 2 ^ k ≤ 2 ^ 53 * 2 ^ 2045 := Nat.mul_le_mul_left _ (Nat.pow_le_pow_right (by decide) hk)
    rw [← Nat.pow_add 2 53 2045] at h4
    exact Nat.lt_of_lt_of_le h3 h4
theorem P64.rep {x : UInt64} {z : Nat} (h : P64 x z) : Rep z := ⟨x.toNat, h.1, h.2⟩
theorem Rep.dvd {z w k : Nat} (h : Rep z) (e : z = w * 2 ^ k) : Rep w := by
  obtain ⟨hz, c, j, hc, h1⟩ := h.form
  have hw : w ≤ z := by rw [e]; exact Nat.le_mul_of_pos_right _ (Nat.two_pow_pos k)
  rw [e] at h1
  rcases Nat.le_total k j with h2 | h2
  · obtain ⟨i, rfl⟩ : ∃ i, j = i + k := ⟨j - k, by omega⟩
    rw [Nat.pow_add, ← Nat.mul_assoc] at h1
    have := Nat.eq_of_mul_eq_mul_right (Nat.two_pow_pos k) h1
    rw [this]
    exact Rep.of hc (by rw [← this]; omega)
  · obtain ⟨i, rfl⟩ : ∃ i, k = i + j := ⟨k - j, by omega⟩
    rw [Nat.pow_add, ← Nat.mul_assoc] at h1
    have h3 := Nat.eq_of_mul_eq_mul_right (Nat.two_pow_pos j) h1
    have h4 : w ≤ c := by rw [← h3]; exact Nat.le_mul_of_pos_right _ (Nat.two_pow_pos i)
    have := Rep.of (c := w) (j := 0) (by omega) (by omega)
    simpa using this
theorem Rep.shl {z k : Nat} (h : Rep z) (hz : z * 2 ^ k < 2 ^ 2098) : Rep (z * 2 ^ k) := by
  obtain ⟨-, c, j, hc, rfl⟩ := h.form
  rw [Nat.mul_assoc, ← Nat.pow_add] at hz ⊢
  exact Rep.of hc hz
theorem Rep.half {a : Nat} (h : Rep a) : Rep (a / 2) ∧ Rep ((a + 1) / 2) := by
  obtain ⟨hz, c, j, hc, rfl⟩ := h.form
  cases j with
  | zero =>
    have e1 := Rep.of (c := c / 2) (j := 0) (by omega) (by omega)
    have e2 := Rep.of (c := (c + 1) / 2) (j := 0) (by omega) (by omega)
    simp only [Nat.pow_zero, Nat.mul_one] at e1 e2 ⊢
    exact ⟨e1, e2⟩
  | succ i =>
    have e : c * 2 ^ (i + 1) = 2 * (c * 2 ^ i) := by rw [Nat.pow_succ, ← Nat.mul_assoc, Nat.mul_comm]
    rw [e] at hz ⊢
    have r := Rep.of (c := c) (j := i) hc (by omega)
    have e1 : 2 * (c * 2 ^ i) / 2 = c * 2 ^ i := by omega
    have e2 : (2 * (c * 2 ^ i) + 1) / 2 = c * 2 ^ i := by omega
    rw [e1, e2]
    exact ⟨r, r⟩
theorem Rep.sub {a b : Nat} (ha : Rep a) (hb : Rep b) (h1 : b ≤ a) (h2 : a < 2 * b) : Rep (a - b) := by
  obtain ⟨hz, c, j, hc, rfl⟩ := ha.form
  obtain ⟨hz2, d, i, hd, rfl⟩ := hb.form
  rcases Nat.le_total i j with h | h
  · obtain ⟨k, rfl⟩ : ∃ k, j = k + i := ⟨j - i, by omega⟩
    have e : c * 2 ^ (k + i) = c * 2 ^ k * 2 ^ i := by rw [Nat.pow_add, Nat.mul_assoc]
    rw [e] at h1 h2 hz ⊢
    rw [← Nat.sub_mul]
    refine Rep.of ?_ ?_
    · have e3 : 2 * (d * 2 ^ i) = 2 * d * 2 ^ i := by rw [Nat.mul_assoc]
      rw [e3] at h2
      have := Nat.lt_of_mul_lt_mul_right h2
      omega
    · rw [Nat.sub_mul]; omega
  · obtain ⟨k, rfl⟩ : ∃ k, i = k + j := ⟨i - j, by omega⟩
    have e : d * 2 ^ (k + j) = d * 2 ^ k * 2 ^ j := by rw [Nat.pow_add, Nat.mul_assoc]
    rw [e] at h1 h2 hz2 ⊢
    rw [← Nat.sub_mul]
    refine Rep.of (by omega) ?_
    rw [Nat.sub_mul]; omega
theorem P64.fin_form {x : UInt64} {z : Nat} (h : P64 x z) : ∃ c q, FP.Core.val64 x = .fin false c q ∧ FP.Core.inUnits c q FP.Core.b64.qmin = z := by
  obtain ⟨s, c, q, hv⟩ := (fin64_iff x).mpr h.fin
  have hs : FP.Core.sgn (FP.Core.val64 x) = false := by
    rw [FP.Core.sgn_bits (fin64_ne h.fin), decide_eq_false (by have := h.1; omega)]
  rw [hv] at hs
  have hs : s = false := hs
  subst hs
  refine ⟨c, q, hv, ?_⟩
  have := h.zmag
  rw [hv] at this
  exact this
theorem P64.mul {x y : UInt64} {a b r : Nat} (hx : P64 x a) (hy : P64 y b) (hr : Rep r) (h : a * b = r * 2 ^ 1074) : P64 (FP.dmul x y) r := by
  obtain ⟨c, q, hvx, hcx⟩ := hx.fin_form
  obtain ⟨d, t, hvy, hcy⟩ := hy.fin_form
  have fx := FP.Core.val64_fits x
  have fy := FP.Core.val64_fits y
  rw [hvx] at fx
  rw [hvy] at fy
  obtain ⟨p1, p2, p3⟩ := FP.Core.product_units fx fy
  have hv := FP.Core.val64_dmul x y
  rw [hvx, hvy, p1] at hv
  have hv : FP.Core.val64 (FP.dmul x y) = FP.Core.roundRatio FP.Core.b64 false (c * d) 1 (q + t) := hv
  rw [FP.Core.qmin_b64] at p2 p3
  refine P64.of_ratio hv (by decide) (2 * -1074) (by decide) p2 hr ?_
  rw [p3]
  have hcx : FP.Core.zmag FP.Core.b64 (.fin false c q) = a := hcx
  have hcy : FP.Core.zmag FP.Core.b64 (.fin false d t) = b := hcy
  rw [hcx, hcy, h]
  have e : (-1074 - 2 * (-1074 : Int)).toNat = 1074 := by decide
  rw [e, Nat.mul_one]
theorem P64.zero : P64 0 0 := ⟨by decide, by rw [show (0 : UInt64).toNat = 0 from rfl]; exact un64_lo (by decide)⟩
theorem P64.sub {x y : UInt64} {a b : Nat} (hx : P64 x a) (hy : P64 y b) (h : b ≤ a) (hr : Rep (a - b)) : P64 (FP.dsub x y) (a - b) := by
  by_cases e : a = b
  · subst e
    have := hx.inj hy
    subst this
    obtain ⟨c, q, hvx, -⟩ := hx.fin_form
    have h0 : FP.dsub x x = FP.Core.dconst0 := FP.Core.dsub_self hvx
    rw [h0, Nat.sub_self]
    exact P64.zero
  · obtain ⟨c, q, hvx, hcx⟩ := hx.fin_form
    obtain ⟨d, t, hvy, hcy⟩ := hy.fin_form
    have fx := FP.Core.val64_fits x
    have fy := FP.Core.negate_fits (FP.Core.val64_fits y)
    have hv := FP.Core.val64_dsub x y
    rw [hvx] at fx hv
    rw [hvy] at fy hv
    have fy : FP.Core.fits FP.Core.b64 (.fin true d t) := fy
    have hv : FP.Core.val64 (FP.dsub x y) = FP.Core.round FP.Core.b64 (FP.Core.exactSum (.fin false c q) (.fin true d t)) := hv
    obtain ⟨sg, n, e1, s1, s2, s3⟩ := FP.Core.sum_units fx fy
    have hcx : FP.Core.zval FP.Core.b64 (.fin false c q) = (a : Int) := by
      unfold FP.Core.zval; rw [show FP.Core.zmag FP.Core.b64 (.fin false c q) = a from hcx]; rfl
    have hcy : FP.Core.zval FP.Core.b64 (.fin true d t) = -(b : Int) := by
      unfold FP.Core.zval; rw [show FP.Core.zmag FP.Core.b64 (.fin true d t) = b from hcy]; rfl
    rw [hcx, hcy] at s3
    rw [s1] at hv
    have hsg : sg = false := by
      cases sg with
      | false => rfl
      | true =>
        have : -((FP.Core.inUnits n e1 FP.Core.b64.qmin : Nat) : Int) = (a : Int) + -(b : Int) := s3
        omega
    subst hsg
    have s3 : ((FP.Core.inUnits n e1 FP.Core.b64.qmin : Nat) : Int) = (a : Int) + -(b : Int) := s3
    have hv : FP.Core.val64 (FP.dsub x y) = FP.Core.roundRatio FP.Core.b64 false n 1 e1 := hv
    rw [FP.Core.qmin_b64] at s2 s3
    refine P64.of_ratio hv (by decide) (-1074) (by decide) s2 hr ?_
    have e4 : (-1074 - (-1074 : Int)).toNat = 0 := by decide
    rw [e4]
    omega
abbrev d2 : UInt64 := 4611686018427387904
theorem P64.two : P64 d2 (2 ^ 1075) := by
  refine ⟨by decide, ?_⟩
  have h := un64_hi (m := 2 ^ 52) (k := 1023) (by decide) (by decide)
  have e : d2.toNat = 1023 * 2 ^ 52 + 2 ^ 52 := by decide
  rw [e, h, ← Nat.pow_add]
theorem val_d2 : FP.Core.val64 d2 = .fin false (2 ^ 52) (-51) := by decide +kernel
theorem P64.half {x : UInt64} {a : Nat} (hx : P64 x a) : ∃ h, P64 (FP.ddiv x d2) h ∧ a / 2 ≤ h ∧ 2 * h ≤ a + 1 := by
  obtain ⟨c, q, hvx, hcx⟩ := hx.fin_form
  have fx := FP.Core.val64_fits x
  rw [hvx] at fx
  have hv := FP.Core.val64_ddiv x d2
  rw [hvx, val_d2] at hv
  have hv : FP.Core.val64 (FP.ddiv x d2) = FP.Core.roundRatio FP.Core.b64 false c (2 ^ 52) (q - (-51)) := by
    rw [hv]
    simp only [FP.Core.quotient]
    rw [if_neg (by decide)]
    rfl
  have hq : FP.Core.b64.qmin = -1074 := FP.Core.qmin_b64
  have fq : -1074 ≤ q := by have := fx.2.1; rw [hq] at this; exact this
  have hA : FP.Core.inUnits c (q - (-51)) (-1074) = a * 2 ^ 51 := by
    rw [hq] at hcx
    unfold FP.Core.inUnits at hcx ⊢
    rw [← hcx, Nat.mul_assoc, ← Nat.pow_add]
    congr 2
    omega
  obtain ⟨⟨m1, hm1, e1⟩, ⟨m2, hm2, e2⟩⟩ := hx.rep.half
  have hh := FP.Core.half_b64
  have e4 : (FP.Core.b64.qmin - (-1074 : Int)).toNat = 0 := by rw [hq]; decide
  have g1 := FP.Core.mag_le FP.Core.good_b64 (n := (FP.ddiv x d2).toNat) (m := m2) hv (by decide) (e0 := -1074) (by rw [hq]; decide) (by omega) (by
    rw [hA, e4]
    have : un64 m2 = (a + 1) / 2 := e2
    show a * 2 ^ 51 ≤ un64 m2 * 2 ^ 0 * 2 ^ 52
    rw [this]; omega)
  have g2 := FP.Core.mag_ge FP.Core.good_b64 (n := (FP.ddiv x d2).toNat) (m := m1) hv (by decide) (e0 := -1074) (by rw [hq]; decide) (by omega) (by rw [FP.Core.infBits_b64]; omega) (by
    rw [hA, e4]
    have : un64 m1 = a / 2 := e1
    show un64 m1 * 2 ^ 0 * 2 ^ 52 ≤ a * 2 ^ 51
    rw [this]; omega)
  rw [FP.Core.mag_toNat64] at g1 g2
  have hs : FP.Core.sgn (FP.Core.val64 (FP.ddiv x d2)) = false := by rw [hv]; exact FP.Core.sgn_roundRatio _ _ _ _ _
  have hnn : FP.Core.val64 (FP.ddiv x d2) ≠ .nan := by rw [hv]; exact FP.Core.roundRatio_ne_nan _ _ _ _ _
  rw [FP.Core.sgn_bits hnn] at hs
  have hlt : ¬ 2 ^ 63 ≤ (FP.ddiv x d2).toNat := of_decide_eq_false hs
  rw [Nat.mod_eq_of_lt (by omega)] at g1 g2
  have u1 : un64 m1 ≤ un64 (FP.ddiv x d2).toNat := by
    rcases Nat.lt_or_ge m1 (FP.ddiv x d2).toNat with h | h
    · exact Nat.le_of_lt (FP.Core.unitsOf_lt h)
    · rw [show m1 = (FP.ddiv x d2).toNat by omega]; exact Nat.le_refl _
  have u2 : un64 (FP.ddiv x d2).toNat ≤ un64 m2 := by
    rcases Nat.lt_or_ge (FP.ddiv x d2).toNat m2 with h | h
    · exact Nat.le_of_lt (FP.Core.unitsOf_lt h)
    · rw [show m2 = (FP.ddiv x d2).toNat by omega]; exact Nat.le_refl _
  exact ⟨un64 (FP.ddiv x d2).toNat, ⟨by omega, rfl⟩, by rw [← e1]; exact u1, by rw [e2] at u2; omega⟩
