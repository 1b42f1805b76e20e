theorem pow_step_up {pw : UInt64} {u i : Nat} (h : P64 pw (2 ^ (1074 + u))) (hi : i < 10) (hu : u + 2 ^ i ≤ 1023) : P64 (FP.dmul pw (upf i)) (2 ^ (1074 + (u + 2 ^ i))) := by
  refine h.mul (upf_P hi) (Rep.pow (by omega)) ?_
  rw [← Nat.pow_add, ← Nat.pow_add]
  congr 1
  omega
theorem pow_step_dn {pw : UInt64} {u i : Nat} (h : P64 pw (2 ^ (1074 - u))) (hi : i < 10) (hu : u + 2 ^ i ≤ 1074) : P64 (FP.dmul pw (dnf i)) (2 ^ (1074 - (u + 2 ^ i))) := by
  have := pow_lt10 hi
  refine h.mul (dnf_P hi) (Rep.pow (by omega)) ?_
  rw [← Nat.pow_add, ← Nat.pow_add]
  congr 1
  omega
theorem mod_step (n i : Nat) : n % 2 ^ (i + 1) = n % 2 ^ i + 2 ^ i * (n / 2 ^ i % 2) := by rw [Nat.pow_succ, Nat.mod_mul]
theorem Rep.big {a t : Nat} (h : Rep a) (ht : 2 ^ (53 + t) ≤ a) : ∃ b, a = b * 2 ^ t ∧ Rep b := by
  obtain ⟨hz, c, j, hc, rfl⟩ := h.form
  have hj : t ≤ j := by
    rcases Nat.lt_or_ge j t with h1 | h1
    · exfalso
      have h2 : c * 2 ^ j < 2 ^ 53 * 2 ^ j := Nat.mul_lt_mul_of_pos_right hc (Nat.two_pow_pos j)
      rw [← Nat.pow_add] at h2
      have h3 : 2 ^ (53 + j) ≤ 2 ^ (53 + t) := Nat.pow_le_pow_right (by decide) (by omega)
      omega
    · exact h1
  obtain ⟨i, rfl⟩ : ∃ i, j = i + t := ⟨j - t, by omega⟩
  have e : c * 2 ^ (i + t) = c * 2 ^ i * 2 ^ t := by rw [Nat.pow_add, Nat.mul_assoc]
  exact ⟨c * 2 ^ i, e, h.dvd e⟩
/-- one step of the search for the leading digit -/
theorem lead_step {left : UInt64} {a i : Nat} (h : P64 left a) (hi : i < 10) (hlo : 2 ^ (1074 + 2 ^ i) ≤ a) (hhi : a < 2 ^ (1074 + 2 ^ (i + 1))) : ∃ b, P64 (FP.dmul left (dnf i)) b ∧ a = b * 2 ^ (2 ^ i) ∧ 2 ^ 1074 ≤ b ∧ b < 2 ^ (1074 + 2 ^ i) := by
  have h1 := pow_lt10 hi
  obtain ⟨b, e, hb⟩ := h.rep.big (t := 2 ^ i) (Nat.le_trans (Nat.pow_le_pow_right (by decide) (by omega)) hlo)
  refine ⟨b, h.mul (dnf_P hi) hb ?_, e, ?_, ?_⟩
  · rw [e, Nat.mul_assoc, ← Nat.pow_add]
    congr 2
    omega
  · rw [e, Nat.pow_add] at hlo
    exact Nat.le_of_mul_le_mul_right hlo (Nat.two_pow_pos _)
  · rw [e, show 1074 + 2 ^ (i + 1) = (1074 + 2 ^ i) + 2 ^ i by rw [Nat.pow_succ]; omega, Nat.pow_add 2 (1074 + 2 ^ i) (2 ^ i)] at hhi
    exact Nat.lt_of_mul_lt_mul_right hhi
/-- what the search ends with -/
theorem lead_end {a X lo w z u c j : Nat} (hw : w ≤ 1074) (hlo : lo + w ≤ 1074) (hu : u = c * 2 ^ j) (hc : c < 2 ^ (w + 1)) (hz : z = u * 2 ^ (1074 - lo - w)) (hX : a * 2 ^ X = z * 2 ^ lo) (ha : a < 2 ^ 1075) (hcase : 2 ^ 1074 ≤ a ∨ X = 0) : ∃ m, a * 2 ^ w = m * 2 ^ 1074 ∧ m * 2 ^ X = u ∧ m < 2 ^ (w + 1) ∧ (2 ^ w ≤ m ∨ X = 0) := by
  have h1 : a * 2 ^ X = u * 2 ^ (1074 - w) := by
    rw [hX, hz, Nat.mul_assoc, ← Nat.pow_add]
    congr 2
    omega
  have key : ∃ m, a = m * 2 ^ (1074 - w) := by
    rcases hcase with hA | hA
    · rcases Nat.le_total X j with hj | hj
      · obtain ⟨i, rfl⟩ : ∃ i, j = i + X := ⟨j - X, by omega⟩
        refine ⟨c * 2 ^ i, ?_⟩
        have e : c * 2 ^ i * 2 ^ (1074 - w) * 2 ^ X = a * 2 ^ X := by
          rw [h1, hu, Nat.pow_add]
          rw [Nat.mul_assoc (c * 2 ^ i), Nat.mul_comm (2 ^ (1074 - w)), ← Nat.mul_assoc, ← Nat.mul_assoc]
        exact (Nat.eq_of_mul_eq_mul_right (Nat.two_pow_pos X) e).symm
      · by_cases hjX : j = X
        · subst hjX
          rw [hu, Nat.mul_assoc, Nat.mul_comm (2 ^ j), ← Nat.mul_assoc] at h1
          exact ⟨c, Nat.eq_of_mul_eq_mul_right (Nat.two_pow_pos j) h1⟩
        · exfalso
          obtain ⟨i, rfl⟩ : ∃ i, X = i + 1 + j := ⟨X - j - 1, by omega⟩
          rw [hu, Nat.pow_add 2 (i + 1) j, ← Nat.mul_assoc, Nat.mul_assoc c, Nat.mul_comm (2 ^ j), ← Nat.mul_assoc] at h1
          have h2 := Nat.eq_of_mul_eq_mul_right (Nat.two_pow_pos j) h1
          have h3 : c * 2 ^ (1074 - w) < 2 ^ (w + 1) * 2 ^ (1074 - w) := Nat.mul_lt_mul_of_pos_right hc (Nat.two_pow_pos _)
          rw [← Nat.pow_add, ← h2, show w + 1 + (1074 - w) = 1075 by omega] at h3
          have h4 : a * 2 ^ 1 ≤ a * 2 ^ (i + 1) := Nat.mul_le_mul_left _ (Nat.pow_le_pow_right (by decide) (by omega))
          have h6 : a * 2 ^ 1 < 2 ^ 1075 := Nat.lt_of_le_of_lt h4 h3
          have h7 : 2 ^ 1074 * 2 ^ 1 ≤ a * 2 ^ 1 := Nat.mul_le_mul_right _ hA
          rw [← Nat.pow_add] at h7
          exact absurd h7 (Nat.not_le.mpr h6)
    · subst hA
      rw [Nat.pow_zero, Nat.mul_one] at h1
      exact ⟨u, h1⟩
  obtain ⟨m, rfl⟩ := key
  refine ⟨m, ?_, ?_, ?_, ?_⟩
  · rw [Nat.mul_assoc, ← Nat.pow_add]; congr 2; omega
  · rw [Nat.mul_assoc, Nat.mul_comm (2 ^ (1074 - w)), ← Nat.mul_assoc] at h1
    exact Nat.eq_of_mul_eq_mul_right (Nat.two_pow_pos _) h1
  · rw [show 1075 = (w + 1) + (1074 - w) by omega, Nat.pow_add] at ha
    exact Nat.lt_of_mul_lt_mul_right ha
  · rcases hcase with hA | hA
    · left
      rw [show 1074 = w + (1074 - w) by omega, Nat.pow_add] at hA
      have e : w + (1074 - w) - w = 1074 - w := by omega
      rw [e] at hA
      exact Nat.le_of_mul_le_mul_right hA (Nat.two_pow_pos _)
    · right; exact hA
theorem un64_form {n : Nat} (h : n < 9218868437227405312) : ∃ c j, un64 n = c * 2 ^ j ∧ c < 2 ^ 53 := by
  obtain ⟨-, c, j, h1, h2⟩ := Rep.form ⟨n, h, rfl⟩
  exact ⟨c, j, h2, h1⟩
theorem un32_form {n : Nat} (h : n < 2139095040) : ∃ c j, un32 n = c * 2 ^ j ∧ c < 2 ^ 24 ∧ j ≤ 253 := by
  by_cases h1 : n < 2 ^ 23
  · exact ⟨n, 0, by rw [un32_lo h1]; omega, by omega, by omega⟩
  · obtain ⟨k, r, hr1, hr2, rfl⟩ : ∃ k r, 2 ^ 23 ≤ r ∧ r < 2 ^ 24 ∧ n = k * 2 ^ 23 + r := ⟨n / 2 ^ 23 - 1, 2 ^ 23 + n % 2 ^ 23, by omega, by omega, by omega⟩
    exact ⟨r, k, un32_hi hr1 hr2, hr2, by omega⟩
/-- a finite float as a double -/
theorem P64.f2d {x : UInt32} (h : x.toNat < 2139095040) : P64 (FP.f2d x) (un32 x.toNat * 2 ^ 925) := by
  have hf : fin32 x := by unfold fin32; omega
  have hv : FP.Core.val64 (FP.f2d x) = FP.Core.round FP.Core.b64 (FP.Core.val32 x) := by
    rw [FP.f2d_core (fin32_nn hf)]; exact FP.Core.val64_f2d x
  obtain ⟨s, c, q, hvx⟩ := (fin32_iff x).mpr hf
  have fx := FP.Core.val32_fits x
  rw [hvx] at fx
  have hs : FP.Core.sgn (FP.Core.val32 x) = false := by
    rw [FP.Core.sgn_bits32 ((fin32_iff x).mpr hf).ne_nan, decide_eq_false (by omega)]
  rw [hvx] at hs
  have hs : s = false := hs
  subst hs
  have hz : FP.Core.inUnits c q FP.Core.b32.qmin = un32 x.toNat := by
    have e := FP.Core.zmag_toNat32 ((fin32_iff x).mpr hf).ne_nan
    rw [hvx, Nat.mod_eq_of_lt (by omega)] at e
    exact e
  rw [FP.Core.qmin_b32] at hz
  have fq : -149 ≤ q := by have := fx.2.1; rw [FP.Core.qmin_b32] at this; exact this
  rw [hvx] at hv
  have hv : FP.Core.val64 (FP.f2d x) = FP.Core.roundRatio FP.Core.b64 false c 1 q := hv
  obtain ⟨c', j, e1, e2, e3⟩ := un32_form h
  refine P64.of_ratio hv (by decide) (-1074) (by decide) (by omega) ?_ ?_
  · rw [e1, Nat.mul_assoc, ← Nat.pow_add]
    refine Rep.of (by omega) ?_
    have h5 : c' * 2 ^ (j + 925) < 2 ^ 24 * 2 ^ (j + 925) := Nat.mul_lt_mul_of_pos_right e2 (Nat.two_pow_pos _)
    rw [← Nat.pow_add] at h5
    exact Nat.lt_of_lt_of_le h5 (Nat.pow_le_pow_right (by decide) (by omega))
  · have e4 : (-1074 - (-1074 : Int)).toNat = 0 := by decide
    rw [e4, Nat.pow_zero, Nat.mul_one, Nat.mul_one, ← hz]
    unfold FP.Core.inUnits
    rw [Nat.mul_assoc, ← Nat.pow_add]
    congr 2
    omega
theorem fneg_nat (x : UInt32) : (FP.fneg x).toNat = if 2147483648 ≤ x.toNat then x.toNat - 2147483648 else x.toNat + 2147483648 := by
  have ha := x.toNat_lt
  have hx : (FP.fneg x).toNat = x.toNat ^^^ 2 ^ 31 := by
    unfold FP.fneg; rw [UInt32.toNat_xor]; rfl
  obtain ⟨h1, h2⟩ := FP.xor_top (a := x.toNat) (k := 31) (by omega)
  rw [hx]
  by_cases h : 2147483648 ≤ x.toNat
  · rw [if_pos h]; exact h2 h
  · rw [if_neg h]; exact h1 (by omega)
theorem fin_fneg {x : UInt32} (h : fin32 x) : fin32 (FP.fneg x) := by
  have ha := x.toNat_lt
  unfold fin32 at h ⊢
  rw [fneg_nat]
  by_cases h1 : 2147483648 ≤ x.toNat
  · rw [if_pos h1]; omega
  · rw [if_neg h1]; omega
theorem fin_f2d {x : UInt32} (h : fin32 x) : fin64 (FP.f2d x) := by
  rw [FP.f2d_core (fin32_nn h)]
  exact (fin64_iff _).mp (FP.Core.f2d_fin ((fin32_iff x).mpr h))
theorem f2d_fneg {x : UInt32} (h : fin32 x) : FP.f2d (FP.fneg x) = FP.dneg (FP.f2d x) := by
  refine FP.Core.val64_inj (fin64_ne (fin_f2d (fin_fneg h))) ?_
  rw [FP.val64_dneg, FP.f2d_core (fin32_nn h), FP.f2d_core (fin32_nn (fin_fneg h)), FP.Core.val64_f2d, FP.Core.val64_f2d, FP.val32_fneg, ← FP.Core.negate_round]
theorem d2f_f2d {x : UInt32} (h : fin32 x) : FP.d2f (FP.f2d x) = x := by
  rw [FP.d2f_core (fin64_nn (fin_f2d h)), FP.f2d_core (fin32_nn h)]
  exact FP.Core.d2f_f2d ((fin32_iff x).mpr h).ne_nan
/-- a finite float's double: sign and size -/
theorem f2d_parts {x : UInt32} (h : fin32 x) : (9223372036854775808 ≤ (FP.f2d x).toNat ↔ 2147483648 ≤ x.toNat) ∧ zmg (FP.f2d x) = un32 (x.toNat % 2147483648) * 2 ^ 925 := by
  have ha := x.toNat_lt
  by_cases hs : 2147483648 ≤ x.toNat
  · have e : x = FP.fneg (FP.fneg x) := by
      apply UInt32.toNat_inj.mp
      rw [fneg_nat, fneg_nat, if_pos hs, if_neg (by omega)]; omega
    have hy : (FP.fneg x).toNat = x.toNat - 2147483648 := by rw [fneg_nat, if_pos hs]
    unfold fin32 at h
    have hp := P64.f2d (x := FP.fneg x) (by rw [hy]; omega)
    have e2 : FP.f2d x = FP.dneg (FP.f2d (FP.fneg x)) := by
      have := f2d_fneg (fin_fneg (x := x) h)
      rw [← e] at this; exact this
    have hl := hp.1
    refine ⟨⟨fun _ => hs, fun _ => ?_⟩, ?_⟩
    · rw [e2, dneg_sgn]; omega
    · rw [e2, zmg_dneg, hp.mg, hy, show x.toNat % 2147483648 = x.toNat - 2147483648 by omega]
  · unfold fin32 at h
    have hp := P64.f2d (x := x) (by omega)
    have hl := hp.1
    refine ⟨⟨fun q => by omega, fun q => absurd q hs⟩, ?_⟩
    rw [hp.mg, Nat.mod_eq_of_lt (by omega)]
