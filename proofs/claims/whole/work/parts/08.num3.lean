/-- the magnitude of a number, in units -/
def zmg (x : UInt64) : Nat := un64 (x.toNat % 9223372036854775808)
theorem zmg_eq {x : UInt64} (h : fin64 x) : FP.Core.zmag FP.Core.b64 (FP.Core.val64 x) = zmg x := FP.Core.zmag_bits (fin64_ne h)
theorem P64.mg {x : UInt64} {z : Nat} (h : P64 x z) : zmg x = z := by rw [← zmg_eq h.fin]; exact h.zmag
theorem P64.of_pos {x : UInt64} (h : fin64 x) (hs : x.toNat < 9223372036854775808) : P64 x (zmg x) := by
  have e : x.toNat % 9223372036854775808 = x.toNat := Nat.mod_eq_of_lt hs
  unfold fin64 at h
  rw [e] at h
  exact ⟨h, by unfold zmg; rw [e]⟩
theorem zmg_zero {x : UInt64} : zmg x = 0 ↔ x.toNat % 9223372036854775808 = 0 := FP.Core.unitsOf_eq_zero
theorem zv_eq {x : UInt64} (h : fin64 x) : FP.Core.zval FP.Core.b64 (FP.Core.val64 x) = if 9223372036854775808 ≤ x.toNat then -(zmg x : Int) else (zmg x : Int) := by
  unfold FP.Core.zval
  rw [zmg_eq h, FP.Core.sgn_bits (fin64_ne h)]
  by_cases hs : 9223372036854775808 ≤ x.toNat
  · rw [if_pos hs, decide_eq_true hs]; rfl
  · rw [if_neg hs, decide_eq_false hs]; rfl
theorem P64.dc0 : P64 FP.dconst0 0 := P64.zero
theorem fin_dc0 : fin64 FP.dconst0 := P64.dc0.fin
theorem dlt_iff {x y : UInt64} (hx : fin64 x) (hy : fin64 y) : dLt x y ↔ FP.Core.zval FP.Core.b64 (FP.Core.val64 x) < FP.Core.zval FP.Core.b64 (FP.Core.val64 y) := by
  show FP.Core.dcmp x y = some .lt ↔ _
  rw [FP.Core.dcmp_lt]
  exact ⟨fun h => h.2.2, fun h => ⟨fin64_ne hx, fin64_ne hy, h⟩⟩
theorem lt0_iff {x : UInt64} (h : fin64 x) : dLt x FP.dconst0 ↔ 9223372036854775808 ≤ x.toNat ∧ 0 < zmg x := by
  rw [dlt_iff h fin_dc0, P64.dc0.zval, zv_eq h]
  by_cases hs : 9223372036854775808 ≤ x.toNat
  · rw [if_pos hs]; omega
  · rw [if_neg hs]; omega
theorem eq0_iff {x : UInt64} (h : fin64 x) : dEq x FP.dconst0 ↔ zmg x = 0 := by
  show FP.Core.dcmp x FP.dconst0 = some .eq ↔ _
  rw [FP.Core.dcmp_eq]
  rw [P64.dc0.zval, zv_eq h]
  have n1 := fin64_ne h
  have n2 := fin64_ne fin_dc0
  by_cases hs : 9223372036854775808 ≤ x.toNat
  · rw [if_pos hs]; exact ⟨fun h => by omega, fun h => ⟨n1, n2, by omega⟩⟩
  · rw [if_neg hs]; exact ⟨fun h => by omega, fun h => ⟨n1, n2, by omega⟩⟩
theorem dneg_nat (x : UInt64) : (FP.dneg x).toNat = if 9223372036854775808 ≤ x.toNat then x.toNat - 9223372036854775808 else x.toNat + 9223372036854775808 := by
  have ha := x.toNat_lt
  have hx : (FP.dneg x).toNat = x.toNat ^^^ 2 ^ 63 := by
    unfold FP.dneg; rw [UInt64.toNat_xor]; rfl
  obtain ⟨h1, h2⟩ := FP.xor_top (a := x.toNat) (k := 63) (by omega)
  rw [hx]
  by_cases h : 9223372036854775808 ≤ x.toNat
  · rw [if_pos h]; exact h2 h
  · rw [if_neg h]; exact h1 (by omega)
theorem dneg_mod (x : UInt64) : (FP.dneg x).toNat % 9223372036854775808 = x.toNat % 9223372036854775808 := by
  have ha := x.toNat_lt
  rw [dneg_nat]
  by_cases h : 9223372036854775808 ≤ x.toNat
  · rw [if_pos h]; omega
  · rw [if_neg h]; omega
theorem fin_dneg {x : UInt64} (h : fin64 x) : fin64 (FP.dneg x) := by unfold fin64; rw [dneg_mod]; exact h
theorem zmg_dneg (x : UInt64) : zmg (FP.dneg x) = zmg x := by unfold zmg; rw [dneg_mod]
theorem dneg_sgn (x : UInt64) : 9223372036854775808 ≤ (FP.dneg x).toNat ↔ ¬ 9223372036854775808 ≤ x.toNat := by
  have ha := x.toNat_lt
  rw [dneg_nat]
  by_cases h : 9223372036854775808 ≤ x.toNat
  · rw [if_pos h]; omega
  · rw [if_neg h]; omega
theorem dneg_dneg (x : UInt64) : FP.dneg (FP.dneg x) = x := by
  apply UInt64.toNat_inj.mp
  have ha := x.toNat_lt
  rw [dneg_nat, dneg_nat]
  by_cases h : 9223372036854775808 ≤ x.toNat
  · rw [if_pos h, if_neg (by omega)]; omega
  · rw [if_neg h, if_pos (by omega)]; omega
theorem same_bits {a b : UInt64} (hs : 9223372036854775808 ≤ a.toNat ↔ 9223372036854775808 ≤ b.toNat) (hz : zmg a = zmg b) : a = b := by
  have h1 := un64_inj hz
  have ha := a.toNat_lt
  have hb := b.toNat_lt
  apply UInt64.toNat_inj.mp
  by_cases h : 9223372036854775808 ≤ a.toNat
  · have h2 := hs.mp h; omega
  · have h2 : ¬ 9223372036854775808 ≤ b.toNat := fun q => h (hs.mpr q)
    omega
/-- a number without its sign, as the class makes it -/
def szf (x : UInt64) : UInt64 := if dLt x FP.dconst0 then FP.dneg x else x
theorem szf_P {x : UInt64} (h : fin64 x) (h0 : 0 < zmg x) : P64 (szf x) (zmg x) := by
  unfold szf
  by_cases hs : 9223372036854775808 ≤ x.toNat
  · rw [if_pos ((lt0_iff h).mpr ⟨hs, h0⟩), ← zmg_dneg]
    refine P64.of_pos (fin_dneg h) ?_
    have := (dneg_sgn x)
    omega
  · rw [if_neg (fun q => hs ((lt0_iff h).mp q).1)]
    exact P64.of_pos h (by omega)
theorem szf_0 {x : UInt64} (h : fin64 x) (h0 : zmg x = 0) : szf x = x := by
  unfold szf
  rw [if_neg (fun q => by have := ((lt0_iff h).mp q).2; omega)]
theorem szf_fin {x : UInt64} (h : fin64 x) : fin64 (szf x) := by
  by_cases h0 : zmg x = 0
  · rw [szf_0 h h0]; exact h
  · exact (szf_P h (by omega)).fin
theorem dzero_iff {y : UInt64} : FP.Core.DZero y ↔ zmg y = 0 := by rw [zmg_zero]; exact FP.Core.zero_bits2 y
theorem drem_facts {x y : UInt64} (hx : fin64 x) (hy : fin64 y) (h0 : 0 < zmg y) : fin64 (FP.drem x y) ∧ (9223372036854775808 ≤ (FP.drem x y).toNat ↔ 9223372036854775808 ≤ x.toNat) ∧ zmg (FP.drem x y) = zmg x % zmg y := by
  obtain ⟨s, c, q, hvx⟩ := (fin64_iff x).mpr hx
  obtain ⟨t, d, r, hvy⟩ := (fin64_iff y).mpr hy
  have hz : ¬ FP.Core.DZero y := fun h => by have := dzero_iff.mp h; omega
  have hd : d ≠ 0 := fun h => hz ⟨t, r, by rw [hvy, h]⟩
  obtain ⟨c', q', h1, -⟩ := FP.Core.drem_exact hvx hvy hd
  have hf : fin64 (FP.drem x y) := (fin64_iff _).mp ⟨s, c', q', h1⟩
  obtain ⟨h2, h3, h4⟩ := FP.Core.drem_zval ((fin64_iff x).mpr hx) (fin64_ne hy) hz
  refine ⟨hf, ?_, ?_⟩
  · have g1 := FP.Core.sgn_bits h2
    have g2 := FP.Core.sgn_bits (fin64_ne hx)
    rw [h3, g2] at g1
    exact (decide_eq_decide.mp g1).symm
  · have g1 := zmg_eq hf
    rw [← g1, ← zmg_eq hx, ← zmg_eq hy]
    exact h4
theorem drem_small {x y : UInt64} (hx : fin64 x) (hy : fin64 y) (h : zmg x < zmg y) : FP.drem x y = x := by
  obtain ⟨h1, h2, h3⟩ := drem_facts hx hy (by omega)
  exact same_bits h2 (by rw [h3, Nat.mod_eq_of_lt h])
theorem drem_big {x y w : UInt64} (hx : fin64 x) (hy : fin64 y) (h0 : 0 < zmg y) (hx0 : 0 < zmg x) (hw : P64 w (zmg x % zmg y)) : (if dLt x FP.dconst0 then FP.dneg w else w) = FP.drem x y := by
  obtain ⟨h1, h2, h3⟩ := drem_facts hx hy h0
  have hwl := hw.1
  by_cases hs : 9223372036854775808 ≤ x.toNat
  · rw [if_pos ((lt0_iff hx).mpr ⟨hs, hx0⟩)]
    refine same_bits ?_ (by rw [zmg_dneg, hw.mg, h3])
    rw [dneg_sgn, h2]
    omega
  · rw [if_neg (fun q => hs ((lt0_iff hx).mp q).1)]
    refine same_bits ?_ (by rw [hw.mg, h3])
    rw [h2]
    omega
theorem pwb {e : Nat} (h1 : 1 ≤ e) (h2 : e ≤ 2046) : P64 (UInt64.ofNat (e * 2 ^ 52)) (2 ^ (51 + e)) := by
  have e0 : (UInt64.ofNat (e * 2 ^ 52)).toNat = e * 2 ^ 52 := by
    rw [UInt64.toNat_ofNat']
    exact Nat.mod_eq_of_lt (by omega)
  refine ⟨by rw [e0]; omega, ?_⟩
  rw [e0]
  have h := un64_hi (m := 2 ^ 52) (k := e - 1) (by decide) (by decide)
  have e2 : (e - 1) * 2 ^ 52 + 2 ^ 52 = e * 2 ^ 52 := by omega
  rw [e2] at h
  rw [h, ← Nat.pow_add]
  congr 1
  omega
def upf (i : Nat) : UInt64 := UInt64.ofNat ((1023 + 2 ^ i) * 2 ^ 52)
def dnf (i : Nat) : UInt64 := UInt64.ofNat ((1023 - 2 ^ i) * 2 ^ 52)
theorem pow_lt10 {i : Nat} (h : i < 10) : 1 ≤ 2 ^ i ∧ 2 ^ i ≤ 512 := ⟨Nat.one_le_two_pow, by
  have : 2 ^ i ≤ 2 ^ 9 := Nat.pow_le_pow_right (by decide) (by omega)
  exact this⟩
theorem upf_P {i : Nat} (h : i < 10) : P64 (upf i) (2 ^ (1074 + 2 ^ i)) := by
  have h1 := pow_lt10 h
  have := pwb (e := 1023 + 2 ^ i) (by omega) (by omega)
  rw [show 51 + (1023 + 2 ^ i) = 1074 + 2 ^ i by omega] at this
  exact this
theorem dnf_P {i : Nat} (h : i < 10) : P64 (dnf i) (2 ^ (1074 - 2 ^ i)) := by
  have h1 := pow_lt10 h
  have := pwb (e := 1023 - 2 ^ i) (by omega) (by omega)
  rw [show 51 + (1023 - 2 ^ i) = 1074 - 2 ^ i by omega] at this
  exact this
theorem upf_sq : ∀ i, i < 9 → FP.dmul (upf i) (upf i) = upf (i + 1) := by decide +kernel
theorem dnf_inv : ∀ i, i < 10 → FP.ddiv FP.dconst1 (upf i) = dnf i := by decide +kernel
theorem upf_0 : upf 0 = d2 := by decide +kernel
theorem P64.one : P64 FP.dconst1 (2 ^ 1074) := by
  have := pwb (e := 1023) (by omega) (by omega)
  have e : UInt64.ofNat (1023 * 2 ^ 52) = FP.dconst1 := by decide
  rw [e] at this
  exact this
theorem Rep.pow {k : Nat} (h : k < 2098) : Rep (2 ^ k) := by
  have := Rep.of (c := 1) (j := k) (by decide) (by rw [Nat.one_mul]; exact Nat.pow_lt_pow_right (by decide) h)
  rw [Nat.one_mul] at this
  exact this
/-- times a power of two -/
theorem P64.mulPow {x y : UInt64} {a k r : Nat} (hx : P64 x a) (hy : P64 y (2 ^ k)) (hr : Rep r) (h : a * 2 ^ k = r * 2 ^ 1074) : P64 (FP.dmul x y) r := hx.mul hy hr h
theorem P64.of_zval {x : UInt64} {z : Nat} (h : fin64 x) (hz : 0 < z) (e : FP.Core.zval FP.Core.b64 (FP.Core.val64 x) = (z : Int)) : P64 x z := by
  rw [zv_eq h] at e
  by_cases hs : 9223372036854775808 ≤ x.toNat
  · rw [if_pos hs] at e; omega
  · rw [if_neg hs] at e
    have := P64.of_pos h (by omega)
    rw [show zmg x = z by omega] at this
    exact this
theorem P64.l2d {n : Nat} (h : n < 2 ^ 53) : P64 (FP.l2d (lN n)) (n * 2 ^ 1074) := by
  by_cases h0 : n = 0
  · subst h0
    rw [Nat.zero_mul]
    have : FP.l2d (lN 0) = 0 := FP.Core.l2d_zero
    rw [this]; exact P64.zero
  · have hi : (lN n).toInt = (n : Int) := pk_lT (by omega)
    have hd := FP.Core.l2d_int (a := lN n) (by rw [hi]; omega)
    have hz := FP.Core.DInt_zval hd
    rw [hi] at hz
    refine P64.of_zval ((fin64_iff _).mp (FP.Core.l2d_fin _)) (Nat.mul_pos (by omega) (Nat.two_pow_pos _)) ?_
    rw [show FP.l2d (lN n) = FP.Core.l2d (lN n) from rfl, hz]
    unfold FP.Core.one64
    push_cast
    rfl
theorem P64.d2l {x : UInt64} {z : Nat} (h : P64 x z) (hz : z / 2 ^ 1074 < 2 ^ 63) : FP.d2l x = lN (z / 2 ^ 1074) := by
  apply Int64.toInt_inj.mp
  rw [pk_lT hz]
  have e := FP.Core.d2l_val (fin64_ne h.fin)
  rw [h.zmag, FP.Core.sgn_bits (fin64_ne h.fin), decide_eq_false (by have := h.1; omega)] at e
  rw [show FP.d2l x = FP.Core.d2l x from rfl, e]
  show max (-2 ^ 63) (min (2 ^ 63 - 1) ((z / FP.Core.one64 : Nat) : Int)) = _
  unfold FP.Core.one64
  omega
