theorem sgn64_iff {n : Nat} (hn : n < 2 ^ 64) : (lN n &&& (-9223372036854775808)) = 0 ↔ n < 9223372036854775808 := by
  have e : (-9223372036854775808 : Int64) = lN (2 ^ 63 * 1) := by decide
  rw [e, wb_and hn (by decide), and_shift, show (1 : Nat) = 2 ^ 1 - 1 by decide, Nat.and_two_pow_sub_one_eq_mod]
  constructor
  · intro h
    have := lN_inj (b := 0) (by omega) (by decide) h
    omega
  · intro h
    have h2 : n / 2 ^ 63 % 2 ^ 1 = 0 := by omega
    rw [h2]; rfl
theorem sgn32_iff {n : Nat} (hn : n < 2 ^ 64) : (lN n &&& 2147483648) = 0 ↔ n % 4294967296 < 2147483648 := by
  have e : (2147483648 : Int64) = lN (2 ^ 31 * 1) := by decide
  rw [e, wb_and hn (by decide), and_shift, show (1 : Nat) = 2 ^ 1 - 1 by decide, Nat.and_two_pow_sub_one_eq_mod]
  constructor
  · intro h
    have := lN_inj (b := 0) (by omega) (by decide) h
    omega
  · intro h
    have h2 : n / 2 ^ 31 % 2 ^ 1 = 0 := by omega
    rw [h2]; rfl
theorem P64.bits {n : Nat} (h : n < 9218868437227405312) : P64 (UInt64.ofNat n) (un64 n) := by
  have e : (UInt64.ofNat n).toNat = n := by rw [UInt64.toNat_ofNat']; exact Nat.mod_eq_of_lt (by omega)
  exact ⟨by rw [e]; exact h, by rw [e]⟩
theorem dOf_pos {n : Nat} {r : UInt64} (hn : n < 9223372036854775808) (hf : n < 9218868437227405312) (h : P64 r (un64 n)) : r = (lN n).toUInt64 := h.inj (P64.bits hf)
theorem dOf_neg {n : Nat} {r : UInt64} (hn : n < 2 ^ 64) (hs : ¬ n < 9223372036854775808) (hf : n % 9223372036854775808 < 9218868437227405312) (h : P64 r (un64 (n % 9223372036854775808))) : FP.dneg r = (lN n).toUInt64 := by
  have e := h.inj (P64.bits hf)
  subst e
  apply UInt64.toNat_inj.mp
  have e2 : (UInt64.ofNat (n % 9223372036854775808)).toNat = n % 9223372036854775808 := by rw [UInt64.toNat_ofNat']; exact Nat.mod_eq_of_lt (by omega)
  rw [dneg_nat, e2, if_neg (by omega), lN_u hn]
  omega
theorem fOf_size {n : Nat} {r : UInt64} (hf : n < 2139095040) (h : P64 r (un32 n * 2 ^ 925)) : r = FP.f2d (UInt32.ofNat n) := by
  have e : (UInt32.ofNat n).toNat = n := by rw [UInt32.toNat_ofNat']; exact Nat.mod_eq_of_lt (by omega)
  have h2 := P64.f2d (x := UInt32.ofNat n) (by rw [e]; exact hf)
  rw [e] at h2
  exact h.inj h2
theorem fOf_both {n : Nat} {r : UInt64} (hn : n < 2 ^ 64) (hf : fin32 (lo32 (lN n))) (h : P64 r (un32 (n % 2147483648) * 2 ^ 925)) : ((n % 4294967296 < 2147483648) → r = FP.f2d (lo32 (lN n))) ∧ (¬ (n % 4294967296 < 2147483648) → FP.dneg r = FP.f2d (lo32 (lN n))) := by
  have hl := lo32_n (n := n)
  have hf0 := hf
  unfold fin32 at hf
  rw [hl] at hf
  have hr := fOf_size (by omega) h
  subst hr
  have e : (UInt32.ofNat (n % 2147483648)).toNat = n % 2147483648 := by rw [UInt32.toNat_ofNat']; exact Nat.mod_eq_of_lt (by omega)
  refine ⟨fun hs => ?_, fun hs => ?_⟩
  · have : UInt32.ofNat (n % 2147483648) = lo32 (lN n) := by apply UInt32.toNat_inj.mp; rw [e, hl]; omega
    rw [this]
  · rw [← f2d_fneg (by unfold fin32; rw [e]; omega)]
    have : FP.fneg (UInt32.ofNat (n % 2147483648)) = lo32 (lN n) := by apply UInt32.toNat_inj.mp; rw [fneg_nat, e, if_neg (by omega), hl]; omega
    rw [this]
set_option maxHeartbeats 4000000 in
set_option maxRecDepth 100000 in
theorem c_X2_doubleOf (l : Launch) (D : va_G) (cT : Nat → ClassId) (H : Heap) {M : hmp} {nb ua da : Nat} {fu fd : Nat → UInt64} (hP : HPr D M H) (hN : NUM cT M nb ua da fu fd) (n : Nat) (hn : n < 2 ^ 64) (hf : fin64 (lN n).toUInt64) : Met l yX2_doubleOf (wz yX2_doubleOf cX2_doubleOf 5 (some .double)) ({ frames := 4, cells := 0, slots := 0, locals := 103 } : Room) (pP D cT [.ref nb, .long (lN n)] H) (qd (fun r => r = (lN n).toUInt64) H) 0 0 (fun _ => False) := by
  refine mk_p (by decide +kernel) (Nat.le_of_ble_eq_true rfl) ?_
  intro p e s m args below meth c S hK hs hr hlocks ls hl
  have hx := S.1
  have hb := S.2.1
  have hml := S.2.2.1
  have hown := S.2.2.2.1
  have hts := S.2.2.2.2
  have hl : lv_has ls 5 [(0, .ref nb), (1, .long (lN n))] := hl
  obtain ⟨hN0, hN1, hN2, hfu, hfd⟩ := id hN
  unfold fin64 at hf
  rw [lN_u hn] at hf
  refine lv_aload_n hx hb dX2_doubleOf_0 rfl (lv_at hl 0 rfl) ?_
  refine lv_lload_n hx hb dX2_doubleOf_1 rfl (lv_at hl 1 rfl) ?_
  refine lv_ldc2 hx hb hown (hts _ w_1_111) dX2_doubleOf_2 ?_
  refine lv_land hx hb dX2_doubleOf_5 ?_
  refine lv_topl (fun z1 hz1 => ?_)
  have hz1 : z1 = (lN (n % 9223372036854775808)) := by rw [hz1]; exact wb_mask (k := 63) hn (by decide)
  subst hz1
  refine lv_sipush (v := 1022) hx hb dX2_doubleOf_6 (by decide) ?_
  refine lv_bipush (v := 52) hx hb dX2_doubleOf_9 (by decide) ?_
  refine pc_d (rV (rest := []) S hK hP cI2 hN0 rfl (c_X2_sizeToldBy l D cT H hP hN (n % 9223372036854775808) 1022 52 (by omega) (by decide) (by decide) (by omega) (by omega)) sm_X2_sizeToldBy w_S_1 w_1_112 ⟨Nat.le_of_ble_eq_true rfl, Nat.le_of_ble_eq_true rfl⟩ ⟨rfl, rfl⟩ rfl hl.1 rfl (Nat.le_of_ble_eq_true rfl) dX2_doubleOf_11 ⟨Nat.le_of_ble_eq_true rfl, Nat.le_of_ble_eq_true rfl⟩) (fun r2 hr2 => ?_)
  have hz1 : P64 r2 (un64 (n % 9223372036854775808)) := by rw [← td64]; exact hr2
  refine lv_dstore_n (lv' := [(3, .double r2), (0, .ref nb), (1, .long (lN n))]) hx hb dX2_doubleOf_14 rfl hl (by decide) rfl (fun ls hl => ?_)
  refine lv_lload_n hx hb dX2_doubleOf_15 rfl (lv_at hl 2 rfl) ?_
  refine lv_ldc2 hx hb hown (hts _ w_1_127) dX2_doubleOf_16 ?_
  refine lv_land hx hb dX2_doubleOf_19 ?_
  refine lv_lconst (v := 0) hx hb dX2_doubleOf_20 (by decide) ?_
  refine W.lcmp hx hb dX2_doubleOf_21 ?_
  refine lv_if_eq (tgt := 30) hx hb dX2_doubleOf_22 (by decide) (fun c22 => ?_) (fun c22 => ?_)
  · replace c22 := (cv_lcmp_eq _ _).mp c22
    rw [sgn64_iff hn] at c22
    refine lv_dload_n hx hb dX2_doubleOf_30 rfl (lv_at hl 0 rfl) ?_
    refine pr_d S hs hr hlocks dX2_doubleOf_31 ?_
    exact dOf_pos c22 (by omega) (by rw [Nat.mod_eq_of_lt c22] at hz1; exact hz1)
  · replace c22 := (cv_lcmp_eq_n _ _).mp c22
    rw [sgn64_iff hn] at c22
    refine lv_dload_n hx hb dX2_doubleOf_25 rfl (lv_at hl 0 rfl) ?_
    refine lv_dneg hx hb dX2_doubleOf_26 ?_
    refine lv_goto (tgt := 31) hx hb dX2_doubleOf_27 (by decide) ?_
    refine pr_d S hs hr hlocks dX2_doubleOf_31 ?_
    exact dOf_neg hn c22 hf hz1
set_option maxHeartbeats 4000000 in
set_option maxRecDepth 100000 in
theorem c_X2_floatOf (l : Launch) (D : va_G) (cT : Nat → ClassId) (H : Heap) {M : hmp} {nb ua da : Nat} {fu fd : Nat → UInt64} (hP : HPr D M H) (hN : NUM cT M nb ua da fu fd) (n : Nat) (hn : n < 2 ^ 64) (hf : fin32 (lo32 (lN n))) : Met l yX2_floatOf (wz yX2_floatOf cX2_floatOf 5 (some .float)) ({ frames := 4, cells := 0, slots := 0, locals := 103 } : Room) (pP D cT [.ref nb, .long (lN n)] H) (qf (fun r => r = lo32 (lN n)) H) 0 0 (fun _ => False) := by
  refine mk_p (by decide +kernel) (Nat.le_of_ble_eq_true rfl) ?_
  intro p e s m args below meth c S hK hs hr hlocks ls hl
  have hx := S.1
  have hb := S.2.1
  have hml := S.2.2.1
  have hown := S.2.2.2.1
  have hts := S.2.2.2.2
  have hl : lv_has ls 5 [(0, .ref nb), (1, .long (lN n))] := hl
  obtain ⟨hN0, hN1, hN2, hfu, hfd⟩ := id hN
  have hf2 := hf
  unfold fin32 at hf2
  rw [lo32_n] at hf2
  refine lv_aload_n hx hb dX2_floatOf_0 rfl (lv_at hl 0 rfl) ?_
  refine lv_lload_n hx hb dX2_floatOf_1 rfl (lv_at hl 1 rfl) ?_
  refine lv_ldc2 hx hb hown (hts _ w_1_132) dX2_floatOf_2 ?_
  refine lv_land hx hb dX2_floatOf_5 ?_
  refine lv_topl (fun z1 hz1 => ?_)
  have hz1 : z1 = (lN (n % 2147483648)) := by rw [hz1]; exact wb_mask (k := 31) hn (by decide)
  subst hz1
  refine lv_bipush (v := 126) hx hb dX2_floatOf_6 (by decide) ?_
  refine lv_bipush (v := 23) hx hb dX2_floatOf_8 (by decide) ?_
  refine pc_d (rV (rest := []) S hK hP cI2 hN0 rfl (c_X2_sizeToldBy l D cT H hP hN (n % 2147483648) 126 23 (by omega) (by decide) (by decide) (by omega) (by omega)) sm_X2_sizeToldBy w_S_1 w_1_112 ⟨Nat.le_of_ble_eq_true rfl, Nat.le_of_ble_eq_true rfl⟩ ⟨rfl, rfl⟩ rfl hl.1 rfl (Nat.le_of_ble_eq_true rfl) dX2_floatOf_10 ⟨Nat.le_of_ble_eq_true rfl, Nat.le_of_ble_eq_true rfl⟩) (fun r2 hr2 => ?_)
  have hz2 := fOf_both hn hf (r := r2) (by rw [← td32, Nat.mul_assoc, ← Nat.pow_add]; exact hr2)
  refine lv_dstore_n (lv' := [(3, .double r2), (0, .ref nb), (1, .long (lN n))]) hx hb dX2_floatOf_13 rfl hl (by decide) rfl (fun ls hl => ?_)
  refine lv_lload_n hx hb dX2_floatOf_14 rfl (lv_at hl 2 rfl) ?_
  refine lv_ldc2 hx hb hown (hts _ w_1_133) dX2_floatOf_15 ?_
  refine lv_land hx hb dX2_floatOf_18 ?_
  refine lv_lconst (v := 0) hx hb dX2_floatOf_19 (by decide) ?_
  refine W.lcmp hx hb dX2_floatOf_20 ?_
  refine lv_if_eq (tgt := 29) hx hb dX2_floatOf_21 (by decide) (fun c21 => ?_) (fun c21 => ?_)
  · replace c21 := (cv_lcmp_eq _ _).mp c21
    refine lv_dload_n hx hb dX2_floatOf_29 rfl (lv_at hl 0 rfl) ?_
    rw [sgn32_iff hn] at c21
    refine lv_topd (fun z3 hz3 => ?_)
    have hz3 : z3 = (FP.f2d (lo32 (lN n))) := by rw [hz3]; exact hz2.1 c21
    subst hz3
    refine lv_d2f hx hb dX2_floatOf_30 (by rw [d2f_f2d hf]; exact n32_fin hf) ?_
    refine pr_f S hs hr hlocks dX2_floatOf_31 ?_
    exact d2f_f2d hf
  · replace c21 := (cv_lcmp_eq_n _ _).mp c21
    refine lv_dload_n hx hb dX2_floatOf_24 rfl (lv_at hl 0 rfl) ?_
    refine lv_dneg hx hb dX2_floatOf_25 ?_
    refine lv_goto (tgt := 30) hx hb dX2_floatOf_26 (by decide) ?_
    rw [sgn32_iff hn] at c21
    refine lv_topd (fun z4 hz4 => ?_)
    have hz4 : z4 = (FP.f2d (lo32 (lN n))) := by rw [hz4]; exact hz2.2 c21
    subst hz4
    refine lv_d2f hx hb dX2_floatOf_30 (by rw [d2f_f2d hf]; exact n32_fin hf) ?_
    refine pr_f S hs hr hlocks dX2_floatOf_31 ?_
    exact d2f_f2d hf
/-- a number that isn't below zero; its zero may bear a sign -/
def Q64 (x : UInt64) (z : Nat) : Prop := P64 x z ∨ (z = 0 ∧ x = 9223372036854775808)
theorem nz_fin : fin64 9223372036854775808 := by decide
theorem nz_mg : zmg 9223372036854775808 = 0 := zmg_zero.mpr (by decide)
theorem Q64.fin {x : UInt64} {z : Nat} (h : Q64 x z) : fin64 x := by
  rcases h with h | ⟨-, rfl⟩
  · exact h.fin
  · exact nz_fin
theorem Q64.zv {x : UInt64} {z : Nat} (h : Q64 x z) : FP.Core.zval FP.Core.b64 (FP.Core.val64 x) = (z : Int) := by
  rcases h with h | ⟨rfl, rfl⟩
  · exact h.zval
  · rw [zv_eq nz_fin, nz_mg]; decide
theorem Q64.lt {x y : UInt64} {a b : Nat} (hx : Q64 x a) (hy : P64 y b) : dLt x y ↔ a < b := by
  rw [dlt_iff hx.fin hy.fin, hx.zv, hy.zval]; omega
theorem Q64.ge {x y : UInt64} {a b : Nat} (hx : Q64 x a) (hy : P64 y b) : dGe x y ↔ b ≤ a := by
  show (FP.Core.dcmp x y = some .gt ∨ FP.Core.dcmp x y = some .eq) ↔ _
  rw [FP.Core.dcmp_ge, hx.zv, hy.zval]
  have n1 := fin64_ne hx.fin
  have n2 := fin64_ne hy.fin
  exact ⟨fun h => by omega, fun h => ⟨n1, n2, by omega⟩⟩
theorem nz_mul {y : UInt64} {b : Nat} (hy : P64 y b) : FP.dmul 9223372036854775808 y = 9223372036854775808 := by
  obtain ⟨d, t, hvy, -⟩ := hy.fin_form
  have hv := FP.Core.val64_dmul 9223372036854775808 y
  have e0 : FP.Core.val64 9223372036854775808 = .fin true 0 (-1074) := by decide +kernel
  rw [e0, hvy] at hv
  refine FP.Core.val64_inj ?_ ?_
  · rw [hv]; intro h; have h := FP.Core.round_nan.mp h; cases h
  · rw [hv, e0]
    show FP.Core.roundRatio FP.Core.b64 true (0 * d) 1 (-1074 + t) = _
    unfold FP.Core.roundRatio
    rw [if_pos (Nat.zero_mul d), FP.Core.qmin_b64]
theorem Q64.mul {x y : UInt64} {a b r : Nat} (hx : Q64 x a) (hy : P64 y b) (hr : Rep r) (h : a * b = r * 2 ^ 1074) : Q64 (FP.dmul x y) r := by
  rcases hx with hx | ⟨rfl, rfl⟩
  · exact Or.inl (hx.mul hy hr h)
  · refine Or.inr ⟨?_, nz_mul hy⟩
    rw [Nat.zero_mul] at h
    rcases Nat.mul_eq_zero.mp h.symm with h | h
    · exact h
    · exact absurd h (Nat.pos_iff_ne_zero.mp (Nat.two_pow_pos _))
theorem Q64.d2l {x : UInt64} {z : Nat} (h : Q64 x z) (hz : z / 2 ^ 1074 < 2 ^ 63) : FP.d2l x = lN (z / 2 ^ 1074) := by
  rcases h with h | ⟨rfl, rfl⟩
  · exact h.d2l hz
  · rw [Nat.zero_div]; decide +kernel
theorem Q64.rep {x : UInt64} {z : Nat} (h : Q64 x z) : Rep z := by
  rcases h with h | ⟨rfl, -⟩
  · exact h.rep
  · exact P64.zero.rep
theorem szf_Q {x : UInt64} (h : fin64 x) : Q64 (szf x) (zmg x) := by
  by_cases h0 : zmg x = 0
  · rw [szf_0 h h0, h0]
    have h1 := zmg_zero.mp h0
    have hl := x.toNat_lt
    by_cases hs : 9223372036854775808 ≤ x.toNat
    · exact Or.inr ⟨rfl, by apply UInt64.toNat_inj.mp; show x.toNat = 9223372036854775808; omega⟩
    · have e : x = 0 := by apply UInt64.toNat_inj.mp; show x.toNat = 0; omega
      rw [e]; exact Or.inl P64.zero
  · exact Or.inl (szf_P h (by omega))
theorem Q64.mul2 {x y : UInt64} {a k : Nat} (hx : Q64 x a) (hy : P64 y (2 ^ (1074 + k))) (hb : a * 2 ^ k < 2 ^ 2098) : Q64 (FP.dmul x y) (a * 2 ^ k) := by
  refine hx.mul hy (hx.rep.shl hb) ?_
  rw [Nat.mul_assoc, ← Nat.pow_add, Nat.add_comm]
theorem mulpow_lt {a s k t : Nat} (h : a < 2 ^ s) (hst : s + k ≤ t) : a * 2 ^ k < 2 ^ t := by
  have h1 : a * 2 ^ k < 2 ^ s * 2 ^ k := Nat.mul_lt_mul_of_pos_right h (Nat.two_pow_pos k)
  rw [← Nat.pow_add] at h1
  exact Nat.lt_of_lt_of_le h1 (Nat.pow_le_pow_right (by decide) hst)
theorem wb_1 {i : Nat} (hi : i < 64) : (1 : Int64) <<< (Int32.toInt64 (nI i) &&& 63) = lN (2 ^ i) := (wb_shl 1 hi).trans (by rw [Nat.one_mul])
set_option maxHeartbeats 4000000 in
set_option maxRecDepth 100000 in
theorem c_X2_bitsOfSize (l : Launch) (D : va_G) (cT : Nat → ClassId) (H : Heap) {M : hmp} {nb ua da : Nat} {fu fd : Nat → UInt64} (hP : HPr D M H) (hN : NUM cT M nb ua da fu fd) (size : UInt64) (z lo w u c0 j0 : Nat) (hsz : Q64 size z) (hw : w ≤ 52) (hlo : lo + w ≤ 1074) (hlo2 : lo ≤ 1022) (hu : u = c0 * 2 ^ j0) (hc : c0 < 2 ^ (w + 1)) (hz : z = u * 2 ^ (1074 - lo - w)) : Met l yX2_bitsOfSize (wz yX2_bitsOfSize cX2_bitsOfSize 10 (some .long)) ({ frames := 2, cells := 0, slots := 0, locals := 50 } : Room) (pP D cT [.ref nb, .double size, .int (nI lo), .int (nI w)] H) (ql (fun r => ∃ X mm, r = lN (X * 2 ^ w + mm) ∧ mm * 2 ^ X = u ∧ mm < 2 ^ (w + 1) ∧ (2 ^ w ≤ mm ∨ X = 0)) H) 0 0 (fun _ => False) := by
  refine mk_p (by decide +kernel) (Nat.le_of_ble_eq_true rfl) ?_
  intro p e s m args below meth c S hK hs hr hlocks ls hl
  have hx := S.1
  have hb := S.2.1
  have hml := S.2.2.1
  have hown := S.2.2.2.1
  have hts := S.2.2.2.2
  have hl : lv_has ls 10 [(0, .ref nb), (1, .double size), (3, .int (nI lo)), (4, .int (nI w))] := hl
  obtain ⟨hN0, hN1, hN2, hfu, hfd⟩ := id hN
  have loop : ∀ (i : Nat) (ii : Int32) (X a : Nat) (lf : UInt64), i ≤ 10 → ii.toInt = (i : Int) - 1 → Q64 lf a → a * 2 ^ X = z * 2 ^ lo → (2 ^ 1074 ≤ a ∨ X = 0) → (i = 0 → a < 2 ^ 1075) → (∀ j, i = j + 1 → a < 2 ^ (1074 + 2 ^ (j + 1))) → ∀ ls, lv_has ls 10 [(9, .int ii), (7, .long (lN X)), (5, .double lf), (4, .int (nI w)), (0, .ref nb)] → W p l e ({ frames := 2, cells := 0, slots := 0, locals := 50 } : Room) s m args below meth c H [] 0 0 (MQ below (ql (fun r => ∃ X mm, r = lN (X * 2 ^ w + mm) ∧ mm * 2 ^ X = u ∧ mm < 2 ^ (w + 1) ∧ (2 ^ w ≤ mm ∨ X = 0)) H) args s 0 0 (fun _ => False)) (F0 m 31 ls []) := by
    intro i
    induction i with
    | zero =>
      intro ii X a lf _ hii hlf hX hcase hz0 _ ls hl
      have ha := hz0 rfl
      obtain ⟨mm, e1, e2, e3, e4⟩ := lead_end (by omega) hlo hu hc hz hX ha hcase
      refine lv_iload hx hb dX2_bitsOfSize_31 (lv_at hl 0 rfl) ?_
      refine lv_if_lt (tgt := 76) hx hb dX2_bitsOfSize_33 (by decide) (fun _ => ?_) (fun h => absurd (Int32.lt_iff_toInt_lt.mpr (by rw [hii]; decide)) h)
      refine lv_lload hx hb dX2_bitsOfSize_76 (lv_at hl 1 rfl) ?_
      refine lv_iload hx hb dX2_bitsOfSize_78 (lv_at hl 3 rfl) ?_
      refine lv_lshl hx hb dX2_bitsOfSize_80 rfl ?_
      refine lv_dload hx hb dX2_bitsOfSize_81 (lv_at hl 2 rfl) ?_
      refine lv_aload_n hx hb dX2_bitsOfSize_83 rfl (lv_at hl 4 rfl) ?_
      refine lv_iload hx hb dX2_bitsOfSize_84 (lv_at hl 3 rfl) ?_
      refine pc_d (rV (rest := [.double lf, .long ((lN X) <<< (Int32.toInt64 (nI w) &&& 63))]) S hK hP cI2 hN0 rfl (c_X2_powerOfTwo l D cT H hP hN (nI w) ⟨by rw [nI_toInt (by omega)]; omega, by rw [nI_toInt (by omega)]; omega⟩) sm_X2_powerOfTwo w_S_3 w_1_120 ⟨Nat.le_of_ble_eq_true rfl, Nat.le_of_ble_eq_true rfl⟩ ⟨rfl, rfl⟩ rfl hl.1 rfl (Nat.le_of_ble_eq_true rfl) dX2_bitsOfSize_86 ⟨Nat.le_of_ble_eq_true rfl, Nat.le_of_ble_eq_true rfl⟩) (fun r1 hr1 => ?_)
      rw [nI_toInt (by omega), show ((1074 : Int) + (w : Int)).toNat = 1074 + w by omega] at hr1
      have hv := hlf.mul2 hr1 (mulpow_lt ha (by omega))
      refine lv_dmul hx hb dX2_bitsOfSize_89 (n64_fin hv.fin) ?_
      refine lv_d2l hx hb dX2_bitsOfSize_90 ?_
      refine lv_topl (fun z2 hz2 => ?_)
      have hz2 : z2 = (lN mm) := by rw [hz2]; rw [e1] at hv; rw [hv.d2l (by rw [Nat.mul_div_cancel _ (Nat.two_pow_pos _)]; have : 2 ^ (w + 1) ≤ 2 ^ 53 := Nat.pow_le_pow_right (by decide) (by omega); omega), Nat.mul_div_cancel _ (Nat.two_pow_pos _)]
      subst hz2
      refine lv_ladd hx hb dX2_bitsOfSize_91 ?_
      refine pr_l S hs hr hlocks dX2_bitsOfSize_92 ?_
      refine ⟨X, mm, ?_, e2, e3, e4⟩
      rw [wb_shl X (by omega), lN_add]
    | succ i ih =>
      intro ii X a lf hi10 hii hlf hX hcase _ hsu ls hl
      have hi : i < 10 := by omega
      have ha := hsu i rfl
      have hin : ii = nI i := by apply Int32.toInt_inj.mp; rw [hii, nI_toInt (by omega)]; omega
      subst hin
      refine lv_iload hx hb dX2_bitsOfSize_31 (lv_at hl 0 rfl) ?_
      refine lv_if_lt (tgt := 76) hx hb dX2_bitsOfSize_33 (by decide) (fun h => absurd h (nI_pos (by omega))) (fun _ => ?_)
      refine lv_dload hx hb dX2_bitsOfSize_36 (lv_at hl 2 rfl) ?_
      refine lv_aload_n hx hb dX2_bitsOfSize_38 rfl (lv_at hl 4 rfl) ?_
      refine hm_get S hK hP cI2 hN0 0 (by decide) w_1_25 rfl dX2_bitsOfSize_39 ?_
      refine lv_iload hx hb dX2_bitsOfSize_42 (lv_at hl 0 rfl) ?_
      refine hm_dald S hK hP hN1 (vp_in_nI (by omega) (by decide)) dX2_bitsOfSize_44 ?_
      refine lv_topd (fun z3 hz3 => ?_)
      have hz3 : z3 = (upf i) := by rw [hz3]; rw [nI_clamp (by omega)]; exact hfu i (by omega)
      subst hz3
      refine lv_dcmp hx hb dX2_bitsOfSize_45 ?_
      refine lv_if_lt (tgt := 70) hx hb dX2_bitsOfSize_46 (by decide) (fun c46 => ?_) (fun c46 => ?_)
      · replace c46 := (cv_dcmp_l_lt _ _).mp c46
        refine lv_iinc (v := (nI i) + (-1)) (lv' := [(9, .int ((nI i) + (-1))), (7, .long (lN X)), (5, .double lf), (4, .int (nI w)), (0, .ref nb)]) hx hb dX2_bitsOfSize_70 hl (k := 0) rfl (by rfl) (by decide) rfl (fun ls hl => ?_)
        refine lv_goto (tgt := 31) hx hb dX2_bitsOfSize_73 (by decide) ?_
        have hlt : a < 2 ^ (1074 + 2 ^ i) := Nat.not_le.mp (fun q => c46 ((hlf.ge (upf_P hi)).mpr q))
        exact ih _ X a lf (by omega) (by rw [show (-1 : Int32) = -(nI 1) from rfl, ← Int32.sub_eq_add_neg, i32_sub (by decide) (by rw [nI_toInt (by omega)]; omega) (by rw [nI_toInt (by omega)]; omega), nI_toInt (by omega)]; rfl) hlf hX hcase (fun e => by subst e; exact hlt) (fun j e => by subst e; exact hlt) ls (lv_sub hl [0, 1, 2, 3, 4] rfl)
      · replace c46 := (cv_dcmp_l_lt_n _ _).mp c46
        have hge := (hlf.ge (upf_P hi)).mp c46
        have hlp : P64 lf a := hlf.resolve_right (fun q => by have h9 := Nat.lt_of_lt_of_le (Nat.two_pow_pos (1074 + 2 ^ i)) hge; omega)
        obtain ⟨b, hb1, hb2, hb3, hb4⟩ := lead_step hlp hi hge ha
        refine lv_dload hx hb dX2_bitsOfSize_49 (lv_at hl 2 rfl) ?_
        refine lv_aload_n hx hb dX2_bitsOfSize_51 rfl (lv_at hl 4 rfl) ?_
        refine hm_get S hK hP cI2 hN0 1 (by decide) w_1_26 rfl dX2_bitsOfSize_52 ?_
        refine lv_iload hx hb dX2_bitsOfSize_55 (lv_at hl 0 rfl) ?_
        refine hm_dald S hK hP hN2 (vp_in_nI (by omega) (by decide)) dX2_bitsOfSize_57 ?_
        refine lv_topd (fun z4 hz4 => ?_)
        have hz4 : z4 = (dnf i) := by rw [hz4]; rw [nI_clamp (by omega)]; exact hfd i (by omega)
        subst hz4
        refine lv_dmul hx hb dX2_bitsOfSize_58 (n64_fin hb1.fin) ?_
        refine lv_dstore (lv' := [(5, .double (FP.dmul lf (dnf i))), (9, .int (nI i)), (7, .long (lN X)), (4, .int (nI w)), (0, .ref nb)]) hx hb dX2_bitsOfSize_59 hl (by decide) rfl (fun ls hl => ?_)
        refine lv_lload hx hb dX2_bitsOfSize_61 (lv_at hl 2 rfl) ?_
        refine lv_lconst (v := 1) hx hb dX2_bitsOfSize_63 (by decide) ?_
        refine lv_iload hx hb dX2_bitsOfSize_64 (lv_at hl 1 rfl) ?_
        refine lv_lshl hx hb dX2_bitsOfSize_66 rfl ?_
        refine lv_topl (fun z5 hz5 => ?_)
        have hz5 : z5 = (lN (2 ^ i)) := by rw [hz5]; exact wb_1 (by omega)
        subst hz5
        refine lv_ladd hx hb dX2_bitsOfSize_67 ?_
        refine lv_topl (fun z6 hz6 => ?_)
        have hz6 : z6 = (lN (X + 2 ^ i)) := by rw [hz6]; exact lN_add _ _
        subst hz6
        refine lv_lstore (lv' := [(7, .long (lN (X + 2 ^ i))), (5, .double (FP.dmul lf (dnf i))), (9, .int (nI i)), (4, .int (nI w)), (0, .ref nb)]) hx hb dX2_bitsOfSize_68 hl (by decide) rfl (fun ls hl => ?_)
        refine lv_iinc (v := (nI i) + (-1)) (lv' := [(9, .int ((nI i) + (-1))), (7, .long (lN (X + 2 ^ i))), (5, .double (FP.dmul lf (dnf i))), (4, .int (nI w)), (0, .ref nb)]) hx hb dX2_bitsOfSize_70 hl (k := 2) rfl (by rfl) (by decide) rfl (fun ls hl => ?_)
        refine lv_goto (tgt := 31) hx hb dX2_bitsOfSize_73 (by decide) ?_
        exact ih _ (X + 2 ^ i) b _ (by omega) (by rw [show (-1 : Int32) = -(nI 1) from rfl, ← Int32.sub_eq_add_neg, i32_sub (by decide) (by rw [nI_toInt (by omega)]; omega) (by rw [nI_toInt (by omega)]; omega), nI_toInt (by omega)]; rfl) (Or.inl hb1) (by rw [← hX, hb2, Nat.pow_add, Nat.mul_assoc, Nat.mul_comm (2 ^ X)]) (Or.inl hb3) (fun e => by subst e; exact hb4) (fun j e => by subst e; exact hb4) ls (lv_sub hl [0, 1, 2, 3, 4] rfl)
  refine lv_dload_n hx hb dX2_bitsOfSize_0 rfl (lv_at hl 1 rfl) ?_
  refine lv_dstore (lv' := [(5, .double size), (0, .ref nb), (1, .double size), (3, .int (nI lo)), (4, .int (nI w))]) hx hb dX2_bitsOfSize_1 hl (by decide) rfl (fun ls hl => ?_)
  refine lv_iload_n hx hb dX2_bitsOfSize_3 rfl (lv_at hl 3 rfl) ?_
  refine lv_i2l hx hb dX2_bitsOfSize_4 rfl ?_
  refine lv_lstore (lv' := [(7, .long (Int32.toInt64 (nI lo))), (5, .double size), (0, .ref nb), (1, .double size), (3, .int (nI lo)), (4, .int (nI w))]) hx hb dX2_bitsOfSize_5 hl (by decide) rfl (fun ls hl => ?_)
  refine lv_dload hx hb dX2_bitsOfSize_7 (lv_at hl 1 rfl) ?_
  refine lv_dconst1 hx hb dX2_bitsOfSize_9 ?_
  refine lv_dcmp hx hb dX2_bitsOfSize_10 ?_
  refine lv_if_ge (tgt := 27) hx hb dX2_bitsOfSize_11 (by decide) (fun c11 => ?_) (fun c11 => ?_)
  · replace c11 := (cv_dcmp_g_ge _ _).mp c11
    refine lv_bipush (v := 9) hx hb dX2_bitsOfSize_27 (by decide) ?_
    refine lv_istore (lv' := [(9, .int 9), (7, .long (Int32.toInt64 (nI lo))), (5, .double size), (0, .ref nb), (1, .double size), (3, .int (nI lo)), (4, .int (nI w))]) hx hb dX2_bitsOfSize_29 hl (by decide) rfl (fun ls hl => ?_)
    have hz1 : 2 ^ 1074 ≤ z := Nat.not_lt.mp (fun q => c11 ((hsz.lt P64.one).mpr q))
    exact loop 10 9 lo z size (by omega) rfl hsz rfl (Or.inl hz1) (fun e => by omega) (fun j e => by cases e; exact Nat.lt_of_lt_of_le hsz.rep.form.1 (Nat.pow_le_pow_right (by decide) (by decide))) ls (by rw [← nI_l (by omega)]; exact lv_sub hl [0, 1, 2, 6, 3] rfl)
  · replace c11 := (cv_dcmp_g_ge_n _ _).mp c11
    refine lv_dload hx hb dX2_bitsOfSize_14 (lv_at hl 1 rfl) ?_
    refine lv_aload_n hx hb dX2_bitsOfSize_16 rfl (lv_at hl 2 rfl) ?_
    refine lv_iload_n hx hb dX2_bitsOfSize_17 rfl (lv_at hl 4 rfl) ?_
    refine pc_d (rV (rest := [.double size]) S hK hP cI2 hN0 rfl (c_X2_powerOfTwo l D cT H hP hN (nI lo) ⟨by rw [nI_toInt (by omega)]; omega, by rw [nI_toInt (by omega)]; omega⟩) sm_X2_powerOfTwo w_S_3 w_1_120 ⟨Nat.le_of_ble_eq_true rfl, Nat.le_of_ble_eq_true rfl⟩ ⟨rfl, rfl⟩ rfl hl.1 rfl (Nat.le_of_ble_eq_true rfl) dX2_bitsOfSize_18 ⟨Nat.le_of_ble_eq_true rfl, Nat.le_of_ble_eq_true rfl⟩) (fun r7 hr7 => ?_)
    have hz1 : z < 2 ^ 1074 := (hsz.lt P64.one).mp c11
    rw [nI_toInt (by omega), show ((1074 : Int) + (lo : Int)).toNat = 1074 + lo by omega] at hr7
    have hv := hsz.mul2 hr7 (mulpow_lt hz1 (by omega))
    refine lv_dmul hx hb dX2_bitsOfSize_21 (n64_fin hv.fin) ?_
    refine lv_dstore (lv' := [(5, .double (FP.dmul size r7)), (7, .long (Int32.toInt64 (nI lo))), (0, .ref nb), (1, .double size), (3, .int (nI lo)), (4, .int (nI w))]) hx hb dX2_bitsOfSize_22 hl (by decide) rfl (fun ls hl => ?_)
    refine lv_lconst (v := 0) hx hb dX2_bitsOfSize_24 (by decide) ?_
    refine lv_lstore (lv' := [(7, .long 0), (5, .double (FP.dmul size r7)), (0, .ref nb), (1, .double size), (3, .int (nI lo)), (4, .int (nI w))]) hx hb dX2_bitsOfSize_25 hl (by decide) rfl (fun ls hl => ?_)
    refine lv_bipush (v := 9) hx hb dX2_bitsOfSize_27 (by decide) ?_
    refine lv_istore (lv' := [(9, .int 9), (7, .long 0), (5, .double (FP.dmul size r7)), (0, .ref nb), (1, .double size), (3, .int (nI lo)), (4, .int (nI w))]) hx hb dX2_bitsOfSize_29 hl (by decide) rfl (fun ls hl => ?_)
    exact loop 10 9 0 _ _ (by omega) rfl hv (by rw [Nat.pow_zero, Nat.mul_one]) (Or.inr rfl) (fun e => by omega) (fun j e => by cases e; exact Nat.lt_of_lt_of_le (hv.rep.form.1) (Nat.pow_le_pow_right (by decide) (by decide))) ls (lv_sub hl [0, 1, 2, 6, 3] rfl)
