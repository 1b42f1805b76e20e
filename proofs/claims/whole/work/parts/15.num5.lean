theorem bits64_of {X mm n : Nat} (e : mm * 2 ^ X = un64 n) (h1 : mm < 2 ^ 53) (h2 : 2 ^ 52 ≤ mm ∨ X = 0) : X * 2 ^ 52 + mm = n := by
  apply un64_inj
  rw [← e]
  rcases Nat.lt_or_ge mm (2 ^ 52) with h | h
  · have hX : X = 0 := h2.resolve_left (by omega)
    subst hX
    rw [Nat.zero_mul, Nat.zero_add, un64_lo h]; omega
  · exact un64_hi h h1
theorem bits32_of {X mm n : Nat} (e : mm * 2 ^ X = un32 n) (h1 : mm < 2 ^ 24) (h2 : 2 ^ 23 ≤ mm ∨ X = 0) : X * 2 ^ 23 + mm = n := by
  apply un32_inj
  rw [← e]
  rcases Nat.lt_or_ge mm (2 ^ 23) with h | h
  · have hX : X = 0 := h2.resolve_left (by omega)
    subst hX
    rw [Nat.zero_mul, Nat.zero_add, un32_lo h]; omega
  · exact un32_hi h h1
theorem u64_l (x : UInt64) : x.toInt64 = lN x.toNat := by
  apply wb_inj
  rw [wb_tb]
  apply BitVec.eq_of_toNat_eq
  rw [BitVec.toNat_ofNat, Nat.mod_eq_of_lt x.toNat_lt]
  rfl
theorem u32_i (x : UInt32) : x.toInt32 = nI x.toNat := by
  apply Int32.toBitVec_inj.mp
  show x.toBitVec = BitVec.ofNat 32 x.toNat
  apply BitVec.eq_of_toNat_eq
  rw [BitVec.toNat_ofNat, Nat.mod_eq_of_lt x.toNat_lt]
  rfl
theorem or63 {n : Nat} (h : n < 9223372036854775808) : lN n ||| (-9223372036854775808) = lN (n + 9223372036854775808) := by
  have e : (-9223372036854775808 : Int64) = lN (1 * 9223372036854775808) := by decide
  rw [e, g_or' (k := 63) (p := 9223372036854775808) (by decide) h (by omega), Nat.one_mul]
theorem or31 {n : Nat} (h : n < 2147483648) : lN n ||| 2147483648 = lN (n + 2147483648) := by
  have e : (2147483648 : Int64) = lN (1 * 2147483648) := by decide
  rw [e, g_or' (k := 31) (p := 2147483648) (by decide) h (by omega), Nat.one_mul]
theorem sn_l {b : Int64} (h : fin64 b.toUInt64) : vn_snl2d b = false := by
  have h1 := n64_fin h
  unfold vf_n64 at h1
  unfold vn_snl2d
  rw [Bool.and_eq_false_iff]
  left
  exact decide_eq_false (UInt64.not_lt.mpr h1)
theorem sn_i {b : Int32} (h : fin32 b.toUInt32) : vn_sni2f b = false := by
  have h1 := n32_fin h
  unfold vf_n32 at h1
  unfold vn_sni2f
  rw [Bool.and_eq_false_iff]
  left
  exact decide_eq_false (UInt32.not_lt.mpr h1)
theorem deq_self {x : UInt64} (h : FP.dIsNaN x = false) : dEq x x := FP.Core.dcmp_refl h
theorem feq_self {x : UInt32} (h : FP.fIsNaN x = false) : fEq x x := FP.Core.fcmp_refl h
set_option maxHeartbeats 4000000 in
set_option maxRecDepth 100000 in
theorem c_X2_bitsOfDouble (l : Launch) (D : va_G) (cT : Nat → ClassId) (H : Heap) {M : hmp} {nb ua da : Nat} {fu fd : Nat → UInt64} (hP : HPr D M H) (hN : NUM cT M nb ua da fu fd) (x : UInt64) (hf : fin64 x) : Met l yX2_bitsOfDouble (wz yX2_bitsOfDouble cX2_bitsOfDouble 5 (some .long)) ({ frames := 3, cells := 0, slots := 0, locals := 79 } : Room) (pP D cT [.ref nb, .double x] H) (ql (fun r => r = x.toInt64) H) 0 0 (fun _ => False) := by
  refine mk_p (by decide +kernel) (Nat.le_of_ble_eq_true rfl) ?_
  intro p e s m args below meth c S hK hs hr hlocks ls hl
  have hx := S.1
  have hb := S.2.1
  have hml := S.2.2.1
  have hown := S.2.2.2.1
  have hts := S.2.2.2.2
  have hl : lv_has ls 5 [(0, .ref nb), (1, .double x)] := hl
  obtain ⟨hN0, hN1, hN2, hfu, hfd⟩ := id hN
  have hfl : x.toNat % 9223372036854775808 < 9218868437227405312 := hf
  obtain ⟨c0, j0, hcj, hc0⟩ := un64_form hfl
  refine lv_aload_n hx hb dX2_bitsOfDouble_0 rfl (lv_at hl 0 rfl) ?_
  refine lv_dload_n hx hb dX2_bitsOfDouble_1 rfl (lv_at hl 1 rfl) ?_
  refine pc_d (rS (rest := [.ref nb]) S hK (c_X2_sizeOf l D cT H x) sm_X2_sizeOf w_1_142 ⟨Nat.le_of_ble_eq_true rfl, Nat.le_of_ble_eq_true rfl⟩ ⟨rfl, rfl⟩ rfl hl.1 rfl (Nat.le_of_ble_eq_true rfl) dX2_bitsOfDouble_2 ⟨Nat.le_of_ble_eq_true rfl, Nat.le_of_ble_eq_true rfl⟩) (fun r1 hr1 => ?_)
  subst hr1
  refine lv_sipush (v := 1022) hx hb dX2_bitsOfDouble_5 (by decide) ?_
  refine lv_bipush (v := 52) hx hb dX2_bitsOfDouble_8 (by decide) ?_
  refine pc_l (rV (rest := []) S hK hP cI2 hN0 rfl (c_X2_bitsOfSize l D cT H hP hN (szf x) (zmg x) 1022 52 (zmg x) c0 j0 (szf_Q hf) (by decide) (by decide) (by decide) hcj hc0 (by rw [show 1074 - 1022 - 52 = 0 from rfl, Nat.pow_zero, Nat.mul_one])) sm_X2_bitsOfSize w_S_4 w_1_145 ⟨Nat.le_of_ble_eq_true rfl, Nat.le_of_ble_eq_true rfl⟩ ⟨rfl, rfl⟩ rfl hl.1 rfl (Nat.le_of_ble_eq_true rfl) dX2_bitsOfDouble_10 ⟨Nat.le_of_ble_eq_true rfl, Nat.le_of_ble_eq_true rfl⟩) (fun r2 hr2 => ?_)
  obtain ⟨X, mm, hX1, hX2, hX3, hX4⟩ := hr2
  have hX5 := bits64_of hX2 hX3 hX4
  rw [hX5] at hX1
  subst hX1
  refine lv_lstore_n (lv' := [(3, .long (lN (x.toNat % 9223372036854775808))), (0, .ref nb), (1, .double x)]) hx hb dX2_bitsOfDouble_13 rfl hl (by decide) rfl (fun ls hl => ?_)
  refine lv_dload_n hx hb dX2_bitsOfDouble_14 rfl (lv_at hl 2 rfl) ?_
  refine pc_b (rS (rest := []) S hK (c_X2_isSigned l D cT H x (hf)) sm_X2_isSigned w_1_149 ⟨Nat.le_of_ble_eq_true rfl, Nat.le_of_ble_eq_true rfl⟩ ⟨rfl, rfl⟩ rfl hl.1 rfl (Nat.le_of_ble_eq_true rfl) dX2_bitsOfDouble_15 ⟨Nat.le_of_ble_eq_true rfl, Nat.le_of_ble_eq_true rfl⟩) (fun c15 => ?_) (fun c15 => ?_)
  · skip
    refine lv_if_eq (tgt := 29) hx hb dX2_bitsOfDouble_18 (by decide) (fun h => absurd h (by decide)) (fun _ => ?_)
    refine lv_lload_n hx hb dX2_bitsOfDouble_21 rfl (lv_at hl 0 rfl) ?_
    refine lv_ldc2 hx hb hown (hts _ w_1_127) dX2_bitsOfDouble_22 ?_
    refine lv_lor hx hb dX2_bitsOfDouble_25 ?_
    refine lv_goto (tgt := 30) hx hb dX2_bitsOfDouble_26 (by decide) ?_
    refine pr_l S hs hr hlocks dX2_bitsOfDouble_30 ?_
    rw [u64_l]
    have hxl := x.toNat_lt
    rw [or63 (Nat.mod_lt _ (by decide)), show x.toNat % 9223372036854775808 + 9223372036854775808 = x.toNat by omega]
  · skip
    refine lv_if_eq (tgt := 29) hx hb dX2_bitsOfDouble_18 (by decide) (fun _ => ?_) (fun h => absurd (by decide) h)
    refine lv_lload_n hx hb dX2_bitsOfDouble_29 rfl (lv_at hl 0 rfl) ?_
    refine pr_l S hs hr hlocks dX2_bitsOfDouble_30 ?_
    rw [u64_l]
    have hxl := x.toNat_lt
    rw [Nat.mod_eq_of_lt (by omega)]
set_option maxHeartbeats 4000000 in
set_option maxRecDepth 100000 in
theorem c_X2_bitsOfFloat (l : Launch) (D : va_G) (cT : Nat → ClassId) (H : Heap) {M : hmp} {nb ua da : Nat} {fu fd : Nat → UInt64} (hP : HPr D M H) (hN : NUM cT M nb ua da fu fd) (x : UInt32) (hf : fin32 x) : Met l yX2_bitsOfFloat (wz yX2_bitsOfFloat cX2_bitsOfFloat 4 (some .int)) ({ frames := 3, cells := 0, slots := 0, locals := 79 } : Room) (pP D cT [.ref nb, .float x] H) (qi (fun r => r = x.toInt32) H) 0 0 (fun _ => False) := by
  refine mk_p (by decide +kernel) (Nat.le_of_ble_eq_true rfl) ?_
  intro p e s m args below meth c S hK hs hr hlocks ls hl
  have hx := S.1
  have hb := S.2.1
  have hml := S.2.2.1
  have hown := S.2.2.2.1
  have hts := S.2.2.2.2
  have hl : lv_has ls 4 [(0, .ref nb), (1, .float x)] := hl
  obtain ⟨hN0, hN1, hN2, hfu, hfd⟩ := id hN
  have hfl : x.toNat % 2147483648 < 2139095040 := hf
  obtain ⟨c0, j0, hcj, hc0, -⟩ := un32_form hfl
  have hfd := fin_f2d hf
  have hp := f2d_parts hf
  refine lv_aload_n hx hb dX2_bitsOfFloat_0 rfl (lv_at hl 0 rfl) ?_
  refine lv_fload_n hx hb dX2_bitsOfFloat_1 rfl (lv_at hl 1 rfl) ?_
  refine lv_f2d hx hb dX2_bitsOfFloat_2 (n64_fin hfd) ?_
  refine pc_d (rS (rest := [.ref nb]) S hK (c_X2_sizeOf l D cT H (FP.f2d x)) sm_X2_sizeOf w_1_142 ⟨Nat.le_of_ble_eq_true rfl, Nat.le_of_ble_eq_true rfl⟩ ⟨rfl, rfl⟩ rfl hl.1 rfl (Nat.le_of_ble_eq_true rfl) dX2_bitsOfFloat_3 ⟨Nat.le_of_ble_eq_true rfl, Nat.le_of_ble_eq_true rfl⟩) (fun r1 hr1 => ?_)
  subst hr1
  refine lv_bipush (v := 126) hx hb dX2_bitsOfFloat_6 (by decide) ?_
  refine lv_bipush (v := 23) hx hb dX2_bitsOfFloat_8 (by decide) ?_
  refine pc_l (rV (rest := []) S hK hP cI2 hN0 rfl (c_X2_bitsOfSize l D cT H hP hN (szf (FP.f2d x)) (zmg (FP.f2d x)) 126 23 (un32 (x.toNat % 2147483648)) c0 j0 (szf_Q hfd) (by decide) (by decide) (by decide) hcj hc0 hp.2) sm_X2_bitsOfSize w_S_4 w_1_145 ⟨Nat.le_of_ble_eq_true rfl, Nat.le_of_ble_eq_true rfl⟩ ⟨rfl, rfl⟩ rfl hl.1 rfl (Nat.le_of_ble_eq_true rfl) dX2_bitsOfFloat_10 ⟨Nat.le_of_ble_eq_true rfl, Nat.le_of_ble_eq_true rfl⟩) (fun r2 hr2 => ?_)
  obtain ⟨X, mm, hX1, hX2, hX3, hX4⟩ := hr2
  have hX5 := bits32_of hX2 hX3 hX4
  rw [hX5] at hX1
  subst hX1
  refine lv_lstore_n (lv' := [(2, .long (lN (x.toNat % 2147483648))), (0, .ref nb), (1, .float x)]) hx hb dX2_bitsOfFloat_13 rfl hl (by decide) rfl (fun ls hl => ?_)
  refine lv_fload_n hx hb dX2_bitsOfFloat_14 rfl (lv_at hl 2 rfl) ?_
  refine lv_f2d hx hb dX2_bitsOfFloat_15 (n64_fin hfd) ?_
  refine pc_b (rS (rest := []) S hK (c_X2_isSigned l D cT H (FP.f2d x) (hfd)) sm_X2_isSigned w_1_149 ⟨Nat.le_of_ble_eq_true rfl, Nat.le_of_ble_eq_true rfl⟩ ⟨rfl, rfl⟩ rfl hl.1 rfl (Nat.le_of_ble_eq_true rfl) dX2_bitsOfFloat_16 ⟨Nat.le_of_ble_eq_true rfl, Nat.le_of_ble_eq_true rfl⟩) (fun c16 => ?_) (fun c16 => ?_)
  · skip
    refine lv_if_eq (tgt := 30) hx hb dX2_bitsOfFloat_19 (by decide) (fun h => absurd h (by decide)) (fun _ => ?_)
    refine lv_lload_n hx hb dX2_bitsOfFloat_22 rfl (lv_at hl 0 rfl) ?_
    refine lv_ldc2 hx hb hown (hts _ w_1_133) dX2_bitsOfFloat_23 ?_
    refine lv_lor hx hb dX2_bitsOfFloat_26 ?_
    refine lv_goto (tgt := 31) hx hb dX2_bitsOfFloat_27 (by decide) ?_
    rw [hp.1] at c16
    have hxl := x.toNat_lt
    refine lv_topl (fun z3 hz3 => ?_)
    have hz3 : z3 = (lN x.toNat) := by rw [hz3]; rw [or31 (Nat.mod_lt _ (by decide)), show x.toNat % 2147483648 + 2147483648 = x.toNat by omega]
    subst hz3
    refine lv_l2i hx hb dX2_bitsOfFloat_31 rfl ?_
    refine pr_i S hs hr hlocks dX2_bitsOfFloat_32 ?_
    rw [u32_i, lN_i]
  · skip
    refine lv_if_eq (tgt := 30) hx hb dX2_bitsOfFloat_19 (by decide) (fun _ => ?_) (fun h => absurd (by decide) h)
    refine lv_lload_n hx hb dX2_bitsOfFloat_30 rfl (lv_at hl 0 rfl) ?_
    rw [hp.1] at c16
    have hxl := x.toNat_lt
    refine lv_topl (fun z4 hz4 => ?_)
    have hz4 : z4 = (lN x.toNat) := by rw [hz4]; rw [Nat.mod_eq_of_lt (by omega)]
    subst hz4
    refine lv_l2i hx hb dX2_bitsOfFloat_31 rfl ?_
    refine pr_i S hs hr hlocks dX2_bitsOfFloat_32 ?_
    rw [u32_i, lN_i]
set_option maxHeartbeats 4000000 in
set_option maxRecDepth 100000 in
theorem c_DisNaN (l : Launch) (D : va_G) (cT : Nat → ClassId) (H : Heap) (x : UInt64) (hn : FP.dIsNaN x = false) : Met l yJxe99ae_isNaN_b9ae7 (wz yJxe99ae_isNaN_b9ae7 cJxe99ae_isNaN_b9ae7 2 (some .boolean)) ({ frames := 0, cells := 0, slots := 0, locals := 0 } : Room) (pP D cT [.double x] H) (qi (fun r => r = if False then 1 else 0) H) 0 0 (fun _ => False) := by
  refine mk_p (by decide +kernel) (Nat.le_of_ble_eq_true rfl) ?_
  intro p e s m args below meth c S hK hs hr hlocks ls hl
  have hx := S.1
  have hb := S.2.1
  have hml := S.2.2.1
  have hown := S.2.2.2.1
  have hts := S.2.2.2.2
  have hl : lv_has ls 2 [(0, .double x)] := hl
  refine lv_dload_n hx hb dJxe99ae_isNaN_b9ae7_0 rfl (lv_at hl 0 rfl) ?_
  refine lv_dload_n hx hb dJxe99ae_isNaN_b9ae7_1 rfl (lv_at hl 0 rfl) ?_
  refine lv_dcmp hx hb dJxe99ae_isNaN_b9ae7_2 ?_
  refine lv_if_eq (tgt := 10) hx hb dJxe99ae_isNaN_b9ae7_3 (by decide) (fun c3 => ?_) (fun c3 => ?_)
  · replace c3 := (cv_dcmp_l_eq _ _).mp c3
    refine lv_iconst (v := 0) hx hb dJxe99ae_isNaN_b9ae7_10 (by decide) ?_
    refine pr_z S hs hr hlocks rfl dJxe99ae_isNaN_b9ae7_11 ?_
    exact (if_neg id).symm
  · replace c3 := (cv_dcmp_l_eq_n _ _).mp c3
    refine lv_iconst (v := 1) hx hb dJxe99ae_isNaN_b9ae7_6 (by decide) ?_
    refine lv_goto (tgt := 11) hx hb dJxe99ae_isNaN_b9ae7_7 (by decide) ?_
    refine pr_z S hs hr hlocks rfl dJxe99ae_isNaN_b9ae7_11 ?_
    exact absurd (deq_self hn) c3
set_option maxHeartbeats 4000000 in
set_option maxRecDepth 100000 in
theorem c_FisNaN (l : Launch) (D : va_G) (cT : Nat → ClassId) (H : Heap) (x : UInt32) (hn : FP.fIsNaN x = false) : Met l yJxf58ca_isNaN_12338 (wz yJxf58ca_isNaN_12338 cJxf58ca_isNaN_12338 1 (some .boolean)) ({ frames := 0, cells := 0, slots := 0, locals := 0 } : Room) (pP D cT [.float x] H) (qi (fun r => r = if False then 1 else 0) H) 0 0 (fun _ => False) := by
  refine mk_p (by decide +kernel) (Nat.le_of_ble_eq_true rfl) ?_
  intro p e s m args below meth c S hK hs hr hlocks ls hl
  have hx := S.1
  have hb := S.2.1
  have hml := S.2.2.1
  have hown := S.2.2.2.1
  have hts := S.2.2.2.2
  have hl : lv_has ls 1 [(0, .float x)] := hl
  refine lv_fload_n hx hb dJxf58ca_isNaN_12338_0 rfl (lv_at hl 0 rfl) ?_
  refine lv_fload_n hx hb dJxf58ca_isNaN_12338_1 rfl (lv_at hl 0 rfl) ?_
  refine lv_fcmp hx hb dJxf58ca_isNaN_12338_2 ?_
  refine lv_if_eq (tgt := 10) hx hb dJxf58ca_isNaN_12338_3 (by decide) (fun c3 => ?_) (fun c3 => ?_)
  · replace c3 := (cv_fcmp_l_eq _ _).mp c3
    refine lv_iconst (v := 0) hx hb dJxf58ca_isNaN_12338_10 (by decide) ?_
    refine pr_z S hs hr hlocks rfl dJxf58ca_isNaN_12338_11 ?_
    exact (if_neg id).symm
  · replace c3 := (cv_fcmp_l_eq_n _ _).mp c3
    refine lv_iconst (v := 1) hx hb dJxf58ca_isNaN_12338_6 (by decide) ?_
    refine lv_goto (tgt := 11) hx hb dJxf58ca_isNaN_12338_7 (by decide) ?_
    refine pr_z S hs hr hlocks rfl dJxf58ca_isNaN_12338_11 ?_
    exact absurd (feq_self hn) c3
set_option maxHeartbeats 4000000 in
set_option maxRecDepth 100000 in
theorem c_DtoL (l : Launch) (D : va_G) (cT : Nat → ClassId) (H : Heap) (x : UInt64) (hn : FP.dIsNaN x = false) : Met l yJxe99ae_doubleToLongBits_ccdee (wz yJxe99ae_doubleToLongBits_ccdee cJxe99ae_doubleToLongBits_ccdee 2 (some .long)) ({ frames := 1, cells := 0, slots := 0, locals := 24 } : Room) (pP D cT [.double x] H) (ql (fun r => r = x.toInt64) H) 0 0 (fun _ => False) := by
  refine mk_p (by decide +kernel) (Nat.le_of_ble_eq_true rfl) ?_
  intro p e s m args below meth c S hK hs hr hlocks ls hl
  have hx := S.1
  have hb := S.2.1
  have hml := S.2.2.1
  have hown := S.2.2.2.1
  have hts := S.2.2.2.2
  have hl : lv_has ls 2 [(0, .double x)] := hl
  refine lv_dload_n hx hb dJxe99ae_doubleToLongBits_ccdee_0 rfl (lv_at hl 0 rfl) ?_
  refine pc_b (rS (rest := []) S hK (c_DisNaN l D cT H x hn) sm_Jxe99ae_isNaN_b9ae7 w_2_226 ⟨Nat.le_of_ble_eq_true rfl, Nat.le_of_ble_eq_true rfl⟩ ⟨rfl, rfl⟩ rfl hl.1 rfl (Nat.le_of_ble_eq_true rfl) dJxe99ae_doubleToLongBits_ccdee_1 ⟨Nat.le_of_ble_eq_true rfl, Nat.le_of_ble_eq_true rfl⟩) (fun c1 => ?_) (fun c1 => ?_)
  · skip
    exact c1.elim
  · skip
    refine lv_if_ne (tgt := 12) hx hb dJxe99ae_doubleToLongBits_ccdee_4 (by decide) (fun h => absurd rfl h) (fun _ => ?_)
    refine lv_dload_n hx hb dJxe99ae_doubleToLongBits_ccdee_7 rfl (lv_at hl 0 rfl) ?_
    refine vn_d2l hx hb (hml.trans hl.1.symm) hown (hts _ w_2_229) (hts _ w_2_231) (hts _ w_2_230) (hts _ w_1_5) (Nat.le_of_ble_eq_true rfl) (Nat.le_of_ble_eq_true rfl) dJxe99ae_doubleToLongBits_ccdee_8 ?_
    refine pr_l S hs hr hlocks dJxe99ae_doubleToLongBits_ccdee_11 ?_
    rfl
set_option maxHeartbeats 4000000 in
set_option maxRecDepth 100000 in
theorem c_FtoI (l : Launch) (D : va_G) (cT : Nat → ClassId) (H : Heap) (x : UInt32) (hn : FP.fIsNaN x = false) : Met l yJxf58ca_floatToIntBits_5c35a (wz yJxf58ca_floatToIntBits_5c35a cJxf58ca_floatToIntBits_5c35a 1 (some .int)) ({ frames := 1, cells := 0, slots := 0, locals := 24 } : Room) (pP D cT [.float x] H) (qi (fun r => r = x.toInt32) H) 0 0 (fun _ => False) := by
  refine mk_p (by decide +kernel) (Nat.le_of_ble_eq_true rfl) ?_
  intro p e s m args below meth c S hK hs hr hlocks ls hl
  have hx := S.1
  have hb := S.2.1
  have hml := S.2.2.1
  have hown := S.2.2.2.1
  have hts := S.2.2.2.2
  have hl : lv_has ls 1 [(0, .float x)] := hl
  refine lv_fload_n hx hb dJxf58ca_floatToIntBits_5c35a_0 rfl (lv_at hl 0 rfl) ?_
  refine pc_b (rS (rest := []) S hK (c_FisNaN l D cT H x hn) sm_Jxf58ca_isNaN_12338 w_2_236 ⟨Nat.le_of_ble_eq_true rfl, Nat.le_of_ble_eq_true rfl⟩ ⟨rfl, rfl⟩ rfl hl.1 rfl (Nat.le_of_ble_eq_true rfl) dJxf58ca_floatToIntBits_5c35a_1 ⟨Nat.le_of_ble_eq_true rfl, Nat.le_of_ble_eq_true rfl⟩) (fun c1 => ?_) (fun c1 => ?_)
  · skip
    exact c1.elim
  · skip
    refine lv_if_ne (tgt := 12) hx hb dJxf58ca_floatToIntBits_5c35a_4 (by decide) (fun h => absurd rfl h) (fun _ => ?_)
    refine lv_fload_n hx hb dJxf58ca_floatToIntBits_5c35a_7 rfl (lv_at hl 0 rfl) ?_
    refine vn_f2i hx hb (hml.trans hl.1.symm) hown (hts _ w_2_239) (hts _ w_3_1) (hts _ w_3_0) (hts _ w_1_6) (Nat.le_of_ble_eq_true rfl) (Nat.le_of_ble_eq_true rfl) dJxf58ca_floatToIntBits_5c35a_8 ?_
    refine pr_i S hs hr hlocks dJxf58ca_floatToIntBits_5c35a_11 ?_
    rfl
set_option maxHeartbeats 4000000 in
set_option maxRecDepth 100000 in
theorem c_X5_number (l : Launch) (D : va_G) (cT : Nat → ClassId) (H : Heap) (cv : Int32) (b : Int64) (hf : if cv = 0 then fin32 (lo32 b) else fin64 b.toUInt64) : Met l yX5_number (wz yX5_number cX5_number 3 (some .double)) ({ frames := 1, cells := 0, slots := 0, locals := 24 } : Room) (pP D cT [.int cv, .long b] H) (qd (fun r => r = if cv = 0 then FP.f2d (lo32 b) else b.toUInt64) H) 0 0 (fun _ => False) := by
  refine mk_p (by decide +kernel) (Nat.le_of_ble_eq_true rfl) ?_
  intro p e s m args below meth c S hK hs hr hlocks ls hl
  have hx := S.1
  have hb := S.2.1
  have hml := S.2.2.1
  have hown := S.2.2.2.1
  have hts := S.2.2.2.2
  have hl : lv_has ls 3 [(0, .int cv), (1, .long b)] := hl
  refine lv_iload_n hx hb dX5_number_0 rfl (lv_at hl 0 rfl) ?_
  refine lv_if_eq (tgt := 11) hx hb dX5_number_1 (by decide) (fun c1 => ?_) (fun c1 => ?_)
  · skip
    refine lv_lload_n hx hb dX5_number_11 rfl (lv_at hl 1 rfl) ?_
    refine lv_l2i hx hb dX5_number_12 rfl ?_
    refine vn_i2f hx hb (hml.trans hl.1.symm) hown (hts _ w_2_209) (hts _ w_2_211) (hts _ w_2_210) (hts _ w_1_6) (sn_i (by rw [if_pos c1] at hf; exact hf)) (Nat.le_of_ble_eq_true rfl) (Nat.le_of_ble_eq_true rfl) dX5_number_13 ?_
    refine lv_f2d hx hb dX5_number_16 (n64_fin (fin_f2d (by rw [if_pos c1] at hf; exact hf))) ?_
    refine pr_d S hs hr hlocks dX5_number_17 ?_
    first | exact (if_pos c1).symm | exact (if_neg c1).symm
  · skip
    refine lv_lload_n hx hb dX5_number_4 rfl (lv_at hl 1 rfl) ?_
    refine vn_l2d hx hb (hml.trans hl.1.symm) hown (hts _ w_2_206) (hts _ w_2_208) (hts _ w_2_207) (hts _ w_1_5) (sn_l (by rw [if_neg c1] at hf; exact hf)) (Nat.le_of_ble_eq_true rfl) (Nat.le_of_ble_eq_true rfl) dX5_number_5 ?_
    refine lv_goto (tgt := 17) hx hb dX5_number_8 (by decide) ?_
    refine pr_d S hs hr hlocks dX5_number_17 ?_
    first | exact (if_pos c1).symm | exact (if_neg c1).symm
set_option maxHeartbeats 4000000 in
set_option maxRecDepth 100000 in
theorem c_X5_bitsOf (l : Launch) (D : va_G) (cT : Nat → ClassId) (H : Heap) (cv : Int32) (x : UInt64) (hn : FP.dIsNaN x = false) : Met l yX5_bitsOf (wz yX5_bitsOf cX5_bitsOf 3 (some .long)) ({ frames := 2, cells := 0, slots := 0, locals := 45 } : Room) (pP D cT [.int cv, .double x] H) (ql (fun r => r = if cv = 0 then (FP.d2f x).toInt32.toInt64 else x.toInt64) H) 0 0 (fun _ => False) := by
  refine mk_p (by decide +kernel) (Nat.le_of_ble_eq_true rfl) ?_
  intro p e s m args below meth c S hK hs hr hlocks ls hl
  have hx := S.1
  have hb := S.2.1
  have hml := S.2.2.1
  have hown := S.2.2.2.1
  have hts := S.2.2.2.2
  have hl : lv_has ls 3 [(0, .int cv), (1, .double x)] := hl
  refine lv_iload_n hx hb dX5_bitsOf_0 rfl (lv_at hl 0 rfl) ?_
  refine lv_if_eq (tgt := 11) hx hb dX5_bitsOf_1 (by decide) (fun c1 => ?_) (fun c1 => ?_)
  · skip
    refine lv_dload_n hx hb dX5_bitsOf_11 rfl (lv_at hl 1 rfl) ?_
    refine lv_d2f hx hb dX5_bitsOf_12 (n32_of (d2f_nn hn)) ?_
    refine pc_i (rS (rest := []) S hK (c_FtoI l D cT H (FP.d2f x) (d2f_nn hn)) sm_Jxf58ca_floatToIntBits_5c35a w_2_233 ⟨Nat.le_of_ble_eq_true rfl, Nat.le_of_ble_eq_true rfl⟩ ⟨rfl, rfl⟩ rfl hl.1 rfl (Nat.le_of_ble_eq_true rfl) dX5_bitsOf_13 ⟨Nat.le_of_ble_eq_true rfl, Nat.le_of_ble_eq_true rfl⟩) (fun r1 hr1 => ?_)
    subst hr1
    refine lv_i2l hx hb dX5_bitsOf_16 rfl ?_
    refine pr_l S hs hr hlocks dX5_bitsOf_17 ?_
    first | exact (if_pos c1).symm | exact (if_neg c1).symm
  · skip
    refine lv_dload_n hx hb dX5_bitsOf_4 rfl (lv_at hl 1 rfl) ?_
    refine pc_l (rS (rest := []) S hK (c_DtoL l D cT H x hn) sm_Jxe99ae_doubleToLongBits_ccdee w_2_223 ⟨Nat.le_of_ble_eq_true rfl, Nat.le_of_ble_eq_true rfl⟩ ⟨rfl, rfl⟩ rfl hl.1 rfl (Nat.le_of_ble_eq_true rfl) dX5_bitsOf_5 ⟨Nat.le_of_ble_eq_true rfl, Nat.le_of_ble_eq_true rfl⟩) (fun r2 hr2 => ?_)
    subst hr2
    refine lv_goto (tgt := 17) hx hb dX5_bitsOf_8 (by decide) ?_
    refine pr_l S hs hr hlocks dX5_bitsOf_17 ?_
    first | exact (if_pos c1).symm | exact (if_neg c1).symm
