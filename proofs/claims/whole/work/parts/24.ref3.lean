theorem rng_mag {x lo hi : UInt64} {B : Nat} (hx : fin64 x) (h : rng x lo hi) (hlo : lo.toNat = B + 9223372036854775808) (hhi : hi.toNat = B) (hB : B < 9218868437227405312) : x.toNat % 9223372036854775808 ≤ B := by
  have nlo : FP.Core.val64 lo ≠ .nan := fin64_ne (by unfold fin64; omega)
  have nhi : FP.Core.val64 hi ≠ .nan := fin64_ne (by unfold fin64; omega)
  have nx := fin64_ne hx
  have hl := x.toNat_lt
  obtain ⟨h1, h2⟩ := h
  have k1 : ¬ FP.Core.dkey x < FP.Core.dkey lo := fun q => h1 ((FP.Core.dcmp_lt_key nx nlo).mpr q)
  have k2 : ¬ FP.Core.dkey hi < FP.Core.dkey x := fun q => h2 ((FP.Core.dcmp_gt_key nx nhi).mpr q)
  unfold FP.Core.dkey at k1 k2
  rw [hlo] at k1
  rw [hhi] at k2
  by_cases hs : 2 ^ 63 ≤ x.toNat
  · rw [if_pos hs, if_pos (by omega)] at k1
    rw [if_neg (by omega), if_pos hs] at k2
    omega
  · rw [if_neg hs, if_pos (by omega)] at k1
    rw [if_neg (by omega), if_neg hs] at k2
    omega
theorem flo_fin {v : UInt64} (h : flo v) : fin64 v := by unfold fin64; unfold flo at h; omega
theorem mul_fin {v a : UInt64} (hv : flo v) (ha : fin64 a) (hr : rng a 13920209183539462144 4696837146684686336) : fin64 (FP.dmul v a) := by
  have h1 := rng_mag ha hr (B := 4696837146684686336) (by decide) (by decide) (by decide)
  unfold flo at hv
  have h2 := FP.Core.dmul_mag (a := v) (b := a) (Ka := 1151) (Kb := 1043) (by omega) (by omega) (by decide) (by decide)
  unfold fin64
  exact Nat.lt_trans h2 (by decide)
theorem i2d_fin (x : Int32) : fin64 (FP.i2d x) := (fin64_iff _).mp (FP.Core.i2d_fin x)
theorem l2d_fin (x : Int64) : fin64 (FP.l2d x) := (fin64_iff _).mp (FP.Core.l2d_fin x)
theorem i2d_pos {x : Int32} (h : x ≠ 0) : 0 < zmg (FP.i2d x) := Nat.pos_of_ne_zero (fun q => FP.Core.i2d_ne_zero h (zmg_zero.mp q))
theorem lvl_ne (a : UInt64) : lvl a ≠ 0 := by
  unfold lvl
  by_cases h : FP.d2i a < 1
  · rw [if_pos h]; decide
  · rw [if_neg h]; intro q; rw [q] at h; exact h (by decide)
theorem d2_pos : 0 < zmg d2 := Nat.pos_of_ne_zero (fun q => by have := zmg_zero.mp q; revert this; decide)
theorem crush_nn (v a : UInt64) : FP.dIsNaN (FP.ddiv (FP.l2d (FP.d2l (FP.dmul v (FP.i2d (lvl a))))) (FP.i2d (lvl a))) = false := nn_div (l2d_fin _) (i2d_fin _) (i2d_pos (lvl_ne a))
theorem mkv_nn {kd : Int32} {a v : UInt64} (hv : flo v) (ha : fin64 a) (hr : rng a 13920209183539462144 4696837146684686336) : FP.dIsNaN (mkv kd a v) = false := by
  unfold mkv
  by_cases h0 : kd = 0
  · rw [if_pos h0]; exact nn_mul (flo_fin hv) ha
  · rw [if_neg h0]
    by_cases h1 : kd = 1
    · rw [if_pos h1]; exact fold_nn (drem_facts (mul_fin hv ha hr) fin_d2 d2_pos).1
    · rw [if_neg h1]; exact crush_nn v a
theorem f2d_flo {x : UInt32} (h : fin32 x) : flo (FP.f2d x) := by
  obtain ⟨h1, h2⟩ := f2d_parts h
  have h3 := fin_f2d h
  have e : zmg dMX = un32 2139095039 * 2 ^ 925 := by
    have := (f2d_parts (x := fMX) (by decide)).2
    rw [f2d_MX, show fMX.toNat % 2147483648 = 2139095039 from by decide] at this
    exact this
  have h4 : zmg (FP.f2d x) ≤ zmg dMX := by
    rw [h2, e]
    unfold fin32 at h
    exact Nat.mul_le_mul_right _ (FP.Core.unitsOf_le_iff.mpr (by omega))
  have h5 := FP.Core.unitsOf_le_iff.mp h4
  unfold flo
  exact h5
theorem mde_flo {z : SG} {e : Int32} {v : UInt64} (h : FP.dIsNaN (mkv (z.1 3 (cl e)) (z.2.1 1 (cl e)) v) = false) : flo (mde z e v) := f2d_flo (heldf_fin h)
set_option maxHeartbeats 4000000 in
set_option maxRecDepth 100000 in
theorem c_X5_made (l : Launch) (D : va_G) (cT : Nat → ClassId) (H : Heap) {M : hmp} {a : Nat → Nat} {z : SG} (hP : HPr D M H) (hR : RS cT a M z) {n : Nat} (hI : INV n z) (hn : n ≤ 512) (e1 : Int32) (v : UInt64) (he0 : ¬ e1 < 0) (he : cl e1 < 512) (ha : fin64 (z.2.1 1 (cl e1))) (hra : rng (z.2.1 1 (cl e1)) 13920209183539462144 4696837146684686336) (hv : flo v) : Met l yX5_made (wz yX5_made cX5_made 8 (some .double)) ({ frames := 1, cells := 0, slots := 0, locals := 22 } : Room) (pP D cT [.ref (a 0), .int e1, .double v] H) (qd (fun r => r = mde z e1 v) H) 0 0 (fun _ => False) := by
  refine mk_p (by decide +kernel) (Nat.le_of_ble_eq_true rfl) ?_
  intro p e s m args below meth c S hK hs hr hlocks ls hl
  have hx := S.1
  have hb := S.2.1
  have hml := S.2.2.1
  have hown := S.2.2.2.1
  have hts := S.2.2.2.2
  have hl : lv_has ls 8 [(0, .ref (a 0)), (1, .int e1), (2, .double v)] := hl
  have fm := mul_fin hv ha hra
  have fd := (drem_facts fm fin_d2 d2_pos).1
  refine lv_aload_n hx hb dX5_made_0 rfl (lv_at hl 0 rfl) ?_
  refine hm_get S hK hP cI5 (RS.c0 hR) 6 (by decide) w_2_106 rfl dX5_made_1 ?_
  refine lv_iload_n hx hb dX5_made_4 rfl (lv_at hl 1 rfl) ?_
  refine hm_dald S hK hP (RS.c5 hR) (in_lt he0 (Nat.lt_trans he (by decide)) (by decide)) dX5_made_5 ?_
  refine lv_dstore (lv' := [(4, .double (z.2.1 1 (Int32.toNatClampNeg e1))), (0, .ref (a 0)), (1, .int e1), (2, .double v)]) hx hb dX5_made_6 hl (by decide) rfl (fun ls hl => ?_)
  refine lv_aload_n hx hb dX5_made_8 rfl (lv_at hl 1 rfl) ?_
  refine hm_get S hK hP cI5 (RS.c0 hR) 5 (by decide) w_2_105 rfl dX5_made_9 ?_
  refine lv_iload_n hx hb dX5_made_12 rfl (lv_at hl 2 rfl) ?_
  refine hm_iald S hK hP (RS.c4 hR) (in_lt he0 (Nat.lt_trans he (by decide)) (by decide)) dX5_made_13 ?_
  refine lv_if_ne (tgt := 25) hx hb dX5_made_14 (by decide) (fun c14 => ?_) (fun c14 => ?_)
  · skip
    refine lv_aload_n hx hb dX5_made_25 rfl (lv_at hl 1 rfl) ?_
    refine hm_get S hK hP cI5 (RS.c0 hR) 5 (by decide) w_2_105 rfl dX5_made_26 ?_
    refine lv_iload_n hx hb dX5_made_29 rfl (lv_at hl 2 rfl) ?_
    refine hm_iald S hK hP (RS.c4 hR) (in_lt he0 (Nat.lt_trans he (by decide)) (by decide)) dX5_made_30 ?_
    refine lv_iconst (v := 1) hx hb dX5_made_31 (by decide) ?_
    refine lv_icmp_ne (tgt := 85) hx hb dX5_made_32 (by decide) (fun c32 => ?_) (fun c32 => ?_)
    · skip
      refine lv_dload hx hb dX5_made_85 (lv_at hl 0 rfl) ?_
      refine lv_d2i hx hb dX5_made_87 ?_
      refine lv_iconst (v := 1) hx hb dX5_made_88 (by decide) ?_
      refine lv_icmp_ge (tgt := 96) hx hb dX5_made_89 (by decide) (fun c89 => ?_) (fun c89 => ?_)
      · replace c89 := Int32.not_lt.mpr c89
        refine lv_dload hx hb dX5_made_96 (lv_at hl 0 rfl) ?_
        refine lv_d2i hx hb dX5_made_98 ?_
        refine lv_topi (fun z1 hz1 => ?_)
        have hz1 : z1 = (lvl (z.2.1 1 (Int32.toNatClampNeg e1))) := by rw [hz1]; exact (if_neg c89).symm
        subst hz1
        refine lv_istore (lv' := [(6, .int (lvl (z.2.1 1 (Int32.toNatClampNeg e1)))), (4, .double (z.2.1 1 (Int32.toNatClampNeg e1))), (0, .ref (a 0)), (1, .int e1), (2, .double v)]) hx hb dX5_made_99 hl (by decide) rfl (fun ls hl => ?_)
        refine lv_dload_n hx hb dX5_made_101 rfl (lv_at hl 4 rfl) ?_
        refine lv_iload hx hb dX5_made_102 (lv_at hl 0 rfl) ?_
        refine lv_i2d hx hb dX5_made_104 ?_
        refine lv_dmul hx hb dX5_made_105 (n64_of (nn_mul (flo_fin hv) (i2d_fin _))) ?_
        refine lv_d2l hx hb dX5_made_106 ?_
        refine lv_l2d hx hb dX5_made_107 ?_
        refine lv_iload hx hb dX5_made_108 (lv_at hl 0 rfl) ?_
        refine lv_i2d hx hb dX5_made_110 ?_
        refine lv_ddiv hx hb dX5_made_111 (n64_of (crush_nn _ _)) ?_
        refine pc_d (rS (rest := []) S hK (c_X5_held l D cT H (FP.ddiv (FP.l2d (FP.d2l (FP.dmul v (FP.i2d (lvl (z.2.1 1 (Int32.toNatClampNeg e1))))))) (FP.i2d (lvl (z.2.1 1 (Int32.toNatClampNeg e1))))) (crush_nn _ _)) sm_X5_held w_3_21 ⟨Nat.le_of_ble_eq_true rfl, Nat.le_of_ble_eq_true rfl⟩ ⟨rfl, rfl⟩ rfl hl.1 rfl (Nat.le_of_ble_eq_true rfl) dX5_made_112 ⟨Nat.le_of_ble_eq_true rfl, Nat.le_of_ble_eq_true rfl⟩) (fun r2 hr2 => ?_)
        subst hr2
        refine pr_d S hs hr hlocks dX5_made_115 ?_
        exact congrArg (fun w => FP.f2d (heldf w)) ((if_neg c14).trans (if_neg c32)).symm
      · replace c89 := Int32.not_le.mp c89
        refine lv_iconst (v := 1) hx hb dX5_made_92 (by decide) ?_
        refine lv_goto (tgt := 99) hx hb dX5_made_93 (by decide) ?_
        refine lv_topi (fun z3 hz3 => ?_)
        have hz3 : z3 = (lvl (z.2.1 1 (Int32.toNatClampNeg e1))) := by rw [hz3]; exact (if_pos c89).symm
        subst hz3
        refine lv_istore (lv' := [(6, .int (lvl (z.2.1 1 (Int32.toNatClampNeg e1)))), (4, .double (z.2.1 1 (Int32.toNatClampNeg e1))), (0, .ref (a 0)), (1, .int e1), (2, .double v)]) hx hb dX5_made_99 hl (by decide) rfl (fun ls hl => ?_)
        refine lv_dload_n hx hb dX5_made_101 rfl (lv_at hl 4 rfl) ?_
        refine lv_iload hx hb dX5_made_102 (lv_at hl 0 rfl) ?_
        refine lv_i2d hx hb dX5_made_104 ?_
        refine lv_dmul hx hb dX5_made_105 (n64_of (nn_mul (flo_fin hv) (i2d_fin _))) ?_
        refine lv_d2l hx hb dX5_made_106 ?_
        refine lv_l2d hx hb dX5_made_107 ?_
        refine lv_iload hx hb dX5_made_108 (lv_at hl 0 rfl) ?_
        refine lv_i2d hx hb dX5_made_110 ?_
        refine lv_ddiv hx hb dX5_made_111 (n64_of (crush_nn _ _)) ?_
        refine pc_d (rS (rest := []) S hK (c_X5_held l D cT H (FP.ddiv (FP.l2d (FP.d2l (FP.dmul v (FP.i2d (lvl (z.2.1 1 (Int32.toNatClampNeg e1))))))) (FP.i2d (lvl (z.2.1 1 (Int32.toNatClampNeg e1))))) (crush_nn _ _)) sm_X5_held w_3_21 ⟨Nat.le_of_ble_eq_true rfl, Nat.le_of_ble_eq_true rfl⟩ ⟨rfl, rfl⟩ rfl hl.1 rfl (Nat.le_of_ble_eq_true rfl) dX5_made_112 ⟨Nat.le_of_ble_eq_true rfl, Nat.le_of_ble_eq_true rfl⟩) (fun r4 hr4 => ?_)
        subst hr4
        refine pr_d S hs hr hlocks dX5_made_115 ?_
        exact congrArg (fun w => FP.f2d (heldf w)) ((if_neg c14).trans (if_neg c32)).symm
    · skip
      refine lv_dload_n hx hb dX5_made_35 rfl (lv_at hl 3 rfl) ?_
      refine lv_dload hx hb dX5_made_36 (lv_at hl 0 rfl) ?_
      refine lv_dmul hx hb dX5_made_38 (n64_fin fm) ?_
      refine lv_ldc2d hx hb hown (hts _ w_3_28) dX5_made_39 ?_
      refine lv_drem hx hb dX5_made_42 (n64_fin fd) ?_
      refine lv_dstore (lv' := [(6, .double (FP.drem (FP.dmul v (z.2.1 1 (Int32.toNatClampNeg e1))) 4611686018427387904)), (4, .double (z.2.1 1 (Int32.toNatClampNeg e1))), (0, .ref (a 0)), (1, .int e1), (2, .double v)]) hx hb dX5_made_43 hl (by decide) rfl (fun ls hl => ?_)
      refine lv_dload hx hb dX5_made_45 (lv_at hl 0 rfl) ?_
      refine lv_dconst1 hx hb dX5_made_47 ?_
      refine lv_dcmp hx hb dX5_made_48 ?_
      refine lv_if_le (tgt := 61) hx hb dX5_made_49 (by decide) (fun c49 => ?_) (fun c49 => ?_)
      · replace c49 := (cv_dcmp_l_le _ _).mp c49
        refine lv_dload hx hb dX5_made_61 (lv_at hl 0 rfl) ?_
        refine lv_ldc2d hx hb hown (hts _ w_3_29) dX5_made_63 ?_
        refine lv_dcmp hx hb dX5_made_66 ?_
        refine lv_if_ge (tgt := 79) hx hb dX5_made_67 (by decide) (fun c67 => ?_) (fun c67 => ?_)
        · replace c67 := (cv_dcmp_g_ge _ _).mp c67
          refine lv_dload hx hb dX5_made_79 (lv_at hl 0 rfl) ?_
          refine pc_d (rS (rest := []) S hK (c_X5_held l D cT H (FP.drem (FP.dmul v (z.2.1 1 (Int32.toNatClampNeg e1))) 4611686018427387904) (fin64_nn fd)) sm_X5_held w_3_21 ⟨Nat.le_of_ble_eq_true rfl, Nat.le_of_ble_eq_true rfl⟩ ⟨rfl, rfl⟩ rfl hl.1 rfl (Nat.le_of_ble_eq_true rfl) dX5_made_81 ⟨Nat.le_of_ble_eq_true rfl, Nat.le_of_ble_eq_true rfl⟩) (fun r5 hr5 => ?_)
          subst hr5
          refine pr_d S hs hr hlocks dX5_made_84 ?_
          exact congrArg (fun w => FP.f2d (heldf w)) ((if_neg c14).trans ((if_pos c32).trans ((if_neg c49).trans (if_neg c67)))).symm
        · replace c67 := (cv_dcmp_g_ge_n _ _).mp c67
          refine lv_ldc2d hx hb hown (hts _ w_3_30) dX5_made_70 ?_
          refine lv_dload hx hb dX5_made_73 (lv_at hl 0 rfl) ?_
          refine lv_dsub hx hb dX5_made_75 (n64_of (nn_sub fin_dn2 fd)) ?_
          refine lv_goto (tgt := 81) hx hb dX5_made_76 (by decide) ?_
          refine pc_d (rS (rest := []) S hK (c_X5_held l D cT H (FP.dsub 13835058055282163712 (FP.drem (FP.dmul v (z.2.1 1 (Int32.toNatClampNeg e1))) 4611686018427387904)) (nn_sub fin_dn2 fd)) sm_X5_held w_3_21 ⟨Nat.le_of_ble_eq_true rfl, Nat.le_of_ble_eq_true rfl⟩ ⟨rfl, rfl⟩ rfl hl.1 rfl (Nat.le_of_ble_eq_true rfl) dX5_made_81 ⟨Nat.le_of_ble_eq_true rfl, Nat.le_of_ble_eq_true rfl⟩) (fun r6 hr6 => ?_)
          subst hr6
          refine pr_d S hs hr hlocks dX5_made_84 ?_
          exact congrArg (fun w => FP.f2d (heldf w)) ((if_neg c14).trans ((if_pos c32).trans ((if_neg c49).trans (if_pos c67)))).symm
      · replace c49 := (cv_dcmp_l_le_n _ _).mp c49
        refine lv_ldc2d hx hb hown (hts _ w_3_28) dX5_made_52 ?_
        refine lv_dload hx hb dX5_made_55 (lv_at hl 0 rfl) ?_
        refine lv_dsub hx hb dX5_made_57 (n64_of (nn_sub fin_d2 fd)) ?_
        refine lv_goto (tgt := 81) hx hb dX5_made_58 (by decide) ?_
        refine pc_d (rS (rest := []) S hK (c_X5_held l D cT H (FP.dsub 4611686018427387904 (FP.drem (FP.dmul v (z.2.1 1 (Int32.toNatClampNeg e1))) 4611686018427387904)) (nn_sub fin_d2 fd)) sm_X5_held w_3_21 ⟨Nat.le_of_ble_eq_true rfl, Nat.le_of_ble_eq_true rfl⟩ ⟨rfl, rfl⟩ rfl hl.1 rfl (Nat.le_of_ble_eq_true rfl) dX5_made_81 ⟨Nat.le_of_ble_eq_true rfl, Nat.le_of_ble_eq_true rfl⟩) (fun r7 hr7 => ?_)
        subst hr7
        refine pr_d S hs hr hlocks dX5_made_84 ?_
        exact congrArg (fun w => FP.f2d (heldf w)) ((if_neg c14).trans ((if_pos c32).trans (if_pos c49))).symm
  · skip
    refine lv_dload_n hx hb dX5_made_17 rfl (lv_at hl 3 rfl) ?_
    refine lv_dload hx hb dX5_made_18 (lv_at hl 0 rfl) ?_
    refine lv_dmul hx hb dX5_made_20 (n64_fin fm) ?_
    refine pc_d (rS (rest := []) S hK (c_X5_held l D cT H (FP.dmul v (z.2.1 1 (Int32.toNatClampNeg e1))) (fin64_nn fm)) sm_X5_held w_3_21 ⟨Nat.le_of_ble_eq_true rfl, Nat.le_of_ble_eq_true rfl⟩ ⟨rfl, rfl⟩ rfl hl.1 rfl (Nat.le_of_ble_eq_true rfl) dX5_made_21 ⟨Nat.le_of_ble_eq_true rfl, Nat.le_of_ble_eq_true rfl⟩) (fun r8 hr8 => ?_)
    subst hr8
    refine pr_d S hs hr hlocks dX5_made_24 ?_
    exact congrArg (fun w => FP.f2d (heldf w)) (if_pos c14).symm
set_option maxHeartbeats 4000000 in
set_option maxRecDepth 100000 in
theorem c_X5_make (l : Launch) (D : va_G) (cT : Nat → ClassId) {M : hmp} {a : Nat → Nat} {z : SG} (hR : RS cT a M z) {n : Nat} (hI : INV n z) (hn : n ≤ 512) (k : Int32) (b : Int64) (sz : Nat) : Met l yX5_make (wz yX5_make cX5_make 4 (some .int)) ({ frames := 3, cells := 0, slots := 0, locals := 67 } : Room) (mP D cT [.ref (a 0), .int k, .long b] M sz) (mQi (fun rr MM => rr = (sp_make z k b).1 ∧ RS cT a MM (sp_make z k b).2) D M sz) 0 0 (FA M sz) := by
  refine mk_m (by decide +kernel) (Nat.le_of_ble_eq_true rfl) ?_
  intro p e s m args below meth c S hK hsz hM hr hlocks hnm ls hl
  have hx := S.1
  have hb := S.2.1
  have hml := S.2.2.1
  have hown := S.2.2.2.1
  have hts := S.2.2.2.2
  have hl : lv_has ls 4 [(0, .ref (a 0)), (1, .int k), (2, .long b)] := hl
  refine lv_iload_n hx hb dX5_make_0 rfl (lv_at hl 1 rfl) ?_
  refine lv_iconst (v := 0) hx hb dX5_make_1 (by decide) ?_
  refine lv_iconst (v := 5) hx hb dX5_make_2 (by decide) ?_
  refine pc_b (rS (rest := []) S hK (c_X5_in l D cT s.heap k 0 5 (n := 6) (by decide) (by decide)) sm_X5_in w_2_171 ⟨Nat.le_of_ble_eq_true rfl, Nat.le_of_ble_eq_true rfl⟩ ⟨rfl, rfl⟩ rfl hl.1 rfl (Nat.le_of_ble_eq_true rfl) dX5_make_3 ⟨Nat.le_of_ble_eq_true rfl, Nat.le_of_ble_eq_true rfl⟩) (fun c3 => ?_) (fun c3 => ?_)
  · skip
    refine lv_if_eq (tgt := 17) hx hb dX5_make_6 (by decide) (fun h => absurd h (by decide)) (fun _ => ?_)
    refine lv_iconst (v := 0) hx hb dX5_make_9 (by decide) ?_
    refine lv_lload_n hx hb dX5_make_10 rfl (lv_at hl 2 rfl) ?_
    refine pc_b (rS (rest := []) S hK (c_X5_isFine l D cT s.heap 0 b) sm_X5_isFine w_2_189 ⟨Nat.le_of_ble_eq_true rfl, Nat.le_of_ble_eq_true rfl⟩ ⟨rfl, rfl⟩ rfl hl.1 rfl (Nat.le_of_ble_eq_true rfl) dX5_make_11 ⟨Nat.le_of_ble_eq_true rfl, Nat.le_of_ble_eq_true rfl⟩) (fun c11 => ?_) (fun c11 => ?_)
    · skip
      refine lv_if_ne (tgt := 19) hx hb dX5_make_14 (by decide) (fun _ => ?_) (fun h => absurd h (by decide))
      refine lv_aload_n hx hb dX5_make_19 rfl (lv_at hl 0 rfl) ?_
      refine hm_get S hK hM.pr cI5 (RS.c0 hR) 7 (by decide) w_2_107 rfl dX5_make_20 ?_
      refine lv_iload_n hx hb dX5_make_23 rfl (lv_at hl 1 rfl) ?_
      refine hm_iald S hK hM.pr (RS.c6 hR) c3 dX5_make_24 ?_
      refine lv_if_ge (tgt := 33) hx hb dX5_make_25 (by decide) (fun c25 => ?_) (fun c25 => ?_)
      · replace c25 := Int32.not_lt.mpr c25
        have hf := hI.ef hn (in_cl c3) c25
        have hfl : flo (numB 0 b) := f2d_flo c11
        refine lv_aload_n hx hb dX5_make_33 rfl (lv_at hl 0 rfl) ?_
        refine lv_iconst (v := 0) hx hb dX5_make_34 (by decide) ?_
        refine lv_aload_n hx hb dX5_make_35 rfl (lv_at hl 0 rfl) ?_
        refine lv_aload_n hx hb dX5_make_36 rfl (lv_at hl 0 rfl) ?_
        refine hm_get S hK hM.pr cI5 (RS.c0 hR) 7 (by decide) w_2_107 rfl dX5_make_37 ?_
        refine lv_iload_n hx hb dX5_make_40 rfl (lv_at hl 1 rfl) ?_
        refine hm_iald S hK hM.pr (RS.c6 hR) c3 dX5_make_41 ?_
        refine lv_iconst (v := 0) hx hb dX5_make_42 (by decide) ?_
        refine lv_lload_n hx hb dX5_make_43 rfl (lv_at hl 2 rfl) ?_
        refine pc_d (rS (rest := [.int (z.1 4 (Int32.toNatClampNeg k)), .ref (a 0), .int 0, .ref (a 0)]) S hK (c_X5_number l D cT s.heap 0 b (by rw [if_pos rfl]; exact c11)) sm_X5_number w_2_203 ⟨Nat.le_of_ble_eq_true rfl, Nat.le_of_ble_eq_true rfl⟩ ⟨rfl, rfl⟩ rfl hl.1 rfl (Nat.le_of_ble_eq_true rfl) dX5_make_44 ⟨Nat.le_of_ble_eq_true rfl, Nat.le_of_ble_eq_true rfl⟩) (fun r1 hr1 => ?_)
        subst hr1
        refine pc_d (rV (rest := [.int 0, .ref (a 0)]) S hK hM.pr cI5 (RS.c0 hR) rfl (c_X5_made l D cT s.heap hM.pr hR hI hn (z.1 4 (Int32.toNatClampNeg k)) (numB 0 b) c25 hf.1 hf.2.1 hf.2.2 hfl) sm_X5_made w_S_12 w_3_17 ⟨Nat.le_of_ble_eq_true rfl, Nat.le_of_ble_eq_true rfl⟩ ⟨rfl, rfl⟩ rfl hl.1 rfl (Nat.le_of_ble_eq_true rfl) dX5_make_47 ⟨Nat.le_of_ble_eq_true rfl, Nat.le_of_ble_eq_true rfl⟩) (fun r2 hr2 => ?_)
        subst hr2
        refine pc_l (rS (rest := [.ref (a 0)]) S hK (c_X5_bitsOf l D cT s.heap 0 (mde z (z.1 4 (Int32.toNatClampNeg k)) (numB 0 b)) (fin64_nn (flo_fin (mde_flo (mkv_nn hfl hf.2.1 hf.2.2))))) sm_X5_bitsOf w_2_220 ⟨Nat.le_of_ble_eq_true rfl, Nat.le_of_ble_eq_true rfl⟩ ⟨rfl, rfl⟩ rfl hl.1 rfl (Nat.le_of_ble_eq_true rfl) dX5_make_50 ⟨Nat.le_of_ble_eq_true rfl, Nat.le_of_ble_eq_true rfl⟩) (fun r3 hr3 => ?_)
        subst hr3
        refine hm_put S hK hM cI5 (RS.c0 hR) 20 (by decide) w_2_120 rfl rfl rfl (Nat.le_of_ble_eq_true rfl) dX5_make_53 (fun H locs M4 hM4 hM => ?_)
        have hR := RS.f20 hR hM4
        refine lv_iconst (v := 1) hx hb dX5_make_56 (by decide) ?_
        refine mr_i S hM hr hlocks dX5_make_57 ⟨Nat.le_of_ble_eq_true rfl, Nat.le_of_ble_eq_true rfl⟩ ?_
        have e9 : sp_make z k b = (1, (setL z 1 1 (bitB 0 (mde z (z.1 4 (Int32.toNatClampNeg k)) (numB 0 b))))) := by unfold sp_make; rw [if_pos ⟨c3, c11⟩]; rw [if_neg c25]; rfl
        rw [e9]
        exact ⟨rfl, hR⟩
      · replace c25 := Int32.not_le.mp c25
        refine lv_iconst (v := 1) hx hb dX5_make_28 (by decide) ?_
        refine pc_i (rS (rest := []) S hK (c_X5_fails l D cT s.heap 1) sm_X5_fails w_2_200 ⟨Nat.le_of_ble_eq_true rfl, Nat.le_of_ble_eq_true rfl⟩ ⟨rfl, rfl⟩ rfl hl.1 rfl (Nat.le_of_ble_eq_true rfl) dX5_make_29 ⟨Nat.le_of_ble_eq_true rfl, Nat.le_of_ble_eq_true rfl⟩) (fun r5 hr5 => ?_)
        subst hr5
        refine mr_i S hM hr hlocks dX5_make_32 ⟨Nat.le_of_ble_eq_true rfl, Nat.le_of_ble_eq_true rfl⟩ ?_
        have e9 : sp_make z k b = ((-10 - 1), z) := by unfold sp_make; rw [if_pos ⟨c3, c11⟩]; rw [if_pos c25]; rfl
        rw [e9]
        exact ⟨rfl, hR⟩
    · skip
      refine lv_if_ne (tgt := 19) hx hb dX5_make_14 (by decide) (fun h => absurd rfl h) (fun _ => ?_)
      refine lv_iconst (v := (-1)) hx hb dX5_make_17 (by decide) ?_
      refine mr_i S hM hr hlocks dX5_make_18 ⟨Nat.le_of_ble_eq_true rfl, Nat.le_of_ble_eq_true rfl⟩ ?_
      have e9 : sp_make z k b = ((-1), z) := by unfold sp_make; rw [if_neg (fun q => c11 q.2)]
      rw [e9]
      exact ⟨rfl, hR⟩
  · skip
    refine lv_if_eq (tgt := 17) hx hb dX5_make_6 (by decide) (fun _ => ?_) (fun h => absurd (by decide) h)
    refine lv_iconst (v := (-1)) hx hb dX5_make_17 (by decide) ?_
    refine mr_i S hM hr hlocks dX5_make_18 ⟨Nat.le_of_ble_eq_true rfl, Nat.le_of_ble_eq_true rfl⟩ ?_
    have e9 : sp_make z k b = ((-1), z) := by unfold sp_make; rw [if_neg (fun q => c3 q.1)]
    rw [e9]
    exact ⟨rfl, hR⟩
set_option maxHeartbeats 4000000 in
set_option maxRecDepth 100000 in
theorem c_X5_rack (l : Launch) (D : va_G) (cT : Nat → ClassId) {M : hmp} {a : Nat → Nat} {z : SG} (hR : RS cT a M z) {n : Nat} (hI : INV n z) (hn : n ≤ 512) (r kd : Int32) (sz : Nat) : Met l yX5_rack (wz yX5_rack cX5_rack 4 (some .int)) ({ frames := 1, cells := 0, slots := 0, locals := 22 } : Room) (mP D cT [.ref (a 0), .int r, .int kd] M sz) (mQi (fun rr MM => rr = (sp_rack z r kd).1 ∧ RS cT a MM (sp_rack z r kd).2) D M sz) 0 0 (FA M sz) := by
  refine mk_m (by decide +kernel) (Nat.le_of_ble_eq_true rfl) ?_
  intro p e s m args below meth c S hK hsz hM hr hlocks hnm ls hl
  have hx := S.1
  have hb := S.2.1
  have hml := S.2.2.1
  have hown := S.2.2.2.1
  have hts := S.2.2.2.2
  have hl : lv_has ls 4 [(0, .ref (a 0)), (1, .int r), (2, .int kd)] := hl
  refine lv_iload_n hx hb dX5_rack_0 rfl (lv_at hl 1 rfl) ?_
  refine lv_iconst (v := 0) hx hb dX5_rack_1 (by decide) ?_
  refine lv_iconst (v := 2) hx hb dX5_rack_2 (by decide) ?_
  refine pc_b (rS (rest := []) S hK (c_X5_in l D cT s.heap r 0 2 (n := 3) (by decide) (by decide)) sm_X5_in w_2_171 ⟨Nat.le_of_ble_eq_true rfl, Nat.le_of_ble_eq_true rfl⟩ ⟨rfl, rfl⟩ rfl hl.1 rfl (Nat.le_of_ble_eq_true rfl) dX5_rack_3 ⟨Nat.le_of_ble_eq_true rfl, Nat.le_of_ble_eq_true rfl⟩) (fun c3 => ?_) (fun c3 => ?_)
  · skip
    refine lv_if_eq (tgt := 18) hx hb dX5_rack_6 (by decide) (fun h => absurd h (by decide)) (fun _ => ?_)
    refine lv_iload_n hx hb dX5_rack_9 rfl (lv_at hl 2 rfl) ?_
    refine lv_iconst (v := 0) hx hb dX5_rack_10 (by decide) ?_
    refine lv_iconst (v := 2) hx hb dX5_rack_11 (by decide) ?_
    refine pc_b (rS (rest := []) S hK (c_X5_in l D cT s.heap kd 0 2 (n := 3) (by decide) (by decide)) sm_X5_in w_2_171 ⟨Nat.le_of_ble_eq_true rfl, Nat.le_of_ble_eq_true rfl⟩ ⟨rfl, rfl⟩ rfl hl.1 rfl (Nat.le_of_ble_eq_true rfl) dX5_rack_12 ⟨Nat.le_of_ble_eq_true rfl, Nat.le_of_ble_eq_true rfl⟩) (fun c12 => ?_) (fun c12 => ?_)
    · skip
      refine lv_if_ne (tgt := 20) hx hb dX5_rack_15 (by decide) (fun _ => ?_) (fun h => absurd h (by decide))
      refine lv_aload_n hx hb dX5_rack_20 rfl (lv_at hl 0 rfl) ?_
      refine hm_get S hK hM.pr cI5 (RS.c0 hR) 8 (by decide) w_2_108 rfl dX5_rack_21 ?_
      refine lv_iload_n hx hb dX5_rack_24 rfl (lv_at hl 1 rfl) ?_
      refine lv_iload_n hx hb dX5_rack_25 rfl (lv_at hl 2 rfl) ?_
      refine hm_iast S hK hM (RS.c7 hR) c3 dX5_rack_26 (fun H locs M1 hM1 hM => ?_)
      have hR := RS.u7 (k := (Int32.toNatClampNeg r)) (x := kd) hR hM1
      refine lv_iconst (v := 0) hx hb dX5_rack_27 (by decide) ?_
      refine lv_istore_n (lv' := [(3, .int 0), (0, .ref (a 0)), (1, .int r), (2, .int kd)]) hx hb dX5_rack_28 rfl hl (by decide) rfl (fun ls hl => ?_)
      refine lv_iload_n hx hb dX5_rack_29 rfl (lv_at hl 0 rfl) ?_
      refine lv_iconst (v := 3) hx hb dX5_rack_30 (by decide) ?_
      refine lv_icmp_ge (tgt := 51) hx hb dX5_rack_31 (by decide) (fun h => absurd h (by decide)) (fun _ => ?_)
      refine lv_aload_n hx hb dX5_rack_34 rfl (lv_at hl 1 rfl) ?_
      refine hm_get S hK hM.pr cI5 (RS.c0 hR) 9 (by decide) w_2_109 rfl dX5_rack_35 ?_
      refine lv_iconst (v := 3) hx hb dX5_rack_38 (by decide) ?_
      refine lv_iload_n hx hb dX5_rack_39 rfl (lv_at hl 2 rfl) ?_
      refine lv_imul hx hb dX5_rack_40 ?_
      refine lv_iload_n hx hb dX5_rack_41 rfl (lv_at hl 0 rfl) ?_
      refine lv_iadd hx hb dX5_rack_42 ?_
      refine lv_iconst (v := (-1)) hx hb dX5_rack_43 (by decide) ?_
      refine hm_iast S hK hM (RS.c8 hR) (by show vp_in (3 * r + nI 0) 9; rw [(hk_ixn (i := 0) c3 (by decide)).1]; exact vp_in_nI (hk_ixn (i := 0) c3 (by decide)).2 (by decide)) dX5_rack_44 (fun H locs M2 hM2 hM => ?_)
      rw [show Int32.toNatClampNeg (3 * r + 0) = 3 * cl r + 0 from (congrArg cl (hk_ixn (i := 0) c3 (by decide)).1).trans (cl_nI (by have := (hk_ixn (i := 0) c3 (by decide)).2; omega))] at hM2
      have hR := RS.u8 (k := (3 * cl r + 0)) (x := (-1)) hR hM2
      refine lv_iinc (v := 1) (lv' := [(3, .int 1), (0, .ref (a 0)), (1, .int r), (2, .int kd)]) hx hb dX5_rack_45 hl (k := 0) rfl (by rfl) (by decide) rfl (fun ls hl => ?_)
      refine lv_goto (tgt := 29) hx hb dX5_rack_48 (by decide) ?_
      refine lv_iload_n hx hb dX5_rack_29 rfl (lv_at hl 0 rfl) ?_
      refine lv_iconst (v := 3) hx hb dX5_rack_30 (by decide) ?_
      refine lv_icmp_ge (tgt := 51) hx hb dX5_rack_31 (by decide) (fun h => absurd h (by decide)) (fun _ => ?_)
      refine lv_aload_n hx hb dX5_rack_34 rfl (lv_at hl 1 rfl) ?_
      refine hm_get S hK hM.pr cI5 (RS.c0 hR) 9 (by decide) w_2_109 rfl dX5_rack_35 ?_
      refine lv_iconst (v := 3) hx hb dX5_rack_38 (by decide) ?_
      refine lv_iload_n hx hb dX5_rack_39 rfl (lv_at hl 2 rfl) ?_
      refine lv_imul hx hb dX5_rack_40 ?_
      refine lv_iload_n hx hb dX5_rack_41 rfl (lv_at hl 0 rfl) ?_
      refine lv_iadd hx hb dX5_rack_42 ?_
      refine lv_iconst (v := (-1)) hx hb dX5_rack_43 (by decide) ?_
      refine hm_iast S hK hM (RS.c8 hR) (by show vp_in (3 * r + nI 1) 9; rw [(hk_ixn (i := 1) c3 (by decide)).1]; exact vp_in_nI (hk_ixn (i := 1) c3 (by decide)).2 (by decide)) dX5_rack_44 (fun H locs M3 hM3 hM => ?_)
      rw [show Int32.toNatClampNeg (3 * r + 1) = 3 * cl r + 1 from (congrArg cl (hk_ixn (i := 1) c3 (by decide)).1).trans (cl_nI (by have := (hk_ixn (i := 1) c3 (by decide)).2; omega))] at hM3
      have hR := RS.u8 (k := (3 * cl r + 1)) (x := (-1)) hR hM3
      refine lv_iinc (v := 2) (lv' := [(3, .int 2), (0, .ref (a 0)), (1, .int r), (2, .int kd)]) hx hb dX5_rack_45 hl (k := 0) rfl (by rfl) (by decide) rfl (fun ls hl => ?_)
      refine lv_goto (tgt := 29) hx hb dX5_rack_48 (by decide) ?_
      refine lv_iload_n hx hb dX5_rack_29 rfl (lv_at hl 0 rfl) ?_
      refine lv_iconst (v := 3) hx hb dX5_rack_30 (by decide) ?_
      refine lv_icmp_ge (tgt := 51) hx hb dX5_rack_31 (by decide) (fun h => absurd h (by decide)) (fun _ => ?_)
      refine lv_aload_n hx hb dX5_rack_34 rfl (lv_at hl 1 rfl) ?_
      refine hm_get S hK hM.pr cI5 (RS.c0 hR) 9 (by decide) w_2_109 rfl dX5_rack_35 ?_
      refine lv_iconst (v := 3) hx hb dX5_rack_38 (by decide) ?_
      refine lv_iload_n hx hb dX5_rack_39 rfl (lv_at hl 2 rfl) ?_
      refine lv_imul hx hb dX5_rack_40 ?_
      refine lv_iload_n hx hb dX5_rack_41 rfl (lv_at hl 0 rfl) ?_
      refine lv_iadd hx hb dX5_rack_42 ?_
      refine lv_iconst (v := (-1)) hx hb dX5_rack_43 (by decide) ?_
      refine hm_iast S hK hM (RS.c8 hR) (by show vp_in (3 * r + nI 2) 9; rw [(hk_ixn (i := 2) c3 (by decide)).1]; exact vp_in_nI (hk_ixn (i := 2) c3 (by decide)).2 (by decide)) dX5_rack_44 (fun H locs M4 hM4 hM => ?_)
      rw [show Int32.toNatClampNeg (3 * r + 2) = 3 * cl r + 2 from (congrArg cl (hk_ixn (i := 2) c3 (by decide)).1).trans (cl_nI (by have := (hk_ixn (i := 2) c3 (by decide)).2; omega))] at hM4
      have hR := RS.u8 (k := (3 * cl r + 2)) (x := (-1)) hR hM4
      refine lv_iinc (v := 3) (lv' := [(3, .int 3), (0, .ref (a 0)), (1, .int r), (2, .int kd)]) hx hb dX5_rack_45 hl (k := 0) rfl (by rfl) (by decide) rfl (fun ls hl => ?_)
      refine lv_goto (tgt := 29) hx hb dX5_rack_48 (by decide) ?_
      refine lv_iload_n hx hb dX5_rack_29 rfl (lv_at hl 0 rfl) ?_
      refine lv_iconst (v := 3) hx hb dX5_rack_30 (by decide) ?_
      refine lv_icmp_ge (tgt := 51) hx hb dX5_rack_31 (by decide) (fun _ => ?_) (fun h => absurd (by decide) h)
      refine lv_iconst (v := 1) hx hb dX5_rack_51 (by decide) ?_
      refine mr_i S hM hr hlocks dX5_rack_52 ⟨Nat.le_of_ble_eq_true rfl, Nat.le_of_ble_eq_true rfl⟩ ?_
      have e9 : sp_rack z r kd = (1, (setI (setI (setI (setI z 5 (Int32.toNatClampNeg r) kd) 6 (3 * cl r + 0) (-1)) 6 (3 * cl r + 1) (-1)) 6 (3 * cl r + 2) (-1))) := by unfold sp_rack; rw [if_pos ⟨c3, c12⟩]; rfl
      rw [e9]
      exact ⟨rfl, hR⟩
    · skip
      refine lv_if_ne (tgt := 20) hx hb dX5_rack_15 (by decide) (fun h => absurd rfl h) (fun _ => ?_)
      refine lv_iconst (v := (-1)) hx hb dX5_rack_18 (by decide) ?_
      refine mr_i S hM hr hlocks dX5_rack_19 ⟨Nat.le_of_ble_eq_true rfl, Nat.le_of_ble_eq_true rfl⟩ ?_
      have e9 : sp_rack z r kd = ((-1), z) := by unfold sp_rack; rw [if_neg (fun q => c12 q.2)]
      rw [e9]
      exact ⟨rfl, hR⟩
  · skip
    refine lv_if_eq (tgt := 18) hx hb dX5_rack_6 (by decide) (fun _ => ?_) (fun h => absurd (by decide) h)
    refine lv_iconst (v := (-1)) hx hb dX5_rack_18 (by decide) ?_
    refine mr_i S hM hr hlocks dX5_rack_19 ⟨Nat.le_of_ble_eq_true rfl, Nat.le_of_ble_eq_true rfl⟩ ?_
    have e9 : sp_rack z r kd = ((-1), z) := by unfold sp_rack; rw [if_neg (fun q => c3 q.1)]
    rw [e9]
    exact ⟨rfl, hR⟩
set_option maxHeartbeats 4000000 in
set_option maxRecDepth 100000 in
theorem c_X5_hang (l : Launch) (D : va_G) (cT : Nat → ClassId) {M : hmp} {a : Nat → Nat} {z : SG} (hR : RS cT a M z) {n : Nat} (hI : INV n z) (hn : n ≤ 512) (r i k : Int32) (sz : Nat) : Met l yX5_hang (wz yX5_hang cX5_hang 5 (some .int)) ({ frames := 1, cells := 0, slots := 0, locals := 22 } : Room) (mP D cT [.ref (a 0), .int r, .int i, .int k] M sz) (mQi (fun rr MM => rr = (sp_hang z r i k).1 ∧ RS cT a MM (sp_hang z r i k).2) D M sz) 0 0 (FA M sz) := by
  refine mk_m (by decide +kernel) (Nat.le_of_ble_eq_true rfl) ?_
  intro p e s m args below meth c S hK hsz hM hr hlocks hnm ls hl
  have hx := S.1
  have hb := S.2.1
  have hml := S.2.2.1
  have hown := S.2.2.2.1
  have hts := S.2.2.2.2
  have hl : lv_has ls 5 [(0, .ref (a 0)), (1, .int r), (2, .int i), (3, .int k)] := hl
  refine lv_iload_n hx hb dX5_hang_0 rfl (lv_at hl 1 rfl) ?_
  refine lv_iconst (v := 0) hx hb dX5_hang_1 (by decide) ?_
  refine lv_iconst (v := 2) hx hb dX5_hang_2 (by decide) ?_
  refine pc_b (rS (rest := []) S hK (c_X5_in l D cT s.heap r 0 2 (n := 3) (by decide) (by decide)) sm_X5_in w_2_171 ⟨Nat.le_of_ble_eq_true rfl, Nat.le_of_ble_eq_true rfl⟩ ⟨rfl, rfl⟩ rfl hl.1 rfl (Nat.le_of_ble_eq_true rfl) dX5_hang_3 ⟨Nat.le_of_ble_eq_true rfl, Nat.le_of_ble_eq_true rfl⟩) (fun c3 => ?_) (fun c3 => ?_)
  · skip
    refine lv_if_eq (tgt := 18) hx hb dX5_hang_6 (by decide) (fun h => absurd h (by decide)) (fun _ => ?_)
    refine lv_iload_n hx hb dX5_hang_9 rfl (lv_at hl 3 rfl) ?_
    refine lv_iconst (v := 0) hx hb dX5_hang_10 (by decide) ?_
    refine lv_iconst (v := 5) hx hb dX5_hang_11 (by decide) ?_
    refine pc_b (rS (rest := []) S hK (c_X5_in l D cT s.heap k 0 5 (n := 6) (by decide) (by decide)) sm_X5_in w_2_171 ⟨Nat.le_of_ble_eq_true rfl, Nat.le_of_ble_eq_true rfl⟩ ⟨rfl, rfl⟩ rfl hl.1 rfl (Nat.le_of_ble_eq_true rfl) dX5_hang_12 ⟨Nat.le_of_ble_eq_true rfl, Nat.le_of_ble_eq_true rfl⟩) (fun c12 => ?_) (fun c12 => ?_)
    · skip
      refine lv_if_ne (tgt := 20) hx hb dX5_hang_15 (by decide) (fun _ => ?_) (fun h => absurd h (by decide))
      refine lv_aload_n hx hb dX5_hang_20 rfl (lv_at hl 0 rfl) ?_
      refine hm_get S hK hM.pr cI5 (RS.c0 hR) 8 (by decide) w_2_108 rfl dX5_hang_21 ?_
      refine lv_iload_n hx hb dX5_hang_24 rfl (lv_at hl 1 rfl) ?_
      refine hm_iald S hK hM.pr (RS.c7 hR) c3 dX5_hang_25 ?_
      refine lv_if_ge (tgt := 34) hx hb dX5_hang_26 (by decide) (fun c26 => ?_) (fun c26 => ?_)
      · replace c26 := Int32.not_lt.mpr c26
        refine lv_iload_n hx hb dX5_hang_34 rfl (lv_at hl 2 rfl) ?_
        refine lv_iconst (v := 0) hx hb dX5_hang_35 (by decide) ?_
        refine lv_iconst (v := 2) hx hb dX5_hang_36 (by decide) ?_
        refine pc_b (rS (rest := []) S hK (c_X5_in l D cT s.heap i 0 2 (n := 3) (by decide) (by decide)) sm_X5_in w_2_171 ⟨Nat.le_of_ble_eq_true rfl, Nat.le_of_ble_eq_true rfl⟩ ⟨rfl, rfl⟩ rfl hl.1 rfl (Nat.le_of_ble_eq_true rfl) dX5_hang_37 ⟨Nat.le_of_ble_eq_true rfl, Nat.le_of_ble_eq_true rfl⟩) (fun c37 => ?_) (fun c37 => ?_)
        · skip
          refine lv_if_ne (tgt := 48) hx hb dX5_hang_40 (by decide) (fun _ => ?_) (fun h => absurd h (by decide))
          refine lv_aload_n hx hb dX5_hang_48 rfl (lv_at hl 0 rfl) ?_
          refine hm_get S hK hM.pr cI5 (RS.c0 hR) 7 (by decide) w_2_107 rfl dX5_hang_49 ?_
          refine lv_iload_n hx hb dX5_hang_52 rfl (lv_at hl 3 rfl) ?_
          refine hm_iald S hK hM.pr (RS.c6 hR) c12 dX5_hang_53 ?_
          refine lv_istore (lv' := [(4, .int (z.1 4 (Int32.toNatClampNeg k))), (0, .ref (a 0)), (1, .int r), (2, .int i), (3, .int k)]) hx hb dX5_hang_54 hl (by decide) rfl (fun ls hl => ?_)
          refine lv_iload hx hb dX5_hang_56 (lv_at hl 0 rfl) ?_
          refine lv_if_lt (tgt := 85) hx hb dX5_hang_58 (by decide) (fun c58 => ?_) (fun c58 => ?_)
          · skip
            refine lv_aload_n hx hb dX5_hang_85 rfl (lv_at hl 1 rfl) ?_
            refine hm_get S hK hM.pr cI5 (RS.c0 hR) 9 (by decide) w_2_109 rfl dX5_hang_86 ?_
            refine lv_iconst (v := 3) hx hb dX5_hang_89 (by decide) ?_
            refine lv_iload_n hx hb dX5_hang_90 rfl (lv_at hl 2 rfl) ?_
            refine lv_imul hx hb dX5_hang_91 ?_
            refine lv_iload_n hx hb dX5_hang_92 rfl (lv_at hl 3 rfl) ?_
            refine lv_iadd hx hb dX5_hang_93 ?_
            refine lv_iload hx hb dX5_hang_94 (lv_at hl 0 rfl) ?_
            refine hm_iast S hK hM (RS.c8 hR) (by rw [(hk_ix c3 c37).1]; exact vp_in_nI (hk_ix c3 c37).2 (by decide)) dX5_hang_96 (fun H locs M1 hM1 hM => ?_)
            rw [show Int32.toNatClampNeg (3 * r + i) = 3 * cl r + cl i from (congrArg cl (hk_ix c3 c37).1).trans (cl_nI (by have := (hk_ix c3 c37).2; omega))] at hM1
            have hR := RS.u8 (k := (3 * cl r + cl i)) (x := (z.1 4 (Int32.toNatClampNeg k))) hR hM1
            refine lv_iconst (v := 1) hx hb dX5_hang_97 (by decide) ?_
            refine mr_i S hM hr hlocks dX5_hang_98 ⟨Nat.le_of_ble_eq_true rfl, Nat.le_of_ble_eq_true rfl⟩ ?_
            have e9 : sp_hang z r i k = (1, (setI z 6 (3 * cl r + cl i) (z.1 4 (Int32.toNatClampNeg k)))) := by unfold sp_hang; rw [if_pos ⟨c3, c12⟩]; rw [if_neg c26, if_pos c37, if_neg (fun q => q.1 c58)]; rfl
            rw [e9]
            exact ⟨rfl, hR⟩
          · skip
            refine lv_aload_n hx hb dX5_hang_61 rfl (lv_at hl 1 rfl) ?_
            refine hm_get S hK hM.pr cI5 (RS.c0 hR) 5 (by decide) w_2_105 rfl dX5_hang_62 ?_
            refine lv_iload hx hb dX5_hang_65 (lv_at hl 0 rfl) ?_
            refine hm_iald S hK hM.pr (RS.c4 hR) (in_lt c58 (Nat.lt_trans (hI.ef hn (in_cl c12) c58).1 (by decide)) (by decide)) dX5_hang_67 ?_
            refine lv_aload_n hx hb dX5_hang_68 rfl (lv_at hl 1 rfl) ?_
            refine hm_get S hK hM.pr cI5 (RS.c0 hR) 8 (by decide) w_2_108 rfl dX5_hang_69 ?_
            refine lv_iload_n hx hb dX5_hang_72 rfl (lv_at hl 2 rfl) ?_
            refine hm_iald S hK hM.pr (RS.c7 hR) c3 dX5_hang_73 ?_
            refine pc_b (rS (rest := []) S hK (c_X5_fits l D cT s.heap (z.1 3 (Int32.toNatClampNeg (z.1 4 (Int32.toNatClampNeg k)))) (z.1 5 (Int32.toNatClampNeg r))) sm_X5_fits w_3_39 ⟨Nat.le_of_ble_eq_true rfl, Nat.le_of_ble_eq_true rfl⟩ ⟨rfl, rfl⟩ rfl hl.1 rfl (Nat.le_of_ble_eq_true rfl) dX5_hang_74 ⟨Nat.le_of_ble_eq_true rfl, Nat.le_of_ble_eq_true rfl⟩) (fun c74 => ?_) (fun c74 => ?_)
            · skip
              refine lv_if_ne (tgt := 85) hx hb dX5_hang_77 (by decide) (fun _ => ?_) (fun h => absurd h (by decide))
              refine lv_aload_n hx hb dX5_hang_85 rfl (lv_at hl 1 rfl) ?_
              refine hm_get S hK hM.pr cI5 (RS.c0 hR) 9 (by decide) w_2_109 rfl dX5_hang_86 ?_
              refine lv_iconst (v := 3) hx hb dX5_hang_89 (by decide) ?_
              refine lv_iload_n hx hb dX5_hang_90 rfl (lv_at hl 2 rfl) ?_
              refine lv_imul hx hb dX5_hang_91 ?_
              refine lv_iload_n hx hb dX5_hang_92 rfl (lv_at hl 3 rfl) ?_
              refine lv_iadd hx hb dX5_hang_93 ?_
              refine lv_iload hx hb dX5_hang_94 (lv_at hl 0 rfl) ?_
              refine hm_iast S hK hM (RS.c8 hR) (by rw [(hk_ix c3 c37).1]; exact vp_in_nI (hk_ix c3 c37).2 (by decide)) dX5_hang_96 (fun H locs M2 hM2 hM => ?_)
              rw [show Int32.toNatClampNeg (3 * r + i) = 3 * cl r + cl i from (congrArg cl (hk_ix c3 c37).1).trans (cl_nI (by have := (hk_ix c3 c37).2; omega))] at hM2
              have hR := RS.u8 (k := (3 * cl r + cl i)) (x := (z.1 4 (Int32.toNatClampNeg k))) hR hM2
              refine lv_iconst (v := 1) hx hb dX5_hang_97 (by decide) ?_
              refine mr_i S hM hr hlocks dX5_hang_98 ⟨Nat.le_of_ble_eq_true rfl, Nat.le_of_ble_eq_true rfl⟩ ?_
              have e9 : sp_hang z r i k = (1, (setI z 6 (3 * cl r + cl i) (z.1 4 (Int32.toNatClampNeg k)))) := by unfold sp_hang; rw [if_pos ⟨c3, c12⟩]; rw [if_neg c26, if_pos c37, if_neg (fun q => q.2 c74)]; rfl
              rw [e9]
              exact ⟨rfl, hR⟩
            · skip
              refine lv_if_ne (tgt := 85) hx hb dX5_hang_77 (by decide) (fun h => absurd rfl h) (fun _ => ?_)
              refine lv_iconst (v := 4) hx hb dX5_hang_80 (by decide) ?_
              refine pc_i (rS (rest := []) S hK (c_X5_fails l D cT s.heap 4) sm_X5_fails w_2_200 ⟨Nat.le_of_ble_eq_true rfl, Nat.le_of_ble_eq_true rfl⟩ ⟨rfl, rfl⟩ rfl hl.1 rfl (Nat.le_of_ble_eq_true rfl) dX5_hang_81 ⟨Nat.le_of_ble_eq_true rfl, Nat.le_of_ble_eq_true rfl⟩) (fun r3 hr3 => ?_)
              subst hr3
              refine mr_i S hM hr hlocks dX5_hang_84 ⟨Nat.le_of_ble_eq_true rfl, Nat.le_of_ble_eq_true rfl⟩ ?_
              have e9 : sp_hang z r i k = ((-10 - 4), z) := by unfold sp_hang; rw [if_pos ⟨c3, c12⟩]; rw [if_neg c26, if_pos c37, if_pos ⟨c58, c74⟩]; rfl
              rw [e9]
              exact ⟨rfl, hR⟩
        · skip
          refine lv_if_ne (tgt := 48) hx hb dX5_hang_40 (by decide) (fun h => absurd rfl h) (fun _ => ?_)
          refine lv_iconst (v := 2) hx hb dX5_hang_43 (by decide) ?_
          refine pc_i (rS (rest := []) S hK (c_X5_fails l D cT s.heap 2) sm_X5_fails w_2_200 ⟨Nat.le_of_ble_eq_true rfl, Nat.le_of_ble_eq_true rfl⟩ ⟨rfl, rfl⟩ rfl hl.1 rfl (Nat.le_of_ble_eq_true rfl) dX5_hang_44 ⟨Nat.le_of_ble_eq_true rfl, Nat.le_of_ble_eq_true rfl⟩) (fun r4 hr4 => ?_)
          subst hr4
          refine mr_i S hM hr hlocks dX5_hang_47 ⟨Nat.le_of_ble_eq_true rfl, Nat.le_of_ble_eq_true rfl⟩ ?_
          have e9 : sp_hang z r i k = ((-10 - 2), z) := by unfold sp_hang; rw [if_pos ⟨c3, c12⟩]; rw [if_neg c26, if_neg c37]; rfl
          rw [e9]
          exact ⟨rfl, hR⟩
      · replace c26 := Int32.not_le.mp c26
        refine lv_iconst (v := 1) hx hb dX5_hang_29 (by decide) ?_
        refine pc_i (rS (rest := []) S hK (c_X5_fails l D cT s.heap 1) sm_X5_fails w_2_200 ⟨Nat.le_of_ble_eq_true rfl, Nat.le_of_ble_eq_true rfl⟩ ⟨rfl, rfl⟩ rfl hl.1 rfl (Nat.le_of_ble_eq_true rfl) dX5_hang_30 ⟨Nat.le_of_ble_eq_true rfl, Nat.le_of_ble_eq_true rfl⟩) (fun r5 hr5 => ?_)
        subst hr5
        refine mr_i S hM hr hlocks dX5_hang_33 ⟨Nat.le_of_ble_eq_true rfl, Nat.le_of_ble_eq_true rfl⟩ ?_
        have e9 : sp_hang z r i k = ((-10 - 1), z) := by unfold sp_hang; rw [if_pos ⟨c3, c12⟩]; rw [if_pos c26]; rfl
        rw [e9]
        exact ⟨rfl, hR⟩
    · skip
      refine lv_if_ne (tgt := 20) hx hb dX5_hang_15 (by decide) (fun h => absurd rfl h) (fun _ => ?_)
      refine lv_iconst (v := (-1)) hx hb dX5_hang_18 (by decide) ?_
      refine mr_i S hM hr hlocks dX5_hang_19 ⟨Nat.le_of_ble_eq_true rfl, Nat.le_of_ble_eq_true rfl⟩ ?_
      have e9 : sp_hang z r i k = ((-1), z) := by unfold sp_hang; rw [if_neg (fun q => c12 q.2)]
      rw [e9]
      exact ⟨rfl, hR⟩
  · skip
    refine lv_if_eq (tgt := 18) hx hb dX5_hang_6 (by decide) (fun _ => ?_) (fun h => absurd (by decide) h)
    refine lv_iconst (v := (-1)) hx hb dX5_hang_18 (by decide) ?_
    refine mr_i S hM hr hlocks dX5_hang_19 ⟨Nat.le_of_ble_eq_true rfl, Nat.le_of_ble_eq_true rfl⟩ ?_
    have e9 : sp_hang z r i k = ((-1), z) := by unfold sp_hang; rw [if_neg (fun q => c3 q.1)]
    rw [e9]
    exact ⟨rfl, hR⟩
set_option maxHeartbeats 4000000 in
set_option maxRecDepth 100000 in
theorem c_X5_take (l : Launch) (D : va_G) (cT : Nat → ClassId) {M : hmp} {a : Nat → Nat} {z : SG} (hR : RS cT a M z) {n : Nat} (hI : INV n z) (hn : n ≤ 512) (r i kd k : Int32) (sz : Nat) : Met l yX5_take (wz yX5_take cX5_take 6 (some .int)) ({ frames := 1, cells := 0, slots := 0, locals := 22 } : Room) (mP D cT [.ref (a 0), .int r, .int i, .int kd, .int k] M sz) (mQi (fun rr MM => rr = (sp_take z r i kd k).1 ∧ RS cT a MM (sp_take z r i kd k).2) D M sz) 0 0 (FA M sz) := by
  refine mk_m (by decide +kernel) (Nat.le_of_ble_eq_true rfl) ?_
  intro p e s m args below meth c S hK hsz hM hr hlocks hnm ls hl
  have hx := S.1
  have hb := S.2.1
  have hml := S.2.2.1
  have hown := S.2.2.2.1
  have hts := S.2.2.2.2
  have hl : lv_has ls 6 [(0, .ref (a 0)), (1, .int r), (2, .int i), (3, .int kd), (4, .int k)] := hl
  refine lv_iload_n hx hb dX5_take_0 rfl (lv_at hl 1 rfl) ?_
  refine lv_iconst (v := 0) hx hb dX5_take_1 (by decide) ?_
  refine lv_iconst (v := 2) hx hb dX5_take_2 (by decide) ?_
  refine pc_b (rS (rest := []) S hK (c_X5_in l D cT s.heap r 0 2 (n := 3) (by decide) (by decide)) sm_X5_in w_2_171 ⟨Nat.le_of_ble_eq_true rfl, Nat.le_of_ble_eq_true rfl⟩ ⟨rfl, rfl⟩ rfl hl.1 rfl (Nat.le_of_ble_eq_true rfl) dX5_take_3 ⟨Nat.le_of_ble_eq_true rfl, Nat.le_of_ble_eq_true rfl⟩) (fun c3 => ?_) (fun c3 => ?_)
  · skip
    refine lv_if_eq (tgt := 28) hx hb dX5_take_6 (by decide) (fun h => absurd h (by decide)) (fun _ => ?_)
    refine lv_iload_n hx hb dX5_take_9 rfl (lv_at hl 3 rfl) ?_
    refine lv_iconst (v := 0) hx hb dX5_take_10 (by decide) ?_
    refine lv_iconst (v := 2) hx hb dX5_take_11 (by decide) ?_
    refine pc_b (rS (rest := []) S hK (c_X5_in l D cT s.heap kd 0 2 (n := 3) (by decide) (by decide)) sm_X5_in w_2_171 ⟨Nat.le_of_ble_eq_true rfl, Nat.le_of_ble_eq_true rfl⟩ ⟨rfl, rfl⟩ rfl hl.1 rfl (Nat.le_of_ble_eq_true rfl) dX5_take_12 ⟨Nat.le_of_ble_eq_true rfl, Nat.le_of_ble_eq_true rfl⟩) (fun c12 => ?_) (fun c12 => ?_)
    · skip
      refine lv_if_eq (tgt := 28) hx hb dX5_take_15 (by decide) (fun h => absurd h (by decide)) (fun _ => ?_)
      refine lv_iload hx hb dX5_take_18 (lv_at hl 4 rfl) ?_
      refine lv_iconst (v := 0) hx hb dX5_take_20 (by decide) ?_
      refine lv_iconst (v := 5) hx hb dX5_take_21 (by decide) ?_
      refine pc_b (rS (rest := []) S hK (c_X5_in l D cT s.heap k 0 5 (n := 6) (by decide) (by decide)) sm_X5_in w_2_171 ⟨Nat.le_of_ble_eq_true rfl, Nat.le_of_ble_eq_true rfl⟩ ⟨rfl, rfl⟩ rfl hl.1 rfl (Nat.le_of_ble_eq_true rfl) dX5_take_22 ⟨Nat.le_of_ble_eq_true rfl, Nat.le_of_ble_eq_true rfl⟩) (fun c22 => ?_) (fun c22 => ?_)
      · skip
        refine lv_if_ne (tgt := 30) hx hb dX5_take_25 (by decide) (fun _ => ?_) (fun h => absurd h (by decide))
        refine lv_aload_n hx hb dX5_take_30 rfl (lv_at hl 0 rfl) ?_
        refine hm_get S hK hM.pr cI5 (RS.c0 hR) 8 (by decide) w_2_108 rfl dX5_take_31 ?_
        refine lv_iload_n hx hb dX5_take_34 rfl (lv_at hl 1 rfl) ?_
        refine hm_iald S hK hM.pr (RS.c7 hR) c3 dX5_take_35 ?_
        refine lv_if_ge (tgt := 44) hx hb dX5_take_36 (by decide) (fun c36 => ?_) (fun c36 => ?_)
        · replace c36 := Int32.not_lt.mpr c36
          refine lv_iload_n hx hb dX5_take_44 rfl (lv_at hl 2 rfl) ?_
          refine lv_iconst (v := 0) hx hb dX5_take_45 (by decide) ?_
          refine lv_iconst (v := 2) hx hb dX5_take_46 (by decide) ?_
          refine pc_b (rS (rest := []) S hK (c_X5_in l D cT s.heap i 0 2 (n := 3) (by decide) (by decide)) sm_X5_in w_2_171 ⟨Nat.le_of_ble_eq_true rfl, Nat.le_of_ble_eq_true rfl⟩ ⟨rfl, rfl⟩ rfl hl.1 rfl (Nat.le_of_ble_eq_true rfl) dX5_take_47 ⟨Nat.le_of_ble_eq_true rfl, Nat.le_of_ble_eq_true rfl⟩) (fun c47 => ?_) (fun c47 => ?_)
          · skip
            refine lv_if_ne (tgt := 58) hx hb dX5_take_50 (by decide) (fun _ => ?_) (fun h => absurd h (by decide))
            refine lv_aload_n hx hb dX5_take_58 rfl (lv_at hl 0 rfl) ?_
            refine hm_get S hK hM.pr cI5 (RS.c0 hR) 9 (by decide) w_2_109 rfl dX5_take_59 ?_
            refine lv_iconst (v := 3) hx hb dX5_take_62 (by decide) ?_
            refine lv_iload_n hx hb dX5_take_63 rfl (lv_at hl 1 rfl) ?_
            refine lv_imul hx hb dX5_take_64 ?_
            refine lv_iload_n hx hb dX5_take_65 rfl (lv_at hl 2 rfl) ?_
            refine lv_iadd hx hb dX5_take_66 ?_
            refine hm_iald S hK hM.pr (RS.c8 hR) (by rw [(hk_ix c3 c47).1]; exact vp_in_nI (hk_ix c3 c47).2 (by decide)) dX5_take_67 ?_
            refine lv_topi (fun z1 hz1 => ?_)
            have hz1 : z1 = (z.1 6 (3 * cl r + cl i)) := by rw [hz1]; exact congrArg (z.1 6) ((congrArg cl (hk_ix c3 c47).1).trans (cl_nI (by have := (hk_ix c3 c47).2; omega)))
            subst hz1
            refine lv_istore (lv' := [(5, .int (z.1 6 (3 * cl r + cl i))), (0, .ref (a 0)), (1, .int r), (2, .int i), (3, .int kd), (4, .int k)]) hx hb dX5_take_68 hl (by decide) rfl (fun ls hl => ?_)
            refine lv_iload hx hb dX5_take_70 (lv_at hl 0 rfl) ?_
            refine lv_if_lt (tgt := 94) hx hb dX5_take_72 (by decide) (fun c72 => ?_) (fun c72 => ?_)
            · skip
              refine lv_aload_n hx hb dX5_take_94 rfl (lv_at hl 1 rfl) ?_
              refine hm_get S hK hM.pr cI5 (RS.c0 hR) 7 (by decide) w_2_107 rfl dX5_take_95 ?_
              refine lv_iload hx hb dX5_take_98 (lv_at hl 5 rfl) ?_
              refine lv_iload hx hb dX5_take_100 (lv_at hl 0 rfl) ?_
              refine hm_iast S hK hM (RS.c6 hR) c22 dX5_take_102 (fun H locs M2 hM2 hM => ?_)
              have hR := RS.u6 (k := (Int32.toNatClampNeg k)) (x := (z.1 6 (3 * cl r + cl i))) hR hM2
              refine lv_iload hx hb dX5_take_103 (lv_at hl 0 rfl) ?_
              refine lv_if_ge (tgt := 112) hx hb dX5_take_105 (by decide) (fun c105 => ?_) (fun c105 => ?_)
              · replace c105 := Int32.not_lt.mpr c105
                refine lv_iconst (v := 1) hx hb dX5_take_112 (by decide) ?_
                refine mr_i S hM hr hlocks dX5_take_113 ⟨Nat.le_of_ble_eq_true rfl, Nat.le_of_ble_eq_true rfl⟩ ?_
                have e9 : sp_take z r i kd k = (1, (setI z 4 (Int32.toNatClampNeg k) (z.1 6 (3 * cl r + cl i)))) := by unfold sp_take; rw [if_pos ⟨c3, c12, c22⟩]; rw [if_neg c36, if_pos c47, if_neg (fun q => q.1 c72)]; rw [show (if z.1 6 (3 * cl r + cl i) < 0 then (0 : Int32) else 1) = 1 from if_neg c105]; rfl
                rw [e9]
                exact ⟨rfl, hR⟩
              · replace c105 := Int32.not_le.mp c105
                refine lv_iconst (v := 0) hx hb dX5_take_108 (by decide) ?_
                refine lv_goto (tgt := 113) hx hb dX5_take_109 (by decide) ?_
                refine mr_i S hM hr hlocks dX5_take_113 ⟨Nat.le_of_ble_eq_true rfl, Nat.le_of_ble_eq_true rfl⟩ ?_
                have e9 : sp_take z r i kd k = (0, (setI z 4 (Int32.toNatClampNeg k) (z.1 6 (3 * cl r + cl i)))) := by unfold sp_take; rw [if_pos ⟨c3, c12, c22⟩]; rw [if_neg c36, if_pos c47, if_neg (fun q => q.1 c72)]; rw [show (if z.1 6 (3 * cl r + cl i) < 0 then (0 : Int32) else 1) = 0 from if_pos c105]; rfl
                rw [e9]
                exact ⟨rfl, hR⟩
            · skip
              refine lv_aload_n hx hb dX5_take_75 rfl (lv_at hl 1 rfl) ?_
              refine hm_get S hK hM.pr cI5 (RS.c0 hR) 5 (by decide) w_2_105 rfl dX5_take_76 ?_
              refine lv_iload hx hb dX5_take_79 (lv_at hl 0 rfl) ?_
              refine hm_iald S hK hM.pr (RS.c4 hR) (in_lt c72 (Nat.lt_trans (hI.hk hn (hk_ix c3 c47).2 c72).1 (by decide)) (by decide)) dX5_take_81 ?_
              refine lv_iload_n hx hb dX5_take_82 rfl (lv_at hl 4 rfl) ?_
              refine pc_b (rS (rest := []) S hK (c_X5_fits l D cT s.heap (z.1 3 (Int32.toNatClampNeg (z.1 6 (3 * cl r + cl i)))) kd) sm_X5_fits w_3_39 ⟨Nat.le_of_ble_eq_true rfl, Nat.le_of_ble_eq_true rfl⟩ ⟨rfl, rfl⟩ rfl hl.1 rfl (Nat.le_of_ble_eq_true rfl) dX5_take_83 ⟨Nat.le_of_ble_eq_true rfl, Nat.le_of_ble_eq_true rfl⟩) (fun c83 => ?_) (fun c83 => ?_)
              · skip
                refine lv_if_ne (tgt := 94) hx hb dX5_take_86 (by decide) (fun _ => ?_) (fun h => absurd h (by decide))
                refine lv_aload_n hx hb dX5_take_94 rfl (lv_at hl 1 rfl) ?_
                refine hm_get S hK hM.pr cI5 (RS.c0 hR) 7 (by decide) w_2_107 rfl dX5_take_95 ?_
                refine lv_iload hx hb dX5_take_98 (lv_at hl 5 rfl) ?_
                refine lv_iload hx hb dX5_take_100 (lv_at hl 0 rfl) ?_
                refine hm_iast S hK hM (RS.c6 hR) c22 dX5_take_102 (fun H locs M3 hM3 hM => ?_)
                have hR := RS.u6 (k := (Int32.toNatClampNeg k)) (x := (z.1 6 (3 * cl r + cl i))) hR hM3
                refine lv_iload hx hb dX5_take_103 (lv_at hl 0 rfl) ?_
                refine lv_if_ge (tgt := 112) hx hb dX5_take_105 (by decide) (fun c105 => ?_) (fun c105 => ?_)
                · replace c105 := Int32.not_lt.mpr c105
                  refine lv_iconst (v := 1) hx hb dX5_take_112 (by decide) ?_
                  refine mr_i S hM hr hlocks dX5_take_113 ⟨Nat.le_of_ble_eq_true rfl, Nat.le_of_ble_eq_true rfl⟩ ?_
                  have e9 : sp_take z r i kd k = (1, (setI z 4 (Int32.toNatClampNeg k) (z.1 6 (3 * cl r + cl i)))) := by unfold sp_take; rw [if_pos ⟨c3, c12, c22⟩]; rw [if_neg c36, if_pos c47, if_neg (fun q => q.2 c83)]; rw [show (if z.1 6 (3 * cl r + cl i) < 0 then (0 : Int32) else 1) = 1 from if_neg c105]; rfl
                  rw [e9]
                  exact ⟨rfl, hR⟩
                · replace c105 := Int32.not_le.mp c105
                  refine lv_iconst (v := 0) hx hb dX5_take_108 (by decide) ?_
                  refine lv_goto (tgt := 113) hx hb dX5_take_109 (by decide) ?_
                  refine mr_i S hM hr hlocks dX5_take_113 ⟨Nat.le_of_ble_eq_true rfl, Nat.le_of_ble_eq_true rfl⟩ ?_
                  have e9 : sp_take z r i kd k = (0, (setI z 4 (Int32.toNatClampNeg k) (z.1 6 (3 * cl r + cl i)))) := by unfold sp_take; rw [if_pos ⟨c3, c12, c22⟩]; rw [if_neg c36, if_pos c47, if_neg (fun q => q.2 c83)]; rw [show (if z.1 6 (3 * cl r + cl i) < 0 then (0 : Int32) else 1) = 0 from if_pos c105]; rfl
                  rw [e9]
                  exact ⟨rfl, hR⟩
              · skip
                refine lv_if_ne (tgt := 94) hx hb dX5_take_86 (by decide) (fun h => absurd rfl h) (fun _ => ?_)
                refine lv_iconst (v := 3) hx hb dX5_take_89 (by decide) ?_
                refine pc_i (rS (rest := []) S hK (c_X5_fails l D cT s.heap 3) sm_X5_fails w_2_200 ⟨Nat.le_of_ble_eq_true rfl, Nat.le_of_ble_eq_true rfl⟩ ⟨rfl, rfl⟩ rfl hl.1 rfl (Nat.le_of_ble_eq_true rfl) dX5_take_90 ⟨Nat.le_of_ble_eq_true rfl, Nat.le_of_ble_eq_true rfl⟩) (fun r4 hr4 => ?_)
                subst hr4
                refine mr_i S hM hr hlocks dX5_take_93 ⟨Nat.le_of_ble_eq_true rfl, Nat.le_of_ble_eq_true rfl⟩ ?_
                have e9 : sp_take z r i kd k = ((-10 - 3), z) := by unfold sp_take; rw [if_pos ⟨c3, c12, c22⟩]; rw [if_neg c36, if_pos c47, if_pos ⟨c72, c83⟩]; rfl
                rw [e9]
                exact ⟨rfl, hR⟩
          · skip
            refine lv_if_ne (tgt := 58) hx hb dX5_take_50 (by decide) (fun h => absurd rfl h) (fun _ => ?_)
            refine lv_iconst (v := 2) hx hb dX5_take_53 (by decide) ?_
            refine pc_i (rS (rest := []) S hK (c_X5_fails l D cT s.heap 2) sm_X5_fails w_2_200 ⟨Nat.le_of_ble_eq_true rfl, Nat.le_of_ble_eq_true rfl⟩ ⟨rfl, rfl⟩ rfl hl.1 rfl (Nat.le_of_ble_eq_true rfl) dX5_take_54 ⟨Nat.le_of_ble_eq_true rfl, Nat.le_of_ble_eq_true rfl⟩) (fun r5 hr5 => ?_)
            subst hr5
            refine mr_i S hM hr hlocks dX5_take_57 ⟨Nat.le_of_ble_eq_true rfl, Nat.le_of_ble_eq_true rfl⟩ ?_
            have e9 : sp_take z r i kd k = ((-10 - 2), z) := by unfold sp_take; rw [if_pos ⟨c3, c12, c22⟩]; rw [if_neg c36, if_neg c47]; rfl
            rw [e9]
            exact ⟨rfl, hR⟩
        · replace c36 := Int32.not_le.mp c36
          refine lv_iconst (v := 1) hx hb dX5_take_39 (by decide) ?_
          refine pc_i (rS (rest := []) S hK (c_X5_fails l D cT s.heap 1) sm_X5_fails w_2_200 ⟨Nat.le_of_ble_eq_true rfl, Nat.le_of_ble_eq_true rfl⟩ ⟨rfl, rfl⟩ rfl hl.1 rfl (Nat.le_of_ble_eq_true rfl) dX5_take_40 ⟨Nat.le_of_ble_eq_true rfl, Nat.le_of_ble_eq_true rfl⟩) (fun r6 hr6 => ?_)
          subst hr6
          refine mr_i S hM hr hlocks dX5_take_43 ⟨Nat.le_of_ble_eq_true rfl, Nat.le_of_ble_eq_true rfl⟩ ?_
          have e9 : sp_take z r i kd k = ((-10 - 1), z) := by unfold sp_take; rw [if_pos ⟨c3, c12, c22⟩]; rw [if_pos c36]; rfl
          rw [e9]
          exact ⟨rfl, hR⟩
      · skip
        refine lv_if_ne (tgt := 30) hx hb dX5_take_25 (by decide) (fun h => absurd rfl h) (fun _ => ?_)
        refine lv_iconst (v := (-1)) hx hb dX5_take_28 (by decide) ?_
        refine mr_i S hM hr hlocks dX5_take_29 ⟨Nat.le_of_ble_eq_true rfl, Nat.le_of_ble_eq_true rfl⟩ ?_
        have e9 : sp_take z r i kd k = ((-1), z) := by unfold sp_take; rw [if_neg (fun q => c22 q.2.2)]
        rw [e9]
        exact ⟨rfl, hR⟩
    · skip
      refine lv_if_eq (tgt := 28) hx hb dX5_take_15 (by decide) (fun _ => ?_) (fun h => absurd (by decide) h)
      refine lv_iconst (v := (-1)) hx hb dX5_take_28 (by decide) ?_
      refine mr_i S hM hr hlocks dX5_take_29 ⟨Nat.le_of_ble_eq_true rfl, Nat.le_of_ble_eq_true rfl⟩ ?_
      have e9 : sp_take z r i kd k = ((-1), z) := by unfold sp_take; rw [if_neg (fun q => c12 q.2.1)]
      rw [e9]
      exact ⟨rfl, hR⟩
  · skip
    refine lv_if_eq (tgt := 28) hx hb dX5_take_6 (by decide) (fun _ => ?_) (fun h => absurd (by decide) h)
    refine lv_iconst (v := (-1)) hx hb dX5_take_28 (by decide) ?_
    refine mr_i S hM hr hlocks dX5_take_29 ⟨Nat.le_of_ble_eq_true rfl, Nat.le_of_ble_eq_true rfl⟩ ?_
    have e9 : sp_take z r i kd k = ((-1), z) := by unfold sp_take; rw [if_neg (fun q => c3 q.1)]
    rw [e9]
    exact ⟨rfl, hR⟩
set_option maxHeartbeats 4000000 in
set_option maxRecDepth 100000 in
theorem c_X5_head (l : Launch) (D : va_G) (cT : Nat → ClassId) {M : hmp} {a : Nat → Nat} {z : SG} (hR : RS cT a M z) {n : Nat} (hI : INV n z) (hn : n ≤ 512) (h t c0 r : Int32) (b : Int64) (sz : Nat) : Met l yX5_head (wz yX5_head cX5_head 9 (some .int)) ({ frames := 1, cells := 0, slots := 0, locals := 24 } : Room) (mP D cT [.ref (a 0), .int h, .int t, .int c0, .int r, .long b] M sz) (mQi (fun rr MM => rr = (sp_head z h t c0 r b).1 ∧ RS cT a MM (sp_head z h t c0 r b).2) D M sz) 0 0 (FA M sz) := by
  refine mk_m (by decide +kernel) (Nat.le_of_ble_eq_true rfl) ?_
  intro p e s m args below meth c S hK hsz hM hr hlocks hnm ls hl
  have hx := S.1
  have hb := S.2.1
  have hml := S.2.2.1
  have hown := S.2.2.2.1
  have hts := S.2.2.2.2
  have hl : lv_has ls 9 [(0, .ref (a 0)), (1, .int h), (2, .int t), (3, .int c0), (4, .int r), (5, .long b)] := hl
  refine lv_iload_n hx hb dX5_head_0 rfl (lv_at hl 1 rfl) ?_
  refine lv_iconst (v := 0) hx hb dX5_head_1 (by decide) ?_
  refine lv_iconst (v := 3) hx hb dX5_head_2 (by decide) ?_
  refine pc_b (rS (rest := []) S hK (c_X5_in l D cT s.heap h 0 3 (n := 4) (by decide) (by decide)) sm_X5_in w_2_171 ⟨Nat.le_of_ble_eq_true rfl, Nat.le_of_ble_eq_true rfl⟩ ⟨rfl, rfl⟩ rfl hl.1 rfl (Nat.le_of_ble_eq_true rfl) dX5_head_3 ⟨Nat.le_of_ble_eq_true rfl, Nat.le_of_ble_eq_true rfl⟩) (fun c3 => ?_) (fun c3 => ?_)
  · skip
    refine lv_if_eq (tgt := 46) hx hb dX5_head_6 (by decide) (fun h => absurd h (by decide)) (fun _ => ?_)
    refine lv_iload_n hx hb dX5_head_9 rfl (lv_at hl 2 rfl) ?_
    refine lv_iconst (v := 0) hx hb dX5_head_10 (by decide) ?_
    refine lv_iconst (v := 5) hx hb dX5_head_11 (by decide) ?_
    refine pc_b (rS (rest := []) S hK (c_X5_in l D cT s.heap t 0 5 (n := 6) (by decide) (by decide)) sm_X5_in w_2_171 ⟨Nat.le_of_ble_eq_true rfl, Nat.le_of_ble_eq_true rfl⟩ ⟨rfl, rfl⟩ rfl hl.1 rfl (Nat.le_of_ble_eq_true rfl) dX5_head_12 ⟨Nat.le_of_ble_eq_true rfl, Nat.le_of_ble_eq_true rfl⟩) (fun c12 => ?_) (fun c12 => ?_)
    · skip
      refine lv_if_eq (tgt := 46) hx hb dX5_head_15 (by decide) (fun h => absurd h (by decide)) (fun _ => ?_)
      refine lv_iload_n hx hb dX5_head_18 rfl (lv_at hl 3 rfl) ?_
      refine lv_iconst (v := (-1)) hx hb dX5_head_19 (by decide) ?_
      refine lv_iconst (v := 5) hx hb dX5_head_20 (by decide) ?_
      refine pc_b (rS (rest := []) S hK (c_X5_in1 l D cT s.heap c0 (-1) 5 (n := 6) (by decide) (by decide)) sm_X5_in w_2_171 ⟨Nat.le_of_ble_eq_true rfl, Nat.le_of_ble_eq_true rfl⟩ ⟨rfl, rfl⟩ rfl hl.1 rfl (Nat.le_of_ble_eq_true rfl) dX5_head_21 ⟨Nat.le_of_ble_eq_true rfl, Nat.le_of_ble_eq_true rfl⟩) (fun c21 => ?_) (fun c21 => ?_)
      · skip
        refine lv_if_eq (tgt := 46) hx hb dX5_head_24 (by decide) (fun h => absurd h (by decide)) (fun _ => ?_)
        refine lv_iload hx hb dX5_head_27 (lv_at hl 4 rfl) ?_
        refine lv_iconst (v := (-1)) hx hb dX5_head_29 (by decide) ?_
        refine lv_iconst (v := 2) hx hb dX5_head_30 (by decide) ?_
        refine pc_b (rS (rest := []) S hK (c_X5_in1 l D cT s.heap r (-1) 2 (n := 3) (by decide) (by decide)) sm_X5_in w_2_171 ⟨Nat.le_of_ble_eq_true rfl, Nat.le_of_ble_eq_true rfl⟩ ⟨rfl, rfl⟩ rfl hl.1 rfl (Nat.le_of_ble_eq_true rfl) dX5_head_31 ⟨Nat.le_of_ble_eq_true rfl, Nat.le_of_ble_eq_true rfl⟩) (fun c31 => ?_) (fun c31 => ?_)
        · skip
          refine lv_if_eq (tgt := 46) hx hb dX5_head_34 (by decide) (fun h => absurd h (by decide)) (fun _ => ?_)
          refine lv_iconst (v := 1) hx hb dX5_head_37 (by decide) ?_
          refine lv_lload hx hb dX5_head_38 (lv_at hl 5 rfl) ?_
          refine pc_b (rS (rest := []) S hK (c_X5_isFine l D cT s.heap 1 b) sm_X5_isFine w_2_189 ⟨Nat.le_of_ble_eq_true rfl, Nat.le_of_ble_eq_true rfl⟩ ⟨rfl, rfl⟩ rfl hl.1 rfl (Nat.le_of_ble_eq_true rfl) dX5_head_40 ⟨Nat.le_of_ble_eq_true rfl, Nat.le_of_ble_eq_true rfl⟩) (fun c40 => ?_) (fun c40 => ?_)
          · skip
            refine lv_if_ne (tgt := 48) hx hb dX5_head_43 (by decide) (fun _ => ?_) (fun h => absurd h (by decide))
            refine lv_lload hx hb dX5_head_48 (lv_at hl 5 rfl) ?_
            refine vn_l2d hx hb (hml.trans hl.1.symm) hown (hts _ w_2_206) (hts _ w_2_208) (hts _ w_2_207) (hts _ w_1_5) (sn_l c40) (Nat.le_of_ble_eq_true rfl) (Nat.le_of_ble_eq_true rfl) dX5_head_50 ?_
            refine lv_dstore (lv' := [(7, .double (Int64.toUInt64 b)), (0, .ref (a 0)), (1, .int h), (2, .int t), (3, .int c0), (4, .int r), (5, .long b)]) hx hb dX5_head_53 hl (by decide) rfl (fun ls hl => ?_)
            refine lv_dload hx hb dX5_head_55 (lv_at hl 0 rfl) ?_
            refine lv_ldc2d hx hb hown (hts _ w_3_50) dX5_head_57 ?_
            refine lv_dcmp hx hb dX5_head_60 ?_
            refine lv_if_lt (tgt := 73) hx hb dX5_head_61 (by decide) (fun c61 => ?_) (fun c61 => ?_)
            · replace c61 := (cv_dcmp_g_lt _ _).mp c61
              refine lv_iconst (v := (-1)) hx hb dX5_head_73 (by decide) ?_
              refine mr_i S hM hr hlocks dX5_head_74 ⟨Nat.le_of_ble_eq_true rfl, Nat.le_of_ble_eq_true rfl⟩ ?_
              have e9 : sp_head z h t c0 r b = ((-1), z) := by unfold sp_head; rw [if_neg (fun q => q.2.2.2.2.2.1 c61)]
              rw [e9]
              exact ⟨rfl, hR⟩
            · replace c61 := (cv_dcmp_g_lt_n _ _).mp c61
              refine lv_dload hx hb dX5_head_64 (lv_at hl 0 rfl) ?_
              refine lv_ldc2d hx hb hown (hts _ w_3_51) dX5_head_66 ?_
              refine lv_dcmp hx hb dX5_head_69 ?_
              refine lv_if_le (tgt := 75) hx hb dX5_head_70 (by decide) (fun c70 => ?_) (fun c70 => ?_)
              · replace c70 := (cv_dcmp_l_le _ _).mp c70
                refine lv_aload_n hx hb dX5_head_75 rfl (lv_at hl 1 rfl) ?_
                refine hm_get S hK hM.pr cI5 (RS.c0 hR) 10 (by decide) w_2_110 rfl dX5_head_76 ?_
                refine lv_iload_n hx hb dX5_head_79 rfl (lv_at hl 2 rfl) ?_
                refine lv_iconst (v := 1) hx hb dX5_head_80 (by decide) ?_
                refine hm_zast S hK hM (RS.c9 hR) c3 dX5_head_81 (fun H locs M1 hM1 hM => ?_)
                have hR := RS.u9 (k := (Int32.toNatClampNeg h)) (x := 1) hR hM1
                refine lv_aload_n hx hb dX5_head_82 rfl (lv_at hl 1 rfl) ?_
                refine hm_get S hK hM.pr cI5 (RS.c0 hR) 11 (by decide) w_2_111 rfl dX5_head_83 ?_
                refine lv_iload_n hx hb dX5_head_86 rfl (lv_at hl 2 rfl) ?_
                refine lv_iload_n hx hb dX5_head_87 rfl (lv_at hl 3 rfl) ?_
                refine hm_iast S hK hM (RS.c10 hR) c3 dX5_head_88 (fun H locs M2 hM2 hM => ?_)
                have hR := RS.u10 (k := (Int32.toNatClampNeg h)) (x := t) hR hM2
                refine lv_aload_n hx hb dX5_head_89 rfl (lv_at hl 1 rfl) ?_
                refine hm_get S hK hM.pr cI5 (RS.c0 hR) 12 (by decide) w_2_112 rfl dX5_head_90 ?_
                refine lv_iload_n hx hb dX5_head_93 rfl (lv_at hl 2 rfl) ?_
                refine lv_iload_n hx hb dX5_head_94 rfl (lv_at hl 4 rfl) ?_
                refine hm_iast S hK hM (RS.c11 hR) c3 dX5_head_95 (fun H locs M3 hM3 hM => ?_)
                have hR := RS.u11 (k := (Int32.toNatClampNeg h)) (x := c0) hR hM3
                refine lv_aload_n hx hb dX5_head_96 rfl (lv_at hl 1 rfl) ?_
                refine hm_get S hK hM.pr cI5 (RS.c0 hR) 13 (by decide) w_2_113 rfl dX5_head_97 ?_
                refine lv_iload_n hx hb dX5_head_100 rfl (lv_at hl 2 rfl) ?_
                refine lv_iload hx hb dX5_head_101 (lv_at hl 5 rfl) ?_
                refine hm_iast S hK hM (RS.c12 hR) c3 dX5_head_103 (fun H locs M4 hM4 hM => ?_)
                have hR := RS.u12 (k := (Int32.toNatClampNeg h)) (x := r) hR hM4
                refine lv_aload_n hx hb dX5_head_104 rfl (lv_at hl 1 rfl) ?_
                refine hm_get S hK hM.pr cI5 (RS.c0 hR) 14 (by decide) w_2_114 rfl dX5_head_105 ?_
                refine lv_iload_n hx hb dX5_head_108 rfl (lv_at hl 2 rfl) ?_
                refine lv_dload hx hb dX5_head_109 (lv_at hl 0 rfl) ?_
                refine hm_dast S hK hM (RS.c13 hR) c3 dX5_head_111 (fun H locs M5 hM5 hM => ?_)
                have hR := RS.u13 (k := (Int32.toNatClampNeg h)) (x := (Int64.toUInt64 b)) hR hM5
                refine lv_aload_n hx hb dX5_head_112 rfl (lv_at hl 1 rfl) ?_
                refine hm_get S hK hM.pr cI5 (RS.c0 hR) 15 (by decide) w_2_115 rfl dX5_head_113 ?_
                refine lv_iload_n hx hb dX5_head_116 rfl (lv_at hl 2 rfl) ?_
                refine lv_dconst0 hx hb dX5_head_117 ?_
                refine hm_dast S hK hM (RS.c14 hR) c3 dX5_head_118 (fun H locs M6 hM6 hM => ?_)
                have hR := RS.u14 (k := (Int32.toNatClampNeg h)) (x := FP.dconst0) hR hM6
                refine lv_aload_n hx hb dX5_head_119 rfl (lv_at hl 1 rfl) ?_
                refine hm_get S hK hM.pr cI5 (RS.c0 hR) 16 (by decide) w_2_116 rfl dX5_head_120 ?_
                refine lv_iload_n hx hb dX5_head_123 rfl (lv_at hl 2 rfl) ?_
                refine lv_lconst (v := 0) hx hb dX5_head_124 (by decide) ?_
                refine hm_last S hK hM (RS.c15 hR) c3 dX5_head_125 (fun H locs M7 hM7 hM => ?_)
                have hR := RS.u15 (k := (Int32.toNatClampNeg h)) (x := 0) hR hM7
                refine lv_iconst (v := 1) hx hb dX5_head_126 (by decide) ?_
                refine mr_i S hM hr hlocks dX5_head_127 ⟨Nat.le_of_ble_eq_true rfl, Nat.le_of_ble_eq_true rfl⟩ ?_
                have e9 : sp_head z h t c0 r b = (1, (setL (setF (setF (setI (setI (setI (setI z 7 (Int32.toNatClampNeg h) 1) 8 (Int32.toNatClampNeg h) t) 9 (Int32.toNatClampNeg h) c0) 10 (Int32.toNatClampNeg h) r) 2 (Int32.toNatClampNeg h) (Int64.toUInt64 b)) 3 (Int32.toNatClampNeg h) FP.dconst0) 0 (Int32.toNatClampNeg h) 0)) := by unfold sp_head; rw [if_pos ⟨c3, c12, c21, c31, c40, c61, c70⟩]; rfl
                rw [e9]
                exact ⟨rfl, hR⟩
              · replace c70 := (cv_dcmp_l_le_n _ _).mp c70
                refine lv_iconst (v := (-1)) hx hb dX5_head_73 (by decide) ?_
                refine mr_i S hM hr hlocks dX5_head_74 ⟨Nat.le_of_ble_eq_true rfl, Nat.le_of_ble_eq_true rfl⟩ ?_
                have e9 : sp_head z h t c0 r b = ((-1), z) := by unfold sp_head; rw [if_neg (fun q => q.2.2.2.2.2.2 c70)]
                rw [e9]
                exact ⟨rfl, hR⟩
          · skip
            refine lv_if_ne (tgt := 48) hx hb dX5_head_43 (by decide) (fun h => absurd rfl h) (fun _ => ?_)
            refine lv_iconst (v := (-1)) hx hb dX5_head_46 (by decide) ?_
            refine mr_i S hM hr hlocks dX5_head_47 ⟨Nat.le_of_ble_eq_true rfl, Nat.le_of_ble_eq_true rfl⟩ ?_
            have e9 : sp_head z h t c0 r b = ((-1), z) := by unfold sp_head; rw [if_neg (fun q => c40 q.2.2.2.2.1)]
            rw [e9]
            exact ⟨rfl, hR⟩
        · skip
          refine lv_if_eq (tgt := 46) hx hb dX5_head_34 (by decide) (fun _ => ?_) (fun h => absurd (by decide) h)
          refine lv_iconst (v := (-1)) hx hb dX5_head_46 (by decide) ?_
          refine mr_i S hM hr hlocks dX5_head_47 ⟨Nat.le_of_ble_eq_true rfl, Nat.le_of_ble_eq_true rfl⟩ ?_
          have e9 : sp_head z h t c0 r b = ((-1), z) := by unfold sp_head; rw [if_neg (fun q => c31 q.2.2.2.1)]
          rw [e9]
          exact ⟨rfl, hR⟩
      · skip
        refine lv_if_eq (tgt := 46) hx hb dX5_head_24 (by decide) (fun _ => ?_) (fun h => absurd (by decide) h)
        refine lv_iconst (v := (-1)) hx hb dX5_head_46 (by decide) ?_
        refine mr_i S hM hr hlocks dX5_head_47 ⟨Nat.le_of_ble_eq_true rfl, Nat.le_of_ble_eq_true rfl⟩ ?_
        have e9 : sp_head z h t c0 r b = ((-1), z) := by unfold sp_head; rw [if_neg (fun q => c21 q.2.2.1)]
        rw [e9]
        exact ⟨rfl, hR⟩
    · skip
      refine lv_if_eq (tgt := 46) hx hb dX5_head_15 (by decide) (fun _ => ?_) (fun h => absurd (by decide) h)
      refine lv_iconst (v := (-1)) hx hb dX5_head_46 (by decide) ?_
      refine mr_i S hM hr hlocks dX5_head_47 ⟨Nat.le_of_ble_eq_true rfl, Nat.le_of_ble_eq_true rfl⟩ ?_
      have e9 : sp_head z h t c0 r b = ((-1), z) := by unfold sp_head; rw [if_neg (fun q => c12 q.2.1)]
      rw [e9]
      exact ⟨rfl, hR⟩
  · skip
    refine lv_if_eq (tgt := 46) hx hb dX5_head_6 (by decide) (fun _ => ?_) (fun h => absurd (by decide) h)
    refine lv_iconst (v := (-1)) hx hb dX5_head_46 (by decide) ?_
    refine mr_i S hM hr hlocks dX5_head_47 ⟨Nat.le_of_ble_eq_true rfl, Nat.le_of_ble_eq_true rfl⟩ ?_
    have e9 : sp_head z h t c0 r b = ((-1), z) := by unfold sp_head; rw [if_neg (fun q => c3 q.1)]
    rw [e9]
    exact ⟨rfl, hR⟩
set_option maxHeartbeats 4000000 in
set_option maxRecDepth 100000 in
theorem c_X5_failed (l : Launch) (D : va_G) (cT : Nat → ClassId) (H : Heap) {M : hmp} {a : Nat → Nat} {z : SG} (hP : HPr D M H) (hR : RS cT a M z) {n : Nat} (hI : INV n z) (hn : n ≤ 512)  : Met l yX5_failed (wz yX5_failed cX5_failed 1 (some .int)) ({ frames := 1, cells := 0, slots := 0, locals := 20 } : Room) (pP D cT [.ref (a 0)] H) (qi (fun rr => rr = (sp_failed z).1) H) 0 0 (fun _ => False) := by
  refine mk_p (by decide +kernel) (Nat.le_of_ble_eq_true rfl) ?_
  intro p e s m args below meth c S hK hs hr hlocks ls hl
  have hx := S.1
  have hb := S.2.1
  have hml := S.2.2.1
  have hown := S.2.2.2.1
  have hts := S.2.2.2.2
  have hl : lv_has ls 1 [(0, .ref (a 0))] := hl
  refine lv_aload_n hx hb dX5_failed_0 rfl (lv_at hl 0 rfl) ?_
  refine hm_get S hK hP cI5 (RS.c0 hR) 18 (by decide) w_2_118 rfl dX5_failed_1 ?_
  refine lv_if_ne (tgt := 11) hx hb dX5_failed_4 (by decide) (fun c4 => ?_) (fun c4 => ?_)
  · skip
    refine lv_aload_n hx hb dX5_failed_11 rfl (lv_at hl 0 rfl) ?_
    refine hm_get S hK hP cI5 (RS.c0 hR) 18 (by decide) w_2_118 rfl dX5_failed_12 ?_
    refine pc_i (rS (rest := []) S hK (c_X5_fails l D cT H (z.1 0 2)) sm_X5_fails w_2_200 ⟨Nat.le_of_ble_eq_true rfl, Nat.le_of_ble_eq_true rfl⟩ ⟨rfl, rfl⟩ rfl hl.1 rfl (Nat.le_of_ble_eq_true rfl) dX5_failed_15 ⟨Nat.le_of_ble_eq_true rfl, Nat.le_of_ble_eq_true rfl⟩) (fun r1 hr1 => ?_)
    subst hr1
    refine pr_i S hs hr hlocks dX5_failed_18 ?_
    exact (if_neg c4).symm
  · skip
    refine lv_iconst (v := 0) hx hb dX5_failed_7 (by decide) ?_
    refine lv_goto (tgt := 18) hx hb dX5_failed_8 (by decide) ?_
    refine pr_i S hs hr hlocks dX5_failed_18 ?_
    exact (if_pos c4).symm
set_option maxHeartbeats 4000000 in
set_option maxRecDepth 100000 in
theorem c_X5_told (l : Launch) (D : va_G) (cT : Nat → ClassId) (H : Heap) {M : hmp} {a : Nat → Nat} {z : SG} (hP : HPr D M H) (hR : RS cT a M z) {n : Nat} (hI : INV n z) (hn : n ≤ 512)  : Met l yX5_told (wz yX5_told cX5_told 1 (some .long)) ({ frames := 0, cells := 0, slots := 0, locals := 0 } : Room) (pP D cT [.ref (a 0)] H) (ql (fun rr => rr = z.2.2 1 1) H) 0 0 (fun _ => False) := by
  refine mk_p (by decide +kernel) (Nat.le_of_ble_eq_true rfl) ?_
  intro p e s m args below meth c S hK hs hr hlocks ls hl
  have hx := S.1
  have hb := S.2.1
  have hml := S.2.2.1
  have hown := S.2.2.2.1
  have hts := S.2.2.2.2
  have hl : lv_has ls 1 [(0, .ref (a 0))] := hl
  refine lv_aload_n hx hb dX5_told_0 rfl (lv_at hl 0 rfl) ?_
  refine hm_get S hK hP cI5 (RS.c0 hR) 20 (by decide) w_2_120 rfl dX5_told_1 ?_
  refine pr_l S hs hr hlocks dX5_told_4 ?_
  rfl
set_option maxHeartbeats 4000000 in
set_option maxRecDepth 100000 in
theorem c_X5_mix (l : Launch) (D : va_G) (cT : Nat → ClassId) {M : hmp} {a : Nat → Nat} {z : SG} (hR : RS cT a M z) {n : Nat} (hI : INV n z) (hn : n ≤ 512) (i how : Int32) (sz : Nat) : Met l yX5_mix (wz yX5_mix cX5_mix 6 (some .int)) ({ frames := 3, cells := 0, slots := 0, locals := 67 } : Room) (mP D cT [.ref (a 0), .int i, .int how] M sz) (mQi (fun rr MM => rr = (sp_mix z i how).1 ∧ RS cT a MM (sp_mix z i how).2) D M sz) 0 0 (FA M sz) := by
  refine mk_m (by decide +kernel) (Nat.le_of_ble_eq_true rfl) ?_
  intro p e s m args below meth c S hK hsz hM hr hlocks hnm ls hl
  have hx := S.1
  have hb := S.2.1
  have hml := S.2.2.1
  have hown := S.2.2.2.1
  have hts := S.2.2.2.2
  have hl : lv_has ls 6 [(0, .ref (a 0)), (1, .int i), (2, .int how)] := hl
  refine lv_iload_n hx hb dX5_mix_0 rfl (lv_at hl 1 rfl) ?_
  refine lv_iconst (v := 0) hx hb dX5_mix_1 (by decide) ?_
  refine lv_bipush (v := 7) hx hb dX5_mix_2 (by decide) ?_
  refine pc_b (rS (rest := []) S hK (c_X5_in l D cT s.heap i 0 7 (n := 8) (by decide) (by decide)) sm_X5_in w_2_171 ⟨Nat.le_of_ble_eq_true rfl, Nat.le_of_ble_eq_true rfl⟩ ⟨rfl, rfl⟩ rfl hl.1 rfl (Nat.le_of_ble_eq_true rfl) dX5_mix_4 ⟨Nat.le_of_ble_eq_true rfl, Nat.le_of_ble_eq_true rfl⟩) (fun c4 => ?_) (fun c4 => ?_)
  · skip
    refine lv_if_eq (tgt := 19) hx hb dX5_mix_7 (by decide) (fun h => absurd h (by decide)) (fun _ => ?_)
    refine lv_iload_n hx hb dX5_mix_10 rfl (lv_at hl 2 rfl) ?_
    refine lv_iconst (v := 0) hx hb dX5_mix_11 (by decide) ?_
    refine lv_iconst (v := 3) hx hb dX5_mix_12 (by decide) ?_
    refine pc_b (rS (rest := []) S hK (c_X5_in l D cT s.heap how 0 3 (n := 4) (by decide) (by decide)) sm_X5_in w_2_171 ⟨Nat.le_of_ble_eq_true rfl, Nat.le_of_ble_eq_true rfl⟩ ⟨rfl, rfl⟩ rfl hl.1 rfl (Nat.le_of_ble_eq_true rfl) dX5_mix_13 ⟨Nat.le_of_ble_eq_true rfl, Nat.le_of_ble_eq_true rfl⟩) (fun c13 => ?_) (fun c13 => ?_)
    · skip
      refine lv_if_ne (tgt := 21) hx hb dX5_mix_16 (by decide) (fun _ => ?_) (fun h => absurd h (by decide))
      obtain ⟨xm, hxm, hxe⟩ := hI.2.2.2.2 (cl i) (in_cl c4)
      have hxf : fin64 (z.2.1 4 (cl i)) := by rw [hxe]; exact fin_f2d hxm
      refine lv_aload_n hx hb dX5_mix_21 rfl (lv_at hl 0 rfl) ?_
      refine hm_get S hK hM.pr cI5 (RS.c0 hR) 17 (by decide) w_2_117 rfl dX5_mix_22 ?_
      refine lv_iload_n hx hb dX5_mix_25 rfl (lv_at hl 1 rfl) ?_
      refine hm_dald S hK hM.pr (RS.c16 hR) c4 dX5_mix_26 ?_
      refine lv_ldc2d hx hb hown (hts _ w_3_69) dX5_mix_27 ?_
      refine lv_dmul hx hb dX5_mix_30 (n64_of (nn_mul hxf (by decide))) ?_
      refine lv_dstore_n (lv' := [(3, .double (FP.dmul (z.2.1 4 (Int32.toNatClampNeg i)) 4674736138332667904)), (0, .ref (a 0)), (1, .int i), (2, .int how)]) hx hb dX5_mix_31 rfl hl (by decide) rfl (fun ls hl => ?_)
      refine lv_dload_n hx hb dX5_mix_32 rfl (lv_at hl 0 rfl) ?_
      refine lv_d2i hx hb dX5_mix_33 ?_
      refine lv_istore (lv' := [(5, .int (FP.d2i (FP.dmul (z.2.1 4 (Int32.toNatClampNeg i)) 4674736138332667904))), (3, .double (FP.dmul (z.2.1 4 (Int32.toNatClampNeg i)) 4674736138332667904)), (0, .ref (a 0)), (1, .int i), (2, .int how)]) hx hb dX5_mix_34 hl (by decide) rfl (fun ls hl => ?_)
      refine lv_aload_n hx hb dX5_mix_36 rfl (lv_at hl 2 rfl) ?_
      refine lv_iload_n hx hb dX5_mix_37 rfl (lv_at hl 4 rfl) ?_
      refine lv_if_ne (tgt := 54) hx hb dX5_mix_38 (by decide) (fun c38 => ?_) (fun c38 => ?_)
      · skip
        refine lv_iload_n hx hb dX5_mix_54 rfl (lv_at hl 4 rfl) ?_
        refine lv_iconst (v := 1) hx hb dX5_mix_55 (by decide) ?_
        refine lv_icmp_ne (tgt := 65) hx hb dX5_mix_56 (by decide) (fun c56 => ?_) (fun c56 => ?_)
        · skip
          refine lv_iload_n hx hb dX5_mix_65 rfl (lv_at hl 4 rfl) ?_
          refine lv_iconst (v := 2) hx hb dX5_mix_66 (by decide) ?_
          refine lv_icmp_ne (tgt := 77) hx hb dX5_mix_67 (by decide) (fun c67 => ?_) (fun c67 => ?_)
          · skip
            refine lv_aload_n hx hb dX5_mix_77 rfl (lv_at hl 2 rfl) ?_
            refine hm_get S hK hM.pr cI5 (RS.c0 hR) 17 (by decide) w_2_117 rfl dX5_mix_78 ?_
            refine lv_iload_n hx hb dX5_mix_81 rfl (lv_at hl 3 rfl) ?_
            refine hm_dald S hK hM.pr (RS.c16 hR) c4 dX5_mix_82 ?_
            refine lv_d2l hx hb dX5_mix_83 ?_
            refine hm_put S hK hM cI5 (RS.c0 hR) 20 (by decide) w_2_120 rfl rfl rfl (Nat.le_of_ble_eq_true rfl) dX5_mix_84 (fun H locs M1 hM1 hM => ?_)
            have hR := RS.f20 hR hM1
            refine lv_iconst (v := 1) hx hb dX5_mix_87 (by decide) ?_
            refine mr_i S hM hr hlocks dX5_mix_88 ⟨Nat.le_of_ble_eq_true rfl, Nat.le_of_ble_eq_true rfl⟩ ?_
            have e9 : sp_mix z i how = (1, (setL z 1 1 (FP.d2l (z.2.1 4 (Int32.toNatClampNeg i))))) := by unfold sp_mix; rw [if_pos ⟨c4, c13⟩]; exact congrArg (fun w => ((1 : Int32), toldS z w)) ((if_neg c38).trans ((if_neg c56).trans (if_neg c67)))
            rw [e9]
            exact ⟨rfl, hR⟩
          · skip
            refine lv_iload hx hb dX5_mix_70 (lv_at hl 0 rfl) ?_
            refine lv_i2s hx hb dX5_mix_72 rfl ?_
            refine lv_i2l hx hb dX5_mix_73 rfl ?_
            refine lv_goto (tgt := 84) hx hb dX5_mix_74 (by decide) ?_
            refine hm_put S hK hM cI5 (RS.c0 hR) 20 (by decide) w_2_120 rfl rfl rfl (Nat.le_of_ble_eq_true rfl) dX5_mix_84 (fun H locs M2 hM2 hM => ?_)
            have hR := RS.f20 hR hM2
            refine lv_iconst (v := 1) hx hb dX5_mix_87 (by decide) ?_
            refine mr_i S hM hr hlocks dX5_mix_88 ⟨Nat.le_of_ble_eq_true rfl, Nat.le_of_ble_eq_true rfl⟩ ?_
            have e9 : sp_mix z i how = (1, (setL z 1 1 (Int32.toInt64 ((Int32.toInt16 (FP.d2i (FP.dmul (z.2.1 4 (Int32.toNatClampNeg i)) 4674736138332667904))).toInt32)))) := by unfold sp_mix; rw [if_pos ⟨c4, c13⟩]; exact congrArg (fun w => ((1 : Int32), toldS z w)) ((if_neg c38).trans ((if_neg c56).trans (if_pos c67)))
            rw [e9]
            exact ⟨rfl, hR⟩
        · skip
          refine lv_iload hx hb dX5_mix_59 (lv_at hl 0 rfl) ?_
          refine lv_i2l hx hb dX5_mix_61 rfl ?_
          refine lv_goto (tgt := 84) hx hb dX5_mix_62 (by decide) ?_
          refine hm_put S hK hM cI5 (RS.c0 hR) 20 (by decide) w_2_120 rfl rfl rfl (Nat.le_of_ble_eq_true rfl) dX5_mix_84 (fun H locs M3 hM3 hM => ?_)
          have hR := RS.f20 hR hM3
          refine lv_iconst (v := 1) hx hb dX5_mix_87 (by decide) ?_
          refine mr_i S hM hr hlocks dX5_mix_88 ⟨Nat.le_of_ble_eq_true rfl, Nat.le_of_ble_eq_true rfl⟩ ?_
          have e9 : sp_mix z i how = (1, (setL z 1 1 (Int32.toInt64 (FP.d2i (FP.dmul (z.2.1 4 (Int32.toNatClampNeg i)) 4674736138332667904))))) := by unfold sp_mix; rw [if_pos ⟨c4, c13⟩]; exact congrArg (fun w => ((1 : Int32), toldS z w)) ((if_neg c38).trans (if_pos c56))
          rw [e9]
          exact ⟨rfl, hR⟩
      · skip
        refine lv_iconst (v := 0) hx hb dX5_mix_41 (by decide) ?_
        refine lv_aload_n hx hb dX5_mix_42 rfl (lv_at hl 2 rfl) ?_
        refine hm_get S hK hM.pr cI5 (RS.c0 hR) 17 (by decide) w_2_117 rfl dX5_mix_43 ?_
        refine lv_iload_n hx hb dX5_mix_46 rfl (lv_at hl 3 rfl) ?_
        refine hm_dald S hK hM.pr (RS.c16 hR) c4 dX5_mix_47 ?_
        refine pc_l (rS (rest := [.ref (a 0)]) S hK (c_X5_bitsOf l D cT s.heap 0 (z.2.1 4 (Int32.toNatClampNeg i)) (fin64_nn hxf)) sm_X5_bitsOf w_2_220 ⟨Nat.le_of_ble_eq_true rfl, Nat.le_of_ble_eq_true rfl⟩ ⟨rfl, rfl⟩ rfl hl.1 rfl (Nat.le_of_ble_eq_true rfl) dX5_mix_48 ⟨Nat.le_of_ble_eq_true rfl, Nat.le_of_ble_eq_true rfl⟩) (fun r4 hr4 => ?_)
        subst hr4
        refine lv_goto (tgt := 84) hx hb dX5_mix_51 (by decide) ?_
        refine hm_put S hK hM cI5 (RS.c0 hR) 20 (by decide) w_2_120 rfl rfl rfl (Nat.le_of_ble_eq_true rfl) dX5_mix_84 (fun H locs M5 hM5 hM => ?_)
        have hR := RS.f20 hR hM5
        refine lv_iconst (v := 1) hx hb dX5_mix_87 (by decide) ?_
        refine mr_i S hM hr hlocks dX5_mix_88 ⟨Nat.le_of_ble_eq_true rfl, Nat.le_of_ble_eq_true rfl⟩ ?_
        have e9 : sp_mix z i how = (1, (setL z 1 1 (bitB 0 (z.2.1 4 (Int32.toNatClampNeg i))))) := by unfold sp_mix; rw [if_pos ⟨c4, c13⟩]; exact congrArg (fun w => ((1 : Int32), toldS z w)) (if_pos c38)
        rw [e9]
        exact ⟨rfl, hR⟩
    · skip
      refine lv_if_ne (tgt := 21) hx hb dX5_mix_16 (by decide) (fun h => absurd rfl h) (fun _ => ?_)
      refine lv_iconst (v := (-1)) hx hb dX5_mix_19 (by decide) ?_
      refine mr_i S hM hr hlocks dX5_mix_20 ⟨Nat.le_of_ble_eq_true rfl, Nat.le_of_ble_eq_true rfl⟩ ?_
      have e9 : sp_mix z i how = ((-1), z) := by unfold sp_mix; rw [if_neg (fun q => c13 q.2)]
      rw [e9]
      exact ⟨rfl, hR⟩
  · skip
    refine lv_if_eq (tgt := 19) hx hb dX5_mix_7 (by decide) (fun _ => ?_) (fun h => absurd (by decide) h)
    refine lv_iconst (v := (-1)) hx hb dX5_mix_19 (by decide) ?_
    refine mr_i S hM hr hlocks dX5_mix_20 ⟨Nat.le_of_ble_eq_true rfl, Nat.le_of_ble_eq_true rfl⟩ ?_
    have e9 : sp_mix z i how = ((-1), z) := by unfold sp_mix; rw [if_neg (fun q => c4 q.1)]
    rw [e9]
    exact ⟨rfl, hR⟩
set_option maxHeartbeats 4000000 in
set_option maxRecDepth 100000 in
theorem c_X5_at (l : Launch) (D : va_G) (cT : Nat → ClassId) {M : hmp} {a : Nat → Nat} {z : SG} (hR : RS cT a M z) {n : Nat} (hI : INV n z) (hn : n ≤ 512) (h w : Int32) (sz : Nat) : Met l yX5_at (wz yX5_at cX5_at 3 (some .int)) ({ frames := 3, cells := 0, slots := 0, locals := 67 } : Room) (mP D cT [.ref (a 0), .int h, .int w] M sz) (mQi (fun rr MM => rr = (sp_at z h w).1 ∧ RS cT a MM (sp_at z h w).2) D M sz) 0 0 (FA M sz) := by
  refine mk_m (by decide +kernel) (Nat.le_of_ble_eq_true rfl) ?_
  intro p e s m args below meth c S hK hsz hM hr hlocks hnm ls hl
  have hx := S.1
  have hb := S.2.1
  have hml := S.2.2.1
  have hown := S.2.2.2.1
  have hts := S.2.2.2.2
  have hl : lv_has ls 3 [(0, .ref (a 0)), (1, .int h), (2, .int w)] := hl
  refine lv_iload_n hx hb dX5_at_0 rfl (lv_at hl 1 rfl) ?_
  refine lv_iconst (v := 0) hx hb dX5_at_1 (by decide) ?_
  refine lv_iconst (v := 3) hx hb dX5_at_2 (by decide) ?_
  refine pc_b (rS (rest := []) S hK (c_X5_in l D cT s.heap h 0 3 (n := 4) (by decide) (by decide)) sm_X5_in w_2_171 ⟨Nat.le_of_ble_eq_true rfl, Nat.le_of_ble_eq_true rfl⟩ ⟨rfl, rfl⟩ rfl hl.1 rfl (Nat.le_of_ble_eq_true rfl) dX5_at_3 ⟨Nat.le_of_ble_eq_true rfl, Nat.le_of_ble_eq_true rfl⟩) (fun c3 => ?_) (fun c3 => ?_)
  · skip
    refine lv_if_eq (tgt := 27) hx hb dX5_at_6 (by decide) (fun h => absurd h (by decide)) (fun _ => ?_)
    refine lv_aload_n hx hb dX5_at_9 rfl (lv_at hl 0 rfl) ?_
    refine hm_get S hK hM.pr cI5 (RS.c0 hR) 10 (by decide) w_2_110 rfl dX5_at_10 ?_
    refine lv_iload_n hx hb dX5_at_13 rfl (lv_at hl 1 rfl) ?_
    refine hm_zald S hK hM.pr (RS.c9 hR) c3 dX5_at_14 ?_
    refine lv_if_eq (tgt := 27) hx hb dX5_at_15 (by decide) (fun c15 => ?_) (fun c15 => ?_)
    · skip
      refine lv_iconst (v := (-1)) hx hb dX5_at_27 (by decide) ?_
      refine mr_i S hM hr hlocks dX5_at_28 ⟨Nat.le_of_ble_eq_true rfl, Nat.le_of_ble_eq_true rfl⟩ ?_
      have e9 : sp_at z h w = ((-1), z) := by unfold sp_at; rw [if_neg (fun q => q.2.1 c15)]
      rw [e9]
      exact ⟨rfl, hR⟩
    · skip
      refine lv_iload_n hx hb dX5_at_18 rfl (lv_at hl 2 rfl) ?_
      refine lv_iconst (v := 0) hx hb dX5_at_19 (by decide) ?_
      refine lv_iconst (v := 1) hx hb dX5_at_20 (by decide) ?_
      refine pc_b (rS (rest := []) S hK (c_X5_in l D cT s.heap w 0 1 (n := 2) (by decide) (by decide)) sm_X5_in w_2_171 ⟨Nat.le_of_ble_eq_true rfl, Nat.le_of_ble_eq_true rfl⟩ ⟨rfl, rfl⟩ rfl hl.1 rfl (Nat.le_of_ble_eq_true rfl) dX5_at_21 ⟨Nat.le_of_ble_eq_true rfl, Nat.le_of_ble_eq_true rfl⟩) (fun c21 => ?_) (fun c21 => ?_)
      · skip
        refine lv_if_ne (tgt := 29) hx hb dX5_at_24 (by decide) (fun _ => ?_) (fun h => absurd h (by decide))
        refine lv_aload_n hx hb dX5_at_29 rfl (lv_at hl 0 rfl) ?_
        refine lv_iload_n hx hb dX5_at_30 rfl (lv_at hl 2 rfl) ?_
        refine lv_if_ne (tgt := 47) hx hb dX5_at_31 (by decide) (fun c31 => ?_) (fun c31 => ?_)
        · skip
          refine lv_aload_n hx hb dX5_at_47 rfl (lv_at hl 0 rfl) ?_
          refine hm_get S hK hM.pr cI5 (RS.c0 hR) 16 (by decide) w_2_116 rfl dX5_at_48 ?_
          refine lv_iload_n hx hb dX5_at_51 rfl (lv_at hl 1 rfl) ?_
          refine hm_lald S hK hM.pr (RS.c15 hR) c3 dX5_at_52 ?_
          refine hm_put S hK hM cI5 (RS.c0 hR) 20 (by decide) w_2_120 rfl rfl rfl (Nat.le_of_ble_eq_true rfl) dX5_at_53 (fun H locs M1 hM1 hM => ?_)
          have hR := RS.f20 hR hM1
          refine lv_iconst (v := 1) hx hb dX5_at_56 (by decide) ?_
          refine mr_i S hM hr hlocks dX5_at_57 ⟨Nat.le_of_ble_eq_true rfl, Nat.le_of_ble_eq_true rfl⟩ ?_
          have e9 : sp_at z h w = (1, (setL z 1 1 (z.2.2 0 (Int32.toNatClampNeg h)))) := by unfold sp_at; rw [if_pos ⟨c3, c15, c21⟩]; exact congrArg (fun w => ((1 : Int32), toldS z w)) (if_neg c31)
          rw [e9]
          exact ⟨rfl, hR⟩
        · skip
          refine lv_iconst (v := 1) hx hb dX5_at_34 (by decide) ?_
          refine lv_aload_n hx hb dX5_at_35 rfl (lv_at hl 0 rfl) ?_
          refine hm_get S hK hM.pr cI5 (RS.c0 hR) 15 (by decide) w_2_115 rfl dX5_at_36 ?_
          refine lv_iload_n hx hb dX5_at_39 rfl (lv_at hl 1 rfl) ?_
          refine hm_dald S hK hM.pr (RS.c14 hR) c3 dX5_at_40 ?_
          refine pc_l (rS (rest := [.ref (a 0)]) S hK (c_X5_bitsOf l D cT s.heap 1 (z.2.1 3 (Int32.toNatClampNeg h)) (fin64_nn (by have := (hI.2.2.2.1 (cl h) (in_cl c3)).1; unfold fin64; exact Nat.lt_trans this (by decide)))) sm_X5_bitsOf w_2_220 ⟨Nat.le_of_ble_eq_true rfl, Nat.le_of_ble_eq_true rfl⟩ ⟨rfl, rfl⟩ rfl hl.1 rfl (Nat.le_of_ble_eq_true rfl) dX5_at_41 ⟨Nat.le_of_ble_eq_true rfl, Nat.le_of_ble_eq_true rfl⟩) (fun r2 hr2 => ?_)
          subst hr2
          refine lv_goto (tgt := 53) hx hb dX5_at_44 (by decide) ?_
          refine hm_put S hK hM cI5 (RS.c0 hR) 20 (by decide) w_2_120 rfl rfl rfl (Nat.le_of_ble_eq_true rfl) dX5_at_53 (fun H locs M3 hM3 hM => ?_)
          have hR := RS.f20 hR hM3
          refine lv_iconst (v := 1) hx hb dX5_at_56 (by decide) ?_
          refine mr_i S hM hr hlocks dX5_at_57 ⟨Nat.le_of_ble_eq_true rfl, Nat.le_of_ble_eq_true rfl⟩ ?_
          have e9 : sp_at z h w = (1, (setL z 1 1 (bitB 1 (z.2.1 3 (Int32.toNatClampNeg h))))) := by unfold sp_at; rw [if_pos ⟨c3, c15, c21⟩]; exact congrArg (fun w => ((1 : Int32), toldS z w)) (if_pos c31)
          rw [e9]
          exact ⟨rfl, hR⟩
      · skip
        refine lv_if_ne (tgt := 29) hx hb dX5_at_24 (by decide) (fun h => absurd rfl h) (fun _ => ?_)
        refine lv_iconst (v := (-1)) hx hb dX5_at_27 (by decide) ?_
        refine mr_i S hM hr hlocks dX5_at_28 ⟨Nat.le_of_ble_eq_true rfl, Nat.le_of_ble_eq_true rfl⟩ ?_
        have e9 : sp_at z h w = ((-1), z) := by unfold sp_at; rw [if_neg (fun q => c21 q.2.2)]
        rw [e9]
        exact ⟨rfl, hR⟩
  · skip
    refine lv_if_eq (tgt := 27) hx hb dX5_at_6 (by decide) (fun _ => ?_) (fun h => absurd (by decide) h)
    refine lv_iconst (v := (-1)) hx hb dX5_at_27 (by decide) ?_
    refine mr_i S hM hr hlocks dX5_at_28 ⟨Nat.le_of_ble_eq_true rfl, Nat.le_of_ble_eq_true rfl⟩ ?_
    have e9 : sp_at z h w = ((-1), z) := by unfold sp_at; rw [if_neg (fun q => c3 q.1)]
    rw [e9]
    exact ⟨rfl, hR⟩
set_option maxHeartbeats 4000000 in
set_option maxRecDepth 100000 in
theorem c_X5_clock (l : Launch) (D : va_G) (cT : Nat → ClassId) {M : hmp} {a : Nat → Nat} {z : SG} (hR : RS cT a M z) {n : Nat} (hI : INV n z) (hn : n ≤ 512) (cn : Int64) (how : Int32) (sz : Nat) : Met l yX5_clock (wz yX5_clock cX5_clock 4 (some .int)) ({ frames := 2, cells := 0, slots := 0, locals := 45 } : Room) (mP D cT [.ref (a 0), .long cn, .int how] M sz) (mQi (fun rr MM => rr = (sp_clock z cn how).1 ∧ RS cT a MM (sp_clock z cn how).2) D M sz) 0 0 (FA M sz) := by
  refine mk_m (by decide +kernel) (Nat.le_of_ble_eq_true rfl) ?_
  intro p e s m args below meth c S hK hsz hM hr hlocks hnm ls hl
  have hx := S.1
  have hb := S.2.1
  have hml := S.2.2.1
  have hown := S.2.2.2.1
  have hts := S.2.2.2.2
  have hl : lv_has ls 4 [(0, .ref (a 0)), (1, .long cn), (3, .int how)] := hl
  refine lv_iload_n hx hb dX5_clock_0 rfl (lv_at hl 2 rfl) ?_
  refine lv_iconst (v := 0) hx hb dX5_clock_1 (by decide) ?_
  refine lv_iconst (v := 5) hx hb dX5_clock_2 (by decide) ?_
  refine pc_b (rS (rest := []) S hK (c_X5_in l D cT s.heap how 0 5 (n := 6) (by decide) (by decide)) sm_X5_in w_2_171 ⟨Nat.le_of_ble_eq_true rfl, Nat.le_of_ble_eq_true rfl⟩ ⟨rfl, rfl⟩ rfl hl.1 rfl (Nat.le_of_ble_eq_true rfl) dX5_clock_3 ⟨Nat.le_of_ble_eq_true rfl, Nat.le_of_ble_eq_true rfl⟩) (fun c3 => ?_) (fun c3 => ?_)
  · skip
    refine lv_if_ne (tgt := 11) hx hb dX5_clock_6 (by decide) (fun _ => ?_) (fun h => absurd h (by decide))
    refine lv_aload_n hx hb dX5_clock_11 rfl (lv_at hl 0 rfl) ?_
    refine lv_aload_n hx hb dX5_clock_12 rfl (lv_at hl 0 rfl) ?_
    refine hm_get S hK hM.pr cI5 (RS.c0 hR) 19 (by decide) w_2_119 rfl dX5_clock_13 ?_
    refine lv_lload_n hx hb dX5_clock_16 rfl (lv_at hl 1 rfl) ?_
    refine lv_ladd hx hb dX5_clock_17 ?_
    refine hm_put S hK hM cI5 (RS.c0 hR) 19 (by decide) w_2_119 rfl rfl rfl (Nat.le_of_ble_eq_true rfl) dX5_clock_18 (fun H locs M1 hM1 hM => ?_)
    have hR := RS.f19 hR hM1
    refine lv_iload_n hx hb dX5_clock_21 rfl (lv_at hl 2 rfl) ?_
    have hho := in_cl c3
    have hhe := in_nI c3 (by decide)
    generalize cl how = hw at hho hhe
    subst hhe
    rcases (show hw = 0 ∨ hw = 1 ∨ hw = 2 ∨ hw = 3 ∨ hw = 4 ∨ hw = 5 by omega) with rfl | rfl | rfl | rfl | rfl | rfl
    · refine lv_tableIn (tgt := 56) hx hb dX5_clock_22 (by decide) (by decide) rfl (by decide) ?_
      refine lv_aload_n hx hb dX5_clock_56 rfl (lv_at hl 0 rfl) ?_
      refine lv_aload_n hx hb dX5_clock_57 rfl (lv_at hl 0 rfl) ?_
      refine hm_get S hK hM.pr cI5 (RS.c0 hR) 19 (by decide) w_2_119 rfl dX5_clock_58 ?_
      refine hm_put S hK hM cI5 (RS.c0 hR) 20 (by decide) w_2_120 rfl rfl rfl (Nat.le_of_ble_eq_true rfl) dX5_clock_61 (fun H locs M2 hM2 hM => ?_)
      have hR := RS.f20 hR hM2
      refine lv_goto (tgt := 135) hx hb dX5_clock_64 (by decide) ?_
      refine lv_iconst (v := 1) hx hb dX5_clock_135 (by decide) ?_
      refine mr_i S hM hr hlocks dX5_clock_136 ⟨Nat.le_of_ble_eq_true rfl, Nat.le_of_ble_eq_true rfl⟩ ?_
      have e9 : sp_clock z cn (nI 0) = (1, (setL (setL z 1 0 ((z.2.2 1 0) + cn)) 1 1 ((setL z 1 0 ((z.2.2 1 0) + cn)).2.2 1 0))) := by unfold sp_clock; rw [if_pos c3]; rfl
      rw [e9]
      exact ⟨rfl, hR⟩
    · refine lv_tableIn (tgt := 67) hx hb dX5_clock_22 (by decide) (by decide) rfl (by decide) ?_
      refine lv_aload_n hx hb dX5_clock_67 rfl (lv_at hl 0 rfl) ?_
      refine lv_aload_n hx hb dX5_clock_68 rfl (lv_at hl 0 rfl) ?_
      refine hm_get S hK hM.pr cI5 (RS.c0 hR) 19 (by decide) w_2_119 rfl dX5_clock_69 ?_
      refine lv_l2f hx hb dX5_clock_72 ?_
      refine pc_i (rS (rest := [.ref (a 0)]) S hK (c_FtoI l D cT H (FP.l2f ((setL z 1 0 ((z.2.2 1 0) + cn)).2.2 1 0)) (fin32_nn ((fin32_iff _).mp (FP.Core.l2f_fin _)))) sm_Jxf58ca_floatToIntBits_5c35a w_2_233 ⟨Nat.le_of_ble_eq_true rfl, Nat.le_of_ble_eq_true rfl⟩ ⟨rfl, rfl⟩ rfl hl.1 rfl (Nat.le_of_ble_eq_true rfl) dX5_clock_73 ⟨Nat.le_of_ble_eq_true rfl, Nat.le_of_ble_eq_true rfl⟩) (fun r3 hr3 => ?_)
      subst hr3
      refine lv_i2l hx hb dX5_clock_76 rfl ?_
      refine hm_put S hK hM cI5 (RS.c0 hR) 20 (by decide) w_2_120 rfl rfl rfl (Nat.le_of_ble_eq_true rfl) dX5_clock_77 (fun H locs M4 hM4 hM => ?_)
      have hR := RS.f20 hR hM4
      refine lv_goto (tgt := 135) hx hb dX5_clock_80 (by decide) ?_
      refine lv_iconst (v := 1) hx hb dX5_clock_135 (by decide) ?_
      refine mr_i S hM hr hlocks dX5_clock_136 ⟨Nat.le_of_ble_eq_true rfl, Nat.le_of_ble_eq_true rfl⟩ ?_
      have e9 : sp_clock z cn (nI 1) = (1, (setL (setL z 1 0 ((z.2.2 1 0) + cn)) 1 1 (Int32.toInt64 (UInt32.toInt32 (FP.l2f ((setL z 1 0 ((z.2.2 1 0) + cn)).2.2 1 0)))))) := by unfold sp_clock; rw [if_pos c3]; rfl
      rw [e9]
      exact ⟨rfl, hR⟩
    · refine lv_tableIn (tgt := 83) hx hb dX5_clock_22 (by decide) (by decide) rfl (by decide) ?_
      refine lv_aload_n hx hb dX5_clock_83 rfl (lv_at hl 0 rfl) ?_
      refine lv_aload_n hx hb dX5_clock_84 rfl (lv_at hl 0 rfl) ?_
      refine hm_get S hK hM.pr cI5 (RS.c0 hR) 19 (by decide) w_2_119 rfl dX5_clock_85 ?_
      refine lv_l2d hx hb dX5_clock_88 ?_
      refine pc_l (rS (rest := [.ref (a 0)]) S hK (c_DtoL l D cT H (FP.l2d ((setL z 1 0 ((z.2.2 1 0) + cn)).2.2 1 0)) (fin64_nn (l2d_fin _))) sm_Jxe99ae_doubleToLongBits_ccdee w_2_223 ⟨Nat.le_of_ble_eq_true rfl, Nat.le_of_ble_eq_true rfl⟩ ⟨rfl, rfl⟩ rfl hl.1 rfl (Nat.le_of_ble_eq_true rfl) dX5_clock_89 ⟨Nat.le_of_ble_eq_true rfl, Nat.le_of_ble_eq_true rfl⟩) (fun r5 hr5 => ?_)
      subst hr5
      refine hm_put S hK hM cI5 (RS.c0 hR) 20 (by decide) w_2_120 rfl rfl rfl (Nat.le_of_ble_eq_true rfl) dX5_clock_92 (fun H locs M6 hM6 hM => ?_)
      have hR := RS.f20 hR hM6
      refine lv_goto (tgt := 135) hx hb dX5_clock_95 (by decide) ?_
      refine lv_iconst (v := 1) hx hb dX5_clock_135 (by decide) ?_
      refine mr_i S hM hr hlocks dX5_clock_136 ⟨Nat.le_of_ble_eq_true rfl, Nat.le_of_ble_eq_true rfl⟩ ?_
      have e9 : sp_clock z cn (nI 2) = (1, (setL (setL z 1 0 ((z.2.2 1 0) + cn)) 1 1 (UInt64.toInt64 (FP.l2d ((setL z 1 0 ((z.2.2 1 0) + cn)).2.2 1 0))))) := by unfold sp_clock; rw [if_pos c3]; rfl
      rw [e9]
      exact ⟨rfl, hR⟩
    · refine lv_tableIn (tgt := 98) hx hb dX5_clock_22 (by decide) (by decide) rfl (by decide) ?_
      refine lv_aload_n hx hb dX5_clock_98 rfl (lv_at hl 0 rfl) ?_
      refine lv_aload_n hx hb dX5_clock_99 rfl (lv_at hl 0 rfl) ?_
      refine hm_get S hK hM.pr cI5 (RS.c0 hR) 19 (by decide) w_2_119 rfl dX5_clock_100 ?_
      refine lv_l2f hx hb dX5_clock_103 ?_
      refine lv_f2l hx hb dX5_clock_104 ?_
      refine hm_put S hK hM cI5 (RS.c0 hR) 20 (by decide) w_2_120 rfl rfl rfl (Nat.le_of_ble_eq_true rfl) dX5_clock_105 (fun H locs M7 hM7 hM => ?_)
      have hR := RS.f20 hR hM7
      refine lv_goto (tgt := 135) hx hb dX5_clock_108 (by decide) ?_
      refine lv_iconst (v := 1) hx hb dX5_clock_135 (by decide) ?_
      refine mr_i S hM hr hlocks dX5_clock_136 ⟨Nat.le_of_ble_eq_true rfl, Nat.le_of_ble_eq_true rfl⟩ ?_
      have e9 : sp_clock z cn (nI 3) = (1, (setL (setL z 1 0 ((z.2.2 1 0) + cn)) 1 1 (FP.f2l (FP.l2f ((setL z 1 0 ((z.2.2 1 0) + cn)).2.2 1 0))))) := by unfold sp_clock; rw [if_pos c3]; rfl
      rw [e9]
      exact ⟨rfl, hR⟩
    · refine lv_tableIn (tgt := 111) hx hb dX5_clock_22 (by decide) (by decide) rfl (by decide) ?_
      refine lv_aload_n hx hb dX5_clock_111 rfl (lv_at hl 0 rfl) ?_
      refine lv_aload_n hx hb dX5_clock_112 rfl (lv_at hl 0 rfl) ?_
      refine hm_get S hK hM.pr cI5 (RS.c0 hR) 19 (by decide) w_2_119 rfl dX5_clock_113 ?_
      refine lv_l2d hx hb dX5_clock_116 ?_
      refine lv_d2l hx hb dX5_clock_117 ?_
      refine hm_put S hK hM cI5 (RS.c0 hR) 20 (by decide) w_2_120 rfl rfl rfl (Nat.le_of_ble_eq_true rfl) dX5_clock_118 (fun H locs M8 hM8 hM => ?_)
      have hR := RS.f20 hR hM8
      refine lv_goto (tgt := 135) hx hb dX5_clock_121 (by decide) ?_
      refine lv_iconst (v := 1) hx hb dX5_clock_135 (by decide) ?_
      refine mr_i S hM hr hlocks dX5_clock_136 ⟨Nat.le_of_ble_eq_true rfl, Nat.le_of_ble_eq_true rfl⟩ ?_
      have e9 : sp_clock z cn (nI 4) = (1, (setL (setL z 1 0 ((z.2.2 1 0) + cn)) 1 1 (FP.d2l (FP.l2d ((setL z 1 0 ((z.2.2 1 0) + cn)).2.2 1 0))))) := by unfold sp_clock; rw [if_pos c3]; rfl
      rw [e9]
      exact ⟨rfl, hR⟩
    · refine lv_tableOut (tgt := 124) hx hb dX5_clock_22 (by decide) (by decide) ?_
      refine lv_aload_n hx hb dX5_clock_124 rfl (lv_at hl 0 rfl) ?_
      refine lv_aload_n hx hb dX5_clock_125 rfl (lv_at hl 0 rfl) ?_
      refine hm_get S hK hM.pr cI5 (RS.c0 hR) 19 (by decide) w_2_119 rfl dX5_clock_126 ?_
      refine lv_l2f hx hb dX5_clock_129 ?_
      refine lv_f2i hx hb dX5_clock_130 ?_
      refine lv_i2l hx hb dX5_clock_131 rfl ?_
      refine hm_put S hK hM cI5 (RS.c0 hR) 20 (by decide) w_2_120 rfl rfl rfl (Nat.le_of_ble_eq_true rfl) dX5_clock_132 (fun H locs M9 hM9 hM => ?_)
      have hR := RS.f20 hR hM9
      refine lv_iconst (v := 1) hx hb dX5_clock_135 (by decide) ?_
      refine mr_i S hM hr hlocks dX5_clock_136 ⟨Nat.le_of_ble_eq_true rfl, Nat.le_of_ble_eq_true rfl⟩ ?_
      have e9 : sp_clock z cn (nI 5) = (1, (setL (setL z 1 0 ((z.2.2 1 0) + cn)) 1 1 (Int32.toInt64 (FP.f2i (FP.l2f ((setL z 1 0 ((z.2.2 1 0) + cn)).2.2 1 0)))))) := by unfold sp_clock; rw [if_pos c3]; rfl
      rw [e9]
      exact ⟨rfl, hR⟩
  · skip
    refine lv_if_ne (tgt := 11) hx hb dX5_clock_6 (by decide) (fun h => absurd rfl h) (fun _ => ?_)
    refine lv_iconst (v := (-1)) hx hb dX5_clock_9 (by decide) ?_
    refine mr_i S hM hr hlocks dX5_clock_10 ⟨Nat.le_of_ble_eq_true rfl, Nat.le_of_ble_eq_true rfl⟩ ?_
    have e9 : sp_clock z cn how = ((-1), z) := by unfold sp_clock; rw [if_neg (fun q => c3 q)]
    rw [e9]
    exact ⟨rfl, hR⟩
