set_option maxHeartbeats 4000000 in
set_option maxRecDepth 100000 in
theorem c_X0_isOf (l : Launch) (D : va_G) (cT : Nat → ClassId) (H : Heap) {M : hmp} (hP : HPr D M H) {kd : Int32} {am : UInt64} (o : Nat) (w : Int32) (ho : M o = some (.inr (0, [.int kd, .double am]))) : Met l yX0_isOf (wz yX0_isOf cX0_isOf 2 (some .boolean)) ({ frames := 0, cells := 0, slots := 0, locals := 0 } : Room) (pP D cT [.ref o, .int w] H) (qi (fun r => r = if fitsP kd w then 1 else 0) H) 0 0 (fun _ => False) := by
  refine mk_p (by decide +kernel) (Nat.le_of_ble_eq_true rfl) ?_
  intro p e s m args below meth c S hK hs hr hlocks ls hl
  have hx := S.1
  have hb := S.2.1
  have hml := S.2.2.1
  have hown := S.2.2.2.1
  have hts := S.2.2.2.2
  have hl : lv_has ls 2 [(0, .ref o), (1, .int w)] := hl
  refine lv_aload_n hx hb dX0_isOf_0 rfl (lv_at hl 0 rfl) ?_
  refine hm_get S hK hP cI0 ho 0 (by decide) w_1_180 rfl dX0_isOf_1 ?_
  refine lv_iload_n hx hb dX0_isOf_4 rfl (lv_at hl 1 rfl) ?_
  refine lv_icmp_eq (tgt := 20) hx hb dX0_isOf_5 (by decide) (fun c5 => ?_) (fun c5 => ?_)
  · skip
    refine lv_iconst (v := 1) hx hb dX0_isOf_20 (by decide) ?_
    refine lv_goto (tgt := 25) hx hb dX0_isOf_21 (by decide) ?_
    refine pr_z S hs hr hlocks rfl dX0_isOf_25 ?_
    exact (if_pos (Or.inl c5)).symm
  · skip
    refine lv_iload_n hx hb dX0_isOf_8 rfl (lv_at hl 1 rfl) ?_
    refine lv_if_ne (tgt := 24) hx hb dX0_isOf_9 (by decide) (fun c9 => ?_) (fun c9 => ?_)
    · skip
      refine lv_iconst (v := 0) hx hb dX0_isOf_24 (by decide) ?_
      refine pr_z S hs hr hlocks rfl dX0_isOf_25 ?_
      exact (if_neg (fun q => q.elim c5 (fun q => c9 q.2))).symm
    · skip
      refine lv_aload_n hx hb dX0_isOf_12 rfl (lv_at hl 0 rfl) ?_
      refine hm_get S hK hP cI0 ho 0 (by decide) w_1_180 rfl dX0_isOf_13 ?_
      refine lv_iconst (v := 1) hx hb dX0_isOf_16 (by decide) ?_
      refine lv_icmp_ne (tgt := 24) hx hb dX0_isOf_17 (by decide) (fun c17 => ?_) (fun c17 => ?_)
      · skip
        refine lv_iconst (v := 0) hx hb dX0_isOf_24 (by decide) ?_
        refine pr_z S hs hr hlocks rfl dX0_isOf_25 ?_
        exact (if_neg (fun q => q.elim c5 (fun q => c17 q.1))).symm
      · skip
        refine lv_iconst (v := 1) hx hb dX0_isOf_20 (by decide) ?_
        refine lv_goto (tgt := 25) hx hb dX0_isOf_21 (by decide) ?_
        refine pr_z S hs hr hlocks rfl dX0_isOf_25 ?_
        exact (if_pos (Or.inr ⟨c17, c9⟩)).symm
set_option maxHeartbeats 4000000 in
set_option maxRecDepth 100000 in
theorem c_X0_crushed (l : Launch) (D : va_G) (cT : Nat → ClassId) (H : Heap) {M : hmp} (hP : HPr D M H) {kd : Int32} {am : UInt64} (o : Nat) (v : UInt64) (ho : M o = some (.inr (0, [.int kd, .double am]))) (hv : flo v) : Met l yX0_crushed (wz yX0_crushed cX0_crushed 6 (some .double)) ({ frames := 0, cells := 0, slots := 0, locals := 0 } : Room) (pP D cT [.ref o, .double v] H) (qd (fun r => r = FP.ddiv (FP.l2d (FP.d2l (FP.dmul v (FP.i2d (lvl am))))) (FP.i2d (lvl am))) H) 0 0 (fun _ => False) := by
  refine mk_p (by decide +kernel) (Nat.le_of_ble_eq_true rfl) ?_
  intro p e s m args below meth c S hK hs hr hlocks ls hl
  have hx := S.1
  have hb := S.2.1
  have hml := S.2.2.1
  have hown := S.2.2.2.1
  have hts := S.2.2.2.2
  have hl : lv_has ls 6 [(0, .ref o), (1, .double v)] := hl
  refine lv_aload_n hx hb dX0_crushed_0 rfl (lv_at hl 0 rfl) ?_
  refine hm_get S hK hP cI0 ho 1 (by decide) w_1_181 rfl dX0_crushed_1 ?_
  refine lv_d2i hx hb dX0_crushed_4 ?_
  refine lv_istore_n (lv' := [(3, .int (FP.d2i am)), (0, .ref o), (1, .double v)]) hx hb dX0_crushed_5 rfl hl (by decide) rfl (fun ls hl => ?_)
  refine lv_iload_n hx hb dX0_crushed_6 rfl (lv_at hl 0 rfl) ?_
  refine lv_iconst (v := 1) hx hb dX0_crushed_7 (by decide) ?_
  refine lv_icmp_ge (tgt := 15) hx hb dX0_crushed_8 (by decide) (fun c8 => ?_) (fun c8 => ?_)
  · replace c8 := Int32.not_lt.mpr c8
    refine lv_iload_n hx hb dX0_crushed_15 rfl (lv_at hl 0 rfl) ?_
    refine lv_i2d hx hb dX0_crushed_16 ?_
    refine lv_topd (fun z1 hz1 => ?_)
    have hz1 : z1 = (FP.i2d (lvl am)) := by rw [hz1]; show FP.i2d (FP.d2i am) = FP.i2d (lvl am); unfold lvl; rw [if_neg c8]
    subst hz1
    refine lv_dstore (lv' := [(4, .double (FP.i2d (lvl am))), (3, .int (FP.d2i am)), (0, .ref o), (1, .double v)]) hx hb dX0_crushed_17 hl (by decide) rfl (fun ls hl => ?_)
    refine lv_dload_n hx hb dX0_crushed_19 rfl (lv_at hl 3 rfl) ?_
    refine lv_dload hx hb dX0_crushed_20 (lv_at hl 0 rfl) ?_
    refine lv_dmul hx hb dX0_crushed_22 (n64_of (nn_mul (flo_fin hv) (i2d_fin _))) ?_
    refine lv_d2l hx hb dX0_crushed_23 ?_
    refine lv_l2d hx hb dX0_crushed_24 ?_
    refine lv_dload hx hb dX0_crushed_25 (lv_at hl 0 rfl) ?_
    refine lv_ddiv hx hb dX0_crushed_27 (n64_of (crush_nn _ _)) ?_
    refine pr_d S hs hr hlocks dX0_crushed_28 ?_
    rfl
  · replace c8 := Int32.not_le.mp c8
    refine lv_dconst1 hx hb dX0_crushed_11 ?_
    refine lv_goto (tgt := 17) hx hb dX0_crushed_12 (by decide) ?_
    refine lv_topd (fun z2 hz2 => ?_)
    have hz2 : z2 = (FP.i2d (lvl am)) := by rw [hz2]; show FP.dconst1 = FP.i2d (lvl am); unfold lvl; rw [if_pos c8]; decide +kernel
    subst hz2
    refine lv_dstore (lv' := [(4, .double (FP.i2d (lvl am))), (3, .int (FP.d2i am)), (0, .ref o), (1, .double v)]) hx hb dX0_crushed_17 hl (by decide) rfl (fun ls hl => ?_)
    refine lv_dload_n hx hb dX0_crushed_19 rfl (lv_at hl 3 rfl) ?_
    refine lv_dload hx hb dX0_crushed_20 (lv_at hl 0 rfl) ?_
    refine lv_dmul hx hb dX0_crushed_22 (n64_of (nn_mul (flo_fin hv) (i2d_fin _))) ?_
    refine lv_d2l hx hb dX0_crushed_23 ?_
    refine lv_l2d hx hb dX0_crushed_24 ?_
    refine lv_dload hx hb dX0_crushed_25 (lv_at hl 0 rfl) ?_
    refine lv_ddiv hx hb dX0_crushed_27 (n64_of (crush_nn _ _)) ?_
    refine pr_d S hs hr hlocks dX0_crushed_28 ?_
    rfl
theorem lk2 {a b d : Int} {x : Int32} (h0 : ¬ x = 0) (h1 : ¬ x = 1) : Op.lookupswitch.offset [(0, a), (1, b)] d x.toInt = d := by
  have e0 : ¬ (0 : Int) = x.toInt := fun q => h0 (Int32.toInt_inj.mp (by rw [← q]; decide))
  have e1 : ¬ (1 : Int) = x.toInt := fun q => h1 (Int32.toInt_inj.mp (by rw [← q]; decide))
  rw [Op.lookupswitch.offset_cons, if_neg e0, Op.lookupswitch.offset_cons, if_neg e1, Op.lookupswitch.offset_nil]
set_option maxHeartbeats 4000000 in
set_option maxRecDepth 100000 in
theorem c_X0_madeOf (l : Launch) (D : va_G) (cT : Nat → ClassId) (H : Heap) {M : hmp} (hP : HPr D M H) {kd : Int32} {am : UInt64} (o : Nat) (v : UInt64) (ho : M o = some (.inr (0, [.int kd, .double am]))) (ha : fin64 am) (hra : rng am 13920209183539462144 4696837146684686336) (hv : flo v) : Met l yX0_madeOf (wz yX0_madeOf cX0_madeOf 3 (some .float)) ({ frames := 2, cells := 0, slots := 0, locals := 52 } : Room) (pP D cT [.ref o, .double v] H) (qf (fun r => r = heldf (mkv kd am v)) H) 0 0 (fun _ => False) := by
  refine mk_p (by decide +kernel) (Nat.le_of_ble_eq_true rfl) ?_
  intro p e s m args below meth c S hK hs hr hlocks ls hl
  have hx := S.1
  have hb := S.2.1
  have hml := S.2.2.1
  have hown := S.2.2.2.1
  have hts := S.2.2.2.2
  have hl : lv_has ls 3 [(0, .ref o), (1, .double v)] := hl
  have fm := mul_fin hv ha hra
  have fd := (drem_facts fm fin_d2 d2_pos).1
  refine lv_aload_n hx hb dX0_madeOf_0 rfl (lv_at hl 0 rfl) ?_
  refine hm_get S hK hP cI0 ho 0 (by decide) w_1_180 rfl dX0_madeOf_1 ?_
  by_cases k0 : kd = 0
  · refine lv_lookup (off := 28) (tgt := 32) hx hb dX0_madeOf_4 (by decide) (by rw [k0]; decide) (by decide) ?_
    refine lv_dload_n hx hb dX0_madeOf_32 rfl (lv_at hl 1 rfl) ?_
    refine lv_aload_n hx hb dX0_madeOf_33 rfl (lv_at hl 0 rfl) ?_
    refine hm_get S hK hP cI0 ho 1 (by decide) w_1_181 rfl dX0_madeOf_34 ?_
    refine lv_dmul hx hb dX0_madeOf_37 (n64_fin fm) ?_
    refine pc_f (rS (rest := []) S hK (c_X2_held l D cT H (FP.dmul v am) (fin64_nn fm)) sm_X2_held w_1_195 ⟨Nat.le_of_ble_eq_true rfl, Nat.le_of_ble_eq_true rfl⟩ ⟨rfl, rfl⟩ rfl hl.1 rfl (Nat.le_of_ble_eq_true rfl) dX0_madeOf_38 ⟨Nat.le_of_ble_eq_true rfl, Nat.le_of_ble_eq_true rfl⟩) (fun r1 hr1 => ?_)
    subst hr1
    refine pr_f S hs hr hlocks dX0_madeOf_41 ?_
    show _ = heldf (mkv kd am v); unfold mkv; rw [if_pos k0]
  by_cases k1 : kd = 1
  · refine lv_lookup (off := 38) (tgt := 42) hx hb dX0_madeOf_4 (by decide) (by rw [k1]; decide) (by decide) ?_
    refine lv_dload_n hx hb dX0_madeOf_42 rfl (lv_at hl 1 rfl) ?_
    refine lv_aload_n hx hb dX0_madeOf_43 rfl (lv_at hl 0 rfl) ?_
    refine hm_get S hK hP cI0 ho 1 (by decide) w_1_181 rfl dX0_madeOf_44 ?_
    refine lv_dmul hx hb dX0_madeOf_47 (n64_fin fm) ?_
    refine lv_ldc2d hx hb hown (hts _ w_1_199) dX0_madeOf_48 ?_
    refine pc_d (rS (rest := []) S hK (c_X2_rest l D cT H (FP.dmul v am) 4611686018427387904 fm fin_d2 d2_pos) sm_X2_rest w_1_200 ⟨Nat.le_of_ble_eq_true rfl, Nat.le_of_ble_eq_true rfl⟩ ⟨rfl, rfl⟩ rfl hl.1 rfl (Nat.le_of_ble_eq_true rfl) dX0_madeOf_51 ⟨Nat.le_of_ble_eq_true rfl, Nat.le_of_ble_eq_true rfl⟩) (fun r2 hr2 => ?_)
    subst hr2
    refine pc_d (rS (rest := []) S hK (c_X0_folded l D cT H (FP.drem (FP.dmul v am) 4611686018427387904) fd) sm_X0_folded w_1_201 ⟨Nat.le_of_ble_eq_true rfl, Nat.le_of_ble_eq_true rfl⟩ ⟨rfl, rfl⟩ rfl hl.1 rfl (Nat.le_of_ble_eq_true rfl) dX0_madeOf_54 ⟨Nat.le_of_ble_eq_true rfl, Nat.le_of_ble_eq_true rfl⟩) (fun r3 hr3 => ?_)
    subst hr3
    refine pc_f (rS (rest := []) S hK (c_X2_held l D cT H (foldf (FP.drem (FP.dmul v am) 4611686018427387904)) (fold_nn fd)) sm_X2_held w_1_195 ⟨Nat.le_of_ble_eq_true rfl, Nat.le_of_ble_eq_true rfl⟩ ⟨rfl, rfl⟩ rfl hl.1 rfl (Nat.le_of_ble_eq_true rfl) dX0_madeOf_57 ⟨Nat.le_of_ble_eq_true rfl, Nat.le_of_ble_eq_true rfl⟩) (fun r4 hr4 => ?_)
    subst hr4
    refine pr_f S hs hr hlocks dX0_madeOf_60 ?_
    show _ = heldf (mkv kd am v); unfold mkv; rw [if_neg k0, if_pos k1]
  refine lv_lookup (off := 57) (tgt := 61) hx hb dX0_madeOf_4 (by decide) (lk2 k0 k1) (by decide) ?_
  refine lv_aload_n hx hb dX0_madeOf_61 rfl (lv_at hl 0 rfl) ?_
  refine lv_dload_n hx hb dX0_madeOf_62 rfl (lv_at hl 1 rfl) ?_
  refine pc_d (rV (rest := []) S hK hP cI0 ho rfl (c_X0_crushed l D cT H hP o v ho hv) sm_X0_crushed w_S_6 w_1_206 ⟨Nat.le_of_ble_eq_true rfl, Nat.le_of_ble_eq_true rfl⟩ ⟨rfl, rfl⟩ rfl hl.1 rfl (Nat.le_of_ble_eq_true rfl) dX0_madeOf_63 ⟨Nat.le_of_ble_eq_true rfl, Nat.le_of_ble_eq_true rfl⟩) (fun r5 hr5 => ?_)
  subst hr5
  refine pc_f (rS (rest := []) S hK (c_X2_held l D cT H (FP.ddiv (FP.l2d (FP.d2l (FP.dmul v (FP.i2d (lvl am))))) (FP.i2d (lvl am))) (crush_nn _ _)) sm_X2_held w_1_195 ⟨Nat.le_of_ble_eq_true rfl, Nat.le_of_ble_eq_true rfl⟩ ⟨rfl, rfl⟩ rfl hl.1 rfl (Nat.le_of_ble_eq_true rfl) dX0_madeOf_66 ⟨Nat.le_of_ble_eq_true rfl, Nat.le_of_ble_eq_true rfl⟩) (fun r6 hr6 => ?_)
  subst hr6
  refine pr_f S hs hr hlocks dX0_madeOf_69 ?_
  show _ = heldf (mkv kd am v); unfold mkv; rw [if_neg k0, if_neg k1]
set_option maxHeartbeats 4000000 in
set_option maxRecDepth 100000 in
theorem c_X0_init (l : Launch) (D : va_G) (cT : Nat → ClassId) {M : hmp} (o : Nat) (kd : Int32) (am : UInt64) (ho : M o = some (.inr (0, [.int 0, .double 0]))) (sz : Nat) : Met l yX0_init (wz yX0_init cX0_init 4 none) ({ frames := 1, cells := 0, slots := 0, locals := 24 } : Room) (mP D cT [.ref o, .int kd, .double am] M sz) (mQv (fun MM => MM = va_up M o (some (.inr (0, [.int kd, .double am])))) D M sz) 0 0 (FA M sz) := by
  refine mk_m (by decide +kernel) (Nat.le_of_ble_eq_true rfl) ?_
  intro p e s m args below meth c S hK hsz hM hr hlocks hnm ls hl
  have hx := S.1
  have hb := S.2.1
  have hml := S.2.2.1
  have hown := S.2.2.2.1
  have hts := S.2.2.2.2
  have hl : lv_has ls 4 [(0, .ref o), (1, .int kd), (2, .double am)] := hl
  refine lv_aload_n hx hb dX0_init_0 rfl (lv_at hl 0 rfl) ?_
  refine W.objInit hx hb hown (hts _ w_1_179) (hts _ w_1_16) (hts _ w_1_17) rfl (hl.1.trans hml.symm) rfl dX0_init_1 (Nat.le_of_ble_eq_true rfl) (Nat.le_of_ble_eq_true rfl) ?_
  refine W.eq (g2 := F0 m 4 ls []) rfl ?_
  refine lv_aload_n hx hb dX0_init_4 rfl (lv_at hl 0 rfl) ?_
  refine lv_iload_n hx hb dX0_init_5 rfl (lv_at hl 1 rfl) ?_
  refine hm_putF S hK hM cI0 ho 0 (by decide) w_1_180 rfl hnm rfl rfl rfl (Nat.le_of_ble_eq_true rfl) dX0_init_6 (fun H locs M1 hM1 hM => ?_)
  replace hM1 : M1 = va_up M o (some (.inr (0, [.int kd, .double 0]))) := hM1
  refine lv_aload_n hx hb dX0_init_9 rfl (lv_at hl 0 rfl) ?_
  refine lv_dload_n hx hb dX0_init_10 rfl (lv_at hl 2 rfl) ?_
  refine hm_putF S hK hM cI0 (up_at hM1) 1 (by decide) w_1_181 rfl hnm rfl rfl rfl (Nat.le_of_ble_eq_true rfl) dX0_init_11 (fun H locs M2 hM2 hM => ?_)
  replace hM2 : M2 = va_up M o (some (.inr (0, [.int kd, .double am]))) := hM2.trans (up_up hM1)
  exact mr_v S hM hr hlocks dX0_init_14 ⟨Nat.le_of_ble_eq_true rfl, Nat.le_of_ble_eq_true rfl⟩ hM2
set_option maxHeartbeats 4000000 in
set_option maxRecDepth 100000 in
theorem c_X1_init (l : Launch) (D : va_G) (cT : Nat → ClassId) {M : hmp} (o : Nat) (t c1 r : Int32) (x : UInt64) (ho : M o = some (.inr (1, [.int 0, .int 0, .int 0, .double 0, .double 0, .long 0]))) (sz : Nat) : Met l yX1_init (wz yX1_init cX1_init 6 none) ({ frames := 1, cells := 0, slots := 0, locals := 24 } : Room) (mP D cT [.ref o, .int t, .int c1, .int r, .double x] M sz) (mQv (fun MM => MM = va_up M o (some (.inr (1, [.int t, .int c1, .int r, .double x, .double FP.dconst0, .long 0])))) D M sz) 0 0 (FA M sz) := by
  refine mk_m (by decide +kernel) (Nat.le_of_ble_eq_true rfl) ?_
  intro p e s m args below meth c S hK hsz hM hr hlocks hnm ls hl
  have hx := S.1
  have hb := S.2.1
  have hml := S.2.2.1
  have hown := S.2.2.2.1
  have hts := S.2.2.2.2
  have hl : lv_has ls 6 [(0, .ref o), (1, .int t), (2, .int c1), (3, .int r), (4, .double x)] := hl
  refine lv_aload_n hx hb dX1_init_0 rfl (lv_at hl 0 rfl) ?_
  refine W.objInit hx hb hown (hts _ w_2_12) (hts _ w_1_16) (hts _ w_1_17) rfl (hl.1.trans hml.symm) rfl dX1_init_1 (Nat.le_of_ble_eq_true rfl) (Nat.le_of_ble_eq_true rfl) ?_
  refine W.eq (g2 := F0 m 4 ls []) rfl ?_
  refine lv_aload_n hx hb dX1_init_4 rfl (lv_at hl 0 rfl) ?_
  refine lv_dconst0 hx hb dX1_init_5 ?_
  refine hm_put S hK hM cI1 ho 4 (by decide) w_2_20 rfl rfl rfl (Nat.le_of_ble_eq_true rfl) dX1_init_6 (fun H locs M1 hM1 hM => ?_)
  replace hM1 : M1 = va_up M o (some (.inr (1, [.int 0, .int 0, .int 0, .double 0, .double FP.dconst0, .long 0]))) := hM1
  refine lv_aload_n hx hb dX1_init_9 rfl (lv_at hl 0 rfl) ?_
  refine lv_lconst (v := 0) hx hb dX1_init_10 (by decide) ?_
  refine hm_put S hK hM cI1 (up_at hM1) 5 (by decide) w_2_22 rfl rfl rfl (Nat.le_of_ble_eq_true rfl) dX1_init_11 (fun H locs M2 hM2 hM => ?_)
  replace hM2 : M2 = va_up M o (some (.inr (1, [.int 0, .int 0, .int 0, .double 0, .double FP.dconst0, .long 0]))) := hM2.trans (up_up hM1)
  refine lv_aload_n hx hb dX1_init_14 rfl (lv_at hl 0 rfl) ?_
  refine lv_iload_n hx hb dX1_init_15 rfl (lv_at hl 1 rfl) ?_
  refine hm_putF S hK hM cI1 (up_at hM2) 0 (by decide) w_2_13 rfl hnm rfl rfl rfl (Nat.le_of_ble_eq_true rfl) dX1_init_16 (fun H locs M3 hM3 hM => ?_)
  replace hM3 : M3 = va_up M o (some (.inr (1, [.int t, .int 0, .int 0, .double 0, .double FP.dconst0, .long 0]))) := hM3.trans (up_up hM2)
  refine lv_aload_n hx hb dX1_init_19 rfl (lv_at hl 0 rfl) ?_
  refine lv_iload_n hx hb dX1_init_20 rfl (lv_at hl 2 rfl) ?_
  refine hm_putF S hK hM cI1 (up_at hM3) 1 (by decide) w_2_15 rfl hnm rfl rfl rfl (Nat.le_of_ble_eq_true rfl) dX1_init_21 (fun H locs M4 hM4 hM => ?_)
  replace hM4 : M4 = va_up M o (some (.inr (1, [.int t, .int c1, .int 0, .double 0, .double FP.dconst0, .long 0]))) := hM4.trans (up_up hM3)
  refine lv_aload_n hx hb dX1_init_24 rfl (lv_at hl 0 rfl) ?_
  refine lv_iload_n hx hb dX1_init_25 rfl (lv_at hl 3 rfl) ?_
  refine hm_putF S hK hM cI1 (up_at hM4) 2 (by decide) w_2_17 rfl hnm rfl rfl rfl (Nat.le_of_ble_eq_true rfl) dX1_init_26 (fun H locs M5 hM5 hM => ?_)
  replace hM5 : M5 = va_up M o (some (.inr (1, [.int t, .int c1, .int r, .double 0, .double FP.dconst0, .long 0]))) := hM5.trans (up_up hM4)
  refine lv_aload_n hx hb dX1_init_29 rfl (lv_at hl 0 rfl) ?_
  refine lv_dload hx hb dX1_init_30 (lv_at hl 4 rfl) ?_
  refine hm_putF S hK hM cI1 (up_at hM5) 3 (by decide) w_2_19 rfl hnm rfl rfl rfl (Nat.le_of_ble_eq_true rfl) dX1_init_32 (fun H locs M6 hM6 hM => ?_)
  replace hM6 : M6 = va_up M o (some (.inr (1, [.int t, .int c1, .int r, .double x, .double FP.dconst0, .long 0]))) := hM6.trans (up_up hM5)
  exact mr_v S hM hr hlocks dX1_init_35 ⟨Nat.le_of_ble_eq_true rfl, Nat.le_of_ble_eq_true rfl⟩ hM6
theorem ge_nlt {x y : UInt64} (h : dGe x y) : ¬ dLt x y := by
  intro w
  rcases h with h | h
  · rw [w] at h; cases h
  · rw [w] at h; cases h
theorem nge_lt {x y : UInt64} (hx : FP.Core.val64 x ≠ .nan) (hy : FP.Core.val64 y ≠ .nan) (h : ¬ dGe x y) : dLt x y := by
  rw [dlt_iff' hx hy]
  have h1 : ¬ dGt x y := fun w => h (Or.inl w)
  rw [dgt_iff hx hy] at h1
  have h2 : ¬ FP.Core.zval FP.Core.b64 (FP.Core.val64 x) = FP.Core.zval FP.Core.b64 (FP.Core.val64 y) := fun w => h (Or.inr (FP.Core.dcmp_eq.mpr ⟨hx, hy, w⟩))
  omega
theorem rng_iff {x lo hi : UInt64} (hx : fin64 x) (hlo : fin64 lo) (hhi : fin64 hi) : (dGe x lo ∧ dLe x hi) ↔ rng x lo hi := by
  constructor
  · rintro ⟨h1, h2⟩
    refine ⟨ge_nlt h1, fun w => ?_⟩
    have w' : FP.dcmp x hi = some .gt := w
    rcases h2 with h | h
    · rw [w'] at h; cases h
    · rw [w'] at h; cases h
  · rintro ⟨h1, h2⟩
    refine ⟨Classical.byContradiction (fun q => h1 (nge_lt (fin64_ne hx) (fin64_ne hlo) q)), ?_⟩
    rw [dgt_iff (fin64_ne hx) (fin64_ne hhi)] at h2
    by_cases e : FP.Core.zval FP.Core.b64 (FP.Core.val64 x) = FP.Core.zval FP.Core.b64 (FP.Core.val64 hi)
    · exact Or.inr (FP.Core.dcmp_eq.mpr ⟨fin64_ne hx, fin64_ne hhi, e⟩)
    · exact Or.inl ((dlt_iff hx hhi).mpr (by omega))
set_option maxHeartbeats 4000000 in
set_option maxRecDepth 100000 in
theorem c_X1_moveOn (l : Launch) (D : va_G) (cT : Nat → ClassId) {M : hmp} (o : Nat) {t c1 r : Int32} {ra pl : UInt64} {sp : Int64} (q : Nat) (h0 : 0 < q) (h1 : q < 17) (hf : fin64 (FP.dadd pl ra)) (ho : M o = some (.inr (1, [.int t, .int c1, .int r, .double ra, .double pl, .long sp]))) (sz : Nat) : Met l yX1_moveOn (wz yX1_moveOn cX1_moveOn 4 none) ({ frames := 2, cells := 0, slots := 0, locals := 52 } : Room) (mP D cT [.ref o, .int (nI q)] M sz) (mQv (fun MM => MM = va_up M o (some (.inr (1, [.int t, .int c1, .int r, .double ra, .double (wrapP (FP.drem (FP.dadd pl ra) (FP.i2d (nI q))) (FP.i2d (nI q))), .long (sp + 1)])))) D M sz) 0 0 (FA M sz) := by
  refine mk_m (by decide +kernel) (Nat.le_of_ble_eq_true rfl) ?_
  intro p e s m args below meth c S hK hsz hM hr hlocks hnm ls hl
  have hx := S.1
  have hb := S.2.1
  have hml := S.2.2.1
  have hown := S.2.2.2.1
  have hts := S.2.2.2.2
  have hl : lv_has ls 4 [(0, .ref o), (1, .int (nI q))] := hl
  have hnP := i2d_zm h0 (show q < 2 ^ 31 by omega)
  have hz : 0 < zmg (FP.i2d (nI q)) := by rw [hnP.mg]; exact Nat.mul_pos h0 (Nat.two_pow_pos _)
  have hpd := (drem_facts hf hnP.fin hz).1
  refine lv_aload_n hx hb dX1_moveOn_0 rfl (lv_at hl 0 rfl) ?_
  refine hm_get S hK hM.pr cI1 ho 4 (by decide) w_2_20 rfl dX1_moveOn_1 ?_
  refine lv_aload_n hx hb dX1_moveOn_4 rfl (lv_at hl 0 rfl) ?_
  refine hm_get S hK hM.pr cI1 ho 3 (by decide) w_2_19 rfl dX1_moveOn_5 ?_
  refine lv_dadd hx hb dX1_moveOn_8 (n64_fin hf) ?_
  refine lv_iload_n hx hb dX1_moveOn_9 rfl (lv_at hl 1 rfl) ?_
  refine lv_i2d hx hb dX1_moveOn_10 ?_
  refine pc_d (rS (rest := []) S hK (c_X2_rest l D cT s.heap (FP.dadd pl ra) (FP.i2d (nI q)) hf hnP.fin hz) sm_X2_rest w_2_68 ⟨Nat.le_of_ble_eq_true rfl, Nat.le_of_ble_eq_true rfl⟩ ⟨rfl, rfl⟩ rfl hl.1 rfl (Nat.le_of_ble_eq_true rfl) dX1_moveOn_11 ⟨Nat.le_of_ble_eq_true rfl, Nat.le_of_ble_eq_true rfl⟩) (fun r1 hr1 => ?_)
  subst hr1
  refine lv_dstore_n (lv' := [(2, .double (FP.drem (FP.dadd pl ra) (FP.i2d (nI q)))), (0, .ref o), (1, .int (nI q))]) hx hb dX1_moveOn_14 rfl hl (by decide) rfl (fun ls hl => ?_)
  refine lv_dload_n hx hb dX1_moveOn_15 rfl (lv_at hl 0 rfl) ?_
  refine lv_dconst0 hx hb dX1_moveOn_16 ?_
  refine lv_dcmp hx hb dX1_moveOn_17 ?_
  refine lv_if_ge (tgt := 35) hx hb dX1_moveOn_18 (by decide) (fun c18 => ?_) (fun c18 => ?_)
  · replace c18 := (cv_dcmp_g_ge _ _).mp c18
    have hwp : (wrapP (FP.drem (FP.dadd pl ra) (FP.i2d (nI q))) (FP.i2d (nI q))) = FP.drem (FP.dadd pl ra) (FP.i2d (nI q)) := if_neg c18
    refine lv_aload_n hx hb dX1_moveOn_35 rfl (lv_at hl 1 rfl) ?_
    refine lv_dload_n hx hb dX1_moveOn_36 rfl (lv_at hl 0 rfl) ?_
    refine hm_put S hK hM cI1 ho 4 (by decide) w_2_20 rfl rfl rfl (Nat.le_of_ble_eq_true rfl) dX1_moveOn_37 (fun H locs M2 hM2 hM => ?_)
    replace hM2 : M2 = va_up M o (some (.inr (1, [.int t, .int c1, .int r, .double ra, .double (FP.drem (FP.dadd pl ra) (FP.i2d (nI q))), .long sp]))) := hM2
    refine lv_aload_n hx hb dX1_moveOn_40 rfl (lv_at hl 1 rfl) ?_
    refine lv_dup hx hb dX1_moveOn_41 rfl ?_
    refine hm_get S hK hM.pr cI1 (up_at hM2) 5 (by decide) w_2_22 rfl dX1_moveOn_42 ?_
    refine lv_lconst (v := 1) hx hb dX1_moveOn_45 (by decide) ?_
    refine lv_ladd hx hb dX1_moveOn_46 ?_
    refine hm_put S hK hM cI1 (up_at hM2) 5 (by decide) w_2_22 rfl rfl rfl (Nat.le_of_ble_eq_true rfl) dX1_moveOn_47 (fun H locs M3 hM3 hM => ?_)
    replace hM3 : M3 = va_up M o (some (.inr (1, [.int t, .int c1, .int r, .double ra, .double (FP.drem (FP.dadd pl ra) (FP.i2d (nI q))), .long (sp + 1)]))) := hM3.trans (up_up hM2)
    refine mr_v S hM hr hlocks dX1_moveOn_50 ⟨Nat.le_of_ble_eq_true rfl, Nat.le_of_ble_eq_true rfl⟩ ?_
    rw [hwp]
    exact hM3
  · replace c18 := (cv_dcmp_g_ge_n _ _).mp c18
    refine lv_dload_n hx hb dX1_moveOn_21 rfl (lv_at hl 0 rfl) ?_
    refine lv_iload_n hx hb dX1_moveOn_22 rfl (lv_at hl 2 rfl) ?_
    refine lv_i2d hx hb dX1_moveOn_23 ?_
    refine lv_dadd hx hb dX1_moveOn_24 (n64_of (nn_add hpd hnP.fin)) ?_
    refine lv_dstore_n (lv' := [(2, .double (FP.dadd (FP.drem (FP.dadd pl ra) (FP.i2d (nI q))) (FP.i2d (nI q)))), (0, .ref o), (1, .int (nI q))]) hx hb dX1_moveOn_25 rfl hl (by decide) rfl (fun ls hl => ?_)
    refine lv_dload_n hx hb dX1_moveOn_26 rfl (lv_at hl 0 rfl) ?_
    refine lv_iload_n hx hb dX1_moveOn_27 rfl (lv_at hl 2 rfl) ?_
    refine lv_i2d hx hb dX1_moveOn_28 ?_
    refine lv_dcmp hx hb dX1_moveOn_29 ?_
    refine lv_if_lt (tgt := 35) hx hb dX1_moveOn_30 (by decide) (fun c30 => ?_) (fun c30 => ?_)
    · replace c30 := (cv_dcmp_l_lt _ _).mp c30
      have hwp : (wrapP (FP.drem (FP.dadd pl ra) (FP.i2d (nI q))) (FP.i2d (nI q))) = (FP.dadd (FP.drem (FP.dadd pl ra) (FP.i2d (nI q))) (FP.i2d (nI q))) := (if_pos c18).trans (if_pos (nge_lt ((FP.Core.notNaN_iff _).mp (nn_add hpd hnP.fin)) (fin64_ne hnP.fin) c30))
      refine lv_aload_n hx hb dX1_moveOn_35 rfl (lv_at hl 1 rfl) ?_
      refine lv_dload_n hx hb dX1_moveOn_36 rfl (lv_at hl 0 rfl) ?_
      refine hm_put S hK hM cI1 ho 4 (by decide) w_2_20 rfl rfl rfl (Nat.le_of_ble_eq_true rfl) dX1_moveOn_37 (fun H locs M4 hM4 hM => ?_)
      replace hM4 : M4 = va_up M o (some (.inr (1, [.int t, .int c1, .int r, .double ra, .double (FP.dadd (FP.drem (FP.dadd pl ra) (FP.i2d (nI q))) (FP.i2d (nI q))), .long sp]))) := hM4
      refine lv_aload_n hx hb dX1_moveOn_40 rfl (lv_at hl 1 rfl) ?_
      refine lv_dup hx hb dX1_moveOn_41 rfl ?_
      refine hm_get S hK hM.pr cI1 (up_at hM4) 5 (by decide) w_2_22 rfl dX1_moveOn_42 ?_
      refine lv_lconst (v := 1) hx hb dX1_moveOn_45 (by decide) ?_
      refine lv_ladd hx hb dX1_moveOn_46 ?_
      refine hm_put S hK hM cI1 (up_at hM4) 5 (by decide) w_2_22 rfl rfl rfl (Nat.le_of_ble_eq_true rfl) dX1_moveOn_47 (fun H locs M5 hM5 hM => ?_)
      replace hM5 : M5 = va_up M o (some (.inr (1, [.int t, .int c1, .int r, .double ra, .double (FP.dadd (FP.drem (FP.dadd pl ra) (FP.i2d (nI q))) (FP.i2d (nI q))), .long (sp + 1)]))) := hM5.trans (up_up hM4)
      refine mr_v S hM hr hlocks dX1_moveOn_50 ⟨Nat.le_of_ble_eq_true rfl, Nat.le_of_ble_eq_true rfl⟩ ?_
      rw [hwp]
      exact hM5
    · replace c30 := (cv_dcmp_l_lt_n _ _).mp c30
      refine lv_dconst0 hx hb dX1_moveOn_33 ?_
      refine lv_dstore_n (lv' := [(2, .double FP.dconst0), (0, .ref o), (1, .int (nI q))]) hx hb dX1_moveOn_34 rfl hl (by decide) rfl (fun ls hl => ?_)
      have hwp : (wrapP (FP.drem (FP.dadd pl ra) (FP.i2d (nI q))) (FP.i2d (nI q))) = FP.dconst0 := (if_pos c18).trans (if_neg (ge_nlt c30))
      refine lv_aload_n hx hb dX1_moveOn_35 rfl (lv_at hl 1 rfl) ?_
      refine lv_dload_n hx hb dX1_moveOn_36 rfl (lv_at hl 0 rfl) ?_
      refine hm_put S hK hM cI1 ho 4 (by decide) w_2_20 rfl rfl rfl (Nat.le_of_ble_eq_true rfl) dX1_moveOn_37 (fun H locs M6 hM6 hM => ?_)
      replace hM6 : M6 = va_up M o (some (.inr (1, [.int t, .int c1, .int r, .double ra, .double FP.dconst0, .long sp]))) := hM6
      refine lv_aload_n hx hb dX1_moveOn_40 rfl (lv_at hl 1 rfl) ?_
      refine lv_dup hx hb dX1_moveOn_41 rfl ?_
      refine hm_get S hK hM.pr cI1 (up_at hM6) 5 (by decide) w_2_22 rfl dX1_moveOn_42 ?_
      refine lv_lconst (v := 1) hx hb dX1_moveOn_45 (by decide) ?_
      refine lv_ladd hx hb dX1_moveOn_46 ?_
      refine hm_put S hK hM cI1 (up_at hM6) 5 (by decide) w_2_22 rfl rfl rfl (Nat.le_of_ble_eq_true rfl) dX1_moveOn_47 (fun H locs M7 hM7 hM => ?_)
      replace hM7 : M7 = va_up M o (some (.inr (1, [.int t, .int c1, .int r, .double ra, .double FP.dconst0, .long (sp + 1)]))) := hM7.trans (up_up hM6)
      refine mr_v S hM hr hlocks dX1_moveOn_50 ⟨Nat.le_of_ble_eq_true rfl, Nat.le_of_ble_eq_true rfl⟩ ?_
      rw [hwp]
      exact hM7
set_option maxHeartbeats 4000000 in
set_option maxRecDepth 100000 in
theorem c_X3_init (l : Launch) (D : va_G) (cT : Nat → ClassId) {M : hmp} (o : Nat) (kd : Int32) (ho : M o = some (.inr (3, [.int 0, .null]))) (sz : Nat) : Met l yX3_init (wz yX3_init cX3_init 2 none) ({ frames := 1, cells := 1, slots := 3, locals := 24 } : Room) (mP D cT [.ref o, .int kd] M sz) (mQv (fun MM => ∃ q2 N1, M q2 = none ∧ N1 = va_up M q2 (some (.inl (cT 5, 3, rQ (fun _ => none)))) ∧ MM = va_up N1 o (some (.inr (3, [.int kd, .ref q2])))) D M sz) 1 3 (FA M sz) := by
  refine mk_m (by decide +kernel) (Nat.le_of_ble_eq_true rfl) ?_
  intro p e s m args below meth c S hK hsz hM hr hlocks hnm ls hl
  have hx := S.1
  have hb := S.2.1
  have hml := S.2.2.1
  have hown := S.2.2.2.1
  have hts := S.2.2.2.2
  have hl : lv_has ls 2 [(0, .ref o), (1, .int kd)] := hl
  refine lv_aload_n hx hb dX3_init_0 rfl (lv_at hl 0 rfl) ?_
  refine W.objInit hx hb hown (hts _ w_1_218) (hts _ w_1_16) (hts _ w_1_17) rfl (hl.1.trans hml.symm) rfl dX3_init_1 (Nat.le_of_ble_eq_true rfl) (Nat.le_of_ble_eq_true rfl) ?_
  refine W.eq (g2 := F0 m 4 ls []) rfl ?_
  refine lv_aload_n hx hb dX3_init_4 rfl (lv_at hl 0 rfl) ?_
  refine lv_iconst (v := 3) hx hb dX3_init_5 (by decide) ?_
  refine hm_newq S hK hM 5 w_1_219 hK.2.2.1 rfl (n := 3) (N' := 3) (by decide) (by decide) (Nat.le_of_ble_eq_true rfl) (Nat.le_of_ble_eq_true rfl) (Nat.le_of_ble_eq_true rfl) dX3_init_6 (fun q2 H N1 hq2 hN1 hM => ?_)
  have hoq : o ≠ q2 := fun w => by rw [w, hq2] at ho; cases ho
  have ho1 : N1 o = some (.inr (3, [.int 0, .null])) := by rw [hN1, va_up_ne _ _ hoq]; exact ho
  refine hm_putF S hK hM cI3 ho1 1 (by decide) w_1_222 rfl hnm rfl rfl rfl (Nat.le_of_ble_eq_true rfl) dX3_init_9 (fun H locs M1 hM1 hM => ?_)
  replace hM1 : M1 = va_up N1 o (some (.inr (3, [.int 0, .ref q2]))) := hM1
  refine lv_aload_n hx hb dX3_init_12 rfl (lv_at hl 0 rfl) ?_
  refine lv_iload_n hx hb dX3_init_13 rfl (lv_at hl 1 rfl) ?_
  refine hm_putF S hK hM cI3 (up_at hM1) 0 (by decide) w_1_220 rfl hnm rfl rfl rfl (Nat.le_of_ble_eq_true rfl) dX3_init_14 (fun H locs M2 hM2 hM => ?_)
  replace hM2 : M2 = va_up N1 o (some (.inr (3, [.int kd, .ref q2]))) := hM2.trans (up_up hM1)
  exact mr_v S hM hr hlocks dX3_init_17 ⟨Nat.le_of_ble_eq_true rfl, Nat.le_of_ble_eq_true rfl⟩ ⟨q2, N1, hq2, hN1, hM2⟩
set_option maxHeartbeats 4000000 in
set_option maxRecDepth 100000 in
theorem c_X3_hasBarePlace (l : Launch) (D : va_G) (cT : Nat → ClassId) (H : Heap) {M : hmp} (hP : HPr D M H) {rk : Int32} {pl : Nat} {f : Nat → Option Nat} (o : Nat) (ho : M o = some (.inr (3, [.int rk, .ref pl]))) (hp : M pl = some (.inl (cT 5, 3, rQ f))) : Met l yX3_hasBarePlace (wz yX3_hasBarePlace cX3_hasBarePlace 2 (some .boolean)) ({ frames := 0, cells := 0, slots := 0, locals := 0 } : Room) (pP D cT [.ref o] H) (qi (fun r => r = if f 0 = none ∨ f 1 = none ∨ f 2 = none then 1 else 0) H) 0 0 (fun _ => False) := by
  refine mk_p (by decide +kernel) (Nat.le_of_ble_eq_true rfl) ?_
  intro p e s m args below meth c S hK hs hr hlocks ls hl
  have hx := S.1
  have hb := S.2.1
  have hml := S.2.2.1
  have hown := S.2.2.2.1
  have hts := S.2.2.2.2
  have hl : lv_has ls 2 [(0, .ref o)] := hl
  refine lv_iconst (v := 0) hx hb dX3_hasBarePlace_0 (by decide) ?_
  refine lv_istore_n (lv' := [(1, .int 0), (0, .ref o)]) hx hb dX3_hasBarePlace_1 rfl hl (by decide) rfl (fun ls hl => ?_)
  refine lv_iload_n hx hb dX3_hasBarePlace_2 rfl (lv_at hl 0 rfl) ?_
  refine lv_iconst (v := 3) hx hb dX3_hasBarePlace_3 (by decide) ?_
  refine lv_icmp_ge (tgt := 24) hx hb dX3_hasBarePlace_4 (by decide) (fun h => absurd h (by decide)) (fun _ => ?_)
  refine lv_aload_n hx hb dX3_hasBarePlace_7 rfl (lv_at hl 1 rfl) ?_
  refine hm_get S hK hP cI3 ho 1 (by decide) w_1_222 rfl dX3_hasBarePlace_8 ?_
  refine lv_iload_n hx hb dX3_hasBarePlace_11 rfl (lv_at hl 0 rfl) ?_
  refine hm_aaldC S hK hP 5 hp rfl (vp_in_nI (n := 0) (by decide) (by decide)) dX3_hasBarePlace_12 (fun f0 => ?_) (fun z0 f0 => ?_)
  · skip
    refine lv_ifnonnullN hx hb dX3_hasBarePlace_13 ?_
    refine lv_iconst (v := 1) hx hb dX3_hasBarePlace_16 (by decide) ?_
    refine pr_z S hs hr hlocks rfl dX3_hasBarePlace_17 ?_
    exact (if_pos (Or.inl f0)).symm
  · skip
    refine lv_ifnonnull (tgt := 18) hx hb dX3_hasBarePlace_13 (by decide) ?_
    refine lv_iinc (v := 1) (lv' := [(1, .int 1), (0, .ref o)]) hx hb dX3_hasBarePlace_18 hl (k := 0) rfl (by rfl) (by decide) rfl (fun ls hl => ?_)
    refine lv_goto (tgt := 2) hx hb dX3_hasBarePlace_21 (by decide) ?_
    refine lv_iload_n hx hb dX3_hasBarePlace_2 rfl (lv_at hl 0 rfl) ?_
    refine lv_iconst (v := 3) hx hb dX3_hasBarePlace_3 (by decide) ?_
    refine lv_icmp_ge (tgt := 24) hx hb dX3_hasBarePlace_4 (by decide) (fun h => absurd h (by decide)) (fun _ => ?_)
    refine lv_aload_n hx hb dX3_hasBarePlace_7 rfl (lv_at hl 1 rfl) ?_
    refine hm_get S hK hP cI3 ho 1 (by decide) w_1_222 rfl dX3_hasBarePlace_8 ?_
    refine lv_iload_n hx hb dX3_hasBarePlace_11 rfl (lv_at hl 0 rfl) ?_
    refine hm_aaldC S hK hP 5 hp rfl (vp_in_nI (n := 1) (by decide) (by decide)) dX3_hasBarePlace_12 (fun f1 => ?_) (fun z1 f1 => ?_)
    · skip
      refine lv_ifnonnullN hx hb dX3_hasBarePlace_13 ?_
      refine lv_iconst (v := 1) hx hb dX3_hasBarePlace_16 (by decide) ?_
      refine pr_z S hs hr hlocks rfl dX3_hasBarePlace_17 ?_
      exact (if_pos (Or.inr (Or.inl f1))).symm
    · skip
      refine lv_ifnonnull (tgt := 18) hx hb dX3_hasBarePlace_13 (by decide) ?_
      refine lv_iinc (v := 2) (lv' := [(1, .int 2), (0, .ref o)]) hx hb dX3_hasBarePlace_18 hl (k := 0) rfl (by rfl) (by decide) rfl (fun ls hl => ?_)
      refine lv_goto (tgt := 2) hx hb dX3_hasBarePlace_21 (by decide) ?_
      refine lv_iload_n hx hb dX3_hasBarePlace_2 rfl (lv_at hl 0 rfl) ?_
      refine lv_iconst (v := 3) hx hb dX3_hasBarePlace_3 (by decide) ?_
      refine lv_icmp_ge (tgt := 24) hx hb dX3_hasBarePlace_4 (by decide) (fun h => absurd h (by decide)) (fun _ => ?_)
      refine lv_aload_n hx hb dX3_hasBarePlace_7 rfl (lv_at hl 1 rfl) ?_
      refine hm_get S hK hP cI3 ho 1 (by decide) w_1_222 rfl dX3_hasBarePlace_8 ?_
      refine lv_iload_n hx hb dX3_hasBarePlace_11 rfl (lv_at hl 0 rfl) ?_
      refine hm_aaldC S hK hP 5 hp rfl (vp_in_nI (n := 2) (by decide) (by decide)) dX3_hasBarePlace_12 (fun f2 => ?_) (fun z2 f2 => ?_)
      · skip
        refine lv_ifnonnullN hx hb dX3_hasBarePlace_13 ?_
        refine lv_iconst (v := 1) hx hb dX3_hasBarePlace_16 (by decide) ?_
        refine pr_z S hs hr hlocks rfl dX3_hasBarePlace_17 ?_
        exact (if_pos (Or.inr (Or.inr f2))).symm
      · skip
        refine lv_ifnonnull (tgt := 18) hx hb dX3_hasBarePlace_13 (by decide) ?_
        refine lv_iinc (v := 3) (lv' := [(1, .int 3), (0, .ref o)]) hx hb dX3_hasBarePlace_18 hl (k := 0) rfl (by rfl) (by decide) rfl (fun ls hl => ?_)
        refine lv_goto (tgt := 2) hx hb dX3_hasBarePlace_21 (by decide) ?_
        refine lv_iload_n hx hb dX3_hasBarePlace_2 rfl (lv_at hl 0 rfl) ?_
        refine lv_iconst (v := 3) hx hb dX3_hasBarePlace_3 (by decide) ?_
        refine lv_icmp_ge (tgt := 24) hx hb dX3_hasBarePlace_4 (by decide) (fun _ => ?_) (fun h => absurd (by decide) h)
        refine lv_iconst (v := 0) hx hb dX3_hasBarePlace_24 (by decide) ?_
        refine pr_z S hs hr hlocks rfl dX3_hasBarePlace_25 ?_
        exact (if_neg (fun q => by rcases q with q | q | q; exact absurd (f0.symm.trans q) (by simp); exact absurd (f1.symm.trans q) (by simp); exact absurd (f2.symm.trans q) (by simp))).symm
set_option maxHeartbeats 4000000 in
set_option maxRecDepth 100000 in
theorem c_X3_madeOf (l : Launch) (D : va_G) (cT : Nat → ClassId) (H : Heap) {M : hmp} (hP : HPr D M H) {rk : Int32} {pl : Nat} {f : Nat → Option Nat} (o : Nat) (v : UInt64) (ho : M o = some (.inr (3, [.int rk, .ref pl]))) (hp : M pl = some (.inl (cT 5, 3, rQ f))) (hv : flo v) {e0 : Nat} {k0 : Int32} {a0 : UInt64} (h00 : f 0 = some e0) (h01 : M e0 = some (.inr (0, [.int k0, .double a0]))) (h02 : fin64 a0) (h03 : rng a0 13920209183539462144 4696837146684686336) {e1 : Nat} {k1 : Int32} {a1 : UInt64} (h10 : f 1 = some e1) (h11 : M e1 = some (.inr (0, [.int k1, .double a1]))) (h12 : fin64 a1) (h13 : rng a1 13920209183539462144 4696837146684686336) {e2 : Nat} {k2 : Int32} {a2 : UInt64} (h20 : f 2 = some e2) (h21 : M e2 = some (.inr (0, [.int k2, .double a2]))) (h22 : fin64 a2) (h23 : rng a2 13920209183539462144 4696837146684686336) : Met l yX3_madeOf (wz yX3_madeOf cX3_madeOf 7 (some .double)) ({ frames := 3, cells := 0, slots := 0, locals := 74 } : Room) (pP D cT [.ref o, .double v] H) (qd (fun r => r = FP.f2d (heldf (mkv k2 a2 (FP.f2d (heldf (mkv k1 a1 (FP.f2d (heldf (mkv k0 a0 v))))))))) H) 0 0 (fun _ => False) := by
  refine mk_p (by decide +kernel) (Nat.le_of_ble_eq_true rfl) ?_
  intro p e s m args below meth c S hK hs hr hlocks ls hl
  have hx := S.1
  have hb := S.2.1
  have hml := S.2.2.1
  have hown := S.2.2.2.1
  have hts := S.2.2.2.2
  have hl : lv_has ls 7 [(0, .ref o), (1, .double v)] := hl
  refine lv_dload_n hx hb dX3_madeOf_0 rfl (lv_at hl 1 rfl) ?_
  refine lv_dstore_n (lv' := [(3, .double v), (0, .ref o), (1, .double v)]) hx hb dX3_madeOf_1 rfl hl (by decide) rfl (fun ls hl => ?_)
  refine lv_iconst (v := 0) hx hb dX3_madeOf_2 (by decide) ?_
  refine lv_istore (lv' := [(5, .int 0), (3, .double v), (0, .ref o), (1, .double v)]) hx hb dX3_madeOf_3 hl (by decide) rfl (fun ls hl => ?_)
  refine lv_iload hx hb dX3_madeOf_5 (lv_at hl 0 rfl) ?_
  refine lv_iconst (v := 3) hx hb dX3_madeOf_7 (by decide) ?_
  refine lv_icmp_ge (tgt := 39) hx hb dX3_madeOf_8 (by decide) (fun h => absurd h (by decide)) (fun _ => ?_)
  refine lv_aload_n hx hb dX3_madeOf_11 rfl (lv_at hl 2 rfl) ?_
  refine hm_get S hK hP cI3 ho 1 (by decide) w_1_222 rfl dX3_madeOf_12 ?_
  refine lv_iload hx hb dX3_madeOf_15 (lv_at hl 0 rfl) ?_
  refine hm_aaldC S hK hP 5 hp rfl (vp_in_nI (n := 0) (by decide) (by decide)) dX3_madeOf_17 (fun w => absurd (h00.symm.trans w) (by simp)) (fun z0 w => ?_)
  obtain rfl : e0 = z0 := Option.some.inj (h00.symm.trans w)
  refine lv_astore (lv' := [(6, .ref e0), (5, .int 0), (3, .double v), (0, .ref o), (1, .double v)]) hx hb dX3_madeOf_18 hl (by decide) rfl (fun ls hl => ?_)
  refine lv_aload hx hb dX3_madeOf_20 (lv_at hl 0 rfl) ?_
  refine lv_ifnull hx hb dX3_madeOf_22 ?_
  refine lv_aload hx hb dX3_madeOf_25 (lv_at hl 0 rfl) ?_
  refine lv_dload_n hx hb dX3_madeOf_27 rfl (lv_at hl 2 rfl) ?_
  refine pc_f (rV (rest := []) S hK hP cI0 h01 rfl (c_X0_madeOf l D cT H hP e0 v h01 h02 h03 hv) sm_X0_madeOf w_1_193 w_2_58 ⟨Nat.le_of_ble_eq_true rfl, Nat.le_of_ble_eq_true rfl⟩ ⟨rfl, rfl⟩ rfl hl.1 rfl (Nat.le_of_ble_eq_true rfl) dX3_madeOf_28 ⟨Nat.le_of_ble_eq_true rfl, Nat.le_of_ble_eq_true rfl⟩) (fun r1 hr1 => ?_)
  subst hr1
  have hn0 := mkv_nn (kd := k0) hv h02 h03
  have hf0 := f2d_flo (heldf_fin hn0)
  refine lv_f2d hx hb dX3_madeOf_31 (n64_of (by rw [FP.f2d_nan]; exact fin32_nn (heldf_fin hn0))) ?_
  refine lv_dstore_n (lv' := [(3, .double (FP.f2d (heldf (mkv k0 a0 v)))), (6, .ref e0), (5, .int 0), (0, .ref o), (1, .double v)]) hx hb dX3_madeOf_32 rfl hl (by decide) rfl (fun ls hl => ?_)
  refine lv_iinc (v := 1) (lv' := [(5, .int 1), (3, .double (FP.f2d (heldf (mkv k0 a0 v)))), (6, .ref e0), (0, .ref o), (1, .double v)]) hx hb dX3_madeOf_33 hl (k := 2) rfl (by rfl) (by decide) rfl (fun ls hl => ?_)
  refine lv_goto (tgt := 5) hx hb dX3_madeOf_36 (by decide) ?_
  refine lv_iload hx hb dX3_madeOf_5 (lv_at hl 0 rfl) ?_
  refine lv_iconst (v := 3) hx hb dX3_madeOf_7 (by decide) ?_
  refine lv_icmp_ge (tgt := 39) hx hb dX3_madeOf_8 (by decide) (fun h => absurd h (by decide)) (fun _ => ?_)
  refine lv_aload_n hx hb dX3_madeOf_11 rfl (lv_at hl 3 rfl) ?_
  refine hm_get S hK hP cI3 ho 1 (by decide) w_1_222 rfl dX3_madeOf_12 ?_
  refine lv_iload hx hb dX3_madeOf_15 (lv_at hl 0 rfl) ?_
  refine hm_aaldC S hK hP 5 hp rfl (vp_in_nI (n := 1) (by decide) (by decide)) dX3_madeOf_17 (fun w => absurd (h10.symm.trans w) (by simp)) (fun z1 w => ?_)
  obtain rfl : e1 = z1 := Option.some.inj (h10.symm.trans w)
  refine lv_astore (lv' := [(6, .ref e1), (5, .int 1), (3, .double (FP.f2d (heldf (mkv k0 a0 v)))), (0, .ref o), (1, .double v)]) hx hb dX3_madeOf_18 hl (by decide) rfl (fun ls hl => ?_)
  refine lv_aload hx hb dX3_madeOf_20 (lv_at hl 0 rfl) ?_
  refine lv_ifnull hx hb dX3_madeOf_22 ?_
  refine lv_aload hx hb dX3_madeOf_25 (lv_at hl 0 rfl) ?_
  refine lv_dload_n hx hb dX3_madeOf_27 rfl (lv_at hl 2 rfl) ?_
  refine pc_f (rV (rest := []) S hK hP cI0 h11 rfl (c_X0_madeOf l D cT H hP e1 (FP.f2d (heldf (mkv k0 a0 v))) h11 h12 h13 hf0) sm_X0_madeOf w_1_193 w_2_58 ⟨Nat.le_of_ble_eq_true rfl, Nat.le_of_ble_eq_true rfl⟩ ⟨rfl, rfl⟩ rfl hl.1 rfl (Nat.le_of_ble_eq_true rfl) dX3_madeOf_28 ⟨Nat.le_of_ble_eq_true rfl, Nat.le_of_ble_eq_true rfl⟩) (fun r2 hr2 => ?_)
  subst hr2
  have hn1 := mkv_nn (kd := k1) hf0 h12 h13
  have hf1 := f2d_flo (heldf_fin hn1)
  refine lv_f2d hx hb dX3_madeOf_31 (n64_of (by rw [FP.f2d_nan]; exact fin32_nn (heldf_fin hn1))) ?_
  refine lv_dstore_n (lv' := [(3, .double (FP.f2d (heldf (mkv k1 a1 (FP.f2d (heldf (mkv k0 a0 v))))))), (6, .ref e1), (5, .int 1), (0, .ref o), (1, .double v)]) hx hb dX3_madeOf_32 rfl hl (by decide) rfl (fun ls hl => ?_)
  refine lv_iinc (v := 2) (lv' := [(5, .int 2), (3, .double (FP.f2d (heldf (mkv k1 a1 (FP.f2d (heldf (mkv k0 a0 v))))))), (6, .ref e1), (0, .ref o), (1, .double v)]) hx hb dX3_madeOf_33 hl (k := 2) rfl (by rfl) (by decide) rfl (fun ls hl => ?_)
  refine lv_goto (tgt := 5) hx hb dX3_madeOf_36 (by decide) ?_
  refine lv_iload hx hb dX3_madeOf_5 (lv_at hl 0 rfl) ?_
  refine lv_iconst (v := 3) hx hb dX3_madeOf_7 (by decide) ?_
  refine lv_icmp_ge (tgt := 39) hx hb dX3_madeOf_8 (by decide) (fun h => absurd h (by decide)) (fun _ => ?_)
  refine lv_aload_n hx hb dX3_madeOf_11 rfl (lv_at hl 3 rfl) ?_
  refine hm_get S hK hP cI3 ho 1 (by decide) w_1_222 rfl dX3_madeOf_12 ?_
  refine lv_iload hx hb dX3_madeOf_15 (lv_at hl 0 rfl) ?_
  refine hm_aaldC S hK hP 5 hp rfl (vp_in_nI (n := 2) (by decide) (by decide)) dX3_madeOf_17 (fun w => absurd (h20.symm.trans w) (by simp)) (fun z2 w => ?_)
  obtain rfl : e2 = z2 := Option.some.inj (h20.symm.trans w)
  refine lv_astore (lv' := [(6, .ref e2), (5, .int 2), (3, .double (FP.f2d (heldf (mkv k1 a1 (FP.f2d (heldf (mkv k0 a0 v))))))), (0, .ref o), (1, .double v)]) hx hb dX3_madeOf_18 hl (by decide) rfl (fun ls hl => ?_)
  refine lv_aload hx hb dX3_madeOf_20 (lv_at hl 0 rfl) ?_
  refine lv_ifnull hx hb dX3_madeOf_22 ?_
  refine lv_aload hx hb dX3_madeOf_25 (lv_at hl 0 rfl) ?_
  refine lv_dload_n hx hb dX3_madeOf_27 rfl (lv_at hl 2 rfl) ?_
  refine pc_f (rV (rest := []) S hK hP cI0 h21 rfl (c_X0_madeOf l D cT H hP e2 (FP.f2d (heldf (mkv k1 a1 (FP.f2d (heldf (mkv k0 a0 v)))))) h21 h22 h23 hf1) sm_X0_madeOf w_1_193 w_2_58 ⟨Nat.le_of_ble_eq_true rfl, Nat.le_of_ble_eq_true rfl⟩ ⟨rfl, rfl⟩ rfl hl.1 rfl (Nat.le_of_ble_eq_true rfl) dX3_madeOf_28 ⟨Nat.le_of_ble_eq_true rfl, Nat.le_of_ble_eq_true rfl⟩) (fun r3 hr3 => ?_)
  subst hr3
  have hn2 := mkv_nn (kd := k2) hf1 h22 h23
  have hf2 := f2d_flo (heldf_fin hn2)
  refine lv_f2d hx hb dX3_madeOf_31 (n64_of (by rw [FP.f2d_nan]; exact fin32_nn (heldf_fin hn2))) ?_
  refine lv_dstore_n (lv' := [(3, .double (FP.f2d (heldf (mkv k2 a2 (FP.f2d (heldf (mkv k1 a1 (FP.f2d (heldf (mkv k0 a0 v)))))))))), (6, .ref e2), (5, .int 2), (0, .ref o), (1, .double v)]) hx hb dX3_madeOf_32 rfl hl (by decide) rfl (fun ls hl => ?_)
  refine lv_iinc (v := 3) (lv' := [(5, .int 3), (3, .double (FP.f2d (heldf (mkv k2 a2 (FP.f2d (heldf (mkv k1 a1 (FP.f2d (heldf (mkv k0 a0 v)))))))))), (6, .ref e2), (0, .ref o), (1, .double v)]) hx hb dX3_madeOf_33 hl (k := 2) rfl (by rfl) (by decide) rfl (fun ls hl => ?_)
  refine lv_goto (tgt := 5) hx hb dX3_madeOf_36 (by decide) ?_
  refine lv_iload hx hb dX3_madeOf_5 (lv_at hl 0 rfl) ?_
  refine lv_iconst (v := 3) hx hb dX3_madeOf_7 (by decide) ?_
  refine lv_icmp_ge (tgt := 39) hx hb dX3_madeOf_8 (by decide) (fun _ => ?_) (fun h => absurd (by decide) h)
  refine lv_dload_n hx hb dX3_madeOf_39 rfl (lv_at hl 1 rfl) ?_
  refine pr_d S hs hr hlocks dX3_madeOf_40 ?_
  rfl
