theorem rngA {x : UInt64} (hx : fin64 x) : (dGe x (FP.i2d (-1000000)) ∧ dLe x (FP.i2d 1000000)) ↔ rng x 13920209183539462144 4696837146684686336 := by
  rw [rng_iff hx (i2d_fin _) (i2d_fin _), show FP.i2d (-1000000) = 13920209183539462144 from by decide +kernel, show FP.i2d 1000000 = 4696837146684686336 from by decide +kernel]
theorem rngR {x : UInt64} (hx : fin64 x) : (dGe x (FP.i2d (-64)) ∧ dLe x (FP.i2d 64)) ↔ rng x 13857576053419016192 4634204016564240384 := by
  rw [rng_iff hx (i2d_fin _) (i2d_fin _), show FP.i2d (-64) = 13857576053419016192 from by decide +kernel, show FP.i2d 64 = 4634204016564240384 from by decide +kernel]
set_option maxHeartbeats 4000000 in
set_option maxRecDepth 100000 in
theorem c_X4_effect (l : Launch) (D : va_G) (cT : Nat → ClassId) {M : hmp} {fu fd : Nat → UInt64} {ad : Nat → Nat → Nat} {z : SG} {n : Nat} (hX : XS cT fu fd ad M z) (hI : INV n z) (hn : n < 512) (k kd : Int32) (b : Int64) (sz : Nat) : Met l yX4_effect (wz yX4_effect cX4_effect 7 (some .int)) ({ frames := 5, cells := 1, slots := 2, locals := 127 } : Room) (mP D cT [.ref (ad 0 0), .int k, .int kd, .long b] M sz) (mQi (fun rr MM => rr = (sp_effect z k kd b).1 ∧ ∃ ad1, ad1 0 0 = ad 0 0 ∧ XS cT fu fd ad1 MM (sp_effect z k kd b).2) D M sz) 1 2 (FA M sz) := by
  refine mk_m (by decide +kernel) (Nat.le_of_ble_eq_true rfl) ?_
  intro p e s m args below meth c S hK hsz hM hr hlocks hnm ls hl
  have hx := S.1
  have hb := S.2.1
  have hml := S.2.2.1
  have hown := S.2.2.2.1
  have hts := S.2.2.2.2
  have hl : lv_has ls 7 [(0, .ref (ad 0 0)), (1, .int k), (2, .int kd), (3, .long b)] := hl
  refine lv_iload_n hx hb dX4_effect_0 rfl (lv_at hl 1 rfl) ?_
  refine lv_bipush (v := 6) hx hb dX4_effect_1 (by decide) ?_
  refine pc_b (rS (rest := []) S hK (c_X4_isBelow l D cT s.heap k 6 (n := 6) (by decide) rfl) sm_X4_isBelow w_1_77 ⟨Nat.le_of_ble_eq_true rfl, Nat.le_of_ble_eq_true rfl⟩ ⟨rfl, rfl⟩ rfl hl.1 rfl (Nat.le_of_ble_eq_true rfl) dX4_effect_3 ⟨Nat.le_of_ble_eq_true rfl, Nat.le_of_ble_eq_true rfl⟩) (fun c3 => ?_) (fun c3 => ?_)
  · skip
    refine lv_if_eq (tgt := 24) hx hb dX4_effect_6 (by decide) (fun h => absurd h (by decide)) (fun _ => ?_)
    refine lv_iload_n hx hb dX4_effect_9 rfl (lv_at hl 2 rfl) ?_
    refine lv_iconst (v := 3) hx hb dX4_effect_10 (by decide) ?_
    refine pc_b (rS (rest := []) S hK (c_X4_isBelow l D cT s.heap kd 3 (n := 3) (by decide) rfl) sm_X4_isBelow w_1_77 ⟨Nat.le_of_ble_eq_true rfl, Nat.le_of_ble_eq_true rfl⟩ ⟨rfl, rfl⟩ rfl hl.1 rfl (Nat.le_of_ble_eq_true rfl) dX4_effect_11 ⟨Nat.le_of_ble_eq_true rfl, Nat.le_of_ble_eq_true rfl⟩) (fun c11 => ?_) (fun c11 => ?_)
    · skip
      refine lv_if_eq (tgt := 24) hx hb dX4_effect_14 (by decide) (fun h => absurd h (by decide)) (fun _ => ?_)
      refine lv_lload_n hx hb dX4_effect_17 rfl (lv_at hl 3 rfl) ?_
      refine pc_b (rS (rest := []) S hK (c_X2_isDouble l D cT s.heap b) sm_X2_isDouble w_1_96 ⟨Nat.le_of_ble_eq_true rfl, Nat.le_of_ble_eq_true rfl⟩ ⟨rfl, rfl⟩ rfl hl.1 rfl (Nat.le_of_ble_eq_true rfl) dX4_effect_18 ⟨Nat.le_of_ble_eq_true rfl, Nat.le_of_ble_eq_true rfl⟩) (fun c18 => ?_) (fun c18 => ?_)
      · skip
        refine lv_if_ne (tgt := 26) hx hb dX4_effect_21 (by decide) (fun _ => ?_) (fun h => absurd h (by decide))
        refine lv_aload_n hx hb dX4_effect_26 rfl (lv_at hl 0 rfl) ?_
        refine hm_get S hK hM.pr cI4 (XS.c0 hX) 0 (by decide) w_1_41 rfl dX4_effect_27 ?_
        refine lv_lload_n hx hb dX4_effect_30 rfl (lv_at hl 3 rfl) ?_
        refine pc_d (rV (rest := []) S hK hM.pr cI2 hX.num.1 rfl (x_doubleOf l D cT s.heap hM.pr hX.num b c18) sm_X2_doubleOf w_1_109 w_1_107 ⟨Nat.le_of_ble_eq_true rfl, Nat.le_of_ble_eq_true rfl⟩ ⟨rfl, rfl⟩ rfl hl.1 rfl (Nat.le_of_ble_eq_true rfl) dX4_effect_31 ⟨Nat.le_of_ble_eq_true rfl, Nat.le_of_ble_eq_true rfl⟩) (fun r1 hr1 => ?_)
        subst hr1
        refine lv_dstore (lv' := [(5, .double (Int64.toUInt64 b)), (0, .ref (ad 0 0)), (1, .int k), (2, .int kd), (3, .long b)]) hx hb dX4_effect_34 hl (by decide) rfl (fun ls hl => ?_)
        refine lv_dload hx hb dX4_effect_36 (lv_at hl 0 rfl) ?_
        refine lv_ldc hx hb hown (hts _ w_1_171) dX4_effect_38 ?_
        refine pc_b (rS (rest := []) S hK (c_X4_isWithin l D cT s.heap (Int64.toUInt64 b) 1000000) sm_X4_isWithin w_1_172 ⟨Nat.le_of_ble_eq_true rfl, Nat.le_of_ble_eq_true rfl⟩ ⟨rfl, rfl⟩ rfl hl.1 rfl (Nat.le_of_ble_eq_true rfl) dX4_effect_40 ⟨Nat.le_of_ble_eq_true rfl, Nat.le_of_ble_eq_true rfl⟩) (fun c40 => ?_) (fun c40 => ?_)
        · skip
          refine lv_if_ne (tgt := 48) hx hb dX4_effect_43 (by decide) (fun _ => ?_) (fun h => absurd h (by decide))
          refine lv_aload_n hx hb dX4_effect_48 rfl (lv_at hl 1 rfl) ?_
          refine hm_get S hK hM.pr cI4 (XS.c0 hX) 3 (by decide) w_1_44 rfl dX4_effect_49 ?_
          refine lv_iload_n hx hb dX4_effect_52 rfl (lv_at hl 2 rfl) ?_
          refine hm_new S hK hM cI0 w_1_35 w_1_175 w_1_7 (fs := [.int 0, .double 0]) (fun j hj => by rcases (show j = 0 ∨ j = 1 by omega) with rfl | rfl <;> rfl) (Nat.le_of_ble_eq_true rfl) (Nat.le_of_ble_eq_true rfl) dX4_effect_53 (fun q H M1 hq hM1 hM => ?_)
          obtain ⟨hX, hne⟩ := hX.frame hq hM1
          refine lv_dup hx hb dX4_effect_56 rfl ?_
          refine lv_iload_n hx hb dX4_effect_57 rfl (lv_at hl 3 rfl) ?_
          refine lv_dload hx hb dX4_effect_58 (lv_at hl 0 rfl) ?_
          refine mc_v hM (rIm (rest := [.ref q, .int k, .ref (ad 0 6)]) S hK hM (c_X0_init l D cT q kd (Int64.toUInt64 b) (up_at hM1) H.size) sm_X0_init rfl w_1_176 ⟨Nat.le_of_ble_eq_true rfl, Nat.le_of_ble_eq_true rfl⟩ ⟨rfl, rfl⟩ rfl hl.1 rfl (Nat.le_of_ble_eq_true rfl) dX4_effect_60 ⟨Nat.le_of_ble_eq_true rfl, Nat.le_of_ble_eq_true rfl⟩) (fun M2 H locs hp hM _ _ _ => ?_)
          have hX := hX.beside hne hp
          refine hm_aast S hK hM 5 hX.effs rfl (up_at hp) cI0.1 c3 dX4_effect_63 (fun H locs M3 hM3 hM => ?_)
          have hX := XS.nEff hX hI hn c3 hne (up_at hp) hM3
          refine lv_iconst (v := 1) hx hb dX4_effect_64 (by decide) ?_
          refine mr_i S hM hr hlocks dX4_effect_65 ⟨Nat.le_of_ble_eq_true rfl, Nat.le_of_ble_eq_true rfl⟩ ?_
          have e9 : sp_effect z k kd b = (1, effZ z k kd b.toUInt64) := by unfold sp_effect; exact if_pos ⟨c3, c11, c18, (rngA c18).mp c40⟩
          rw [e9]
          exact ⟨rfl, _, congrFun (upA_c _ (by decide)) 0, hX⟩
        · skip
          refine lv_if_ne (tgt := 48) hx hb dX4_effect_43 (by decide) (fun h => absurd rfl h) (fun _ => ?_)
          refine lv_iconst (v := (-1)) hx hb dX4_effect_46 (by decide) ?_
          refine mr_i S hM hr hlocks dX4_effect_47 ⟨Nat.le_of_ble_eq_true rfl, Nat.le_of_ble_eq_true rfl⟩ ?_
          have e9 : sp_effect z k kd b = (-1, z) := by unfold sp_effect; exact if_neg (fun q => c40 ((rngA c18).mpr q.2.2.2))
          rw [e9]
          exact ⟨rfl, ad, rfl, hX⟩
      · skip
        refine lv_if_ne (tgt := 26) hx hb dX4_effect_21 (by decide) (fun h => absurd rfl h) (fun _ => ?_)
        refine lv_iconst (v := (-1)) hx hb dX4_effect_24 (by decide) ?_
        refine mr_i S hM hr hlocks dX4_effect_25 ⟨Nat.le_of_ble_eq_true rfl, Nat.le_of_ble_eq_true rfl⟩ ?_
        have e9 : sp_effect z k kd b = (-1, z) := by unfold sp_effect; exact if_neg (fun q => c18 q.2.2.1)
        rw [e9]
        exact ⟨rfl, ad, rfl, hX⟩
    · skip
      refine lv_if_eq (tgt := 24) hx hb dX4_effect_14 (by decide) (fun _ => ?_) (fun h => absurd (by decide) h)
      refine lv_iconst (v := (-1)) hx hb dX4_effect_24 (by decide) ?_
      refine mr_i S hM hr hlocks dX4_effect_25 ⟨Nat.le_of_ble_eq_true rfl, Nat.le_of_ble_eq_true rfl⟩ ?_
      have e9 : sp_effect z k kd b = (-1, z) := by unfold sp_effect; exact if_neg (fun q => c11 q.2.1)
      rw [e9]
      exact ⟨rfl, ad, rfl, hX⟩
  · skip
    refine lv_if_eq (tgt := 24) hx hb dX4_effect_6 (by decide) (fun _ => ?_) (fun h => absurd (by decide) h)
    refine lv_iconst (v := (-1)) hx hb dX4_effect_24 (by decide) ?_
    refine mr_i S hM hr hlocks dX4_effect_25 ⟨Nat.le_of_ble_eq_true rfl, Nat.le_of_ble_eq_true rfl⟩ ?_
    have e9 : sp_effect z k kd b = (-1, z) := by unfold sp_effect; exact if_neg (fun q => c3 q.1)
    rw [e9]
    exact ⟨rfl, ad, rfl, hX⟩
set_option maxHeartbeats 4000000 in
set_option maxRecDepth 100000 in
theorem c_X4_make (l : Launch) (D : va_G) (cT : Nat → ClassId) {M : hmp} {fu fd : Nat → UInt64} {ad : Nat → Nat → Nat} {z : SG} {n : Nat} (hX : XS cT fu fd ad M z) (hI : INV n z) (hn : n < 512) (k : Int32) (b : Int64) (sz : Nat) : Met l yX4_make (wz yX4_make cX4_make 6 (some .int)) ({ frames := 5, cells := 0, slots := 0, locals := 127 } : Room) (mP D cT [.ref (ad 0 0), .int k, .long b] M sz) (mQi (fun rr MM => rr = (sp_make z k b).1 ∧ ∃ ad1, ad1 0 0 = ad 0 0 ∧ XS cT fu fd ad1 MM (sp_make z k b).2) D M sz) 0 0 (FA M sz) := by
  refine mk_m (by decide +kernel) (Nat.le_of_ble_eq_true rfl) ?_
  intro p e s m args below meth c S hK hsz hM hr hlocks hnm ls hl
  have hx := S.1
  have hb := S.2.1
  have hml := S.2.2.1
  have hown := S.2.2.2.1
  have hts := S.2.2.2.2
  have hl : lv_has ls 6 [(0, .ref (ad 0 0)), (1, .int k), (2, .long b)] := hl
  refine lv_iload_n hx hb dX4_make_0 rfl (lv_at hl 1 rfl) ?_
  refine lv_bipush (v := 6) hx hb dX4_make_1 (by decide) ?_
  refine pc_b (rS (rest := []) S hK (c_X4_isBelow l D cT s.heap k 6 (n := 6) (by decide) rfl) sm_X4_isBelow w_1_77 ⟨Nat.le_of_ble_eq_true rfl, Nat.le_of_ble_eq_true rfl⟩ ⟨rfl, rfl⟩ rfl hl.1 rfl (Nat.le_of_ble_eq_true rfl) dX4_make_3 ⟨Nat.le_of_ble_eq_true rfl, Nat.le_of_ble_eq_true rfl⟩) (fun c3 => ?_) (fun c3 => ?_)
  · skip
    refine lv_if_eq (tgt := 16) hx hb dX4_make_6 (by decide) (fun h => absurd h (by decide)) (fun _ => ?_)
    refine lv_lload_n hx hb dX4_make_9 rfl (lv_at hl 2 rfl) ?_
    refine pc_b (rS (rest := []) S hK (c_X2_isFloat l D cT s.heap b) sm_X2_isFloat w_1_100 ⟨Nat.le_of_ble_eq_true rfl, Nat.le_of_ble_eq_true rfl⟩ ⟨rfl, rfl⟩ rfl hl.1 rfl (Nat.le_of_ble_eq_true rfl) dX4_make_10 ⟨Nat.le_of_ble_eq_true rfl, Nat.le_of_ble_eq_true rfl⟩) (fun c10 => ?_) (fun c10 => ?_)
    · skip
      refine lv_if_ne (tgt := 18) hx hb dX4_make_13 (by decide) (fun _ => ?_) (fun h => absurd h (by decide))
      refine lv_aload_n hx hb dX4_make_18 rfl (lv_at hl 0 rfl) ?_
      refine hm_get S hK hM.pr cI4 (XS.c0 hX) 3 (by decide) w_1_44 rfl dX4_make_19 ?_
      refine lv_iload_n hx hb dX4_make_22 rfl (lv_at hl 1 rfl) ?_
      refine hx_effs S hK hM.pr hX c3 dX4_make_23 (fun n23 => ?_) (fun n23 => ?_)
      · skip
        refine lv_astoreN (lv' := [(4, .null), (0, .ref (ad 0 0)), (1, .int k), (2, .long b)]) hx hb dX4_make_24 hl (by decide) rfl (fun ls hl => ?_)
        refine lv_aloadN hx hb dX4_make_26 (lv_at hl 0 rfl) ?_
        refine lv_ifnonnullN hx hb dX4_make_28 ?_
        refine lv_iconst (v := 1) hx hb dX4_make_31 (by decide) ?_
        refine pc_i (rS (rest := []) S hK (c_X4_answerFor l D cT s.heap 1) sm_X4_answerFor w_1_104 ⟨Nat.le_of_ble_eq_true rfl, Nat.le_of_ble_eq_true rfl⟩ ⟨rfl, rfl⟩ rfl hl.1 rfl (Nat.le_of_ble_eq_true rfl) dX4_make_32 ⟨Nat.le_of_ble_eq_true rfl, Nat.le_of_ble_eq_true rfl⟩) (fun r1 hr1 => ?_)
        subst hr1
        refine mr_i S hM hr hlocks dX4_make_35 ⟨Nat.le_of_ble_eq_true rfl, Nat.le_of_ble_eq_true rfl⟩ ?_
        have e9 : sp_make z k b = ((-10 - 1), z) := by unfold sp_make; rw [if_pos ⟨c3, c10⟩, if_pos n23]; rfl
        rw [e9]
        exact ⟨rfl, ad, rfl, hX⟩
      · skip
        refine lv_astore (lv' := [(4, .ref (ad 2 (cl (z.1 4 (cl k))))), (0, .ref (ad 0 0)), (1, .int k), (2, .long b)]) hx hb dX4_make_24 hl (by decide) rfl (fun ls hl => ?_)
        refine lv_aload hx hb dX4_make_26 (lv_at hl 0 rfl) ?_
        refine lv_ifnonnull (tgt := 36) hx hb dX4_make_28 (by decide) ?_
        have hef := hI.efr (show n ≤ 512 by omega) (in_cl c3) n23
        have hfe := hI.ef (show n ≤ 512 by omega) (in_cl c3) n23
        have hhf := heldf_fin (mkv_nn (kd := z.1 3 (cl (z.1 4 (cl k)))) (f2d_flo c10) hfe.2.1 hfe.2.2)
        refine lv_aload hx hb dX4_make_36 (lv_at hl 0 rfl) ?_
        refine lv_aload_n hx hb dX4_make_38 rfl (lv_at hl 1 rfl) ?_
        refine hm_get S hK hM.pr cI4 (XS.c0 hX) 0 (by decide) w_1_41 rfl dX4_make_39 ?_
        refine lv_lload_n hx hb dX4_make_42 rfl (lv_at hl 3 rfl) ?_
        refine pc_f (rV (rest := [.ref (ad 2 (cl (z.1 4 (cl k))))]) S hK hM.pr cI2 hX.num.1 rfl (x_floatOf l D cT s.heap hM.pr hX.num b c10) sm_X2_floatOf w_1_130 w_1_128 ⟨Nat.le_of_ble_eq_true rfl, Nat.le_of_ble_eq_true rfl⟩ ⟨rfl, rfl⟩ rfl hl.1 rfl (Nat.le_of_ble_eq_true rfl) dX4_make_43 ⟨Nat.le_of_ble_eq_true rfl, Nat.le_of_ble_eq_true rfl⟩) (fun r2 hr2 => ?_)
        subst hr2
        refine lv_f2d hx hb dX4_make_46 (n64_fin (fin_f2d c10)) ?_
        refine pc_f (rV (rest := []) S hK hM.pr cI0 (hX.eff hef) rfl (c_X0_madeOf l D cT s.heap hM.pr (ad 2 (cl (z.1 4 (cl k)))) (FP.f2d (lo32 b)) (hX.eff hef) hfe.2.1 hfe.2.2 (f2d_flo c10)) sm_X0_madeOf w_1_193 w_1_191 ⟨Nat.le_of_ble_eq_true rfl, Nat.le_of_ble_eq_true rfl⟩ ⟨rfl, rfl⟩ rfl hl.1 rfl (Nat.le_of_ble_eq_true rfl) dX4_make_47 ⟨Nat.le_of_ble_eq_true rfl, Nat.le_of_ble_eq_true rfl⟩) (fun r3 hr3 => ?_)
        subst hr3
        refine lv_fstore (lv' := [(5, .float (heldf (mkv (z.1 3 (cl (z.1 4 (cl k)))) (z.2.1 1 (cl (z.1 4 (cl k)))) (FP.f2d (lo32 b))))), (4, .ref (ad 2 (cl (z.1 4 (cl k))))), (0, .ref (ad 0 0)), (1, .int k), (2, .long b)]) hx hb dX4_make_50 hl (by decide) rfl (fun ls hl => ?_)
        refine lv_aload_n hx hb dX4_make_52 rfl (lv_at hl 2 rfl) ?_
        refine lv_aload_n hx hb dX4_make_53 rfl (lv_at hl 2 rfl) ?_
        refine hm_get S hK hM.pr cI4 (XS.c0 hX) 0 (by decide) w_1_41 rfl dX4_make_54 ?_
        refine lv_fload hx hb dX4_make_57 (lv_at hl 0 rfl) ?_
        refine pc_i (rV (rest := [.ref (ad 0 0)]) S hK hM.pr cI2 hX.num.1 rfl (c_X2_bitsOfFloat l D cT s.heap hM.pr hX.num (heldf (mkv (z.1 3 (cl (z.1 4 (cl k)))) (z.2.1 1 (cl (z.1 4 (cl k)))) (FP.f2d (lo32 b)))) hhf) sm_X2_bitsOfFloat w_1_154 w_1_152 ⟨Nat.le_of_ble_eq_true rfl, Nat.le_of_ble_eq_true rfl⟩ ⟨rfl, rfl⟩ rfl hl.1 rfl (Nat.le_of_ble_eq_true rfl) dX4_make_59 ⟨Nat.le_of_ble_eq_true rfl, Nat.le_of_ble_eq_true rfl⟩) (fun r4 hr4 => ?_)
        subst hr4
        refine lv_i2l hx hb dX4_make_62 rfl ?_
        refine mc_i hM (rVm (rest := []) S hK hM cI4 (XS.c0 hX) rfl (c_X4_tell l D cT hX hI hn (Int32.toInt64 (UInt32.toInt32 (heldf (mkv (z.1 3 (cl (z.1 4 (cl k)))) (z.2.1 1 (cl (z.1 4 (cl k)))) (FP.f2d (lo32 b)))))) s.heap.size) sm_X4_tell w_S_5 w_1_156 ⟨Nat.le_of_ble_eq_true rfl, Nat.le_of_ble_eq_true rfl⟩ ⟨rfl, rfl⟩ rfl hl.1 rfl (Nat.le_of_ble_eq_true rfl) dX4_make_63 ⟨Nat.le_of_ble_eq_true rfl, Nat.le_of_ble_eq_true rfl⟩) (fun r5 M6 H locs hpr5 hM _ _ _ => ?_)
        obtain ⟨rfl, hX⟩ := hpr5
        refine mr_i S hM hr hlocks dX4_make_66 ⟨Nat.le_of_ble_eq_true rfl, Nat.le_of_ble_eq_true rfl⟩ ?_
        have e9 : sp_make z k b = (1, (toldS z (Int32.toInt64 (UInt32.toInt32 (heldf (mkv (z.1 3 (cl (z.1 4 (cl k)))) (z.2.1 1 (cl (z.1 4 (cl k)))) (FP.f2d (lo32 b)))))))) := by unfold sp_make; rw [if_pos ⟨c3, c10⟩, if_neg n23, show bitB 0 (mde z (z.1 4 (cl k)) (FP.f2d (lo32 b))) = _ from if_pos rfl]; unfold mde; rw [d2f_f2d hhf]
        rw [e9]
        exact ⟨rfl, ad, rfl, hX⟩
    · skip
      refine lv_if_ne (tgt := 18) hx hb dX4_make_13 (by decide) (fun h => absurd rfl h) (fun _ => ?_)
      refine lv_iconst (v := (-1)) hx hb dX4_make_16 (by decide) ?_
      refine mr_i S hM hr hlocks dX4_make_17 ⟨Nat.le_of_ble_eq_true rfl, Nat.le_of_ble_eq_true rfl⟩ ?_
      have e9 : sp_make z k b = (-1, z) := by unfold sp_make; exact if_neg (fun q => c10 q.2)
      rw [e9]
      exact ⟨rfl, ad, rfl, hX⟩
  · skip
    refine lv_if_eq (tgt := 16) hx hb dX4_make_6 (by decide) (fun _ => ?_) (fun h => absurd (by decide) h)
    refine lv_iconst (v := (-1)) hx hb dX4_make_16 (by decide) ?_
    refine mr_i S hM hr hlocks dX4_make_17 ⟨Nat.le_of_ble_eq_true rfl, Nat.le_of_ble_eq_true rfl⟩ ?_
    have e9 : sp_make z k b = (-1, z) := by unfold sp_make; exact if_neg (fun q => c3 q.1)
    rw [e9]
    exact ⟨rfl, ad, rfl, hX⟩
set_option maxHeartbeats 4000000 in
set_option maxRecDepth 100000 in
theorem c_X4_rack (l : Launch) (D : va_G) (cT : Nat → ClassId) {M : hmp} {fu fd : Nat → UInt64} {ad : Nat → Nat → Nat} {z : SG} {n : Nat} (hX : XS cT fu fd ad M z) (hI : INV n z) (hn : n < 512) (r kd : Int32) (sz : Nat) : Met l yX4_rack (wz yX4_rack cX4_rack 3 (some .int)) ({ frames := 2, cells := 2, slots := 5, locals := 45 } : Room) (mP D cT [.ref (ad 0 0), .int r, .int kd] M sz) (mQi (fun rr MM => rr = (sp_rack z r kd).1 ∧ ∃ ad1, ad1 0 0 = ad 0 0 ∧ XS cT fu fd ad1 MM (sp_rack z r kd).2) D M sz) 2 5 (FA M sz) := by
  refine mk_m (by decide +kernel) (Nat.le_of_ble_eq_true rfl) ?_
  intro p e s m args below meth c S hK hsz hM hr hlocks hnm ls hl
  have hx := S.1
  have hb := S.2.1
  have hml := S.2.2.1
  have hown := S.2.2.2.1
  have hts := S.2.2.2.2
  have hl : lv_has ls 3 [(0, .ref (ad 0 0)), (1, .int r), (2, .int kd)] := hl
  refine lv_iload_n hx hb dX4_rack_0 rfl (lv_at hl 1 rfl) ?_
  refine lv_iconst (v := 3) hx hb dX4_rack_1 (by decide) ?_
  refine pc_b (rS (rest := []) S hK (c_X4_isBelow l D cT s.heap r 3 (n := 3) (by decide) rfl) sm_X4_isBelow w_1_77 ⟨Nat.le_of_ble_eq_true rfl, Nat.le_of_ble_eq_true rfl⟩ ⟨rfl, rfl⟩ rfl hl.1 rfl (Nat.le_of_ble_eq_true rfl) dX4_rack_2 ⟨Nat.le_of_ble_eq_true rfl, Nat.le_of_ble_eq_true rfl⟩) (fun c2 => ?_) (fun c2 => ?_)
  · skip
    refine lv_if_eq (tgt := 16) hx hb dX4_rack_5 (by decide) (fun h => absurd h (by decide)) (fun _ => ?_)
    refine lv_iload_n hx hb dX4_rack_8 rfl (lv_at hl 2 rfl) ?_
    refine lv_iconst (v := 3) hx hb dX4_rack_9 (by decide) ?_
    refine pc_b (rS (rest := []) S hK (c_X4_isBelow l D cT s.heap kd 3 (n := 3) (by decide) rfl) sm_X4_isBelow w_1_77 ⟨Nat.le_of_ble_eq_true rfl, Nat.le_of_ble_eq_true rfl⟩ ⟨rfl, rfl⟩ rfl hl.1 rfl (Nat.le_of_ble_eq_true rfl) dX4_rack_10 ⟨Nat.le_of_ble_eq_true rfl, Nat.le_of_ble_eq_true rfl⟩) (fun c10 => ?_) (fun c10 => ?_)
    · skip
      refine lv_if_ne (tgt := 18) hx hb dX4_rack_13 (by decide) (fun _ => ?_) (fun h => absurd h (by decide))
      refine lv_aload_n hx hb dX4_rack_18 rfl (lv_at hl 0 rfl) ?_
      refine hm_get S hK hM.pr cI4 (XS.c0 hX) 4 (by decide) w_1_45 rfl dX4_rack_19 ?_
      refine lv_iload_n hx hb dX4_rack_22 rfl (lv_at hl 1 rfl) ?_
      refine hm_new S hK hM cI3 w_1_37 w_1_214 w_1_8 (fs := [.int 0, .null]) (fun j hj => by rcases (show j = 0 ∨ j = 1 by omega) with rfl | rfl <;> rfl) (Nat.le_of_ble_eq_true rfl) (Nat.le_of_ble_eq_true rfl) dX4_rack_23 (fun q H M1 hq hM1 hM => ?_)
      obtain ⟨hX, hne⟩ := hX.frame hq hM1
      refine lv_dup hx hb dX4_rack_26 rfl ?_
      refine lv_iload_n hx hb dX4_rack_27 rfl (lv_at hl 2 rfl) ?_
      refine mc_v hM (rIm (rest := [.ref q, .int r, .ref (ad 0 7)]) S hK hM (c_X3_init l D cT q kd (up_at hM1) H.size) sm_X3_init rfl w_1_215 ⟨Nat.le_of_ble_eq_true rfl, Nat.le_of_ble_eq_true rfl⟩ ⟨rfl, rfl⟩ rfl hl.1 rfl (Nat.le_of_ble_eq_true rfl) dX4_rack_28 ⟨Nat.le_of_ble_eq_true rfl, Nat.le_of_ble_eq_true rfl⟩) (fun M2 H locs hp hM _ _ _ => ?_)
      obtain ⟨q2, N1, hq2, hN1, hM2⟩ := hp
      have hqq : q ≠ q2 := fun w => by have := up_at hM1; rw [w, hq2] at this; cases this
      obtain ⟨hX, hne2⟩ := hX.frame hq2 hN1
      have hX := hX.beside hne hM2
      have hp2 : M2 q2 = some (.inl (cT 5, 3, rQ (fun _ => none))) := by rw [hM2, va_up_ne _ _ (Ne.symm hqq)]; exact up_at hN1
      refine hm_aast S hK hM 7 hX.rcks rfl (up_at hM2) cI3.1 c2 dX4_rack_31 (fun H locs M3 hM3 hM => ?_)
      have hX := XS.nRck hX c2 (fun w => c10 (Or.inl w)) hne hne2 hqq (up_at hM2) hp2 hM3
      refine lv_iconst (v := 1) hx hb dX4_rack_32 (by decide) ?_
      refine mr_i S hM hr hlocks dX4_rack_33 ⟨Nat.le_of_ble_eq_true rfl, Nat.le_of_ble_eq_true rfl⟩ ?_
      have e9 : sp_rack z r kd = (1, rckZ z r kd) := by unfold sp_rack; exact if_pos ⟨c2, c10⟩
      rw [e9]
      exact ⟨rfl, _, (congrFun (upA_c _ (by decide)) 0).trans (congrFun (upA_c _ (by decide)) 0), hX⟩
    · skip
      refine lv_if_ne (tgt := 18) hx hb dX4_rack_13 (by decide) (fun h => absurd rfl h) (fun _ => ?_)
      refine lv_iconst (v := (-1)) hx hb dX4_rack_16 (by decide) ?_
      refine mr_i S hM hr hlocks dX4_rack_17 ⟨Nat.le_of_ble_eq_true rfl, Nat.le_of_ble_eq_true rfl⟩ ?_
      have e9 : sp_rack z r kd = (-1, z) := by unfold sp_rack; exact if_neg (fun q => c10 q.2)
      rw [e9]
      exact ⟨rfl, ad, rfl, hX⟩
  · skip
    refine lv_if_eq (tgt := 16) hx hb dX4_rack_5 (by decide) (fun _ => ?_) (fun h => absurd (by decide) h)
    refine lv_iconst (v := (-1)) hx hb dX4_rack_16 (by decide) ?_
    refine mr_i S hM hr hlocks dX4_rack_17 ⟨Nat.le_of_ble_eq_true rfl, Nat.le_of_ble_eq_true rfl⟩ ?_
    have e9 : sp_rack z r kd = (-1, z) := by unfold sp_rack; exact if_neg (fun q => c2 q.1)
    rw [e9]
    exact ⟨rfl, ad, rfl, hX⟩
set_option maxHeartbeats 4000000 in
set_option maxRecDepth 100000 in
theorem c_X4_hang (l : Launch) (D : va_G) (cT : Nat → ClassId) {M : hmp} {fu fd : Nat → UInt64} {ad : Nat → Nat → Nat} {z : SG} {n : Nat} (hX : XS cT fu fd ad M z) (hI : INV n z) (hn : n < 512) (r i k : Int32) (sz : Nat) : Met l yX4_hang (wz yX4_hang cX4_hang 6 (some .int)) ({ frames := 1, cells := 0, slots := 0, locals := 21 } : Room) (mP D cT [.ref (ad 0 0), .int r, .int i, .int k] M sz) (mQi (fun rr MM => rr = (sp_hang z r i k).1 ∧ ∃ ad1, ad1 0 0 = ad 0 0 ∧ XS cT fu fd ad1 MM (sp_hang z r i k).2) D M sz) 0 0 (FA M sz) := by
  refine mk_m (by decide +kernel) (Nat.le_of_ble_eq_true rfl) ?_
  intro p e s m args below meth c S hK hsz hM hr hlocks hnm ls hl
  have hx := S.1
  have hb := S.2.1
  have hml := S.2.2.1
  have hown := S.2.2.2.1
  have hts := S.2.2.2.2
  have hl : lv_has ls 6 [(0, .ref (ad 0 0)), (1, .int r), (2, .int i), (3, .int k)] := hl
  refine lv_iload_n hx hb dX4_hang_0 rfl (lv_at hl 1 rfl) ?_
  refine lv_iconst (v := 3) hx hb dX4_hang_1 (by decide) ?_
  refine pc_b (rS (rest := []) S hK (c_X4_isBelow l D cT s.heap r 3 (n := 3) (by decide) rfl) sm_X4_isBelow w_1_77 ⟨Nat.le_of_ble_eq_true rfl, Nat.le_of_ble_eq_true rfl⟩ ⟨rfl, rfl⟩ rfl hl.1 rfl (Nat.le_of_ble_eq_true rfl) dX4_hang_2 ⟨Nat.le_of_ble_eq_true rfl, Nat.le_of_ble_eq_true rfl⟩) (fun c2 => ?_) (fun c2 => ?_)
  · skip
    refine lv_if_eq (tgt := 17) hx hb dX4_hang_5 (by decide) (fun h => absurd h (by decide)) (fun _ => ?_)
    refine lv_iload_n hx hb dX4_hang_8 rfl (lv_at hl 3 rfl) ?_
    refine lv_bipush (v := 6) hx hb dX4_hang_9 (by decide) ?_
    refine pc_b (rS (rest := []) S hK (c_X4_isBelow l D cT s.heap k 6 (n := 6) (by decide) rfl) sm_X4_isBelow w_1_77 ⟨Nat.le_of_ble_eq_true rfl, Nat.le_of_ble_eq_true rfl⟩ ⟨rfl, rfl⟩ rfl hl.1 rfl (Nat.le_of_ble_eq_true rfl) dX4_hang_11 ⟨Nat.le_of_ble_eq_true rfl, Nat.le_of_ble_eq_true rfl⟩) (fun c11 => ?_) (fun c11 => ?_)
    · skip
      refine lv_if_ne (tgt := 19) hx hb dX4_hang_14 (by decide) (fun _ => ?_) (fun h => absurd h (by decide))
      refine lv_aload_n hx hb dX4_hang_19 rfl (lv_at hl 0 rfl) ?_
      refine hm_get S hK hM.pr cI4 (XS.c0 hX) 4 (by decide) w_1_45 rfl dX4_hang_20 ?_
      refine lv_iload_n hx hb dX4_hang_23 rfl (lv_at hl 1 rfl) ?_
      refine hx_rcks S hK hM.pr hX c2 dX4_hang_24 (fun n24 => ?_) (fun n24 => ?_)
      · skip
        refine lv_astoreN (lv' := [(4, .null), (0, .ref (ad 0 0)), (1, .int r), (2, .int i), (3, .int k)]) hx hb dX4_hang_25 hl (by decide) rfl (fun ls hl => ?_)
        refine lv_aloadN hx hb dX4_hang_27 (lv_at hl 0 rfl) ?_
        refine lv_ifnonnullN hx hb dX4_hang_29 ?_
        refine lv_iconst (v := 1) hx hb dX4_hang_32 (by decide) ?_
        refine pc_i (rS (rest := []) S hK (c_X4_answerFor l D cT s.heap 1) sm_X4_answerFor w_1_104 ⟨Nat.le_of_ble_eq_true rfl, Nat.le_of_ble_eq_true rfl⟩ ⟨rfl, rfl⟩ rfl hl.1 rfl (Nat.le_of_ble_eq_true rfl) dX4_hang_33 ⟨Nat.le_of_ble_eq_true rfl, Nat.le_of_ble_eq_true rfl⟩) (fun r1 hr1 => ?_)
        subst hr1
        refine mr_i S hM hr hlocks dX4_hang_36 ⟨Nat.le_of_ble_eq_true rfl, Nat.le_of_ble_eq_true rfl⟩ ?_
        have e9 : sp_hang z r i k = ((-10 - 1), z) := by unfold sp_hang; rw [if_pos ⟨c2, c11⟩, if_pos n24]; rfl
        rw [e9]
        exact ⟨rfl, ad, rfl, hX⟩
      · skip
        refine lv_astore (lv' := [(4, .ref (ad 3 (cl r))), (0, .ref (ad 0 0)), (1, .int r), (2, .int i), (3, .int k)]) hx hb dX4_hang_25 hl (by decide) rfl (fun ls hl => ?_)
        refine lv_aload hx hb dX4_hang_27 (lv_at hl 0 rfl) ?_
        refine lv_ifnonnull (tgt := 37) hx hb dX4_hang_29 (by decide) ?_
        refine lv_iload_n hx hb dX4_hang_37 rfl (lv_at hl 3 rfl) ?_
        refine lv_iconst (v := 3) hx hb dX4_hang_38 (by decide) ?_
        refine pc_b (rS (rest := []) S hK (c_X4_isBelow l D cT s.heap i 3 (n := 3) (by decide) rfl) sm_X4_isBelow w_1_77 ⟨Nat.le_of_ble_eq_true rfl, Nat.le_of_ble_eq_true rfl⟩ ⟨rfl, rfl⟩ rfl hl.1 rfl (Nat.le_of_ble_eq_true rfl) dX4_hang_39 ⟨Nat.le_of_ble_eq_true rfl, Nat.le_of_ble_eq_true rfl⟩) (fun c39 => ?_) (fun c39 => ?_)
        · skip
          refine lv_if_ne (tgt := 50) hx hb dX4_hang_42 (by decide) (fun _ => ?_) (fun h => absurd h (by decide))
          refine lv_aload_n hx hb dX4_hang_50 rfl (lv_at hl 1 rfl) ?_
          refine hm_get S hK hM.pr cI4 (XS.c0 hX) 3 (by decide) w_1_44 rfl dX4_hang_51 ?_
          refine lv_iload_n hx hb dX4_hang_54 rfl (lv_at hl 4 rfl) ?_
          refine hx_effs S hK hM.pr hX c11 dX4_hang_55 (fun n55 => ?_) (fun n55 => ?_)
          · skip
            refine lv_astoreN (lv' := [(5, .null), (4, .ref (ad 3 (cl r))), (0, .ref (ad 0 0)), (1, .int r), (2, .int i), (3, .int k)]) hx hb dX4_hang_56 hl (by decide) rfl (fun ls hl => ?_)
            refine lv_aloadN hx hb dX4_hang_58 (lv_at hl 0 rfl) ?_
            refine lv_ifnullN (tgt := 81) hx hb dX4_hang_60 (by decide) ?_
            refine lv_aload hx hb dX4_hang_81 (lv_at hl 1 rfl) ?_
            refine hm_get S hK hM.pr cI3 (hX.rck (in_cl c2) n24) 1 (by decide) w_1_223 rfl dX4_hang_83 ?_
            refine lv_iload_n hx hb dX4_hang_86 rfl (lv_at hl 4 rfl) ?_
            refine lv_aloadN hx hb dX4_hang_87 (lv_at hl 0 rfl) ?_
            refine hm_aastN S hK hM 5 (hX.plc (in_cl c2) n24) rfl c39 dX4_hang_89 (fun H locs M2 hM2 hM => ?_)
            have hX := XS.uPl (M1 := M2) (x := (z.1 4 (cl k))) (in_cl c2) n24 (in_cl c39) hX (by rw [show orf (ad 2) (z.1 4 (cl k)) = none from if_pos n55]; exact hM2)
            refine lv_iconst (v := 1) hx hb dX4_hang_90 (by decide) ?_
            refine mr_i S hM hr hlocks dX4_hang_91 ⟨Nat.le_of_ble_eq_true rfl, Nat.le_of_ble_eq_true rfl⟩ ?_
            have e9 : sp_hang z r i k = (1, (setI z 6 (3 * cl r + cl i) (z.1 4 (cl k)))) := by unfold sp_hang; rw [if_pos ⟨c2, c11⟩, if_neg n24, if_pos c39, if_neg (fun q => q.1 n55)]; rfl
            rw [e9]
            exact ⟨rfl, ad, rfl, hX⟩
          · skip
            refine lv_astore (lv' := [(5, .ref (ad 2 (cl (z.1 4 (cl k))))), (4, .ref (ad 3 (cl r))), (0, .ref (ad 0 0)), (1, .int r), (2, .int i), (3, .int k)]) hx hb dX4_hang_56 hl (by decide) rfl (fun ls hl => ?_)
            refine lv_aload hx hb dX4_hang_58 (lv_at hl 0 rfl) ?_
            refine lv_ifnull hx hb dX4_hang_60 ?_
            have hef := hI.efr (show n ≤ 512 by omega) (in_cl c11) n55
            refine lv_aload hx hb dX4_hang_63 (lv_at hl 0 rfl) ?_
            refine lv_aload hx hb dX4_hang_65 (lv_at hl 1 rfl) ?_
            refine hm_get S hK hM.pr cI3 (hX.rck (in_cl c2) n24) 0 (by decide) w_1_221 rfl dX4_hang_67 ?_
            refine pc_b (rV (rest := []) S hK hM.pr cI0 (hX.eff hef) rfl (c_X0_isOf l D cT s.heap hM.pr (ad 2 (cl (z.1 4 (cl k)))) (z.1 5 (cl r)) (hX.eff hef)) sm_X0_isOf w_1_235 w_1_233 ⟨Nat.le_of_ble_eq_true rfl, Nat.le_of_ble_eq_true rfl⟩ ⟨rfl, rfl⟩ rfl hl.1 rfl (Nat.le_of_ble_eq_true rfl) dX4_hang_70 ⟨Nat.le_of_ble_eq_true rfl, Nat.le_of_ble_eq_true rfl⟩) (fun c70 => ?_) (fun c70 => ?_)
            · skip
              refine lv_if_ne (tgt := 81) hx hb dX4_hang_73 (by decide) (fun _ => ?_) (fun h => absurd h (by decide))
              refine lv_aload hx hb dX4_hang_81 (lv_at hl 1 rfl) ?_
              refine hm_get S hK hM.pr cI3 (hX.rck (in_cl c2) n24) 1 (by decide) w_1_223 rfl dX4_hang_83 ?_
              refine lv_iload_n hx hb dX4_hang_86 rfl (lv_at hl 4 rfl) ?_
              refine lv_aload hx hb dX4_hang_87 (lv_at hl 0 rfl) ?_
              refine hm_aast S hK hM 5 (hX.plc (in_cl c2) n24) rfl (hX.eff hef) cI0.1 c39 dX4_hang_89 (fun H locs M2 hM2 hM => ?_)
              have hX := XS.uPl (M1 := M2) (x := (z.1 4 (cl k))) (in_cl c2) n24 (in_cl c39) hX (by rw [show orf (ad 2) (z.1 4 (cl k)) = some (ad 2 (cl (z.1 4 (cl k)))) from if_neg n55]; exact hM2)
              refine lv_iconst (v := 1) hx hb dX4_hang_90 (by decide) ?_
              refine mr_i S hM hr hlocks dX4_hang_91 ⟨Nat.le_of_ble_eq_true rfl, Nat.le_of_ble_eq_true rfl⟩ ?_
              have e9 : sp_hang z r i k = (1, (setI z 6 (3 * cl r + cl i) (z.1 4 (cl k)))) := by unfold sp_hang; rw [if_pos ⟨c2, c11⟩, if_neg n24, if_pos c39, if_neg (fun q => q.2 c70)]; rfl
              rw [e9]
              exact ⟨rfl, ad, rfl, hX⟩
            · skip
              refine lv_if_ne (tgt := 81) hx hb dX4_hang_73 (by decide) (fun h => absurd rfl h) (fun _ => ?_)
              refine lv_iconst (v := 4) hx hb dX4_hang_76 (by decide) ?_
              refine pc_i (rS (rest := []) S hK (c_X4_answerFor l D cT s.heap 4) sm_X4_answerFor w_1_104 ⟨Nat.le_of_ble_eq_true rfl, Nat.le_of_ble_eq_true rfl⟩ ⟨rfl, rfl⟩ rfl hl.1 rfl (Nat.le_of_ble_eq_true rfl) dX4_hang_77 ⟨Nat.le_of_ble_eq_true rfl, Nat.le_of_ble_eq_true rfl⟩) (fun r2 hr2 => ?_)
              subst hr2
              refine mr_i S hM hr hlocks dX4_hang_80 ⟨Nat.le_of_ble_eq_true rfl, Nat.le_of_ble_eq_true rfl⟩ ?_
              have e9 : sp_hang z r i k = ((-10 - 4), z) := by unfold sp_hang; rw [if_pos ⟨c2, c11⟩, if_neg n24, if_pos c39, if_pos ⟨n55, c70⟩]; rfl
              rw [e9]
              exact ⟨rfl, ad, rfl, hX⟩
        · skip
          refine lv_if_ne (tgt := 50) hx hb dX4_hang_42 (by decide) (fun h => absurd rfl h) (fun _ => ?_)
          refine lv_iconst (v := 2) hx hb dX4_hang_45 (by decide) ?_
          refine pc_i (rS (rest := []) S hK (c_X4_answerFor l D cT s.heap 2) sm_X4_answerFor w_1_104 ⟨Nat.le_of_ble_eq_true rfl, Nat.le_of_ble_eq_true rfl⟩ ⟨rfl, rfl⟩ rfl hl.1 rfl (Nat.le_of_ble_eq_true rfl) dX4_hang_46 ⟨Nat.le_of_ble_eq_true rfl, Nat.le_of_ble_eq_true rfl⟩) (fun r3 hr3 => ?_)
          subst hr3
          refine mr_i S hM hr hlocks dX4_hang_49 ⟨Nat.le_of_ble_eq_true rfl, Nat.le_of_ble_eq_true rfl⟩ ?_
          have e9 : sp_hang z r i k = ((-10 - 2), z) := by unfold sp_hang; rw [if_pos ⟨c2, c11⟩, if_neg n24, if_neg c39]; rfl
          rw [e9]
          exact ⟨rfl, ad, rfl, hX⟩
    · skip
      refine lv_if_ne (tgt := 19) hx hb dX4_hang_14 (by decide) (fun h => absurd rfl h) (fun _ => ?_)
      refine lv_iconst (v := (-1)) hx hb dX4_hang_17 (by decide) ?_
      refine mr_i S hM hr hlocks dX4_hang_18 ⟨Nat.le_of_ble_eq_true rfl, Nat.le_of_ble_eq_true rfl⟩ ?_
      have e9 : sp_hang z r i k = (-1, z) := by unfold sp_hang; exact if_neg (fun q => c11 q.2)
      rw [e9]
      exact ⟨rfl, ad, rfl, hX⟩
  · skip
    refine lv_if_eq (tgt := 17) hx hb dX4_hang_5 (by decide) (fun _ => ?_) (fun h => absurd (by decide) h)
    refine lv_iconst (v := (-1)) hx hb dX4_hang_17 (by decide) ?_
    refine mr_i S hM hr hlocks dX4_hang_18 ⟨Nat.le_of_ble_eq_true rfl, Nat.le_of_ble_eq_true rfl⟩ ?_
    have e9 : sp_hang z r i k = (-1, z) := by unfold sp_hang; exact if_neg (fun q => c2 q.1)
    rw [e9]
    exact ⟨rfl, ad, rfl, hX⟩
set_option maxHeartbeats 4000000 in
set_option maxRecDepth 100000 in
theorem c_X4_take (l : Launch) (D : va_G) (cT : Nat → ClassId) {M : hmp} {fu fd : Nat → UInt64} {ad : Nat → Nat → Nat} {z : SG} {n : Nat} (hX : XS cT fu fd ad M z) (hI : INV n z) (hn : n < 512) (r i kd k : Int32) (sz : Nat) : Met l yX4_take (wz yX4_take cX4_take 7 (some .int)) ({ frames := 1, cells := 0, slots := 0, locals := 21 } : Room) (mP D cT [.ref (ad 0 0), .int r, .int i, .int kd, .int k] M sz) (mQi (fun rr MM => rr = (sp_take z r i kd k).1 ∧ ∃ ad1, ad1 0 0 = ad 0 0 ∧ XS cT fu fd ad1 MM (sp_take z r i kd k).2) D M sz) 0 0 (FA M sz) := by
  refine mk_m (by decide +kernel) (Nat.le_of_ble_eq_true rfl) ?_
  intro p e s m args below meth c S hK hsz hM hr hlocks hnm ls hl
  have hx := S.1
  have hb := S.2.1
  have hml := S.2.2.1
  have hown := S.2.2.2.1
  have hts := S.2.2.2.2
  have hl : lv_has ls 7 [(0, .ref (ad 0 0)), (1, .int r), (2, .int i), (3, .int kd), (4, .int k)] := hl
  refine lv_iload_n hx hb dX4_take_0 rfl (lv_at hl 1 rfl) ?_
  refine lv_iconst (v := 3) hx hb dX4_take_1 (by decide) ?_
  refine pc_b (rS (rest := []) S hK (c_X4_isBelow l D cT s.heap r 3 (n := 3) (by decide) rfl) sm_X4_isBelow w_1_77 ⟨Nat.le_of_ble_eq_true rfl, Nat.le_of_ble_eq_true rfl⟩ ⟨rfl, rfl⟩ rfl hl.1 rfl (Nat.le_of_ble_eq_true rfl) dX4_take_2 ⟨Nat.le_of_ble_eq_true rfl, Nat.le_of_ble_eq_true rfl⟩) (fun c2 => ?_) (fun c2 => ?_)
  · skip
    refine lv_if_eq (tgt := 26) hx hb dX4_take_5 (by decide) (fun h => absurd h (by decide)) (fun _ => ?_)
    refine lv_iload_n hx hb dX4_take_8 rfl (lv_at hl 3 rfl) ?_
    refine lv_iconst (v := 3) hx hb dX4_take_9 (by decide) ?_
    refine pc_b (rS (rest := []) S hK (c_X4_isBelow l D cT s.heap kd 3 (n := 3) (by decide) rfl) sm_X4_isBelow w_1_77 ⟨Nat.le_of_ble_eq_true rfl, Nat.le_of_ble_eq_true rfl⟩ ⟨rfl, rfl⟩ rfl hl.1 rfl (Nat.le_of_ble_eq_true rfl) dX4_take_10 ⟨Nat.le_of_ble_eq_true rfl, Nat.le_of_ble_eq_true rfl⟩) (fun c10 => ?_) (fun c10 => ?_)
    · skip
      refine lv_if_eq (tgt := 26) hx hb dX4_take_13 (by decide) (fun h => absurd h (by decide)) (fun _ => ?_)
      refine lv_iload hx hb dX4_take_16 (lv_at hl 4 rfl) ?_
      refine lv_bipush (v := 6) hx hb dX4_take_18 (by decide) ?_
      refine pc_b (rS (rest := []) S hK (c_X4_isBelow l D cT s.heap k 6 (n := 6) (by decide) rfl) sm_X4_isBelow w_1_77 ⟨Nat.le_of_ble_eq_true rfl, Nat.le_of_ble_eq_true rfl⟩ ⟨rfl, rfl⟩ rfl hl.1 rfl (Nat.le_of_ble_eq_true rfl) dX4_take_20 ⟨Nat.le_of_ble_eq_true rfl, Nat.le_of_ble_eq_true rfl⟩) (fun c20 => ?_) (fun c20 => ?_)
      · skip
        refine lv_if_ne (tgt := 28) hx hb dX4_take_23 (by decide) (fun _ => ?_) (fun h => absurd h (by decide))
        refine lv_aload_n hx hb dX4_take_28 rfl (lv_at hl 0 rfl) ?_
        refine hm_get S hK hM.pr cI4 (XS.c0 hX) 4 (by decide) w_1_45 rfl dX4_take_29 ?_
        refine lv_iload_n hx hb dX4_take_32 rfl (lv_at hl 1 rfl) ?_
        refine hx_rcks S hK hM.pr hX c2 dX4_take_33 (fun n33 => ?_) (fun n33 => ?_)
        · skip
          refine lv_astoreN (lv' := [(5, .null), (0, .ref (ad 0 0)), (1, .int r), (2, .int i), (3, .int kd), (4, .int k)]) hx hb dX4_take_34 hl (by decide) rfl (fun ls hl => ?_)
          refine lv_aloadN hx hb dX4_take_36 (lv_at hl 0 rfl) ?_
          refine lv_ifnonnullN hx hb dX4_take_38 ?_
          refine lv_iconst (v := 1) hx hb dX4_take_41 (by decide) ?_
          refine pc_i (rS (rest := []) S hK (c_X4_answerFor l D cT s.heap 1) sm_X4_answerFor w_1_104 ⟨Nat.le_of_ble_eq_true rfl, Nat.le_of_ble_eq_true rfl⟩ ⟨rfl, rfl⟩ rfl hl.1 rfl (Nat.le_of_ble_eq_true rfl) dX4_take_42 ⟨Nat.le_of_ble_eq_true rfl, Nat.le_of_ble_eq_true rfl⟩) (fun r1 hr1 => ?_)
          subst hr1
          refine mr_i S hM hr hlocks dX4_take_45 ⟨Nat.le_of_ble_eq_true rfl, Nat.le_of_ble_eq_true rfl⟩ ?_
          have e9 : sp_take z r i kd k = ((-10 - 1), z) := by unfold sp_take; rw [if_pos ⟨c2, c10, c20⟩, if_pos n33]; rfl
          rw [e9]
          exact ⟨rfl, ad, rfl, hX⟩
        · skip
          refine lv_astore (lv' := [(5, .ref (ad 3 (cl r))), (0, .ref (ad 0 0)), (1, .int r), (2, .int i), (3, .int kd), (4, .int k)]) hx hb dX4_take_34 hl (by decide) rfl (fun ls hl => ?_)
          refine lv_aload hx hb dX4_take_36 (lv_at hl 0 rfl) ?_
          refine lv_ifnonnull (tgt := 46) hx hb dX4_take_38 (by decide) ?_
          refine lv_iload_n hx hb dX4_take_46 rfl (lv_at hl 3 rfl) ?_
          refine lv_iconst (v := 3) hx hb dX4_take_47 (by decide) ?_
          refine pc_b (rS (rest := []) S hK (c_X4_isBelow l D cT s.heap i 3 (n := 3) (by decide) rfl) sm_X4_isBelow w_1_77 ⟨Nat.le_of_ble_eq_true rfl, Nat.le_of_ble_eq_true rfl⟩ ⟨rfl, rfl⟩ rfl hl.1 rfl (Nat.le_of_ble_eq_true rfl) dX4_take_48 ⟨Nat.le_of_ble_eq_true rfl, Nat.le_of_ble_eq_true rfl⟩) (fun c48 => ?_) (fun c48 => ?_)
          · skip
            refine lv_if_ne (tgt := 59) hx hb dX4_take_51 (by decide) (fun _ => ?_) (fun h => absurd h (by decide))
            refine lv_aload hx hb dX4_take_59 (lv_at hl 0 rfl) ?_
            refine hm_get S hK hM.pr cI3 (hX.rck (in_cl c2) n33) 1 (by decide) w_1_223 rfl dX4_take_61 ?_
            refine lv_iload_n hx hb dX4_take_64 rfl (lv_at hl 3 rfl) ?_
            refine hx_plc S hK hM.pr hX (in_cl c2) n33 c48 dX4_take_65 (fun n65 => ?_) (fun n65 => ?_)
            · skip
              refine lv_astoreN (lv' := [(6, .null), (5, .ref (ad 3 (cl r))), (0, .ref (ad 0 0)), (1, .int r), (2, .int i), (3, .int kd), (4, .int k)]) hx hb dX4_take_66 hl (by decide) rfl (fun ls hl => ?_)
              refine lv_aloadN hx hb dX4_take_68 (lv_at hl 0 rfl) ?_
              refine lv_ifnullN (tgt := 87) hx hb dX4_take_70 (by decide) ?_
              refine lv_aload_n hx hb dX4_take_87 rfl (lv_at hl 2 rfl) ?_
              refine hm_get S hK hM.pr cI4 (XS.c0 hX) 3 (by decide) w_1_44 rfl dX4_take_88 ?_
              refine lv_iload hx hb dX4_take_91 (lv_at hl 6 rfl) ?_
              refine lv_aloadN hx hb dX4_take_93 (lv_at hl 0 rfl) ?_
              refine hm_aastN S hK hM 5 hX.effs rfl c20 dX4_take_95 (fun H locs M2 hM2 hM => ?_)
              have hX := XS.uEf (M1 := M2) (x := (z.1 6 (3 * cl r + cl i))) (in_cl c20) hX (by rw [show orf (ad 2) (z.1 6 (3 * cl r + cl i)) = none from if_pos n65]; exact hM2)
              refine lv_aloadN hx hb dX4_take_96 (lv_at hl 0 rfl) ?_
              refine lv_ifnullN (tgt := 105) hx hb dX4_take_98 (by decide) ?_
              refine lv_iconst (v := 0) hx hb dX4_take_105 (by decide) ?_
              refine mr_i S hM hr hlocks dX4_take_106 ⟨Nat.le_of_ble_eq_true rfl, Nat.le_of_ble_eq_true rfl⟩ ?_
              have e9 : sp_take z r i kd k = (0, (setI z 4 (cl k) (z.1 6 (3 * cl r + cl i)))) := by unfold sp_take; rw [if_pos ⟨c2, c10, c20⟩, if_neg n33, if_pos c48, if_neg (fun q => q.1 n65), show (if z.1 6 (3 * cl r + cl i) < 0 then (0 : Int32) else 1) = 0 from if_pos n65]; rfl
              rw [e9]
              exact ⟨rfl, ad, rfl, hX⟩
            · skip
              refine lv_astore (lv' := [(6, .ref (ad 2 (cl (z.1 6 (3 * (cl r) + (cl i)))))), (5, .ref (ad 3 (cl r))), (0, .ref (ad 0 0)), (1, .int r), (2, .int i), (3, .int kd), (4, .int k)]) hx hb dX4_take_66 hl (by decide) rfl (fun ls hl => ?_)
              refine lv_aload hx hb dX4_take_68 (lv_at hl 0 rfl) ?_
              refine lv_ifnull hx hb dX4_take_70 ?_
              have hef := hI.hkr (show n ≤ 512 by omega) (show 3 * cl r + cl i < 9 by have := in_cl c2; have := in_cl c48; omega) n65
              refine lv_aload hx hb dX4_take_73 (lv_at hl 0 rfl) ?_
              refine lv_iload_n hx hb dX4_take_75 rfl (lv_at hl 5 rfl) ?_
              refine pc_b (rV (rest := []) S hK hM.pr cI0 (hX.eff hef) rfl (c_X0_isOf l D cT s.heap hM.pr (ad 2 (cl (z.1 6 (3 * (cl r) + (cl i))))) kd (hX.eff hef)) sm_X0_isOf w_1_235 w_1_233 ⟨Nat.le_of_ble_eq_true rfl, Nat.le_of_ble_eq_true rfl⟩ ⟨rfl, rfl⟩ rfl hl.1 rfl (Nat.le_of_ble_eq_true rfl) dX4_take_76 ⟨Nat.le_of_ble_eq_true rfl, Nat.le_of_ble_eq_true rfl⟩) (fun c76 => ?_) (fun c76 => ?_)
              · skip
                refine lv_if_ne (tgt := 87) hx hb dX4_take_79 (by decide) (fun _ => ?_) (fun h => absurd h (by decide))
                refine lv_aload_n hx hb dX4_take_87 rfl (lv_at hl 2 rfl) ?_
                refine hm_get S hK hM.pr cI4 (XS.c0 hX) 3 (by decide) w_1_44 rfl dX4_take_88 ?_
                refine lv_iload hx hb dX4_take_91 (lv_at hl 6 rfl) ?_
                refine lv_aload hx hb dX4_take_93 (lv_at hl 0 rfl) ?_
                refine hm_aast S hK hM 5 hX.effs rfl (hX.eff hef) cI0.1 c20 dX4_take_95 (fun H locs M2 hM2 hM => ?_)
                have hX := XS.uEf (M1 := M2) (x := (z.1 6 (3 * cl r + cl i))) (in_cl c20) hX (by rw [show orf (ad 2) (z.1 6 (3 * cl r + cl i)) = some (ad 2 (cl (z.1 6 (3 * cl r + cl i)))) from if_neg n65]; exact hM2)
                refine lv_aload hx hb dX4_take_96 (lv_at hl 0 rfl) ?_
                refine lv_ifnull hx hb dX4_take_98 ?_
                refine lv_iconst (v := 1) hx hb dX4_take_101 (by decide) ?_
                refine lv_goto (tgt := 106) hx hb dX4_take_102 (by decide) ?_
                refine mr_i S hM hr hlocks dX4_take_106 ⟨Nat.le_of_ble_eq_true rfl, Nat.le_of_ble_eq_true rfl⟩ ?_
                have e9 : sp_take z r i kd k = (1, (setI z 4 (cl k) (z.1 6 (3 * cl r + cl i)))) := by unfold sp_take; rw [if_pos ⟨c2, c10, c20⟩, if_neg n33, if_pos c48, if_neg (fun q => q.2 c76), show (if z.1 6 (3 * cl r + cl i) < 0 then (0 : Int32) else 1) = 1 from if_neg n65]; rfl
                rw [e9]
                exact ⟨rfl, ad, rfl, hX⟩
              · skip
                refine lv_if_ne (tgt := 87) hx hb dX4_take_79 (by decide) (fun h => absurd rfl h) (fun _ => ?_)
                refine lv_iconst (v := 3) hx hb dX4_take_82 (by decide) ?_
                refine pc_i (rS (rest := []) S hK (c_X4_answerFor l D cT s.heap 3) sm_X4_answerFor w_1_104 ⟨Nat.le_of_ble_eq_true rfl, Nat.le_of_ble_eq_true rfl⟩ ⟨rfl, rfl⟩ rfl hl.1 rfl (Nat.le_of_ble_eq_true rfl) dX4_take_83 ⟨Nat.le_of_ble_eq_true rfl, Nat.le_of_ble_eq_true rfl⟩) (fun r2 hr2 => ?_)
                subst hr2
                refine mr_i S hM hr hlocks dX4_take_86 ⟨Nat.le_of_ble_eq_true rfl, Nat.le_of_ble_eq_true rfl⟩ ?_
                have e9 : sp_take z r i kd k = ((-10 - 3), z) := by unfold sp_take; rw [if_pos ⟨c2, c10, c20⟩, if_neg n33, if_pos c48, if_pos ⟨n65, c76⟩]; rfl
                rw [e9]
                exact ⟨rfl, ad, rfl, hX⟩
          · skip
            refine lv_if_ne (tgt := 59) hx hb dX4_take_51 (by decide) (fun h => absurd rfl h) (fun _ => ?_)
            refine lv_iconst (v := 2) hx hb dX4_take_54 (by decide) ?_
            refine pc_i (rS (rest := []) S hK (c_X4_answerFor l D cT s.heap 2) sm_X4_answerFor w_1_104 ⟨Nat.le_of_ble_eq_true rfl, Nat.le_of_ble_eq_true rfl⟩ ⟨rfl, rfl⟩ rfl hl.1 rfl (Nat.le_of_ble_eq_true rfl) dX4_take_55 ⟨Nat.le_of_ble_eq_true rfl, Nat.le_of_ble_eq_true rfl⟩) (fun r3 hr3 => ?_)
            subst hr3
            refine mr_i S hM hr hlocks dX4_take_58 ⟨Nat.le_of_ble_eq_true rfl, Nat.le_of_ble_eq_true rfl⟩ ?_
            have e9 : sp_take z r i kd k = ((-10 - 2), z) := by unfold sp_take; rw [if_pos ⟨c2, c10, c20⟩, if_neg n33, if_neg c48]; rfl
            rw [e9]
            exact ⟨rfl, ad, rfl, hX⟩
      · skip
        refine lv_if_ne (tgt := 28) hx hb dX4_take_23 (by decide) (fun h => absurd rfl h) (fun _ => ?_)
        refine lv_iconst (v := (-1)) hx hb dX4_take_26 (by decide) ?_
        refine mr_i S hM hr hlocks dX4_take_27 ⟨Nat.le_of_ble_eq_true rfl, Nat.le_of_ble_eq_true rfl⟩ ?_
        have e9 : sp_take z r i kd k = (-1, z) := by unfold sp_take; exact if_neg (fun q => c20 q.2.2)
        rw [e9]
        exact ⟨rfl, ad, rfl, hX⟩
    · skip
      refine lv_if_eq (tgt := 26) hx hb dX4_take_13 (by decide) (fun _ => ?_) (fun h => absurd (by decide) h)
      refine lv_iconst (v := (-1)) hx hb dX4_take_26 (by decide) ?_
      refine mr_i S hM hr hlocks dX4_take_27 ⟨Nat.le_of_ble_eq_true rfl, Nat.le_of_ble_eq_true rfl⟩ ?_
      have e9 : sp_take z r i kd k = (-1, z) := by unfold sp_take; exact if_neg (fun q => c10 q.2.1)
      rw [e9]
      exact ⟨rfl, ad, rfl, hX⟩
  · skip
    refine lv_if_eq (tgt := 26) hx hb dX4_take_5 (by decide) (fun _ => ?_) (fun h => absurd (by decide) h)
    refine lv_iconst (v := (-1)) hx hb dX4_take_26 (by decide) ?_
    refine mr_i S hM hr hlocks dX4_take_27 ⟨Nat.le_of_ble_eq_true rfl, Nat.le_of_ble_eq_true rfl⟩ ?_
    have e9 : sp_take z r i kd k = (-1, z) := by unfold sp_take; exact if_neg (fun q => c2 q.1)
    rw [e9]
    exact ⟨rfl, ad, rfl, hX⟩
set_option maxHeartbeats 4000000 in
set_option maxRecDepth 100000 in
theorem c_X4_head (l : Launch) (D : va_G) (cT : Nat → ClassId) {M : hmp} {fu fd : Nat → UInt64} {ad : Nat → Nat → Nat} {z : SG} {n : Nat} (hX : XS cT fu fd ad M z) (hI : INV n z) (hn : n < 512) (h t c0 r : Int32) (b : Int64) (sz : Nat) : Met l yX4_head (wz yX4_head cX4_head 9 (some .int)) ({ frames := 5, cells := 1, slots := 6, locals := 127 } : Room) (mP D cT [.ref (ad 0 0), .int h, .int t, .int c0, .int r, .long b] M sz) (mQi (fun rr MM => rr = (sp_head z h t c0 r b).1 ∧ ∃ ad1, ad1 0 0 = ad 0 0 ∧ XS cT fu fd ad1 MM (sp_head z h t c0 r b).2) D M sz) 1 6 (FA M sz) := by
  refine mk_m (by decide +kernel) (Nat.le_of_ble_eq_true rfl) ?_
  intro p e s m args below meth c S hK hsz hM hr hlocks hnm ls hl
  have hx := S.1
  have hb := S.2.1
  have hml := S.2.2.1
  have hown := S.2.2.2.1
  have hts := S.2.2.2.2
  have hl : lv_has ls 9 [(0, .ref (ad 0 0)), (1, .int h), (2, .int t), (3, .int c0), (4, .int r), (5, .long b)] := hl
  refine lv_iload_n hx hb dX4_head_0 rfl (lv_at hl 1 rfl) ?_
  refine lv_iconst (v := 4) hx hb dX4_head_1 (by decide) ?_
  refine pc_b (rS (rest := []) S hK (c_X4_isBelow l D cT s.heap h 4 (n := 4) (by decide) rfl) sm_X4_isBelow w_1_77 ⟨Nat.le_of_ble_eq_true rfl, Nat.le_of_ble_eq_true rfl⟩ ⟨rfl, rfl⟩ rfl hl.1 rfl (Nat.le_of_ble_eq_true rfl) dX4_head_2 ⟨Nat.le_of_ble_eq_true rfl, Nat.le_of_ble_eq_true rfl⟩) (fun c2 => ?_) (fun c2 => ?_)
  · skip
    refine lv_if_eq (tgt := 25) hx hb dX4_head_5 (by decide) (fun h => absurd h (by decide)) (fun _ => ?_)
    refine lv_iload_n hx hb dX4_head_8 rfl (lv_at hl 2 rfl) ?_
    refine lv_bipush (v := 6) hx hb dX4_head_9 (by decide) ?_
    refine pc_b (rS (rest := []) S hK (c_X4_isBelow l D cT s.heap t 6 (n := 6) (by decide) rfl) sm_X4_isBelow w_1_77 ⟨Nat.le_of_ble_eq_true rfl, Nat.le_of_ble_eq_true rfl⟩ ⟨rfl, rfl⟩ rfl hl.1 rfl (Nat.le_of_ble_eq_true rfl) dX4_head_11 ⟨Nat.le_of_ble_eq_true rfl, Nat.le_of_ble_eq_true rfl⟩) (fun c11 => ?_) (fun c11 => ?_)
    · skip
      refine lv_if_eq (tgt := 25) hx hb dX4_head_14 (by decide) (fun h => absurd h (by decide)) (fun _ => ?_)
      refine lv_lload hx hb dX4_head_17 (lv_at hl 5 rfl) ?_
      refine pc_b (rS (rest := []) S hK (c_X2_isDouble l D cT s.heap b) sm_X2_isDouble w_1_96 ⟨Nat.le_of_ble_eq_true rfl, Nat.le_of_ble_eq_true rfl⟩ ⟨rfl, rfl⟩ rfl hl.1 rfl (Nat.le_of_ble_eq_true rfl) dX4_head_19 ⟨Nat.le_of_ble_eq_true rfl, Nat.le_of_ble_eq_true rfl⟩) (fun c19 => ?_) (fun c19 => ?_)
      · skip
        refine lv_if_ne (tgt := 27) hx hb dX4_head_22 (by decide) (fun _ => ?_) (fun h => absurd h (by decide))
        refine lv_iload_n hx hb dX4_head_27 rfl (lv_at hl 3 rfl) ?_
        refine lv_bipush (v := 6) hx hb dX4_head_28 (by decide) ?_
        refine pc_b (rS (rest := []) S hK (c_X4_isBelowOrNone l D cT s.heap c0 6 (n := 6) (by decide) rfl) sm_X4_isBelowOrNone w_2_5 ⟨Nat.le_of_ble_eq_true rfl, Nat.le_of_ble_eq_true rfl⟩ ⟨rfl, rfl⟩ rfl hl.1 rfl (Nat.le_of_ble_eq_true rfl) dX4_head_30 ⟨Nat.le_of_ble_eq_true rfl, Nat.le_of_ble_eq_true rfl⟩) (fun c30 => ?_) (fun c30 => ?_)
        · skip
          refine lv_if_eq (tgt := 45) hx hb dX4_head_33 (by decide) (fun h => absurd h (by decide)) (fun _ => ?_)
          refine lv_iload hx hb dX4_head_36 (lv_at hl 4 rfl) ?_
          refine lv_iconst (v := 3) hx hb dX4_head_38 (by decide) ?_
          refine pc_b (rS (rest := []) S hK (c_X4_isBelowOrNone l D cT s.heap r 3 (n := 3) (by decide) rfl) sm_X4_isBelowOrNone w_2_5 ⟨Nat.le_of_ble_eq_true rfl, Nat.le_of_ble_eq_true rfl⟩ ⟨rfl, rfl⟩ rfl hl.1 rfl (Nat.le_of_ble_eq_true rfl) dX4_head_39 ⟨Nat.le_of_ble_eq_true rfl, Nat.le_of_ble_eq_true rfl⟩) (fun c39 => ?_) (fun c39 => ?_)
          · skip
            refine lv_if_ne (tgt := 47) hx hb dX4_head_42 (by decide) (fun _ => ?_) (fun h => absurd h (by decide))
            refine lv_aload_n hx hb dX4_head_47 rfl (lv_at hl 0 rfl) ?_
            refine hm_get S hK hM.pr cI4 (XS.c0 hX) 0 (by decide) w_1_41 rfl dX4_head_48 ?_
            refine lv_lload hx hb dX4_head_51 (lv_at hl 5 rfl) ?_
            refine pc_d (rV (rest := []) S hK hM.pr cI2 hX.num.1 rfl (x_doubleOf l D cT s.heap hM.pr hX.num b c19) sm_X2_doubleOf w_1_109 w_1_107 ⟨Nat.le_of_ble_eq_true rfl, Nat.le_of_ble_eq_true rfl⟩ ⟨rfl, rfl⟩ rfl hl.1 rfl (Nat.le_of_ble_eq_true rfl) dX4_head_53 ⟨Nat.le_of_ble_eq_true rfl, Nat.le_of_ble_eq_true rfl⟩) (fun r1 hr1 => ?_)
            subst hr1
            refine lv_dstore (lv' := [(7, .double (Int64.toUInt64 b)), (0, .ref (ad 0 0)), (1, .int h), (2, .int t), (3, .int c0), (4, .int r), (5, .long b)]) hx hb dX4_head_56 hl (by decide) rfl (fun ls hl => ?_)
            refine lv_dload hx hb dX4_head_58 (lv_at hl 0 rfl) ?_
            refine lv_bipush (v := 64) hx hb dX4_head_60 (by decide) ?_
            refine pc_b (rS (rest := []) S hK (c_X4_isWithin l D cT s.heap (Int64.toUInt64 b) 64) sm_X4_isWithin w_1_172 ⟨Nat.le_of_ble_eq_true rfl, Nat.le_of_ble_eq_true rfl⟩ ⟨rfl, rfl⟩ rfl hl.1 rfl (Nat.le_of_ble_eq_true rfl) dX4_head_62 ⟨Nat.le_of_ble_eq_true rfl, Nat.le_of_ble_eq_true rfl⟩) (fun c62 => ?_) (fun c62 => ?_)
            · skip
              refine lv_if_ne (tgt := 70) hx hb dX4_head_65 (by decide) (fun _ => ?_) (fun h => absurd h (by decide))
              refine lv_aload_n hx hb dX4_head_70 rfl (lv_at hl 1 rfl) ?_
              refine hm_get S hK hM.pr cI4 (XS.c0 hX) 5 (by decide) w_1_46 rfl dX4_head_71 ?_
              refine lv_iload_n hx hb dX4_head_74 rfl (lv_at hl 2 rfl) ?_
              refine hm_new S hK hM cI1 w_1_39 w_2_8 w_1_9 (fs := [.int 0, .int 0, .int 0, .double 0, .double 0, .long 0]) (fun j hj => by rcases (show j = 0 ∨ j = 1 ∨ j = 2 ∨ j = 3 ∨ j = 4 ∨ j = 5 by omega) with rfl | rfl | rfl | rfl | rfl | rfl <;> rfl) (Nat.le_of_ble_eq_true rfl) (Nat.le_of_ble_eq_true rfl) dX4_head_75 (fun q H M1 hq hM1 hM => ?_)
              obtain ⟨hX, hne⟩ := hX.frame hq hM1
              refine lv_dup hx hb dX4_head_78 rfl ?_
              refine lv_iload_n hx hb dX4_head_79 rfl (lv_at hl 3 rfl) ?_
              refine lv_iload_n hx hb dX4_head_80 rfl (lv_at hl 4 rfl) ?_
              refine lv_iload hx hb dX4_head_81 (lv_at hl 5 rfl) ?_
              refine lv_dload hx hb dX4_head_83 (lv_at hl 0 rfl) ?_
              refine mc_v hM (rIm (rest := [.ref q, .int h, .ref (ad 0 8)]) S hK hM (c_X1_init l D cT q t c0 r (Int64.toUInt64 b) (up_at hM1) H.size) sm_X1_init rfl w_2_9 ⟨Nat.le_of_ble_eq_true rfl, Nat.le_of_ble_eq_true rfl⟩ ⟨rfl, rfl⟩ rfl hl.1 rfl (Nat.le_of_ble_eq_true rfl) dX4_head_85 ⟨Nat.le_of_ble_eq_true rfl, Nat.le_of_ble_eq_true rfl⟩) (fun M2 H locs hp hM _ _ _ => ?_)
              have hX := hX.beside hne hp
              refine hm_aast S hK hM 6 hX.hds rfl (up_at hp) cI1.1 c2 dX4_head_88 (fun H locs M3 hM3 hM => ?_)
              have hX := XS.nHd hX c2 hne (up_at hp) hM3
              refine lv_iconst (v := 1) hx hb dX4_head_89 (by decide) ?_
              refine mr_i S hM hr hlocks dX4_head_90 ⟨Nat.le_of_ble_eq_true rfl, Nat.le_of_ble_eq_true rfl⟩ ?_
              have e9 : sp_head z h t c0 r b = (1, hdZ z h t c0 r b.toUInt64) := by unfold sp_head; exact if_pos ⟨c2, c11, c30, c39, c19, (rngR c19).mp c62⟩
              rw [e9]
              exact ⟨rfl, _, congrFun (upA_c _ (by decide)) 0, hX⟩
            · skip
              refine lv_if_ne (tgt := 70) hx hb dX4_head_65 (by decide) (fun h => absurd rfl h) (fun _ => ?_)
              refine lv_iconst (v := (-1)) hx hb dX4_head_68 (by decide) ?_
              refine mr_i S hM hr hlocks dX4_head_69 ⟨Nat.le_of_ble_eq_true rfl, Nat.le_of_ble_eq_true rfl⟩ ?_
              have e9 : sp_head z h t c0 r b = (-1, z) := by unfold sp_head; exact if_neg (fun q => c62 ((rngR c19).mpr q.2.2.2.2.2))
              rw [e9]
              exact ⟨rfl, ad, rfl, hX⟩
          · skip
            refine lv_if_ne (tgt := 47) hx hb dX4_head_42 (by decide) (fun h => absurd rfl h) (fun _ => ?_)
            refine lv_iconst (v := (-1)) hx hb dX4_head_45 (by decide) ?_
            refine mr_i S hM hr hlocks dX4_head_46 ⟨Nat.le_of_ble_eq_true rfl, Nat.le_of_ble_eq_true rfl⟩ ?_
            have e9 : sp_head z h t c0 r b = (-1, z) := by unfold sp_head; exact if_neg (fun q => c39 q.2.2.2.1)
            rw [e9]
            exact ⟨rfl, ad, rfl, hX⟩
        · skip
          refine lv_if_eq (tgt := 45) hx hb dX4_head_33 (by decide) (fun _ => ?_) (fun h => absurd (by decide) h)
          refine lv_iconst (v := (-1)) hx hb dX4_head_45 (by decide) ?_
          refine mr_i S hM hr hlocks dX4_head_46 ⟨Nat.le_of_ble_eq_true rfl, Nat.le_of_ble_eq_true rfl⟩ ?_
          have e9 : sp_head z h t c0 r b = (-1, z) := by unfold sp_head; exact if_neg (fun q => c30 q.2.2.1)
          rw [e9]
          exact ⟨rfl, ad, rfl, hX⟩
      · skip
        refine lv_if_ne (tgt := 27) hx hb dX4_head_22 (by decide) (fun h => absurd rfl h) (fun _ => ?_)
        refine lv_iconst (v := (-1)) hx hb dX4_head_25 (by decide) ?_
        refine mr_i S hM hr hlocks dX4_head_26 ⟨Nat.le_of_ble_eq_true rfl, Nat.le_of_ble_eq_true rfl⟩ ?_
        have e9 : sp_head z h t c0 r b = (-1, z) := by unfold sp_head; exact if_neg (fun q => c19 q.2.2.2.2.1)
        rw [e9]
        exact ⟨rfl, ad, rfl, hX⟩
    · skip
      refine lv_if_eq (tgt := 25) hx hb dX4_head_14 (by decide) (fun _ => ?_) (fun h => absurd (by decide) h)
      refine lv_iconst (v := (-1)) hx hb dX4_head_25 (by decide) ?_
      refine mr_i S hM hr hlocks dX4_head_26 ⟨Nat.le_of_ble_eq_true rfl, Nat.le_of_ble_eq_true rfl⟩ ?_
      have e9 : sp_head z h t c0 r b = (-1, z) := by unfold sp_head; exact if_neg (fun q => c11 q.2.1)
      rw [e9]
      exact ⟨rfl, ad, rfl, hX⟩
  · skip
    refine lv_if_eq (tgt := 25) hx hb dX4_head_5 (by decide) (fun _ => ?_) (fun h => absurd (by decide) h)
    refine lv_iconst (v := (-1)) hx hb dX4_head_25 (by decide) ?_
    refine mr_i S hM hr hlocks dX4_head_26 ⟨Nat.le_of_ble_eq_true rfl, Nat.le_of_ble_eq_true rfl⟩ ?_
    have e9 : sp_head z h t c0 r b = (-1, z) := by unfold sp_head; exact if_neg (fun q => c2 q.1)
    rw [e9]
    exact ⟨rfl, ad, rfl, hX⟩
set_option maxHeartbeats 4000000 in
set_option maxRecDepth 100000 in
theorem c_X4_mix (l : Launch) (D : va_G) (cT : Nat → ClassId) {M : hmp} {fu fd : Nat → UInt64} {ad : Nat → Nat → Nat} {z : SG} {n : Nat} (hX : XS cT fu fd ad M z) (hI : INV n z) (hn : n < 512) (i how : Int32) (sz : Nat) : Met l yX4_mix (wz yX4_mix cX4_mix 5 (some .int)) ({ frames := 4, cells := 0, slots := 0, locals := 102 } : Room) (mP D cT [.ref (ad 0 0), .int i, .int how] M sz) (mQi (fun rr MM => rr = (sp_mix z i how).1 ∧ ∃ ad1, ad1 0 0 = ad 0 0 ∧ XS cT fu fd ad1 MM (sp_mix z i how).2) D M sz) 0 0 (FA M sz) := by
  refine mk_m (by decide +kernel) (Nat.le_of_ble_eq_true rfl) ?_
  intro p e s m args below meth c S hK hsz hM hr hlocks hnm ls hl
  have hx := S.1
  have hb := S.2.1
  have hml := S.2.2.1
  have hown := S.2.2.2.1
  have hts := S.2.2.2.2
  have hl : lv_has ls 5 [(0, .ref (ad 0 0)), (1, .int i), (2, .int how)] := hl
  refine lv_iload_n hx hb dX4_mix_0 rfl (lv_at hl 1 rfl) ?_
  refine lv_bipush (v := 8) hx hb dX4_mix_1 (by decide) ?_
  refine pc_b (rS (rest := []) S hK (c_X4_isBelow l D cT s.heap i 8 (n := 8) (by decide) rfl) sm_X4_isBelow w_1_77 ⟨Nat.le_of_ble_eq_true rfl, Nat.le_of_ble_eq_true rfl⟩ ⟨rfl, rfl⟩ rfl hl.1 rfl (Nat.le_of_ble_eq_true rfl) dX4_mix_3 ⟨Nat.le_of_ble_eq_true rfl, Nat.le_of_ble_eq_true rfl⟩) (fun c3 => ?_) (fun c3 => ?_)
  · skip
    refine lv_if_eq (tgt := 17) hx hb dX4_mix_6 (by decide) (fun h => absurd h (by decide)) (fun _ => ?_)
    refine lv_iload_n hx hb dX4_mix_9 rfl (lv_at hl 2 rfl) ?_
    refine lv_iconst (v := 4) hx hb dX4_mix_10 (by decide) ?_
    refine pc_b (rS (rest := []) S hK (c_X4_isBelow l D cT s.heap how 4 (n := 4) (by decide) rfl) sm_X4_isBelow w_1_77 ⟨Nat.le_of_ble_eq_true rfl, Nat.le_of_ble_eq_true rfl⟩ ⟨rfl, rfl⟩ rfl hl.1 rfl (Nat.le_of_ble_eq_true rfl) dX4_mix_11 ⟨Nat.le_of_ble_eq_true rfl, Nat.le_of_ble_eq_true rfl⟩) (fun c11 => ?_) (fun c11 => ?_)
    · skip
      refine lv_if_ne (tgt := 19) hx hb dX4_mix_14 (by decide) (fun _ => ?_) (fun h => absurd h (by decide))
      refine lv_aload_n hx hb dX4_mix_19 rfl (lv_at hl 0 rfl) ?_
      refine hm_get S hK hM.pr cI4 (XS.c0 hX) 6 (by decide) w_1_47 rfl dX4_mix_20 ?_
      refine lv_iload_n hx hb dX4_mix_23 rfl (lv_at hl 1 rfl) ?_
      obtain ⟨xm, hxm, hxe⟩ := hI.2.2.2.2 (cl i) (in_cl c3)
      refine hm_fald S hK hM.pr hX.mixd c3 dX4_mix_24 ?_
      refine lv_topf (fun z9 hz9 => ?_)
      have hz8 : xm = z9 := by rw [hz9]; exact ((if_pos (in_cl c3)).trans (by rw [hxe]; exact d2f_f2d hxm)).symm
      subst hz8
      refine lv_fstore_n (lv' := [(3, .float xm), (0, .ref (ad 0 0)), (1, .int i), (2, .int how)]) hx hb dX4_mix_25 rfl hl (by decide) rfl (fun ls hl => ?_)
      refine lv_fload_n hx hb dX4_mix_26 rfl (lv_at hl 0 rfl) ?_
      refine lv_f2d hx hb dX4_mix_27 (n64_fin (fin_f2d hxm)) ?_
      refine lv_ldc2d hx hb hown (hts _ w_2_77) dX4_mix_28 ?_
      refine lv_dmul hx hb dX4_mix_31 (n64_of (nn_mul (fin_f2d hxm) (by decide))) ?_
      refine lv_d2i hx hb dX4_mix_32 ?_
      refine lv_istore (lv' := [(4, .int (FP.d2i (FP.dmul (FP.f2d xm) 4674736138332667904))), (3, .float xm), (0, .ref (ad 0 0)), (1, .int i), (2, .int how)]) hx hb dX4_mix_33 hl (by decide) rfl (fun ls hl => ?_)
      refine lv_iload_n hx hb dX4_mix_35 rfl (lv_at hl 4 rfl) ?_
      have hho := in_cl c11
      have hhe := in_nI c11 (by decide)
      generalize cl how = hw at hho hhe
      subst hhe
      rcases (show hw = 0 ∨ hw = 1 ∨ hw = 2 ∨ hw = 3 by omega) with rfl | rfl | rfl | rfl
      · refine lv_tableIn (tgt := 64) hx hb dX4_mix_36 (by decide) (by decide) rfl (by decide) ?_
        refine lv_aload_n hx hb dX4_mix_64 rfl (lv_at hl 2 rfl) ?_
        refine lv_aload_n hx hb dX4_mix_65 rfl (lv_at hl 2 rfl) ?_
        refine hm_get S hK hM.pr cI4 (XS.c0 hX) 0 (by decide) w_1_41 rfl dX4_mix_66 ?_
        refine lv_fload_n hx hb dX4_mix_69 rfl (lv_at hl 1 rfl) ?_
        refine pc_i (rV (rest := [.ref (ad 0 0)]) S hK hM.pr cI2 hX.num.1 rfl (c_X2_bitsOfFloat l D cT s.heap hM.pr hX.num xm hxm) sm_X2_bitsOfFloat w_1_154 w_1_152 ⟨Nat.le_of_ble_eq_true rfl, Nat.le_of_ble_eq_true rfl⟩ ⟨rfl, rfl⟩ rfl hl.1 rfl (Nat.le_of_ble_eq_true rfl) dX4_mix_70 ⟨Nat.le_of_ble_eq_true rfl, Nat.le_of_ble_eq_true rfl⟩) (fun r1 hr1 => ?_)
        subst hr1
        refine lv_i2l hx hb dX4_mix_73 rfl ?_
        refine mc_i hM (rVm (rest := []) S hK hM cI4 (XS.c0 hX) rfl (c_X4_tell l D cT hX hI hn (Int32.toInt64 (UInt32.toInt32 xm)) s.heap.size) sm_X4_tell w_S_5 w_1_156 ⟨Nat.le_of_ble_eq_true rfl, Nat.le_of_ble_eq_true rfl⟩ ⟨rfl, rfl⟩ rfl hl.1 rfl (Nat.le_of_ble_eq_true rfl) dX4_mix_74 ⟨Nat.le_of_ble_eq_true rfl, Nat.le_of_ble_eq_true rfl⟩) (fun r2 M3 H locs hpr2 hM _ _ _ => ?_)
        obtain ⟨rfl, hX⟩ := hpr2
        refine mr_i S hM hr hlocks dX4_mix_77 ⟨Nat.le_of_ble_eq_true rfl, Nat.le_of_ble_eq_true rfl⟩ ?_
        have e9 : sp_mix z i (nI 0) = (1, (toldS z (Int32.toInt64 (UInt32.toInt32 xm)))) := by unfold sp_mix; rw [if_pos ⟨c3, c11⟩, show mixT (z.2.1 4 (cl i)) (nI 0) = _ from if_pos rfl, hxe, d2f_f2d hxm]
        rw [e9]
        exact ⟨rfl, ad, rfl, hX⟩
      · refine lv_tableIn (tgt := 78) hx hb dX4_mix_36 (by decide) (by decide) rfl (by decide) ?_
        refine lv_aload_n hx hb dX4_mix_78 rfl (lv_at hl 2 rfl) ?_
        refine lv_iload hx hb dX4_mix_79 (lv_at hl 0 rfl) ?_
        refine lv_i2l hx hb dX4_mix_81 rfl ?_
        refine mc_i hM (rVm (rest := []) S hK hM cI4 (XS.c0 hX) rfl (c_X4_tell l D cT hX hI hn (Int32.toInt64 (FP.d2i (FP.dmul (FP.f2d xm) 4674736138332667904))) s.heap.size) sm_X4_tell w_S_5 w_1_156 ⟨Nat.le_of_ble_eq_true rfl, Nat.le_of_ble_eq_true rfl⟩ ⟨rfl, rfl⟩ rfl hl.1 rfl (Nat.le_of_ble_eq_true rfl) dX4_mix_82 ⟨Nat.le_of_ble_eq_true rfl, Nat.le_of_ble_eq_true rfl⟩) (fun r4 M5 H locs hpr4 hM _ _ _ => ?_)
        obtain ⟨rfl, hX⟩ := hpr4
        refine mr_i S hM hr hlocks dX4_mix_85 ⟨Nat.le_of_ble_eq_true rfl, Nat.le_of_ble_eq_true rfl⟩ ?_
        have e9 : sp_mix z i (nI 1) = (1, (toldS z (Int32.toInt64 (FP.d2i (FP.dmul (FP.f2d xm) 4674736138332667904))))) := by unfold sp_mix; rw [if_pos ⟨c3, c11⟩, show mixT (z.2.1 4 (cl i)) (nI 1) = _ from (if_neg (by decide)).trans (if_pos rfl), hxe]
        rw [e9]
        exact ⟨rfl, ad, rfl, hX⟩
      · refine lv_tableIn (tgt := 86) hx hb dX4_mix_36 (by decide) (by decide) rfl (by decide) ?_
        refine lv_aload_n hx hb dX4_mix_86 rfl (lv_at hl 2 rfl) ?_
        refine lv_iload hx hb dX4_mix_87 (lv_at hl 0 rfl) ?_
        refine lv_i2s hx hb dX4_mix_89 rfl ?_
        refine lv_i2l hx hb dX4_mix_90 rfl ?_
        refine mc_i hM (rVm (rest := []) S hK hM cI4 (XS.c0 hX) rfl (c_X4_tell l D cT hX hI hn (Int32.toInt64 ((Int32.toInt16 (FP.d2i (FP.dmul (FP.f2d xm) 4674736138332667904))).toInt32)) s.heap.size) sm_X4_tell w_S_5 w_1_156 ⟨Nat.le_of_ble_eq_true rfl, Nat.le_of_ble_eq_true rfl⟩ ⟨rfl, rfl⟩ rfl hl.1 rfl (Nat.le_of_ble_eq_true rfl) dX4_mix_91 ⟨Nat.le_of_ble_eq_true rfl, Nat.le_of_ble_eq_true rfl⟩) (fun r6 M7 H locs hpr6 hM _ _ _ => ?_)
        obtain ⟨rfl, hX⟩ := hpr6
        refine mr_i S hM hr hlocks dX4_mix_94 ⟨Nat.le_of_ble_eq_true rfl, Nat.le_of_ble_eq_true rfl⟩ ?_
        have e9 : sp_mix z i (nI 2) = (1, (toldS z (Int32.toInt64 ((Int32.toInt16 (FP.d2i (FP.dmul (FP.f2d xm) 4674736138332667904))).toInt32)))) := by unfold sp_mix; rw [if_pos ⟨c3, c11⟩, show mixT (z.2.1 4 (cl i)) (nI 2) = _ from (if_neg (by decide)).trans ((if_neg (by decide)).trans (if_pos rfl)), hxe]
        rw [e9]
        exact ⟨rfl, ad, rfl, hX⟩
      · refine lv_tableOut (tgt := 95) hx hb dX4_mix_36 (by decide) (by decide) ?_
        refine lv_aload_n hx hb dX4_mix_95 rfl (lv_at hl 2 rfl) ?_
        refine lv_fload_n hx hb dX4_mix_96 rfl (lv_at hl 1 rfl) ?_
        refine lv_f2l hx hb dX4_mix_97 ?_
        refine mc_i hM (rVm (rest := []) S hK hM cI4 (XS.c0 hX) rfl (c_X4_tell l D cT hX hI hn (FP.f2l xm) s.heap.size) sm_X4_tell w_S_5 w_1_156 ⟨Nat.le_of_ble_eq_true rfl, Nat.le_of_ble_eq_true rfl⟩ ⟨rfl, rfl⟩ rfl hl.1 rfl (Nat.le_of_ble_eq_true rfl) dX4_mix_98 ⟨Nat.le_of_ble_eq_true rfl, Nat.le_of_ble_eq_true rfl⟩) (fun r8 M9 H locs hpr8 hM _ _ _ => ?_)
        obtain ⟨rfl, hX⟩ := hpr8
        refine mr_i S hM hr hlocks dX4_mix_101 ⟨Nat.le_of_ble_eq_true rfl, Nat.le_of_ble_eq_true rfl⟩ ?_
        have e9 : sp_mix z i (nI 3) = (1, (toldS z (FP.f2l xm))) := by unfold sp_mix; rw [if_pos ⟨c3, c11⟩, show mixT (z.2.1 4 (cl i)) (nI 3) = _ from (if_neg (by decide)).trans ((if_neg (by decide)).trans (if_neg (by decide))), hxe, f2l_d2l hxm]
        rw [e9]
        exact ⟨rfl, ad, rfl, hX⟩
    · skip
      refine lv_if_ne (tgt := 19) hx hb dX4_mix_14 (by decide) (fun h => absurd rfl h) (fun _ => ?_)
      refine lv_iconst (v := (-1)) hx hb dX4_mix_17 (by decide) ?_
      refine mr_i S hM hr hlocks dX4_mix_18 ⟨Nat.le_of_ble_eq_true rfl, Nat.le_of_ble_eq_true rfl⟩ ?_
      have e9 : sp_mix z i how = (-1, z) := by unfold sp_mix; exact if_neg (fun q => c11 q.2)
      rw [e9]
      exact ⟨rfl, ad, rfl, hX⟩
  · skip
    refine lv_if_eq (tgt := 17) hx hb dX4_mix_6 (by decide) (fun _ => ?_) (fun h => absurd (by decide) h)
    refine lv_iconst (v := (-1)) hx hb dX4_mix_17 (by decide) ?_
    refine mr_i S hM hr hlocks dX4_mix_18 ⟨Nat.le_of_ble_eq_true rfl, Nat.le_of_ble_eq_true rfl⟩ ?_
    have e9 : sp_mix z i how = (-1, z) := by unfold sp_mix; exact if_neg (fun q => c3 q.1)
    rw [e9]
    exact ⟨rfl, ad, rfl, hX⟩
theorem d2f_0 : FP.d2f FP.dconst0 = FP.fconst0 := by decide +kernel
set_option maxHeartbeats 4000000 in
set_option maxRecDepth 100000 in
theorem c_X4_hush (l : Launch) (D : va_G) (cT : Nat → ClassId) {M : hmp} {fu fd : Nat → UInt64} {ad : Nat → Nat → Nat} {z : SG} {n : Nat} (hX : XS cT fu fd ad M z) (hI : INV n z) (hn : n < 512)  (sz : Nat) : Met l yX4_hush (wz yX4_hush cX4_hush 2 (some .int)) ({ frames := 0, cells := 0, slots := 0, locals := 0 } : Room) (mP D cT [.ref (ad 0 0)] M sz) (mQi (fun rr MM => rr = (sp_hush z).1 ∧ ∃ ad1, ad1 0 0 = ad 0 0 ∧ XS cT fu fd ad1 MM (sp_hush z).2) D M sz) 0 0 (FA M sz) := by
  refine mk_m (by decide +kernel) (Nat.le_of_ble_eq_true rfl) ?_
  intro p e s m args below meth c S hK hsz hM hr hlocks hnm ls hl
  have hx := S.1
  have hb := S.2.1
  have hml := S.2.2.1
  have hown := S.2.2.2.1
  have hts := S.2.2.2.2
  have hl : lv_has ls 2 [(0, .ref (ad 0 0))] := hl
  rw [← hz_0 z] at hX
  refine lv_iconst (v := 0) hx hb dX4_hush_0 (by decide) ?_
  refine lv_istore_n (lv' := [(1, .int 0), (0, .ref (ad 0 0))]) hx hb dX4_hush_1 rfl hl (by decide) rfl (fun ls hl => ?_)
  refine lv_iload_n hx hb dX4_hush_2 rfl (lv_at hl 0 rfl) ?_
  refine lv_bipush (v := 8) hx hb dX4_hush_3 (by decide) ?_
  refine lv_icmp_ge (tgt := 21) hx hb dX4_hush_5 (by decide) (fun h => absurd h (by decide)) (fun _ => ?_)
  refine lv_aload_n hx hb dX4_hush_8 rfl (lv_at hl 1 rfl) ?_
  refine hm_get S hK hM.pr cI4 (XS.c0 hX) 6 (by decide) w_1_47 rfl dX4_hush_9 ?_
  refine lv_iload_n hx hb dX4_hush_12 rfl (lv_at hl 0 rfl) ?_
  refine lv_fconst0 hx hb dX4_hush_13 ?_
  refine hm_fast S hK hM hX.mixd (vp_in_nI (n := 0) (by decide) (by decide)) dX4_hush_14 (fun H locs M1 hM1 hM => ?_)
  have hX := XS.uMx (k := 0) (x := FP.dconst0) (show 0 < 8 by decide) d2f_0 hX hM1
  rw [hz_step] at hX
  refine lv_iinc (v := 1) (lv' := [(1, .int 1), (0, .ref (ad 0 0))]) hx hb dX4_hush_15 hl (k := 0) rfl (by rfl) (by decide) rfl (fun ls hl => ?_)
  refine lv_goto (tgt := 2) hx hb dX4_hush_18 (by decide) ?_
  refine lv_iload_n hx hb dX4_hush_2 rfl (lv_at hl 0 rfl) ?_
  refine lv_bipush (v := 8) hx hb dX4_hush_3 (by decide) ?_
  refine lv_icmp_ge (tgt := 21) hx hb dX4_hush_5 (by decide) (fun h => absurd h (by decide)) (fun _ => ?_)
  refine lv_aload_n hx hb dX4_hush_8 rfl (lv_at hl 1 rfl) ?_
  refine hm_get S hK hM.pr cI4 (XS.c0 hX) 6 (by decide) w_1_47 rfl dX4_hush_9 ?_
  refine lv_iload_n hx hb dX4_hush_12 rfl (lv_at hl 0 rfl) ?_
  refine lv_fconst0 hx hb dX4_hush_13 ?_
  refine hm_fast S hK hM hX.mixd (vp_in_nI (n := 1) (by decide) (by decide)) dX4_hush_14 (fun H locs M2 hM2 hM => ?_)
  have hX := XS.uMx (k := 1) (x := FP.dconst0) (show 1 < 8 by decide) d2f_0 hX hM2
  rw [hz_step] at hX
  refine lv_iinc (v := 2) (lv' := [(1, .int 2), (0, .ref (ad 0 0))]) hx hb dX4_hush_15 hl (k := 0) rfl (by rfl) (by decide) rfl (fun ls hl => ?_)
  refine lv_goto (tgt := 2) hx hb dX4_hush_18 (by decide) ?_
  refine lv_iload_n hx hb dX4_hush_2 rfl (lv_at hl 0 rfl) ?_
  refine lv_bipush (v := 8) hx hb dX4_hush_3 (by decide) ?_
  refine lv_icmp_ge (tgt := 21) hx hb dX4_hush_5 (by decide) (fun h => absurd h (by decide)) (fun _ => ?_)
  refine lv_aload_n hx hb dX4_hush_8 rfl (lv_at hl 1 rfl) ?_
  refine hm_get S hK hM.pr cI4 (XS.c0 hX) 6 (by decide) w_1_47 rfl dX4_hush_9 ?_
  refine lv_iload_n hx hb dX4_hush_12 rfl (lv_at hl 0 rfl) ?_
  refine lv_fconst0 hx hb dX4_hush_13 ?_
  refine hm_fast S hK hM hX.mixd (vp_in_nI (n := 2) (by decide) (by decide)) dX4_hush_14 (fun H locs M3 hM3 hM => ?_)
  have hX := XS.uMx (k := 2) (x := FP.dconst0) (show 2 < 8 by decide) d2f_0 hX hM3
  rw [hz_step] at hX
  refine lv_iinc (v := 3) (lv' := [(1, .int 3), (0, .ref (ad 0 0))]) hx hb dX4_hush_15 hl (k := 0) rfl (by rfl) (by decide) rfl (fun ls hl => ?_)
  refine lv_goto (tgt := 2) hx hb dX4_hush_18 (by decide) ?_
  refine lv_iload_n hx hb dX4_hush_2 rfl (lv_at hl 0 rfl) ?_
  refine lv_bipush (v := 8) hx hb dX4_hush_3 (by decide) ?_
  refine lv_icmp_ge (tgt := 21) hx hb dX4_hush_5 (by decide) (fun h => absurd h (by decide)) (fun _ => ?_)
  refine lv_aload_n hx hb dX4_hush_8 rfl (lv_at hl 1 rfl) ?_
  refine hm_get S hK hM.pr cI4 (XS.c0 hX) 6 (by decide) w_1_47 rfl dX4_hush_9 ?_
  refine lv_iload_n hx hb dX4_hush_12 rfl (lv_at hl 0 rfl) ?_
  refine lv_fconst0 hx hb dX4_hush_13 ?_
  refine hm_fast S hK hM hX.mixd (vp_in_nI (n := 3) (by decide) (by decide)) dX4_hush_14 (fun H locs M4 hM4 hM => ?_)
  have hX := XS.uMx (k := 3) (x := FP.dconst0) (show 3 < 8 by decide) d2f_0 hX hM4
  rw [hz_step] at hX
  refine lv_iinc (v := 4) (lv' := [(1, .int 4), (0, .ref (ad 0 0))]) hx hb dX4_hush_15 hl (k := 0) rfl (by rfl) (by decide) rfl (fun ls hl => ?_)
  refine lv_goto (tgt := 2) hx hb dX4_hush_18 (by decide) ?_
  refine lv_iload_n hx hb dX4_hush_2 rfl (lv_at hl 0 rfl) ?_
  refine lv_bipush (v := 8) hx hb dX4_hush_3 (by decide) ?_
  refine lv_icmp_ge (tgt := 21) hx hb dX4_hush_5 (by decide) (fun h => absurd h (by decide)) (fun _ => ?_)
  refine lv_aload_n hx hb dX4_hush_8 rfl (lv_at hl 1 rfl) ?_
  refine hm_get S hK hM.pr cI4 (XS.c0 hX) 6 (by decide) w_1_47 rfl dX4_hush_9 ?_
  refine lv_iload_n hx hb dX4_hush_12 rfl (lv_at hl 0 rfl) ?_
  refine lv_fconst0 hx hb dX4_hush_13 ?_
  refine hm_fast S hK hM hX.mixd (vp_in_nI (n := 4) (by decide) (by decide)) dX4_hush_14 (fun H locs M5 hM5 hM => ?_)
  have hX := XS.uMx (k := 4) (x := FP.dconst0) (show 4 < 8 by decide) d2f_0 hX hM5
  rw [hz_step] at hX
  refine lv_iinc (v := 5) (lv' := [(1, .int 5), (0, .ref (ad 0 0))]) hx hb dX4_hush_15 hl (k := 0) rfl (by rfl) (by decide) rfl (fun ls hl => ?_)
  refine lv_goto (tgt := 2) hx hb dX4_hush_18 (by decide) ?_
  refine lv_iload_n hx hb dX4_hush_2 rfl (lv_at hl 0 rfl) ?_
  refine lv_bipush (v := 8) hx hb dX4_hush_3 (by decide) ?_
  refine lv_icmp_ge (tgt := 21) hx hb dX4_hush_5 (by decide) (fun h => absurd h (by decide)) (fun _ => ?_)
  refine lv_aload_n hx hb dX4_hush_8 rfl (lv_at hl 1 rfl) ?_
  refine hm_get S hK hM.pr cI4 (XS.c0 hX) 6 (by decide) w_1_47 rfl dX4_hush_9 ?_
  refine lv_iload_n hx hb dX4_hush_12 rfl (lv_at hl 0 rfl) ?_
  refine lv_fconst0 hx hb dX4_hush_13 ?_
  refine hm_fast S hK hM hX.mixd (vp_in_nI (n := 5) (by decide) (by decide)) dX4_hush_14 (fun H locs M6 hM6 hM => ?_)
  have hX := XS.uMx (k := 5) (x := FP.dconst0) (show 5 < 8 by decide) d2f_0 hX hM6
  rw [hz_step] at hX
  refine lv_iinc (v := 6) (lv' := [(1, .int 6), (0, .ref (ad 0 0))]) hx hb dX4_hush_15 hl (k := 0) rfl (by rfl) (by decide) rfl (fun ls hl => ?_)
  refine lv_goto (tgt := 2) hx hb dX4_hush_18 (by decide) ?_
  refine lv_iload_n hx hb dX4_hush_2 rfl (lv_at hl 0 rfl) ?_
  refine lv_bipush (v := 8) hx hb dX4_hush_3 (by decide) ?_
  refine lv_icmp_ge (tgt := 21) hx hb dX4_hush_5 (by decide) (fun h => absurd h (by decide)) (fun _ => ?_)
  refine lv_aload_n hx hb dX4_hush_8 rfl (lv_at hl 1 rfl) ?_
  refine hm_get S hK hM.pr cI4 (XS.c0 hX) 6 (by decide) w_1_47 rfl dX4_hush_9 ?_
  refine lv_iload_n hx hb dX4_hush_12 rfl (lv_at hl 0 rfl) ?_
  refine lv_fconst0 hx hb dX4_hush_13 ?_
  refine hm_fast S hK hM hX.mixd (vp_in_nI (n := 6) (by decide) (by decide)) dX4_hush_14 (fun H locs M7 hM7 hM => ?_)
  have hX := XS.uMx (k := 6) (x := FP.dconst0) (show 6 < 8 by decide) d2f_0 hX hM7
  rw [hz_step] at hX
  refine lv_iinc (v := 7) (lv' := [(1, .int 7), (0, .ref (ad 0 0))]) hx hb dX4_hush_15 hl (k := 0) rfl (by rfl) (by decide) rfl (fun ls hl => ?_)
  refine lv_goto (tgt := 2) hx hb dX4_hush_18 (by decide) ?_
  refine lv_iload_n hx hb dX4_hush_2 rfl (lv_at hl 0 rfl) ?_
  refine lv_bipush (v := 8) hx hb dX4_hush_3 (by decide) ?_
  refine lv_icmp_ge (tgt := 21) hx hb dX4_hush_5 (by decide) (fun h => absurd h (by decide)) (fun _ => ?_)
  refine lv_aload_n hx hb dX4_hush_8 rfl (lv_at hl 1 rfl) ?_
  refine hm_get S hK hM.pr cI4 (XS.c0 hX) 6 (by decide) w_1_47 rfl dX4_hush_9 ?_
  refine lv_iload_n hx hb dX4_hush_12 rfl (lv_at hl 0 rfl) ?_
  refine lv_fconst0 hx hb dX4_hush_13 ?_
  refine hm_fast S hK hM hX.mixd (vp_in_nI (n := 7) (by decide) (by decide)) dX4_hush_14 (fun H locs M8 hM8 hM => ?_)
  have hX := XS.uMx (k := 7) (x := FP.dconst0) (show 7 < 8 by decide) d2f_0 hX hM8
  rw [hz_step] at hX
  refine lv_iinc (v := 8) (lv' := [(1, .int 8), (0, .ref (ad 0 0))]) hx hb dX4_hush_15 hl (k := 0) rfl (by rfl) (by decide) rfl (fun ls hl => ?_)
  refine lv_goto (tgt := 2) hx hb dX4_hush_18 (by decide) ?_
  refine lv_iload_n hx hb dX4_hush_2 rfl (lv_at hl 0 rfl) ?_
  refine lv_bipush (v := 8) hx hb dX4_hush_3 (by decide) ?_
  refine lv_icmp_ge (tgt := 21) hx hb dX4_hush_5 (by decide) (fun _ => ?_) (fun h => absurd (by decide) h)
  refine lv_iconst (v := 1) hx hb dX4_hush_21 (by decide) ?_
  refine mr_i S hM hr hlocks dX4_hush_22 ⟨Nat.le_of_ble_eq_true rfl, Nat.le_of_ble_eq_true rfl⟩ ?_
  have e9 : sp_hush z = (1, hz z 8) := rfl
  rw [e9]
  exact ⟨rfl, ad, rfl, hX⟩
set_option maxHeartbeats 4000000 in
set_option maxRecDepth 100000 in
theorem c_X4_at (l : Launch) (D : va_G) (cT : Nat → ClassId) {M : hmp} {fu fd : Nat → UInt64} {ad : Nat → Nat → Nat} {z : SG} {n : Nat} (hX : XS cT fu fd ad M z) (hI : INV n z) (hn : n < 512) (h w0 : Int32) (sz : Nat) : Met l yX4_at (wz yX4_at cX4_at 3 (some .int)) ({ frames := 4, cells := 0, slots := 0, locals := 103 } : Room) (mP D cT [.ref (ad 0 0), .int h, .int w0] M sz) (mQi (fun rr MM => rr = (sp_at z h w0).1 ∧ ∃ ad1, ad1 0 0 = ad 0 0 ∧ XS cT fu fd ad1 MM (sp_at z h w0).2) D M sz) 0 0 (FA M sz) := by
  refine mk_m (by decide +kernel) (Nat.le_of_ble_eq_true rfl) ?_
  intro p e s m args below meth c S hK hsz hM hr hlocks hnm ls hl
  have hx := S.1
  have hb := S.2.1
  have hml := S.2.2.1
  have hown := S.2.2.2.1
  have hts := S.2.2.2.2
  have hl : lv_has ls 3 [(0, .ref (ad 0 0)), (1, .int h), (2, .int w0)] := hl
  refine lv_aload_n hx hb dX4_at_0 rfl (lv_at hl 0 rfl) ?_
  refine lv_iload_n hx hb dX4_at_1 rfl (lv_at hl 1 rfl) ?_
  refine pc_b (rV (rest := []) S hK hM.pr cI4 (XS.c0 hX) rfl (c_X4_isSetHead l D cT s.heap hM.pr hX h) sm_X4_isSetHead w_S_7 w_2_41 ⟨Nat.le_of_ble_eq_true rfl, Nat.le_of_ble_eq_true rfl⟩ ⟨rfl, rfl⟩ rfl hl.1 rfl (Nat.le_of_ble_eq_true rfl) dX4_at_2 ⟨Nat.le_of_ble_eq_true rfl, Nat.le_of_ble_eq_true rfl⟩) (fun c2 => ?_) (fun c2 => ?_)
  · skip
    refine lv_if_eq (tgt := 16) hx hb dX4_at_5 (by decide) (fun h => absurd h (by decide)) (fun _ => ?_)
    refine lv_iload_n hx hb dX4_at_8 rfl (lv_at hl 2 rfl) ?_
    refine lv_iconst (v := 2) hx hb dX4_at_9 (by decide) ?_
    refine pc_b (rS (rest := []) S hK (c_X4_isBelow l D cT s.heap w0 2 (n := 2) (by decide) rfl) sm_X4_isBelow w_1_77 ⟨Nat.le_of_ble_eq_true rfl, Nat.le_of_ble_eq_true rfl⟩ ⟨rfl, rfl⟩ rfl hl.1 rfl (Nat.le_of_ble_eq_true rfl) dX4_at_10 ⟨Nat.le_of_ble_eq_true rfl, Nat.le_of_ble_eq_true rfl⟩) (fun c10 => ?_) (fun c10 => ?_)
    · skip
      refine lv_if_ne (tgt := 18) hx hb dX4_at_13 (by decide) (fun _ => ?_) (fun h => absurd h (by decide))
      refine lv_aload_n hx hb dX4_at_18 rfl (lv_at hl 0 rfl) ?_
      refine lv_iload_n hx hb dX4_at_19 rfl (lv_at hl 2 rfl) ?_
      refine lv_if_ne (tgt := 42) hx hb dX4_at_20 (by decide) (fun c20 => ?_) (fun c20 => ?_)
      · skip
        refine lv_aload_n hx hb dX4_at_42 rfl (lv_at hl 0 rfl) ?_
        refine hm_get S hK hM.pr cI4 (XS.c0 hX) 5 (by decide) w_1_46 rfl dX4_at_43 ?_
        refine lv_iload_n hx hb dX4_at_46 rfl (lv_at hl 1 rfl) ?_
        refine hx_hds S hK hM.pr hX c2.1 dX4_at_47 (fun w => absurd w c2.2) (fun _ => ?_)
        refine hm_get S hK hM.pr cI1 (hX.hd (in_cl c2.1) c2.2) 5 (by decide) w_2_23 rfl dX4_at_48 ?_
        refine mc_i hM (rVm (rest := []) S hK hM cI4 (XS.c0 hX) rfl (c_X4_tell l D cT hX hI hn (z.2.2 0 (cl h)) s.heap.size) sm_X4_tell w_S_5 w_1_156 ⟨Nat.le_of_ble_eq_true rfl, Nat.le_of_ble_eq_true rfl⟩ ⟨rfl, rfl⟩ rfl hl.1 rfl (Nat.le_of_ble_eq_true rfl) dX4_at_51 ⟨Nat.le_of_ble_eq_true rfl, Nat.le_of_ble_eq_true rfl⟩) (fun r1 M2 H locs hpr1 hM _ _ _ => ?_)
        obtain ⟨rfl, hX⟩ := hpr1
        refine mr_i S hM hr hlocks dX4_at_54 ⟨Nat.le_of_ble_eq_true rfl, Nat.le_of_ble_eq_true rfl⟩ ?_
        have e9 : sp_at z h w0 = (1, (toldS z (z.2.2 0 (cl h)))) := by unfold sp_at; rw [if_pos ⟨c2.1, c2.2, c10⟩, if_neg c20]
        rw [e9]
        exact ⟨rfl, ad, rfl, hX⟩
      · skip
        refine lv_aload_n hx hb dX4_at_23 rfl (lv_at hl 0 rfl) ?_
        refine hm_get S hK hM.pr cI4 (XS.c0 hX) 0 (by decide) w_1_41 rfl dX4_at_24 ?_
        refine lv_aload_n hx hb dX4_at_27 rfl (lv_at hl 0 rfl) ?_
        refine hm_get S hK hM.pr cI4 (XS.c0 hX) 5 (by decide) w_1_46 rfl dX4_at_28 ?_
        refine lv_iload_n hx hb dX4_at_31 rfl (lv_at hl 1 rfl) ?_
        refine hx_hds S hK hM.pr hX c2.1 dX4_at_32 (fun w => absurd w c2.2) (fun _ => ?_)
        refine hm_get S hK hM.pr cI1 (hX.hd (in_cl c2.1) c2.2) 4 (by decide) w_2_21 rfl dX4_at_33 ?_
        refine pc_l (rV (rest := [.ref (ad 0 0)]) S hK hM.pr cI2 hX.num.1 rfl (c_X2_bitsOfDouble l D cT s.heap hM.pr hX.num (z.2.1 3 (cl h)) (by have h5 := (hI.2.2.2.1 (cl h) (in_cl c2.1)).1; unfold fin64; omega)) sm_X2_bitsOfDouble w_1_140 w_1_138 ⟨Nat.le_of_ble_eq_true rfl, Nat.le_of_ble_eq_true rfl⟩ ⟨rfl, rfl⟩ rfl hl.1 rfl (Nat.le_of_ble_eq_true rfl) dX4_at_36 ⟨Nat.le_of_ble_eq_true rfl, Nat.le_of_ble_eq_true rfl⟩) (fun r3 hr3 => ?_)
        subst hr3
        refine lv_goto (tgt := 51) hx hb dX4_at_39 (by decide) ?_
        refine mc_i hM (rVm (rest := []) S hK hM cI4 (XS.c0 hX) rfl (c_X4_tell l D cT hX hI hn (UInt64.toInt64 (z.2.1 3 (cl h))) s.heap.size) sm_X4_tell w_S_5 w_1_156 ⟨Nat.le_of_ble_eq_true rfl, Nat.le_of_ble_eq_true rfl⟩ ⟨rfl, rfl⟩ rfl hl.1 rfl (Nat.le_of_ble_eq_true rfl) dX4_at_51 ⟨Nat.le_of_ble_eq_true rfl, Nat.le_of_ble_eq_true rfl⟩) (fun r4 M5 H locs hpr4 hM _ _ _ => ?_)
        obtain ⟨rfl, hX⟩ := hpr4
        refine mr_i S hM hr hlocks dX4_at_54 ⟨Nat.le_of_ble_eq_true rfl, Nat.le_of_ble_eq_true rfl⟩ ?_
        have e9 : sp_at z h w0 = (1, (toldS z (UInt64.toInt64 (z.2.1 3 (cl h))))) := by unfold sp_at; rw [if_pos ⟨c2.1, c2.2, c10⟩, if_pos c20]
        rw [e9]
        exact ⟨rfl, ad, rfl, hX⟩
    · skip
      refine lv_if_ne (tgt := 18) hx hb dX4_at_13 (by decide) (fun h => absurd rfl h) (fun _ => ?_)
      refine lv_iconst (v := (-1)) hx hb dX4_at_16 (by decide) ?_
      refine mr_i S hM hr hlocks dX4_at_17 ⟨Nat.le_of_ble_eq_true rfl, Nat.le_of_ble_eq_true rfl⟩ ?_
      have e9 : sp_at z h w0 = (-1, z) := by unfold sp_at; exact if_neg (fun q => c10 q.2.2)
      rw [e9]
      exact ⟨rfl, ad, rfl, hX⟩
  · skip
    refine lv_if_eq (tgt := 16) hx hb dX4_at_5 (by decide) (fun _ => ?_) (fun h => absurd (by decide) h)
    refine lv_iconst (v := (-1)) hx hb dX4_at_16 (by decide) ?_
    refine mr_i S hM hr hlocks dX4_at_17 ⟨Nat.le_of_ble_eq_true rfl, Nat.le_of_ble_eq_true rfl⟩ ?_
    have e9 : sp_at z h w0 = (-1, z) := by unfold sp_at; exact if_neg (fun q => c2 ⟨q.1, q.2.1⟩)
    rw [e9]
    exact ⟨rfl, ad, rfl, hX⟩
theorem INV.tick {n : Nat} {z : SG} (h : INV n z) (x : Int64) : INV n (setL z 1 0 x) := h
set_option maxHeartbeats 4000000 in
set_option maxRecDepth 100000 in
theorem c_X4_clock (l : Launch) (D : va_G) (cT : Nat → ClassId) {M : hmp} {fu fd : Nat → UInt64} {ad : Nat → Nat → Nat} {z : SG} {n : Nat} (hX : XS cT fu fd ad M z) (hI : INV n z) (hn : n < 512) (cn : Int64) (how : Int32) (sz : Nat) : Met l yX4_clock (wz yX4_clock cX4_clock 4 (some .int)) ({ frames := 4, cells := 0, slots := 0, locals := 103 } : Room) (mP D cT [.ref (ad 0 0), .long cn, .int how] M sz) (mQi (fun rr MM => rr = (sp_clock z cn how).1 ∧ ∃ ad1, ad1 0 0 = ad 0 0 ∧ XS cT fu fd ad1 MM (sp_clock z cn how).2) D M sz) 0 0 (FA M sz) := by
  refine mk_m (by decide +kernel) (Nat.le_of_ble_eq_true rfl) ?_
  intro p e s m args below meth c S hK hsz hM hr hlocks hnm ls hl
  have hx := S.1
  have hb := S.2.1
  have hml := S.2.2.1
  have hown := S.2.2.2.1
  have hts := S.2.2.2.2
  have hl : lv_has ls 4 [(0, .ref (ad 0 0)), (1, .long cn), (3, .int how)] := hl
  refine lv_iload_n hx hb dX4_clock_0 rfl (lv_at hl 2 rfl) ?_
  refine lv_bipush (v := 6) hx hb dX4_clock_1 (by decide) ?_
  refine pc_b (rS (rest := []) S hK (c_X4_isBelow l D cT s.heap how 6 (n := 6) (by decide) rfl) sm_X4_isBelow w_1_77 ⟨Nat.le_of_ble_eq_true rfl, Nat.le_of_ble_eq_true rfl⟩ ⟨rfl, rfl⟩ rfl hl.1 rfl (Nat.le_of_ble_eq_true rfl) dX4_clock_3 ⟨Nat.le_of_ble_eq_true rfl, Nat.le_of_ble_eq_true rfl⟩) (fun c3 => ?_) (fun c3 => ?_)
  · skip
    refine lv_if_ne (tgt := 11) hx hb dX4_clock_6 (by decide) (fun _ => ?_) (fun h => absurd h (by decide))
    refine lv_aload_n hx hb dX4_clock_11 rfl (lv_at hl 0 rfl) ?_
    refine lv_dup hx hb dX4_clock_12 rfl ?_
    refine hm_get S hK hM.pr cI4 (XS.c0 hX) 8 (by decide) w_1_49 rfl dX4_clock_13 ?_
    refine lv_lload_n hx hb dX4_clock_16 rfl (lv_at hl 1 rfl) ?_
    refine lv_ladd hx hb dX4_clock_17 ?_
    refine hm_put S hK hM cI4 (XS.c0 hX) 8 (by decide) w_1_49 rfl rfl rfl (Nat.le_of_ble_eq_true rfl) dX4_clock_18 (fun H locs M1 hM1 hM => ?_)
    have hX := XS.fL (k := 0) (x0 := 0) (x := ((z.2.2 1 0) + cn)) (by decide) hX hM1
    refine lv_iload_n hx hb dX4_clock_21 rfl (lv_at hl 2 rfl) ?_
    have hho := in_cl c3
    have hhe := in_nI c3 (by decide)
    generalize cl how = hw at hho hhe
    subst hhe
    rcases (show hw = 0 ∨ hw = 1 ∨ hw = 2 ∨ hw = 3 ∨ hw = 4 ∨ hw = 5 by omega) with rfl | rfl | rfl | rfl | rfl | rfl
    · refine lv_tableIn (tgt := 56) hx hb dX4_clock_22 (by decide) (by decide) rfl (by decide) ?_
      refine lv_aload_n hx hb dX4_clock_56 rfl (lv_at hl 0 rfl) ?_
      refine lv_aload_n hx hb dX4_clock_57 rfl (lv_at hl 0 rfl) ?_
      refine hm_get S hK hM.pr cI4 (XS.c0 hX) 8 (by decide) w_1_49 rfl dX4_clock_58 ?_
      refine mc_i hM (rVm (rest := []) S hK hM cI4 (XS.c0 hX) rfl (c_X4_tell l D cT hX (INV.tick hI (z.2.2 1 0 + cn)) hn ((setL z 1 0 ((z.2.2 1 0) + cn)).2.2 1 0) H.size) sm_X4_tell w_S_5 w_1_156 ⟨Nat.le_of_ble_eq_true rfl, Nat.le_of_ble_eq_true rfl⟩ ⟨rfl, rfl⟩ rfl hl.1 rfl (Nat.le_of_ble_eq_true rfl) dX4_clock_61 ⟨Nat.le_of_ble_eq_true rfl, Nat.le_of_ble_eq_true rfl⟩) (fun r2 M3 H locs hpr2 hM _ _ _ => ?_)
      obtain ⟨rfl, hX⟩ := hpr2
      refine mr_i S hM hr hlocks dX4_clock_64 ⟨Nat.le_of_ble_eq_true rfl, Nat.le_of_ble_eq_true rfl⟩ ?_
      have e9 : sp_clock z cn (nI 0) = (1, (toldS (setL z 1 0 (z.2.2 1 0 + cn)) ((setL z 1 0 ((z.2.2 1 0) + cn)).2.2 1 0))) := rfl
      rw [e9]
      exact ⟨rfl, ad, rfl, hX⟩
    · refine lv_tableIn (tgt := 65) hx hb dX4_clock_22 (by decide) (by decide) rfl (by decide) ?_
      refine lv_aload_n hx hb dX4_clock_65 rfl (lv_at hl 0 rfl) ?_
      refine lv_aload_n hx hb dX4_clock_66 rfl (lv_at hl 0 rfl) ?_
      refine hm_get S hK hM.pr cI4 (XS.c0 hX) 0 (by decide) w_1_41 rfl dX4_clock_67 ?_
      refine lv_aload_n hx hb dX4_clock_70 rfl (lv_at hl 0 rfl) ?_
      refine hm_get S hK hM.pr cI4 (XS.c0 hX) 8 (by decide) w_1_49 rfl dX4_clock_71 ?_
      refine lv_l2f hx hb dX4_clock_74 ?_
      refine pc_i (rV (rest := [.ref (ad 0 0)]) S hK hM.pr cI2 hX.num.1 rfl (c_X2_bitsOfFloat l D cT H hM.pr hX.num (FP.l2f ((setL z 1 0 ((z.2.2 1 0) + cn)).2.2 1 0)) ((fin32_iff _).mp (FP.Core.l2f_fin _))) sm_X2_bitsOfFloat w_1_154 w_1_152 ⟨Nat.le_of_ble_eq_true rfl, Nat.le_of_ble_eq_true rfl⟩ ⟨rfl, rfl⟩ rfl hl.1 rfl (Nat.le_of_ble_eq_true rfl) dX4_clock_75 ⟨Nat.le_of_ble_eq_true rfl, Nat.le_of_ble_eq_true rfl⟩) (fun r4 hr4 => ?_)
      subst hr4
      refine lv_i2l hx hb dX4_clock_78 rfl ?_
      refine mc_i hM (rVm (rest := []) S hK hM cI4 (XS.c0 hX) rfl (c_X4_tell l D cT hX (INV.tick hI (z.2.2 1 0 + cn)) hn (Int32.toInt64 (UInt32.toInt32 (FP.l2f ((setL z 1 0 ((z.2.2 1 0) + cn)).2.2 1 0)))) H.size) sm_X4_tell w_S_5 w_1_156 ⟨Nat.le_of_ble_eq_true rfl, Nat.le_of_ble_eq_true rfl⟩ ⟨rfl, rfl⟩ rfl hl.1 rfl (Nat.le_of_ble_eq_true rfl) dX4_clock_79 ⟨Nat.le_of_ble_eq_true rfl, Nat.le_of_ble_eq_true rfl⟩) (fun r5 M6 H locs hpr5 hM _ _ _ => ?_)
      obtain ⟨rfl, hX⟩ := hpr5
      refine mr_i S hM hr hlocks dX4_clock_82 ⟨Nat.le_of_ble_eq_true rfl, Nat.le_of_ble_eq_true rfl⟩ ?_
      have e9 : sp_clock z cn (nI 1) = (1, (toldS (setL z 1 0 (z.2.2 1 0 + cn)) (Int32.toInt64 (UInt32.toInt32 (FP.l2f ((setL z 1 0 ((z.2.2 1 0) + cn)).2.2 1 0)))))) := rfl
      rw [e9]
      exact ⟨rfl, ad, rfl, hX⟩
    · refine lv_tableIn (tgt := 83) hx hb dX4_clock_22 (by decide) (by decide) rfl (by decide) ?_
      refine lv_aload_n hx hb dX4_clock_83 rfl (lv_at hl 0 rfl) ?_
      refine lv_aload_n hx hb dX4_clock_84 rfl (lv_at hl 0 rfl) ?_
      refine hm_get S hK hM.pr cI4 (XS.c0 hX) 0 (by decide) w_1_41 rfl dX4_clock_85 ?_
      refine lv_aload_n hx hb dX4_clock_88 rfl (lv_at hl 0 rfl) ?_
      refine hm_get S hK hM.pr cI4 (XS.c0 hX) 8 (by decide) w_1_49 rfl dX4_clock_89 ?_
      refine lv_l2d hx hb dX4_clock_92 ?_
      refine pc_l (rV (rest := [.ref (ad 0 0)]) S hK hM.pr cI2 hX.num.1 rfl (c_X2_bitsOfDouble l D cT H hM.pr hX.num (FP.l2d ((setL z 1 0 ((z.2.2 1 0) + cn)).2.2 1 0)) (l2d_fin _)) sm_X2_bitsOfDouble w_1_140 w_1_138 ⟨Nat.le_of_ble_eq_true rfl, Nat.le_of_ble_eq_true rfl⟩ ⟨rfl, rfl⟩ rfl hl.1 rfl (Nat.le_of_ble_eq_true rfl) dX4_clock_93 ⟨Nat.le_of_ble_eq_true rfl, Nat.le_of_ble_eq_true rfl⟩) (fun r7 hr7 => ?_)
      subst hr7
      refine mc_i hM (rVm (rest := []) S hK hM cI4 (XS.c0 hX) rfl (c_X4_tell l D cT hX (INV.tick hI (z.2.2 1 0 + cn)) hn (UInt64.toInt64 (FP.l2d ((setL z 1 0 ((z.2.2 1 0) + cn)).2.2 1 0))) H.size) sm_X4_tell w_S_5 w_1_156 ⟨Nat.le_of_ble_eq_true rfl, Nat.le_of_ble_eq_true rfl⟩ ⟨rfl, rfl⟩ rfl hl.1 rfl (Nat.le_of_ble_eq_true rfl) dX4_clock_96 ⟨Nat.le_of_ble_eq_true rfl, Nat.le_of_ble_eq_true rfl⟩) (fun r8 M9 H locs hpr8 hM _ _ _ => ?_)
      obtain ⟨rfl, hX⟩ := hpr8
      refine mr_i S hM hr hlocks dX4_clock_99 ⟨Nat.le_of_ble_eq_true rfl, Nat.le_of_ble_eq_true rfl⟩ ?_
      have e9 : sp_clock z cn (nI 2) = (1, (toldS (setL z 1 0 (z.2.2 1 0 + cn)) (UInt64.toInt64 (FP.l2d ((setL z 1 0 ((z.2.2 1 0) + cn)).2.2 1 0))))) := rfl
      rw [e9]
      exact ⟨rfl, ad, rfl, hX⟩
    · refine lv_tableIn (tgt := 100) hx hb dX4_clock_22 (by decide) (by decide) rfl (by decide) ?_
      refine lv_aload_n hx hb dX4_clock_100 rfl (lv_at hl 0 rfl) ?_
      refine lv_aload_n hx hb dX4_clock_101 rfl (lv_at hl 0 rfl) ?_
      refine hm_get S hK hM.pr cI4 (XS.c0 hX) 8 (by decide) w_1_49 rfl dX4_clock_102 ?_
      refine lv_l2f hx hb dX4_clock_105 ?_
      refine lv_f2l hx hb dX4_clock_106 ?_
      refine mc_i hM (rVm (rest := []) S hK hM cI4 (XS.c0 hX) rfl (c_X4_tell l D cT hX (INV.tick hI (z.2.2 1 0 + cn)) hn (FP.f2l (FP.l2f ((setL z 1 0 ((z.2.2 1 0) + cn)).2.2 1 0))) H.size) sm_X4_tell w_S_5 w_1_156 ⟨Nat.le_of_ble_eq_true rfl, Nat.le_of_ble_eq_true rfl⟩ ⟨rfl, rfl⟩ rfl hl.1 rfl (Nat.le_of_ble_eq_true rfl) dX4_clock_107 ⟨Nat.le_of_ble_eq_true rfl, Nat.le_of_ble_eq_true rfl⟩) (fun r10 M11 H locs hpr10 hM _ _ _ => ?_)
      obtain ⟨rfl, hX⟩ := hpr10
      refine mr_i S hM hr hlocks dX4_clock_110 ⟨Nat.le_of_ble_eq_true rfl, Nat.le_of_ble_eq_true rfl⟩ ?_
      have e9 : sp_clock z cn (nI 3) = (1, (toldS (setL z 1 0 (z.2.2 1 0 + cn)) (FP.f2l (FP.l2f ((setL z 1 0 ((z.2.2 1 0) + cn)).2.2 1 0))))) := rfl
      rw [e9]
      exact ⟨rfl, ad, rfl, hX⟩
    · refine lv_tableIn (tgt := 111) hx hb dX4_clock_22 (by decide) (by decide) rfl (by decide) ?_
      refine lv_aload_n hx hb dX4_clock_111 rfl (lv_at hl 0 rfl) ?_
      refine lv_aload_n hx hb dX4_clock_112 rfl (lv_at hl 0 rfl) ?_
      refine hm_get S hK hM.pr cI4 (XS.c0 hX) 8 (by decide) w_1_49 rfl dX4_clock_113 ?_
      refine lv_l2d hx hb dX4_clock_116 ?_
      refine lv_d2l hx hb dX4_clock_117 ?_
      refine mc_i hM (rVm (rest := []) S hK hM cI4 (XS.c0 hX) rfl (c_X4_tell l D cT hX (INV.tick hI (z.2.2 1 0 + cn)) hn (FP.d2l (FP.l2d ((setL z 1 0 ((z.2.2 1 0) + cn)).2.2 1 0))) H.size) sm_X4_tell w_S_5 w_1_156 ⟨Nat.le_of_ble_eq_true rfl, Nat.le_of_ble_eq_true rfl⟩ ⟨rfl, rfl⟩ rfl hl.1 rfl (Nat.le_of_ble_eq_true rfl) dX4_clock_118 ⟨Nat.le_of_ble_eq_true rfl, Nat.le_of_ble_eq_true rfl⟩) (fun r12 M13 H locs hpr12 hM _ _ _ => ?_)
      obtain ⟨rfl, hX⟩ := hpr12
      refine mr_i S hM hr hlocks dX4_clock_121 ⟨Nat.le_of_ble_eq_true rfl, Nat.le_of_ble_eq_true rfl⟩ ?_
      have e9 : sp_clock z cn (nI 4) = (1, (toldS (setL z 1 0 (z.2.2 1 0 + cn)) (FP.d2l (FP.l2d ((setL z 1 0 ((z.2.2 1 0) + cn)).2.2 1 0))))) := rfl
      rw [e9]
      exact ⟨rfl, ad, rfl, hX⟩
    · refine lv_tableOut (tgt := 122) hx hb dX4_clock_22 (by decide) (by decide) ?_
      refine lv_aload_n hx hb dX4_clock_122 rfl (lv_at hl 0 rfl) ?_
      refine lv_aload_n hx hb dX4_clock_123 rfl (lv_at hl 0 rfl) ?_
      refine hm_get S hK hM.pr cI4 (XS.c0 hX) 8 (by decide) w_1_49 rfl dX4_clock_124 ?_
      refine lv_l2f hx hb dX4_clock_127 ?_
      refine lv_f2i hx hb dX4_clock_128 ?_
      refine lv_i2l hx hb dX4_clock_129 rfl ?_
      refine mc_i hM (rVm (rest := []) S hK hM cI4 (XS.c0 hX) rfl (c_X4_tell l D cT hX (INV.tick hI (z.2.2 1 0 + cn)) hn (Int32.toInt64 (FP.f2i (FP.l2f ((setL z 1 0 ((z.2.2 1 0) + cn)).2.2 1 0)))) H.size) sm_X4_tell w_S_5 w_1_156 ⟨Nat.le_of_ble_eq_true rfl, Nat.le_of_ble_eq_true rfl⟩ ⟨rfl, rfl⟩ rfl hl.1 rfl (Nat.le_of_ble_eq_true rfl) dX4_clock_130 ⟨Nat.le_of_ble_eq_true rfl, Nat.le_of_ble_eq_true rfl⟩) (fun r14 M15 H locs hpr14 hM _ _ _ => ?_)
      obtain ⟨rfl, hX⟩ := hpr14
      refine mr_i S hM hr hlocks dX4_clock_133 ⟨Nat.le_of_ble_eq_true rfl, Nat.le_of_ble_eq_true rfl⟩ ?_
      have e9 : sp_clock z cn (nI 5) = (1, (toldS (setL z 1 0 (z.2.2 1 0 + cn)) (Int32.toInt64 (FP.f2i (FP.l2f ((setL z 1 0 ((z.2.2 1 0) + cn)).2.2 1 0)))))) := rfl
      rw [e9]
      exact ⟨rfl, ad, rfl, hX⟩
  · skip
    refine lv_if_ne (tgt := 11) hx hb dX4_clock_6 (by decide) (fun h => absurd rfl h) (fun _ => ?_)
    refine lv_iconst (v := (-1)) hx hb dX4_clock_9 (by decide) ?_
    refine mr_i S hM hr hlocks dX4_clock_10 ⟨Nat.le_of_ble_eq_true rfl, Nat.le_of_ble_eq_true rfl⟩ ?_
    have e9 : sp_clock z cn how = (-1, z) := by unfold sp_clock; exact if_neg c3
    rw [e9]
    exact ⟨rfl, ad, rfl, hX⟩
