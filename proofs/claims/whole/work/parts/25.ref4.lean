def zeroFi (F : gF) (r i : Nat) : gF := va_up F 0 (fun j => if 16 * r ≤ j ∧ j < 16 * r + i then 0 else F 0 j)
def rz (z : SG) (r i : Nat) : SG := (z.1, zeroFi z.2.1 r i, z.2.2)
theorem rz_0 (z : SG) (r : Nat) : rz z r 0 = z := by
  unfold rz zeroFi
  have e : va_up z.2.1 0 (fun j => if 16 * r ≤ j ∧ j < 16 * r + 0 then 0 else z.2.1 0 j) = z.2.1 := by
    funext c j
    unfold va_up
    by_cases hc : c = 0
    · subst hc
      rw [if_pos rfl, if_neg (by omega)]
    · rw [if_neg hc]
  rw [e]
theorem rz_step (z : SG) (r i : Nat) : setF (rz z r i) 0 (16 * r + i) FP.dconst0 = rz z r (i + 1) := by
  unfold rz setF
  have e : upF (zeroFi z.2.1 r i) 0 (16 * r + i) FP.dconst0 = zeroFi z.2.1 r (i + 1) := by
    funext c j
    unfold upF zeroFi va_up vf_upd
    by_cases hc : c = 0
    · subst hc
      rw [if_pos rfl, if_pos rfl, if_pos rfl]
      by_cases hj : j = 16 * r + i
      · rw [if_pos hj, if_pos (by omega)]; rfl
      · rw [if_neg hj]
        by_cases h2 : 16 * r ≤ j ∧ j < 16 * r + i
        · rw [if_pos h2, if_pos (by omega)]
        · rw [if_neg h2, if_neg (by omega)]
    · rw [if_neg hc, if_neg hc, if_neg hc]
  show (z.1, upF (zeroFi z.2.1 r i) 0 (16 * r + i) FP.dconst0, z.2.2) = _
  rw [e]
def hz (z : SG) (i : Nat) : SG := (z.1, va_up z.2.1 4 (fun j => if j < i then 0 else z.2.1 4 j), z.2.2)
theorem hz_0 (z : SG) : hz z 0 = z := by
  unfold hz
  have e : va_up z.2.1 4 (fun j => if j < 0 then 0 else z.2.1 4 j) = z.2.1 := by
    funext c j
    unfold va_up
    by_cases hc : c = 4
    · subst hc
      rw [if_pos rfl, if_neg (by omega)]
    · rw [if_neg hc]
  rw [e]
theorem hz_step (z : SG) (i : Nat) : setF (hz z i) 4 i FP.dconst0 = hz z (i + 1) := by
  unfold hz setF
  have e : upF (va_up z.2.1 4 (fun j => if j < i then 0 else z.2.1 4 j)) 4 i FP.dconst0 = va_up z.2.1 4 (fun j => if j < i + 1 then 0 else z.2.1 4 j) := by
    funext c j
    unfold upF va_up vf_upd
    by_cases hc : c = 4
    · subst hc
      rw [if_pos rfl, if_pos rfl, if_pos rfl]
      by_cases hj : j = i
      · rw [if_pos hj, if_pos (by omega)]; rfl
      · rw [if_neg hj]
        by_cases h2 : j < i
        · rw [if_pos h2, if_pos (by omega)]
        · rw [if_neg h2, if_neg (by omega)]
    · rw [if_neg hc, if_neg hc, if_neg hc]
  show (z.1, upF (va_up z.2.1 4 (fun j => if j < i then 0 else z.2.1 4 j)) 4 i FP.dconst0, z.2.2) = _
  rw [e]
set_option maxHeartbeats 4000000 in
set_option maxRecDepth 100000 in
theorem c_X5_row (l : Launch) (D : va_G) (cT : Nat → ClassId) {M : hmp} {a : Nat → Nat} {z : SG} (hR : RS cT a M z) {n : Nat} (hI : INV n z) (hn : n ≤ 512) (cv k n1 : Int32) (sz : Nat) : Met l yX5_row (wz yX5_row cX5_row 5 (some .int)) ({ frames := 1, cells := 0, slots := 0, locals := 22 } : Room) (mP D cT [.ref (a 0), .int cv, .int k, .int n1] M sz) (mQi (fun rr MM => rr = (sp_row z cv k n1).1 ∧ RS cT a MM (sp_row z cv k n1).2) D M sz) 0 0 (FA M sz) := by
  refine mk_m (by decide +kernel) (Nat.le_of_ble_eq_true rfl) ?_
  intro p e s m args below meth c S hK hsz hM hr hlocks hnm ls hl
  have hx := S.1
  have hb := S.2.1
  have hml := S.2.2.1
  have hown := S.2.2.2.1
  have hts := S.2.2.2.2
  have hl : lv_has ls 5 [(0, .ref (a 0)), (1, .int cv), (2, .int k), (3, .int n1)] := hl
  obtain ⟨r0, hr0, hr0e⟩ := hI.r0 hn
  refine lv_iload_n hx hb dX5_row_0 rfl (lv_at hl 2 rfl) ?_
  refine lv_iconst (v := 0) hx hb dX5_row_1 (by decide) ?_
  refine lv_iconst (v := 5) hx hb dX5_row_2 (by decide) ?_
  refine pc_b (rS (rest := []) S hK (c_X5_in l D cT s.heap k 0 5 (n := 6) (by decide) (by decide)) sm_X5_in w_2_171 ⟨Nat.le_of_ble_eq_true rfl, Nat.le_of_ble_eq_true rfl⟩ ⟨rfl, rfl⟩ rfl hl.1 rfl (Nat.le_of_ble_eq_true rfl) dX5_row_3 ⟨Nat.le_of_ble_eq_true rfl, Nat.le_of_ble_eq_true rfl⟩) (fun c3 => ?_) (fun c3 => ?_)
  · skip
    refine lv_if_eq (tgt := 19) hx hb dX5_row_6 (by decide) (fun h => absurd h (by decide)) (fun _ => ?_)
    refine lv_iload_n hx hb dX5_row_9 rfl (lv_at hl 3 rfl) ?_
    refine lv_iconst (v := 0) hx hb dX5_row_10 (by decide) ?_
    refine lv_bipush (v := 16) hx hb dX5_row_11 (by decide) ?_
    refine pc_b (rS (rest := []) S hK (c_X5_in l D cT s.heap n1 0 16 (n := 17) (by decide) (by decide)) sm_X5_in w_2_171 ⟨Nat.le_of_ble_eq_true rfl, Nat.le_of_ble_eq_true rfl⟩ ⟨rfl, rfl⟩ rfl hl.1 rfl (Nat.le_of_ble_eq_true rfl) dX5_row_13 ⟨Nat.le_of_ble_eq_true rfl, Nat.le_of_ble_eq_true rfl⟩) (fun c13 => ?_) (fun c13 => ?_)
    · skip
      refine lv_if_ne (tgt := 21) hx hb dX5_row_16 (by decide) (fun _ => ?_) (fun h => absurd h (by decide))
      refine lv_aload_n hx hb dX5_row_21 rfl (lv_at hl 0 rfl) ?_
      refine hm_get S hK hM.pr cI5 (RS.c0 hR) 1 (by decide) w_2_101 rfl dX5_row_22 ?_
      refine lv_aload_n hx hb dX5_row_25 rfl (lv_at hl 0 rfl) ?_
      refine hm_get S hK hM.pr cI5 (RS.c0 hR) 0 (by decide) w_2_100 rfl dX5_row_26 ?_
      refine lv_iload_n hx hb dX5_row_29 rfl (lv_at hl 3 rfl) ?_
      refine hm_iast S hK hM (RS.c1 hR) (by show vp_in (z.1 0 0) 600; rw [hr0e]; exact vp_in_nI (by omega) (by decide)) dX5_row_30 (fun H locs M1 hM1 hM => ?_)
      rw [show Int32.toNatClampNeg (z.1 0 0) = r0 from (by rw [hr0e]; exact cl_nI (by omega))] at hM1
      have hR := RS.u1 (k := r0) (x := n1) hR hM1
      have hR := Eq.mp (congrArg (RS cT a M1) (rz_0 (setI z 1 r0 n1) r0).symm) hR
      refine lv_iconst (v := 0) hx hb dX5_row_31 (by decide) ?_
      refine lv_istore (lv' := [(4, .int 0), (0, .ref (a 0)), (1, .int cv), (2, .int k), (3, .int n1)]) hx hb dX5_row_32 hl (by decide) rfl (fun ls hl => ?_)
      refine lv_iload hx hb dX5_row_34 (lv_at hl 0 rfl) ?_
      refine lv_bipush (v := 16) hx hb dX5_row_36 (by decide) ?_
      refine lv_icmp_ge (tgt := 63) hx hb dX5_row_38 (by decide) (fun h => absurd h (by decide)) (fun _ => ?_)
      refine lv_aload_n hx hb dX5_row_41 rfl (lv_at hl 1 rfl) ?_
      refine hm_get S hK hM.pr cI5 (RS.c0 hR) 2 (by decide) w_2_102 rfl dX5_row_42 ?_
      refine lv_bipush (v := 16) hx hb dX5_row_45 (by decide) ?_
      refine lv_aload_n hx hb dX5_row_47 rfl (lv_at hl 1 rfl) ?_
      refine hm_get S hK hM.pr cI5 (RS.c0 hR) 0 (by decide) w_2_100 rfl dX5_row_48 ?_
      refine lv_topi (fun z2 hz2 => ?_)
      have hz2 : z2 = (nI r0) := by rw [hz2]; exact hr0e
      subst hz2
      refine lv_imul hx hb dX5_row_51 ?_
      refine lv_iload hx hb dX5_row_52 (lv_at hl 0 rfl) ?_
      refine lv_iadd hx hb dX5_row_54 ?_
      refine lv_dconst0 hx hb dX5_row_55 ?_
      refine hm_dast S hK hM (RS.c2 hR) (by show vp_in (16 * nI r0 + 0) 9600; rw [show (16 : Int32) = nI 16 from rfl, show (0 : Int32) = nI 0 from rfl, pk_mul, nI_add]; exact vp_in_nI (by omega) (by decide)) dX5_row_56 (fun H locs M3 hM3 hM => ?_)
      rw [show Int32.toNatClampNeg (16 * nI r0 + 0) = 16 * r0 + 0 from (by rw [show (16 : Int32) = nI 16 from rfl, show (0 : Int32) = nI 0 from rfl, pk_mul, nI_add]; exact cl_nI (by omega))] at hM3
      have hR := RS.u2 (k := (16 * r0 + 0)) (x := FP.dconst0) hR hM3
      have hR := Eq.mp (congrArg (RS cT a M3) (rz_step (setI z 1 r0 n1) r0 0)) hR
      refine lv_iinc (v := 1) (lv' := [(4, .int 1), (0, .ref (a 0)), (1, .int cv), (2, .int k), (3, .int n1)]) hx hb dX5_row_57 hl (k := 0) rfl (by rfl) (by decide) rfl (fun ls hl => ?_)
      refine lv_goto (tgt := 34) hx hb dX5_row_60 (by decide) ?_
      refine lv_iload hx hb dX5_row_34 (lv_at hl 0 rfl) ?_
      refine lv_bipush (v := 16) hx hb dX5_row_36 (by decide) ?_
      refine lv_icmp_ge (tgt := 63) hx hb dX5_row_38 (by decide) (fun h => absurd h (by decide)) (fun _ => ?_)
      refine lv_aload_n hx hb dX5_row_41 rfl (lv_at hl 1 rfl) ?_
      refine hm_get S hK hM.pr cI5 (RS.c0 hR) 2 (by decide) w_2_102 rfl dX5_row_42 ?_
      refine lv_bipush (v := 16) hx hb dX5_row_45 (by decide) ?_
      refine lv_aload_n hx hb dX5_row_47 rfl (lv_at hl 1 rfl) ?_
      refine hm_get S hK hM.pr cI5 (RS.c0 hR) 0 (by decide) w_2_100 rfl dX5_row_48 ?_
      refine lv_topi (fun z4 hz4 => ?_)
      have hz4 : z4 = (nI r0) := by rw [hz4]; exact hr0e
      subst hz4
      refine lv_imul hx hb dX5_row_51 ?_
      refine lv_iload hx hb dX5_row_52 (lv_at hl 0 rfl) ?_
      refine lv_iadd hx hb dX5_row_54 ?_
      refine lv_dconst0 hx hb dX5_row_55 ?_
      refine hm_dast S hK hM (RS.c2 hR) (by show vp_in (16 * nI r0 + 1) 9600; rw [show (16 : Int32) = nI 16 from rfl, show (1 : Int32) = nI 1 from rfl, pk_mul, nI_add]; exact vp_in_nI (by omega) (by decide)) dX5_row_56 (fun H locs M5 hM5 hM => ?_)
      rw [show Int32.toNatClampNeg (16 * nI r0 + 1) = 16 * r0 + 1 from (by rw [show (16 : Int32) = nI 16 from rfl, show (1 : Int32) = nI 1 from rfl, pk_mul, nI_add]; exact cl_nI (by omega))] at hM5
      have hR := RS.u2 (k := (16 * r0 + 1)) (x := FP.dconst0) hR hM5
      have hR := Eq.mp (congrArg (RS cT a M5) (rz_step (setI z 1 r0 n1) r0 1)) hR
      refine lv_iinc (v := 2) (lv' := [(4, .int 2), (0, .ref (a 0)), (1, .int cv), (2, .int k), (3, .int n1)]) hx hb dX5_row_57 hl (k := 0) rfl (by rfl) (by decide) rfl (fun ls hl => ?_)
      refine lv_goto (tgt := 34) hx hb dX5_row_60 (by decide) ?_
      refine lv_iload hx hb dX5_row_34 (lv_at hl 0 rfl) ?_
      refine lv_bipush (v := 16) hx hb dX5_row_36 (by decide) ?_
      refine lv_icmp_ge (tgt := 63) hx hb dX5_row_38 (by decide) (fun h => absurd h (by decide)) (fun _ => ?_)
      refine lv_aload_n hx hb dX5_row_41 rfl (lv_at hl 1 rfl) ?_
      refine hm_get S hK hM.pr cI5 (RS.c0 hR) 2 (by decide) w_2_102 rfl dX5_row_42 ?_
      refine lv_bipush (v := 16) hx hb dX5_row_45 (by decide) ?_
      refine lv_aload_n hx hb dX5_row_47 rfl (lv_at hl 1 rfl) ?_
      refine hm_get S hK hM.pr cI5 (RS.c0 hR) 0 (by decide) w_2_100 rfl dX5_row_48 ?_
      refine lv_topi (fun z6 hz6 => ?_)
      have hz6 : z6 = (nI r0) := by rw [hz6]; exact hr0e
      subst hz6
      refine lv_imul hx hb dX5_row_51 ?_
      refine lv_iload hx hb dX5_row_52 (lv_at hl 0 rfl) ?_
      refine lv_iadd hx hb dX5_row_54 ?_
      refine lv_dconst0 hx hb dX5_row_55 ?_
      refine hm_dast S hK hM (RS.c2 hR) (by show vp_in (16 * nI r0 + 2) 9600; rw [show (16 : Int32) = nI 16 from rfl, show (2 : Int32) = nI 2 from rfl, pk_mul, nI_add]; exact vp_in_nI (by omega) (by decide)) dX5_row_56 (fun H locs M7 hM7 hM => ?_)
      rw [show Int32.toNatClampNeg (16 * nI r0 + 2) = 16 * r0 + 2 from (by rw [show (16 : Int32) = nI 16 from rfl, show (2 : Int32) = nI 2 from rfl, pk_mul, nI_add]; exact cl_nI (by omega))] at hM7
      have hR := RS.u2 (k := (16 * r0 + 2)) (x := FP.dconst0) hR hM7
      have hR := Eq.mp (congrArg (RS cT a M7) (rz_step (setI z 1 r0 n1) r0 2)) hR
      refine lv_iinc (v := 3) (lv' := [(4, .int 3), (0, .ref (a 0)), (1, .int cv), (2, .int k), (3, .int n1)]) hx hb dX5_row_57 hl (k := 0) rfl (by rfl) (by decide) rfl (fun ls hl => ?_)
      refine lv_goto (tgt := 34) hx hb dX5_row_60 (by decide) ?_
      refine lv_iload hx hb dX5_row_34 (lv_at hl 0 rfl) ?_
      refine lv_bipush (v := 16) hx hb dX5_row_36 (by decide) ?_
      refine lv_icmp_ge (tgt := 63) hx hb dX5_row_38 (by decide) (fun h => absurd h (by decide)) (fun _ => ?_)
      refine lv_aload_n hx hb dX5_row_41 rfl (lv_at hl 1 rfl) ?_
      refine hm_get S hK hM.pr cI5 (RS.c0 hR) 2 (by decide) w_2_102 rfl dX5_row_42 ?_
      refine lv_bipush (v := 16) hx hb dX5_row_45 (by decide) ?_
      refine lv_aload_n hx hb dX5_row_47 rfl (lv_at hl 1 rfl) ?_
      refine hm_get S hK hM.pr cI5 (RS.c0 hR) 0 (by decide) w_2_100 rfl dX5_row_48 ?_
      refine lv_topi (fun z8 hz8 => ?_)
      have hz8 : z8 = (nI r0) := by rw [hz8]; exact hr0e
      subst hz8
      refine lv_imul hx hb dX5_row_51 ?_
      refine lv_iload hx hb dX5_row_52 (lv_at hl 0 rfl) ?_
      refine lv_iadd hx hb dX5_row_54 ?_
      refine lv_dconst0 hx hb dX5_row_55 ?_
      refine hm_dast S hK hM (RS.c2 hR) (by show vp_in (16 * nI r0 + 3) 9600; rw [show (16 : Int32) = nI 16 from rfl, show (3 : Int32) = nI 3 from rfl, pk_mul, nI_add]; exact vp_in_nI (by omega) (by decide)) dX5_row_56 (fun H locs M9 hM9 hM => ?_)
      rw [show Int32.toNatClampNeg (16 * nI r0 + 3) = 16 * r0 + 3 from (by rw [show (16 : Int32) = nI 16 from rfl, show (3 : Int32) = nI 3 from rfl, pk_mul, nI_add]; exact cl_nI (by omega))] at hM9
      have hR := RS.u2 (k := (16 * r0 + 3)) (x := FP.dconst0) hR hM9
      have hR := Eq.mp (congrArg (RS cT a M9) (rz_step (setI z 1 r0 n1) r0 3)) hR
      refine lv_iinc (v := 4) (lv' := [(4, .int 4), (0, .ref (a 0)), (1, .int cv), (2, .int k), (3, .int n1)]) hx hb dX5_row_57 hl (k := 0) rfl (by rfl) (by decide) rfl (fun ls hl => ?_)
      refine lv_goto (tgt := 34) hx hb dX5_row_60 (by decide) ?_
      refine lv_iload hx hb dX5_row_34 (lv_at hl 0 rfl) ?_
      refine lv_bipush (v := 16) hx hb dX5_row_36 (by decide) ?_
      refine lv_icmp_ge (tgt := 63) hx hb dX5_row_38 (by decide) (fun h => absurd h (by decide)) (fun _ => ?_)
      refine lv_aload_n hx hb dX5_row_41 rfl (lv_at hl 1 rfl) ?_
      refine hm_get S hK hM.pr cI5 (RS.c0 hR) 2 (by decide) w_2_102 rfl dX5_row_42 ?_
      refine lv_bipush (v := 16) hx hb dX5_row_45 (by decide) ?_
      refine lv_aload_n hx hb dX5_row_47 rfl (lv_at hl 1 rfl) ?_
      refine hm_get S hK hM.pr cI5 (RS.c0 hR) 0 (by decide) w_2_100 rfl dX5_row_48 ?_
      refine lv_topi (fun z10 hz10 => ?_)
      have hz10 : z10 = (nI r0) := by rw [hz10]; exact hr0e
      subst hz10
      refine lv_imul hx hb dX5_row_51 ?_
      refine lv_iload hx hb dX5_row_52 (lv_at hl 0 rfl) ?_
      refine lv_iadd hx hb dX5_row_54 ?_
      refine lv_dconst0 hx hb dX5_row_55 ?_
      refine hm_dast S hK hM (RS.c2 hR) (by show vp_in (16 * nI r0 + 4) 9600; rw [show (16 : Int32) = nI 16 from rfl, show (4 : Int32) = nI 4 from rfl, pk_mul, nI_add]; exact vp_in_nI (by omega) (by decide)) dX5_row_56 (fun H locs M11 hM11 hM => ?_)
      rw [show Int32.toNatClampNeg (16 * nI r0 + 4) = 16 * r0 + 4 from (by rw [show (16 : Int32) = nI 16 from rfl, show (4 : Int32) = nI 4 from rfl, pk_mul, nI_add]; exact cl_nI (by omega))] at hM11
      have hR := RS.u2 (k := (16 * r0 + 4)) (x := FP.dconst0) hR hM11
      have hR := Eq.mp (congrArg (RS cT a M11) (rz_step (setI z 1 r0 n1) r0 4)) hR
      refine lv_iinc (v := 5) (lv' := [(4, .int 5), (0, .ref (a 0)), (1, .int cv), (2, .int k), (3, .int n1)]) hx hb dX5_row_57 hl (k := 0) rfl (by rfl) (by decide) rfl (fun ls hl => ?_)
      refine lv_goto (tgt := 34) hx hb dX5_row_60 (by decide) ?_
      refine lv_iload hx hb dX5_row_34 (lv_at hl 0 rfl) ?_
      refine lv_bipush (v := 16) hx hb dX5_row_36 (by decide) ?_
      refine lv_icmp_ge (tgt := 63) hx hb dX5_row_38 (by decide) (fun h => absurd h (by decide)) (fun _ => ?_)
      refine lv_aload_n hx hb dX5_row_41 rfl (lv_at hl 1 rfl) ?_
      refine hm_get S hK hM.pr cI5 (RS.c0 hR) 2 (by decide) w_2_102 rfl dX5_row_42 ?_
      refine lv_bipush (v := 16) hx hb dX5_row_45 (by decide) ?_
      refine lv_aload_n hx hb dX5_row_47 rfl (lv_at hl 1 rfl) ?_
      refine hm_get S hK hM.pr cI5 (RS.c0 hR) 0 (by decide) w_2_100 rfl dX5_row_48 ?_
      refine lv_topi (fun z12 hz12 => ?_)
      have hz12 : z12 = (nI r0) := by rw [hz12]; exact hr0e
      subst hz12
      refine lv_imul hx hb dX5_row_51 ?_
      refine lv_iload hx hb dX5_row_52 (lv_at hl 0 rfl) ?_
      refine lv_iadd hx hb dX5_row_54 ?_
      refine lv_dconst0 hx hb dX5_row_55 ?_
      refine hm_dast S hK hM (RS.c2 hR) (by show vp_in (16 * nI r0 + 5) 9600; rw [show (16 : Int32) = nI 16 from rfl, show (5 : Int32) = nI 5 from rfl, pk_mul, nI_add]; exact vp_in_nI (by omega) (by decide)) dX5_row_56 (fun H locs M13 hM13 hM => ?_)
      rw [show Int32.toNatClampNeg (16 * nI r0 + 5) = 16 * r0 + 5 from (by rw [show (16 : Int32) = nI 16 from rfl, show (5 : Int32) = nI 5 from rfl, pk_mul, nI_add]; exact cl_nI (by omega))] at hM13
      have hR := RS.u2 (k := (16 * r0 + 5)) (x := FP.dconst0) hR hM13
      have hR := Eq.mp (congrArg (RS cT a M13) (rz_step (setI z 1 r0 n1) r0 5)) hR
      refine lv_iinc (v := 6) (lv' := [(4, .int 6), (0, .ref (a 0)), (1, .int cv), (2, .int k), (3, .int n1)]) hx hb dX5_row_57 hl (k := 0) rfl (by rfl) (by decide) rfl (fun ls hl => ?_)
      refine lv_goto (tgt := 34) hx hb dX5_row_60 (by decide) ?_
      refine lv_iload hx hb dX5_row_34 (lv_at hl 0 rfl) ?_
      refine lv_bipush (v := 16) hx hb dX5_row_36 (by decide) ?_
      refine lv_icmp_ge (tgt := 63) hx hb dX5_row_38 (by decide) (fun h => absurd h (by decide)) (fun _ => ?_)
      refine lv_aload_n hx hb dX5_row_41 rfl (lv_at hl 1 rfl) ?_
      refine hm_get S hK hM.pr cI5 (RS.c0 hR) 2 (by decide) w_2_102 rfl dX5_row_42 ?_
      refine lv_bipush (v := 16) hx hb dX5_row_45 (by decide) ?_
      refine lv_aload_n hx hb dX5_row_47 rfl (lv_at hl 1 rfl) ?_
      refine hm_get S hK hM.pr cI5 (RS.c0 hR) 0 (by decide) w_2_100 rfl dX5_row_48 ?_
      refine lv_topi (fun z14 hz14 => ?_)
      have hz14 : z14 = (nI r0) := by rw [hz14]; exact hr0e
      subst hz14
      refine lv_imul hx hb dX5_row_51 ?_
      refine lv_iload hx hb dX5_row_52 (lv_at hl 0 rfl) ?_
      refine lv_iadd hx hb dX5_row_54 ?_
      refine lv_dconst0 hx hb dX5_row_55 ?_
      refine hm_dast S hK hM (RS.c2 hR) (by show vp_in (16 * nI r0 + 6) 9600; rw [show (16 : Int32) = nI 16 from rfl, show (6 : Int32) = nI 6 from rfl, pk_mul, nI_add]; exact vp_in_nI (by omega) (by decide)) dX5_row_56 (fun H locs M15 hM15 hM => ?_)
      rw [show Int32.toNatClampNeg (16 * nI r0 + 6) = 16 * r0 + 6 from (by rw [show (16 : Int32) = nI 16 from rfl, show (6 : Int32) = nI 6 from rfl, pk_mul, nI_add]; exact cl_nI (by omega))] at hM15
      have hR := RS.u2 (k := (16 * r0 + 6)) (x := FP.dconst0) hR hM15
      have hR := Eq.mp (congrArg (RS cT a M15) (rz_step (setI z 1 r0 n1) r0 6)) hR
      refine lv_iinc (v := 7) (lv' := [(4, .int 7), (0, .ref (a 0)), (1, .int cv), (2, .int k), (3, .int n1)]) hx hb dX5_row_57 hl (k := 0) rfl (by rfl) (by decide) rfl (fun ls hl => ?_)
      refine lv_goto (tgt := 34) hx hb dX5_row_60 (by decide) ?_
      refine lv_iload hx hb dX5_row_34 (lv_at hl 0 rfl) ?_
      refine lv_bipush (v := 16) hx hb dX5_row_36 (by decide) ?_
      refine lv_icmp_ge (tgt := 63) hx hb dX5_row_38 (by decide) (fun h => absurd h (by decide)) (fun _ => ?_)
      refine lv_aload_n hx hb dX5_row_41 rfl (lv_at hl 1 rfl) ?_
      refine hm_get S hK hM.pr cI5 (RS.c0 hR) 2 (by decide) w_2_102 rfl dX5_row_42 ?_
      refine lv_bipush (v := 16) hx hb dX5_row_45 (by decide) ?_
      refine lv_aload_n hx hb dX5_row_47 rfl (lv_at hl 1 rfl) ?_
      refine hm_get S hK hM.pr cI5 (RS.c0 hR) 0 (by decide) w_2_100 rfl dX5_row_48 ?_
      refine lv_topi (fun z16 hz16 => ?_)
      have hz16 : z16 = (nI r0) := by rw [hz16]; exact hr0e
      subst hz16
      refine lv_imul hx hb dX5_row_51 ?_
      refine lv_iload hx hb dX5_row_52 (lv_at hl 0 rfl) ?_
      refine lv_iadd hx hb dX5_row_54 ?_
      refine lv_dconst0 hx hb dX5_row_55 ?_
      refine hm_dast S hK hM (RS.c2 hR) (by show vp_in (16 * nI r0 + 7) 9600; rw [show (16 : Int32) = nI 16 from rfl, show (7 : Int32) = nI 7 from rfl, pk_mul, nI_add]; exact vp_in_nI (by omega) (by decide)) dX5_row_56 (fun H locs M17 hM17 hM => ?_)
      rw [show Int32.toNatClampNeg (16 * nI r0 + 7) = 16 * r0 + 7 from (by rw [show (16 : Int32) = nI 16 from rfl, show (7 : Int32) = nI 7 from rfl, pk_mul, nI_add]; exact cl_nI (by omega))] at hM17
      have hR := RS.u2 (k := (16 * r0 + 7)) (x := FP.dconst0) hR hM17
      have hR := Eq.mp (congrArg (RS cT a M17) (rz_step (setI z 1 r0 n1) r0 7)) hR
      refine lv_iinc (v := 8) (lv' := [(4, .int 8), (0, .ref (a 0)), (1, .int cv), (2, .int k), (3, .int n1)]) hx hb dX5_row_57 hl (k := 0) rfl (by rfl) (by decide) rfl (fun ls hl => ?_)
      refine lv_goto (tgt := 34) hx hb dX5_row_60 (by decide) ?_
      refine lv_iload hx hb dX5_row_34 (lv_at hl 0 rfl) ?_
      refine lv_bipush (v := 16) hx hb dX5_row_36 (by decide) ?_
      refine lv_icmp_ge (tgt := 63) hx hb dX5_row_38 (by decide) (fun h => absurd h (by decide)) (fun _ => ?_)
      refine lv_aload_n hx hb dX5_row_41 rfl (lv_at hl 1 rfl) ?_
      refine hm_get S hK hM.pr cI5 (RS.c0 hR) 2 (by decide) w_2_102 rfl dX5_row_42 ?_
      refine lv_bipush (v := 16) hx hb dX5_row_45 (by decide) ?_
      refine lv_aload_n hx hb dX5_row_47 rfl (lv_at hl 1 rfl) ?_
      refine hm_get S hK hM.pr cI5 (RS.c0 hR) 0 (by decide) w_2_100 rfl dX5_row_48 ?_
      refine lv_topi (fun z18 hz18 => ?_)
      have hz18 : z18 = (nI r0) := by rw [hz18]; exact hr0e
      subst hz18
      refine lv_imul hx hb dX5_row_51 ?_
      refine lv_iload hx hb dX5_row_52 (lv_at hl 0 rfl) ?_
      refine lv_iadd hx hb dX5_row_54 ?_
      refine lv_dconst0 hx hb dX5_row_55 ?_
      refine hm_dast S hK hM (RS.c2 hR) (by show vp_in (16 * nI r0 + 8) 9600; rw [show (16 : Int32) = nI 16 from rfl, show (8 : Int32) = nI 8 from rfl, pk_mul, nI_add]; exact vp_in_nI (by omega) (by decide)) dX5_row_56 (fun H locs M19 hM19 hM => ?_)
      rw [show Int32.toNatClampNeg (16 * nI r0 + 8) = 16 * r0 + 8 from (by rw [show (16 : Int32) = nI 16 from rfl, show (8 : Int32) = nI 8 from rfl, pk_mul, nI_add]; exact cl_nI (by omega))] at hM19
      have hR := RS.u2 (k := (16 * r0 + 8)) (x := FP.dconst0) hR hM19
      have hR := Eq.mp (congrArg (RS cT a M19) (rz_step (setI z 1 r0 n1) r0 8)) hR
      refine lv_iinc (v := 9) (lv' := [(4, .int 9), (0, .ref (a 0)), (1, .int cv), (2, .int k), (3, .int n1)]) hx hb dX5_row_57 hl (k := 0) rfl (by rfl) (by decide) rfl (fun ls hl => ?_)
      refine lv_goto (tgt := 34) hx hb dX5_row_60 (by decide) ?_
      refine lv_iload hx hb dX5_row_34 (lv_at hl 0 rfl) ?_
      refine lv_bipush (v := 16) hx hb dX5_row_36 (by decide) ?_
      refine lv_icmp_ge (tgt := 63) hx hb dX5_row_38 (by decide) (fun h => absurd h (by decide)) (fun _ => ?_)
      refine lv_aload_n hx hb dX5_row_41 rfl (lv_at hl 1 rfl) ?_
      refine hm_get S hK hM.pr cI5 (RS.c0 hR) 2 (by decide) w_2_102 rfl dX5_row_42 ?_
      refine lv_bipush (v := 16) hx hb dX5_row_45 (by decide) ?_
      refine lv_aload_n hx hb dX5_row_47 rfl (lv_at hl 1 rfl) ?_
      refine hm_get S hK hM.pr cI5 (RS.c0 hR) 0 (by decide) w_2_100 rfl dX5_row_48 ?_
      refine lv_topi (fun z20 hz20 => ?_)
      have hz20 : z20 = (nI r0) := by rw [hz20]; exact hr0e
      subst hz20
      refine lv_imul hx hb dX5_row_51 ?_
      refine lv_iload hx hb dX5_row_52 (lv_at hl 0 rfl) ?_
      refine lv_iadd hx hb dX5_row_54 ?_
      refine lv_dconst0 hx hb dX5_row_55 ?_
      refine hm_dast S hK hM (RS.c2 hR) (by show vp_in (16 * nI r0 + 9) 9600; rw [show (16 : Int32) = nI 16 from rfl, show (9 : Int32) = nI 9 from rfl, pk_mul, nI_add]; exact vp_in_nI (by omega) (by decide)) dX5_row_56 (fun H locs M21 hM21 hM => ?_)
      rw [show Int32.toNatClampNeg (16 * nI r0 + 9) = 16 * r0 + 9 from (by rw [show (16 : Int32) = nI 16 from rfl, show (9 : Int32) = nI 9 from rfl, pk_mul, nI_add]; exact cl_nI (by omega))] at hM21
      have hR := RS.u2 (k := (16 * r0 + 9)) (x := FP.dconst0) hR hM21
      have hR := Eq.mp (congrArg (RS cT a M21) (rz_step (setI z 1 r0 n1) r0 9)) hR
      refine lv_iinc (v := 10) (lv' := [(4, .int 10), (0, .ref (a 0)), (1, .int cv), (2, .int k), (3, .int n1)]) hx hb dX5_row_57 hl (k := 0) rfl (by rfl) (by decide) rfl (fun ls hl => ?_)
      refine lv_goto (tgt := 34) hx hb dX5_row_60 (by decide) ?_
      refine lv_iload hx hb dX5_row_34 (lv_at hl 0 rfl) ?_
      refine lv_bipush (v := 16) hx hb dX5_row_36 (by decide) ?_
      refine lv_icmp_ge (tgt := 63) hx hb dX5_row_38 (by decide) (fun h => absurd h (by decide)) (fun _ => ?_)
      refine lv_aload_n hx hb dX5_row_41 rfl (lv_at hl 1 rfl) ?_
      refine hm_get S hK hM.pr cI5 (RS.c0 hR) 2 (by decide) w_2_102 rfl dX5_row_42 ?_
      refine lv_bipush (v := 16) hx hb dX5_row_45 (by decide) ?_
      refine lv_aload_n hx hb dX5_row_47 rfl (lv_at hl 1 rfl) ?_
      refine hm_get S hK hM.pr cI5 (RS.c0 hR) 0 (by decide) w_2_100 rfl dX5_row_48 ?_
      refine lv_topi (fun z22 hz22 => ?_)
      have hz22 : z22 = (nI r0) := by rw [hz22]; exact hr0e
      subst hz22
      refine lv_imul hx hb dX5_row_51 ?_
      refine lv_iload hx hb dX5_row_52 (lv_at hl 0 rfl) ?_
      refine lv_iadd hx hb dX5_row_54 ?_
      refine lv_dconst0 hx hb dX5_row_55 ?_
      refine hm_dast S hK hM (RS.c2 hR) (by show vp_in (16 * nI r0 + 10) 9600; rw [show (16 : Int32) = nI 16 from rfl, show (10 : Int32) = nI 10 from rfl, pk_mul, nI_add]; exact vp_in_nI (by omega) (by decide)) dX5_row_56 (fun H locs M23 hM23 hM => ?_)
      rw [show Int32.toNatClampNeg (16 * nI r0 + 10) = 16 * r0 + 10 from (by rw [show (16 : Int32) = nI 16 from rfl, show (10 : Int32) = nI 10 from rfl, pk_mul, nI_add]; exact cl_nI (by omega))] at hM23
      have hR := RS.u2 (k := (16 * r0 + 10)) (x := FP.dconst0) hR hM23
      have hR := Eq.mp (congrArg (RS cT a M23) (rz_step (setI z 1 r0 n1) r0 10)) hR
      refine lv_iinc (v := 11) (lv' := [(4, .int 11), (0, .ref (a 0)), (1, .int cv), (2, .int k), (3, .int n1)]) hx hb dX5_row_57 hl (k := 0) rfl (by rfl) (by decide) rfl (fun ls hl => ?_)
      refine lv_goto (tgt := 34) hx hb dX5_row_60 (by decide) ?_
      refine lv_iload hx hb dX5_row_34 (lv_at hl 0 rfl) ?_
      refine lv_bipush (v := 16) hx hb dX5_row_36 (by decide) ?_
      refine lv_icmp_ge (tgt := 63) hx hb dX5_row_38 (by decide) (fun h => absurd h (by decide)) (fun _ => ?_)
      refine lv_aload_n hx hb dX5_row_41 rfl (lv_at hl 1 rfl) ?_
      refine hm_get S hK hM.pr cI5 (RS.c0 hR) 2 (by decide) w_2_102 rfl dX5_row_42 ?_
      refine lv_bipush (v := 16) hx hb dX5_row_45 (by decide) ?_
      refine lv_aload_n hx hb dX5_row_47 rfl (lv_at hl 1 rfl) ?_
      refine hm_get S hK hM.pr cI5 (RS.c0 hR) 0 (by decide) w_2_100 rfl dX5_row_48 ?_
      refine lv_topi (fun z24 hz24 => ?_)
      have hz24 : z24 = (nI r0) := by rw [hz24]; exact hr0e
      subst hz24
      refine lv_imul hx hb dX5_row_51 ?_
      refine lv_iload hx hb dX5_row_52 (lv_at hl 0 rfl) ?_
      refine lv_iadd hx hb dX5_row_54 ?_
      refine lv_dconst0 hx hb dX5_row_55 ?_
      refine hm_dast S hK hM (RS.c2 hR) (by show vp_in (16 * nI r0 + 11) 9600; rw [show (16 : Int32) = nI 16 from rfl, show (11 : Int32) = nI 11 from rfl, pk_mul, nI_add]; exact vp_in_nI (by omega) (by decide)) dX5_row_56 (fun H locs M25 hM25 hM => ?_)
      rw [show Int32.toNatClampNeg (16 * nI r0 + 11) = 16 * r0 + 11 from (by rw [show (16 : Int32) = nI 16 from rfl, show (11 : Int32) = nI 11 from rfl, pk_mul, nI_add]; exact cl_nI (by omega))] at hM25
      have hR := RS.u2 (k := (16 * r0 + 11)) (x := FP.dconst0) hR hM25
      have hR := Eq.mp (congrArg (RS cT a M25) (rz_step (setI z 1 r0 n1) r0 11)) hR
      refine lv_iinc (v := 12) (lv' := [(4, .int 12), (0, .ref (a 0)), (1, .int cv), (2, .int k), (3, .int n1)]) hx hb dX5_row_57 hl (k := 0) rfl (by rfl) (by decide) rfl (fun ls hl => ?_)
      refine lv_goto (tgt := 34) hx hb dX5_row_60 (by decide) ?_
      refine lv_iload hx hb dX5_row_34 (lv_at hl 0 rfl) ?_
      refine lv_bipush (v := 16) hx hb dX5_row_36 (by decide) ?_
      refine lv_icmp_ge (tgt := 63) hx hb dX5_row_38 (by decide) (fun h => absurd h (by decide)) (fun _ => ?_)
      refine lv_aload_n hx hb dX5_row_41 rfl (lv_at hl 1 rfl) ?_
      refine hm_get S hK hM.pr cI5 (RS.c0 hR) 2 (by decide) w_2_102 rfl dX5_row_42 ?_
      refine lv_bipush (v := 16) hx hb dX5_row_45 (by decide) ?_
      refine lv_aload_n hx hb dX5_row_47 rfl (lv_at hl 1 rfl) ?_
      refine hm_get S hK hM.pr cI5 (RS.c0 hR) 0 (by decide) w_2_100 rfl dX5_row_48 ?_
      refine lv_topi (fun z26 hz26 => ?_)
      have hz26 : z26 = (nI r0) := by rw [hz26]; exact hr0e
      subst hz26
      refine lv_imul hx hb dX5_row_51 ?_
      refine lv_iload hx hb dX5_row_52 (lv_at hl 0 rfl) ?_
      refine lv_iadd hx hb dX5_row_54 ?_
      refine lv_dconst0 hx hb dX5_row_55 ?_
      refine hm_dast S hK hM (RS.c2 hR) (by show vp_in (16 * nI r0 + 12) 9600; rw [show (16 : Int32) = nI 16 from rfl, show (12 : Int32) = nI 12 from rfl, pk_mul, nI_add]; exact vp_in_nI (by omega) (by decide)) dX5_row_56 (fun H locs M27 hM27 hM => ?_)
      rw [show Int32.toNatClampNeg (16 * nI r0 + 12) = 16 * r0 + 12 from (by rw [show (16 : Int32) = nI 16 from rfl, show (12 : Int32) = nI 12 from rfl, pk_mul, nI_add]; exact cl_nI (by omega))] at hM27
      have hR := RS.u2 (k := (16 * r0 + 12)) (x := FP.dconst0) hR hM27
      have hR := Eq.mp (congrArg (RS cT a M27) (rz_step (setI z 1 r0 n1) r0 12)) hR
      refine lv_iinc (v := 13) (lv' := [(4, .int 13), (0, .ref (a 0)), (1, .int cv), (2, .int k), (3, .int n1)]) hx hb dX5_row_57 hl (k := 0) rfl (by rfl) (by decide) rfl (fun ls hl => ?_)
      refine lv_goto (tgt := 34) hx hb dX5_row_60 (by decide) ?_
      refine lv_iload hx hb dX5_row_34 (lv_at hl 0 rfl) ?_
      refine lv_bipush (v := 16) hx hb dX5_row_36 (by decide) ?_
      refine lv_icmp_ge (tgt := 63) hx hb dX5_row_38 (by decide) (fun h => absurd h (by decide)) (fun _ => ?_)
      refine lv_aload_n hx hb dX5_row_41 rfl (lv_at hl 1 rfl) ?_
      refine hm_get S hK hM.pr cI5 (RS.c0 hR) 2 (by decide) w_2_102 rfl dX5_row_42 ?_
      refine lv_bipush (v := 16) hx hb dX5_row_45 (by decide) ?_
      refine lv_aload_n hx hb dX5_row_47 rfl (lv_at hl 1 rfl) ?_
      refine hm_get S hK hM.pr cI5 (RS.c0 hR) 0 (by decide) w_2_100 rfl dX5_row_48 ?_
      refine lv_topi (fun z28 hz28 => ?_)
      have hz28 : z28 = (nI r0) := by rw [hz28]; exact hr0e
      subst hz28
      refine lv_imul hx hb dX5_row_51 ?_
      refine lv_iload hx hb dX5_row_52 (lv_at hl 0 rfl) ?_
      refine lv_iadd hx hb dX5_row_54 ?_
      refine lv_dconst0 hx hb dX5_row_55 ?_
      refine hm_dast S hK hM (RS.c2 hR) (by show vp_in (16 * nI r0 + 13) 9600; rw [show (16 : Int32) = nI 16 from rfl, show (13 : Int32) = nI 13 from rfl, pk_mul, nI_add]; exact vp_in_nI (by omega) (by decide)) dX5_row_56 (fun H locs M29 hM29 hM => ?_)
      rw [show Int32.toNatClampNeg (16 * nI r0 + 13) = 16 * r0 + 13 from (by rw [show (16 : Int32) = nI 16 from rfl, show (13 : Int32) = nI 13 from rfl, pk_mul, nI_add]; exact cl_nI (by omega))] at hM29
      have hR := RS.u2 (k := (16 * r0 + 13)) (x := FP.dconst0) hR hM29
      have hR := Eq.mp (congrArg (RS cT a M29) (rz_step (setI z 1 r0 n1) r0 13)) hR
      refine lv_iinc (v := 14) (lv' := [(4, .int 14), (0, .ref (a 0)), (1, .int cv), (2, .int k), (3, .int n1)]) hx hb dX5_row_57 hl (k := 0) rfl (by rfl) (by decide) rfl (fun ls hl => ?_)
      refine lv_goto (tgt := 34) hx hb dX5_row_60 (by decide) ?_
      refine lv_iload hx hb dX5_row_34 (lv_at hl 0 rfl) ?_
      refine lv_bipush (v := 16) hx hb dX5_row_36 (by decide) ?_
      refine lv_icmp_ge (tgt := 63) hx hb dX5_row_38 (by decide) (fun h => absurd h (by decide)) (fun _ => ?_)
      refine lv_aload_n hx hb dX5_row_41 rfl (lv_at hl 1 rfl) ?_
      refine hm_get S hK hM.pr cI5 (RS.c0 hR) 2 (by decide) w_2_102 rfl dX5_row_42 ?_
      refine lv_bipush (v := 16) hx hb dX5_row_45 (by decide) ?_
      refine lv_aload_n hx hb dX5_row_47 rfl (lv_at hl 1 rfl) ?_
      refine hm_get S hK hM.pr cI5 (RS.c0 hR) 0 (by decide) w_2_100 rfl dX5_row_48 ?_
      refine lv_topi (fun z30 hz30 => ?_)
      have hz30 : z30 = (nI r0) := by rw [hz30]; exact hr0e
      subst hz30
      refine lv_imul hx hb dX5_row_51 ?_
      refine lv_iload hx hb dX5_row_52 (lv_at hl 0 rfl) ?_
      refine lv_iadd hx hb dX5_row_54 ?_
      refine lv_dconst0 hx hb dX5_row_55 ?_
      refine hm_dast S hK hM (RS.c2 hR) (by show vp_in (16 * nI r0 + 14) 9600; rw [show (16 : Int32) = nI 16 from rfl, show (14 : Int32) = nI 14 from rfl, pk_mul, nI_add]; exact vp_in_nI (by omega) (by decide)) dX5_row_56 (fun H locs M31 hM31 hM => ?_)
      rw [show Int32.toNatClampNeg (16 * nI r0 + 14) = 16 * r0 + 14 from (by rw [show (16 : Int32) = nI 16 from rfl, show (14 : Int32) = nI 14 from rfl, pk_mul, nI_add]; exact cl_nI (by omega))] at hM31
      have hR := RS.u2 (k := (16 * r0 + 14)) (x := FP.dconst0) hR hM31
      have hR := Eq.mp (congrArg (RS cT a M31) (rz_step (setI z 1 r0 n1) r0 14)) hR
      refine lv_iinc (v := 15) (lv' := [(4, .int 15), (0, .ref (a 0)), (1, .int cv), (2, .int k), (3, .int n1)]) hx hb dX5_row_57 hl (k := 0) rfl (by rfl) (by decide) rfl (fun ls hl => ?_)
      refine lv_goto (tgt := 34) hx hb dX5_row_60 (by decide) ?_
      refine lv_iload hx hb dX5_row_34 (lv_at hl 0 rfl) ?_
      refine lv_bipush (v := 16) hx hb dX5_row_36 (by decide) ?_
      refine lv_icmp_ge (tgt := 63) hx hb dX5_row_38 (by decide) (fun h => absurd h (by decide)) (fun _ => ?_)
      refine lv_aload_n hx hb dX5_row_41 rfl (lv_at hl 1 rfl) ?_
      refine hm_get S hK hM.pr cI5 (RS.c0 hR) 2 (by decide) w_2_102 rfl dX5_row_42 ?_
      refine lv_bipush (v := 16) hx hb dX5_row_45 (by decide) ?_
      refine lv_aload_n hx hb dX5_row_47 rfl (lv_at hl 1 rfl) ?_
      refine hm_get S hK hM.pr cI5 (RS.c0 hR) 0 (by decide) w_2_100 rfl dX5_row_48 ?_
      refine lv_topi (fun z32 hz32 => ?_)
      have hz32 : z32 = (nI r0) := by rw [hz32]; exact hr0e
      subst hz32
      refine lv_imul hx hb dX5_row_51 ?_
      refine lv_iload hx hb dX5_row_52 (lv_at hl 0 rfl) ?_
      refine lv_iadd hx hb dX5_row_54 ?_
      refine lv_dconst0 hx hb dX5_row_55 ?_
      refine hm_dast S hK hM (RS.c2 hR) (by show vp_in (16 * nI r0 + 15) 9600; rw [show (16 : Int32) = nI 16 from rfl, show (15 : Int32) = nI 15 from rfl, pk_mul, nI_add]; exact vp_in_nI (by omega) (by decide)) dX5_row_56 (fun H locs M33 hM33 hM => ?_)
      rw [show Int32.toNatClampNeg (16 * nI r0 + 15) = 16 * r0 + 15 from (by rw [show (16 : Int32) = nI 16 from rfl, show (15 : Int32) = nI 15 from rfl, pk_mul, nI_add]; exact cl_nI (by omega))] at hM33
      have hR := RS.u2 (k := (16 * r0 + 15)) (x := FP.dconst0) hR hM33
      have hR := Eq.mp (congrArg (RS cT a M33) (rz_step (setI z 1 r0 n1) r0 15)) hR
      refine lv_iinc (v := 16) (lv' := [(4, .int 16), (0, .ref (a 0)), (1, .int cv), (2, .int k), (3, .int n1)]) hx hb dX5_row_57 hl (k := 0) rfl (by rfl) (by decide) rfl (fun ls hl => ?_)
      refine lv_goto (tgt := 34) hx hb dX5_row_60 (by decide) ?_
      refine lv_iload hx hb dX5_row_34 (lv_at hl 0 rfl) ?_
      refine lv_bipush (v := 16) hx hb dX5_row_36 (by decide) ?_
      refine lv_icmp_ge (tgt := 63) hx hb dX5_row_38 (by decide) (fun _ => ?_) (fun h => absurd (by decide) h)
      refine lv_aload_n hx hb dX5_row_63 rfl (lv_at hl 1 rfl) ?_
      refine hm_get S hK hM.pr cI5 (RS.c0 hR) 3 (by decide) w_2_103 rfl dX5_row_64 ?_
      refine lv_iload_n hx hb dX5_row_67 rfl (lv_at hl 2 rfl) ?_
      refine lv_iload_n hx hb dX5_row_68 rfl (lv_at hl 3 rfl) ?_
      refine pc_i (rS (rest := [.ref (a 3)]) S hK (c_X5_slotOf l D cT H cv k) sm_X5_slotOf w_2_174 ⟨Nat.le_of_ble_eq_true rfl, Nat.le_of_ble_eq_true rfl⟩ ⟨rfl, rfl⟩ rfl hl.1 rfl (Nat.le_of_ble_eq_true rfl) dX5_row_69 ⟨Nat.le_of_ble_eq_true rfl, Nat.le_of_ble_eq_true rfl⟩) (fun r34 hr34 => ?_)
      subst hr34
      refine lv_aload_n hx hb dX5_row_72 rfl (lv_at hl 1 rfl) ?_
      refine hm_get S hK hM.pr cI5 (RS.c0 hR) 0 (by decide) w_2_100 rfl dX5_row_73 ?_
      refine lv_topi (fun z35 hz35 => ?_)
      have hz35 : z35 = (nI r0) := by rw [hz35]; exact hr0e
      subst hz35
      refine hm_iast S hK hM (RS.c3 hR) (slot_lt (cv := cv) c3).1 dX5_row_76 (fun H locs M36 hM36 hM => ?_)
      have hR := RS.u3 (k := (Int32.toNatClampNeg (if cv = 0 then k else 6 + k))) (x := (nI r0)) hR hM36
      refine lv_aload_n hx hb dX5_row_77 rfl (lv_at hl 1 rfl) ?_
      refine lv_dup hx hb dX5_row_78 rfl ?_
      refine hm_get S hK hM.pr cI5 (RS.c0 hR) 0 (by decide) w_2_100 rfl dX5_row_79 ?_
      refine lv_iconst (v := 1) hx hb dX5_row_82 (by decide) ?_
      refine lv_iadd hx hb dX5_row_83 ?_
      refine lv_topi (fun z37 hz37 => ?_)
      have hz37 : z37 = (nI r0 + 1) := by rw [hz37]; exact congrArg (fun w => w + 1) hr0e
      subst hz37
      refine hm_put S hK hM cI5 (RS.c0 hR) 0 (by decide) w_2_100 rfl rfl rfl (Nat.le_of_ble_eq_true rfl) dX5_row_84 (fun H locs M38 hM38 hM => ?_)
      have hR := RS.f0 hR hM38
      refine lv_iconst (v := 1) hx hb dX5_row_87 (by decide) ?_
      refine mr_i S hM hr hlocks dX5_row_88 ⟨Nat.le_of_ble_eq_true rfl, Nat.le_of_ble_eq_true rfl⟩ ?_
      have hR := RS.ghost (k := r0) (x := if cv = 0 then 0 else 1) hR
      have e9 : sp_row z cv k n1 = (1, setI (setI (setI (rz (setI z 1 r0 n1) r0 16) 2 (Int32.toNatClampNeg (if cv = 0 then k else 6 + k)) (nI r0)) 0 0 (nI r0 + 1)) 11 r0 (if cv = 0 then 0 else 1)) := by unfold sp_row; rw [if_pos ⟨c3, c13⟩, hr0e, cl_nI (by omega)]; rfl
      rw [e9]
      exact ⟨rfl, hR⟩
    · skip
      refine lv_if_ne (tgt := 21) hx hb dX5_row_16 (by decide) (fun h => absurd rfl h) (fun _ => ?_)
      refine lv_iconst (v := (-1)) hx hb dX5_row_19 (by decide) ?_
      refine mr_i S hM hr hlocks dX5_row_20 ⟨Nat.le_of_ble_eq_true rfl, Nat.le_of_ble_eq_true rfl⟩ ?_
      have e9 : sp_row z cv k n1 = ((-1), z) := by unfold sp_row; rw [if_neg (fun q => c13 q.2)]
      rw [e9]
      exact ⟨rfl, hR⟩
  · skip
    refine lv_if_eq (tgt := 19) hx hb dX5_row_6 (by decide) (fun _ => ?_) (fun h => absurd (by decide) h)
    refine lv_iconst (v := (-1)) hx hb dX5_row_19 (by decide) ?_
    refine mr_i S hM hr hlocks dX5_row_20 ⟨Nat.le_of_ble_eq_true rfl, Nat.le_of_ble_eq_true rfl⟩ ?_
    have e9 : sp_row z cv k n1 = ((-1), z) := by unfold sp_row; rw [if_neg (fun q => c3 q.1)]
    rw [e9]
    exact ⟨rfl, hR⟩
set_option maxHeartbeats 4000000 in
set_option maxRecDepth 100000 in
theorem c_X5_hush (l : Launch) (D : va_G) (cT : Nat → ClassId) {M : hmp} {a : Nat → Nat} {z : SG} (hR : RS cT a M z) {n : Nat} (hI : INV n z) (hn : n ≤ 512)  (sz : Nat) : Met l yX5_hush (wz yX5_hush cX5_hush 2 (some .int)) ({ frames := 0, cells := 0, slots := 0, locals := 0 } : Room) (mP D cT [.ref (a 0)] M sz) (mQi (fun rr MM => rr = (sp_hush z).1 ∧ RS cT a MM (sp_hush z).2) D M sz) 0 0 (FA M sz) := by
  refine mk_m (by decide +kernel) (Nat.le_of_ble_eq_true rfl) ?_
  intro p e s m args below meth c S hK hsz hM hr hlocks hnm ls hl
  have hx := S.1
  have hb := S.2.1
  have hml := S.2.2.1
  have hown := S.2.2.2.1
  have hts := S.2.2.2.2
  have hl : lv_has ls 2 [(0, .ref (a 0))] := hl
  have hR := Eq.mp (congrArg (RS cT a M) (hz_0 z).symm) hR
  refine lv_iconst (v := 0) hx hb dX5_hush_0 (by decide) ?_
  refine lv_istore_n (lv' := [(1, .int 0), (0, .ref (a 0))]) hx hb dX5_hush_1 rfl hl (by decide) rfl (fun ls hl => ?_)
  refine lv_iload_n hx hb dX5_hush_2 rfl (lv_at hl 0 rfl) ?_
  refine lv_bipush (v := 8) hx hb dX5_hush_3 (by decide) ?_
  refine lv_icmp_ge (tgt := 21) hx hb dX5_hush_5 (by decide) (fun h => absurd h (by decide)) (fun _ => ?_)
  refine lv_aload_n hx hb dX5_hush_8 rfl (lv_at hl 1 rfl) ?_
  refine hm_get S hK hM.pr cI5 (RS.c0 hR) 17 (by decide) w_2_117 rfl dX5_hush_9 ?_
  refine lv_iload_n hx hb dX5_hush_12 rfl (lv_at hl 0 rfl) ?_
  refine lv_dconst0 hx hb dX5_hush_13 ?_
  refine hm_dast S hK hM (RS.c16 hR) (show inR 0 8 from by decide) dX5_hush_14 (fun H locs M1 hM1 hM => ?_)
  have hR := RS.u16 (k := (Int32.toNatClampNeg 0)) (x := FP.dconst0) hR hM1
  have hR := Eq.mp (congrArg (RS cT a M1) (hz_step z 0)) hR
  refine lv_iinc (v := 1) (lv' := [(1, .int 1), (0, .ref (a 0))]) hx hb dX5_hush_15 hl (k := 0) rfl (by rfl) (by decide) rfl (fun ls hl => ?_)
  refine lv_goto (tgt := 2) hx hb dX5_hush_18 (by decide) ?_
  refine lv_iload_n hx hb dX5_hush_2 rfl (lv_at hl 0 rfl) ?_
  refine lv_bipush (v := 8) hx hb dX5_hush_3 (by decide) ?_
  refine lv_icmp_ge (tgt := 21) hx hb dX5_hush_5 (by decide) (fun h => absurd h (by decide)) (fun _ => ?_)
  refine lv_aload_n hx hb dX5_hush_8 rfl (lv_at hl 1 rfl) ?_
  refine hm_get S hK hM.pr cI5 (RS.c0 hR) 17 (by decide) w_2_117 rfl dX5_hush_9 ?_
  refine lv_iload_n hx hb dX5_hush_12 rfl (lv_at hl 0 rfl) ?_
  refine lv_dconst0 hx hb dX5_hush_13 ?_
  refine hm_dast S hK hM (RS.c16 hR) (show inR 1 8 from by decide) dX5_hush_14 (fun H locs M2 hM2 hM => ?_)
  have hR := RS.u16 (k := (Int32.toNatClampNeg 1)) (x := FP.dconst0) hR hM2
  have hR := Eq.mp (congrArg (RS cT a M2) (hz_step z 1)) hR
  refine lv_iinc (v := 2) (lv' := [(1, .int 2), (0, .ref (a 0))]) hx hb dX5_hush_15 hl (k := 0) rfl (by rfl) (by decide) rfl (fun ls hl => ?_)
  refine lv_goto (tgt := 2) hx hb dX5_hush_18 (by decide) ?_
  refine lv_iload_n hx hb dX5_hush_2 rfl (lv_at hl 0 rfl) ?_
  refine lv_bipush (v := 8) hx hb dX5_hush_3 (by decide) ?_
  refine lv_icmp_ge (tgt := 21) hx hb dX5_hush_5 (by decide) (fun h => absurd h (by decide)) (fun _ => ?_)
  refine lv_aload_n hx hb dX5_hush_8 rfl (lv_at hl 1 rfl) ?_
  refine hm_get S hK hM.pr cI5 (RS.c0 hR) 17 (by decide) w_2_117 rfl dX5_hush_9 ?_
  refine lv_iload_n hx hb dX5_hush_12 rfl (lv_at hl 0 rfl) ?_
  refine lv_dconst0 hx hb dX5_hush_13 ?_
  refine hm_dast S hK hM (RS.c16 hR) (show inR 2 8 from by decide) dX5_hush_14 (fun H locs M3 hM3 hM => ?_)
  have hR := RS.u16 (k := (Int32.toNatClampNeg 2)) (x := FP.dconst0) hR hM3
  have hR := Eq.mp (congrArg (RS cT a M3) (hz_step z 2)) hR
  refine lv_iinc (v := 3) (lv' := [(1, .int 3), (0, .ref (a 0))]) hx hb dX5_hush_15 hl (k := 0) rfl (by rfl) (by decide) rfl (fun ls hl => ?_)
  refine lv_goto (tgt := 2) hx hb dX5_hush_18 (by decide) ?_
  refine lv_iload_n hx hb dX5_hush_2 rfl (lv_at hl 0 rfl) ?_
  refine lv_bipush (v := 8) hx hb dX5_hush_3 (by decide) ?_
  refine lv_icmp_ge (tgt := 21) hx hb dX5_hush_5 (by decide) (fun h => absurd h (by decide)) (fun _ => ?_)
  refine lv_aload_n hx hb dX5_hush_8 rfl (lv_at hl 1 rfl) ?_
  refine hm_get S hK hM.pr cI5 (RS.c0 hR) 17 (by decide) w_2_117 rfl dX5_hush_9 ?_
  refine lv_iload_n hx hb dX5_hush_12 rfl (lv_at hl 0 rfl) ?_
  refine lv_dconst0 hx hb dX5_hush_13 ?_
  refine hm_dast S hK hM (RS.c16 hR) (show inR 3 8 from by decide) dX5_hush_14 (fun H locs M4 hM4 hM => ?_)
  have hR := RS.u16 (k := (Int32.toNatClampNeg 3)) (x := FP.dconst0) hR hM4
  have hR := Eq.mp (congrArg (RS cT a M4) (hz_step z 3)) hR
  refine lv_iinc (v := 4) (lv' := [(1, .int 4), (0, .ref (a 0))]) hx hb dX5_hush_15 hl (k := 0) rfl (by rfl) (by decide) rfl (fun ls hl => ?_)
  refine lv_goto (tgt := 2) hx hb dX5_hush_18 (by decide) ?_
  refine lv_iload_n hx hb dX5_hush_2 rfl (lv_at hl 0 rfl) ?_
  refine lv_bipush (v := 8) hx hb dX5_hush_3 (by decide) ?_
  refine lv_icmp_ge (tgt := 21) hx hb dX5_hush_5 (by decide) (fun h => absurd h (by decide)) (fun _ => ?_)
  refine lv_aload_n hx hb dX5_hush_8 rfl (lv_at hl 1 rfl) ?_
  refine hm_get S hK hM.pr cI5 (RS.c0 hR) 17 (by decide) w_2_117 rfl dX5_hush_9 ?_
  refine lv_iload_n hx hb dX5_hush_12 rfl (lv_at hl 0 rfl) ?_
  refine lv_dconst0 hx hb dX5_hush_13 ?_
  refine hm_dast S hK hM (RS.c16 hR) (show inR 4 8 from by decide) dX5_hush_14 (fun H locs M5 hM5 hM => ?_)
  have hR := RS.u16 (k := (Int32.toNatClampNeg 4)) (x := FP.dconst0) hR hM5
  have hR := Eq.mp (congrArg (RS cT a M5) (hz_step z 4)) hR
  refine lv_iinc (v := 5) (lv' := [(1, .int 5), (0, .ref (a 0))]) hx hb dX5_hush_15 hl (k := 0) rfl (by rfl) (by decide) rfl (fun ls hl => ?_)
  refine lv_goto (tgt := 2) hx hb dX5_hush_18 (by decide) ?_
  refine lv_iload_n hx hb dX5_hush_2 rfl (lv_at hl 0 rfl) ?_
  refine lv_bipush (v := 8) hx hb dX5_hush_3 (by decide) ?_
  refine lv_icmp_ge (tgt := 21) hx hb dX5_hush_5 (by decide) (fun h => absurd h (by decide)) (fun _ => ?_)
  refine lv_aload_n hx hb dX5_hush_8 rfl (lv_at hl 1 rfl) ?_
  refine hm_get S hK hM.pr cI5 (RS.c0 hR) 17 (by decide) w_2_117 rfl dX5_hush_9 ?_
  refine lv_iload_n hx hb dX5_hush_12 rfl (lv_at hl 0 rfl) ?_
  refine lv_dconst0 hx hb dX5_hush_13 ?_
  refine hm_dast S hK hM (RS.c16 hR) (show inR 5 8 from by decide) dX5_hush_14 (fun H locs M6 hM6 hM => ?_)
  have hR := RS.u16 (k := (Int32.toNatClampNeg 5)) (x := FP.dconst0) hR hM6
  have hR := Eq.mp (congrArg (RS cT a M6) (hz_step z 5)) hR
  refine lv_iinc (v := 6) (lv' := [(1, .int 6), (0, .ref (a 0))]) hx hb dX5_hush_15 hl (k := 0) rfl (by rfl) (by decide) rfl (fun ls hl => ?_)
  refine lv_goto (tgt := 2) hx hb dX5_hush_18 (by decide) ?_
  refine lv_iload_n hx hb dX5_hush_2 rfl (lv_at hl 0 rfl) ?_
  refine lv_bipush (v := 8) hx hb dX5_hush_3 (by decide) ?_
  refine lv_icmp_ge (tgt := 21) hx hb dX5_hush_5 (by decide) (fun h => absurd h (by decide)) (fun _ => ?_)
  refine lv_aload_n hx hb dX5_hush_8 rfl (lv_at hl 1 rfl) ?_
  refine hm_get S hK hM.pr cI5 (RS.c0 hR) 17 (by decide) w_2_117 rfl dX5_hush_9 ?_
  refine lv_iload_n hx hb dX5_hush_12 rfl (lv_at hl 0 rfl) ?_
  refine lv_dconst0 hx hb dX5_hush_13 ?_
  refine hm_dast S hK hM (RS.c16 hR) (show inR 6 8 from by decide) dX5_hush_14 (fun H locs M7 hM7 hM => ?_)
  have hR := RS.u16 (k := (Int32.toNatClampNeg 6)) (x := FP.dconst0) hR hM7
  have hR := Eq.mp (congrArg (RS cT a M7) (hz_step z 6)) hR
  refine lv_iinc (v := 7) (lv' := [(1, .int 7), (0, .ref (a 0))]) hx hb dX5_hush_15 hl (k := 0) rfl (by rfl) (by decide) rfl (fun ls hl => ?_)
  refine lv_goto (tgt := 2) hx hb dX5_hush_18 (by decide) ?_
  refine lv_iload_n hx hb dX5_hush_2 rfl (lv_at hl 0 rfl) ?_
  refine lv_bipush (v := 8) hx hb dX5_hush_3 (by decide) ?_
  refine lv_icmp_ge (tgt := 21) hx hb dX5_hush_5 (by decide) (fun h => absurd h (by decide)) (fun _ => ?_)
  refine lv_aload_n hx hb dX5_hush_8 rfl (lv_at hl 1 rfl) ?_
  refine hm_get S hK hM.pr cI5 (RS.c0 hR) 17 (by decide) w_2_117 rfl dX5_hush_9 ?_
  refine lv_iload_n hx hb dX5_hush_12 rfl (lv_at hl 0 rfl) ?_
  refine lv_dconst0 hx hb dX5_hush_13 ?_
  refine hm_dast S hK hM (RS.c16 hR) (show inR 7 8 from by decide) dX5_hush_14 (fun H locs M8 hM8 hM => ?_)
  have hR := RS.u16 (k := (Int32.toNatClampNeg 7)) (x := FP.dconst0) hR hM8
  have hR := Eq.mp (congrArg (RS cT a M8) (hz_step z 7)) hR
  refine lv_iinc (v := 8) (lv' := [(1, .int 8), (0, .ref (a 0))]) hx hb dX5_hush_15 hl (k := 0) rfl (by rfl) (by decide) rfl (fun ls hl => ?_)
  refine lv_goto (tgt := 2) hx hb dX5_hush_18 (by decide) ?_
  refine lv_iload_n hx hb dX5_hush_2 rfl (lv_at hl 0 rfl) ?_
  refine lv_bipush (v := 8) hx hb dX5_hush_3 (by decide) ?_
  refine lv_icmp_ge (tgt := 21) hx hb dX5_hush_5 (by decide) (fun _ => ?_) (fun h => absurd (by decide) h)
  refine lv_iconst (v := 1) hx hb dX5_hush_21 (by decide) ?_
  refine mr_i S hM hr hlocks dX5_hush_22 ⟨Nat.le_of_ble_eq_true rfl, Nat.le_of_ble_eq_true rfl⟩ ?_
  exact ⟨rfl, hR⟩
