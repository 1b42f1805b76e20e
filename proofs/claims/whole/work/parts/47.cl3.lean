theorem flo_fin32 {x : UInt64} (h : flo x) : fin32 (FP.d2f x) := by
  have hf := flo_fin h
  have hz : zmg x ≤ un64 5183643170566569984 := FP.Core.unitsOf_le_iff.mpr h
  have hMX : FP.Core.zval FP.Core.b64 (FP.Core.val64 dMX) = (un64 5183643170566569984 : Int) := by decide +kernel
  have hNX : FP.Core.zval FP.Core.b64 (FP.Core.val64 dNX) = -(un64 5183643170566569984 : Int) := by decide +kernel
  have hx := zv_eq hf
  generalize un64 5183643170566569984 = B at hz hMX hNX
  have h1 : FP.Core.zval FP.Core.b64 (FP.Core.val64 x) ≤ FP.Core.zval FP.Core.b64 (FP.Core.val64 dMX) := by
    rw [hMX, hx]; by_cases hs : 9223372036854775808 ≤ x.toNat
    · rw [if_pos hs]; omega
    · rw [if_neg hs]; omega
  have h2 : FP.Core.zval FP.Core.b64 (FP.Core.val64 dNX) ≤ FP.Core.zval FP.Core.b64 (FP.Core.val64 x) := by
    rw [hNX, hx]; by_cases hs : 9223372036854775808 ≤ x.toNat
    · rw [if_pos hs]; omega
    · rw [if_neg hs]; omega
  rw [zv_MX] at h1
  rw [zv_NX] at h2
  have k1 := d2f_le hf nn_fMX h1
  have k2 := d2f_ge hf nn_fNX h2
  rw [zf_MX] at k1
  rw [zf_NX] at k2
  exact fin32_of (d2f_ne (fin64_nn hf)) k1 k2
set_option maxHeartbeats 4000000 in
set_option maxRecDepth 100000 in
theorem c_X4_row (l : Launch) (D : va_G) (cT : Nat → ClassId) {M : hmp} {fu fd : Nat → UInt64} {ad : Nat → Nat → Nat} {z : SG} {n : Nat} (hX : XS cT fu fd ad M z) (hI : INV n z) (hn : n < 512) (cv k m0 : Int32) (sz : Nat) : Met l yX4_row (wz yX4_row cX4_row 4 (some .int)) ({ frames := 1, cells := 1, slots := 16, locals := 21 } : Room) (mP D cT [.ref (ad 0 0), .int cv, .int k, .int m0] M sz) (mQi (fun rr MM => rr = (sp_row z cv k m0).1 ∧ ∃ ad1, ad1 0 0 = ad 0 0 ∧ XS cT fu fd ad1 MM (sp_row z cv k m0).2) D M sz) 1 16 (FA M sz) := by
  refine mk_m (by decide +kernel) (Nat.le_of_ble_eq_true rfl) ?_
  intro p e s m args below meth c S hK hsz hM hr hlocks hnm ls hl
  have hx := S.1
  have hb := S.2.1
  have hml := S.2.2.1
  have hown := S.2.2.2.1
  have hts := S.2.2.2.2
  have hl : lv_has ls 4 [(0, .ref (ad 0 0)), (1, .int cv), (2, .int k), (3, .int m0)] := hl
  refine lv_iload_n hx hb dX4_row_0 rfl (lv_at hl 2 rfl) ?_
  refine lv_bipush (v := 6) hx hb dX4_row_1 (by decide) ?_
  refine pc_b (rS (rest := []) S hK (c_X4_isBelow l D cT s.heap k 6 (n := 6) (by decide) rfl) sm_X4_isBelow w_1_77 ⟨Nat.le_of_ble_eq_true rfl, Nat.le_of_ble_eq_true rfl⟩ ⟨rfl, rfl⟩ rfl hl.1 rfl (Nat.le_of_ble_eq_true rfl) dX4_row_3 ⟨Nat.le_of_ble_eq_true rfl, Nat.le_of_ble_eq_true rfl⟩) (fun c3 => ?_) (fun c3 => ?_)
  · skip
    refine lv_if_eq (tgt := 18) hx hb dX4_row_6 (by decide) (fun h => absurd h (by decide)) (fun _ => ?_)
    refine lv_iload_n hx hb dX4_row_9 rfl (lv_at hl 3 rfl) ?_
    refine lv_bipush (v := 17) hx hb dX4_row_10 (by decide) ?_
    refine pc_b (rS (rest := []) S hK (c_X4_isBelow l D cT s.heap m0 17 (n := 17) (by decide) rfl) sm_X4_isBelow w_1_77 ⟨Nat.le_of_ble_eq_true rfl, Nat.le_of_ble_eq_true rfl⟩ ⟨rfl, rfl⟩ rfl hl.1 rfl (Nat.le_of_ble_eq_true rfl) dX4_row_12 ⟨Nat.le_of_ble_eq_true rfl, Nat.le_of_ble_eq_true rfl⟩) (fun c12 => ?_) (fun c12 => ?_)
    · skip
      refine lv_if_ne (tgt := 20) hx hb dX4_row_15 (by decide) (fun _ => ?_) (fun h => absurd h (by decide))
      refine lv_aload_n hx hb dX4_row_20 rfl (lv_at hl 0 rfl) ?_
      refine lv_iload_n hx hb dX4_row_21 rfl (lv_at hl 1 rfl) ?_
      refine pc_a (rV (rest := []) S hK hM.pr cI4 (XS.c0 hX) rfl (c_X4_rowsOf l D cT s.heap hM.pr hX cv) sm_X4_rowsOf w_S_0 w_1_80 ⟨Nat.le_of_ble_eq_true rfl, Nat.le_of_ble_eq_true rfl⟩ ⟨rfl, rfl⟩ rfl hl.1 rfl (Nat.le_of_ble_eq_true rfl) dX4_row_22 ⟨Nat.le_of_ble_eq_true rfl, Nat.le_of_ble_eq_true rfl⟩) ?_
      refine lv_iload_n hx hb dX4_row_25 rfl (lv_at hl 2 rfl) ?_
      refine lv_iload_n hx hb dX4_row_26 rfl (lv_at hl 3 rfl) ?_
      have h17 := in_cl c12
      refine hm_newa S hK hM 0 (atype := .double) (ty := .double) w_1_32 rfl rfl (fun _ _ h => h) (n := m0) (N' := cl m0) (a0 := (cl m0, rD (fun _ => 0))) (fun _ => rfl) (fun w => c12 (Or.inl w)) rfl (by show cl m0 * 8 ≤ 536870912; omega) (Nat.le_of_ble_eq_true rfl) (by show 0 + cl m0 ≤ 16; omega) dX4_row_27 (fun q H M1 hq hM1 hM => ?_)
      obtain ⟨hX, hne⟩ := hX.frame hq hM1
      refine hm_aastA S hK hM (hX.rows cv) (up_at hM1) c3 dX4_row_29 (fun H locs M2 hM2 hM => ?_)
      have hX := XS.nRow hX hI hn c3 hne (up_at hM1) hM2
      refine lv_iconst (v := 1) hx hb dX4_row_30 (by decide) ?_
      refine mr_i S hM hr hlocks dX4_row_31 ⟨(Nat.le_of_ble_eq_true rfl), by show 0 + cl m0 ≤ 16; omega⟩ ?_
      have e9 : sp_row z cv k m0 = (1, rowZ z cv k m0) := by unfold sp_row; exact if_pos ⟨c3, c12⟩
      rw [e9]
      exact ⟨rfl, _, congrFun (upA_c _ (by decide)) 0, hX⟩
    · skip
      refine lv_if_ne (tgt := 20) hx hb dX4_row_15 (by decide) (fun h => absurd rfl h) (fun _ => ?_)
      refine lv_iconst (v := (-1)) hx hb dX4_row_18 (by decide) ?_
      refine mr_i S hM hr hlocks dX4_row_19 ⟨Nat.le_of_ble_eq_true rfl, Nat.le_of_ble_eq_true rfl⟩ ?_
      have e9 : sp_row z cv k m0 = (-1, z) := by unfold sp_row; rw [if_neg (fun q => c12 q.2)]
      rw [e9]
      exact ⟨rfl, ad, rfl, hX⟩
  · skip
    refine lv_if_eq (tgt := 18) hx hb dX4_row_6 (by decide) (fun _ => ?_) (fun h => absurd (by decide) h)
    refine lv_iconst (v := (-1)) hx hb dX4_row_18 (by decide) ?_
    refine mr_i S hM hr hlocks dX4_row_19 ⟨Nat.le_of_ble_eq_true rfl, Nat.le_of_ble_eq_true rfl⟩ ?_
    have e9 : sp_row z cv k m0 = (-1, z) := by unfold sp_row; rw [if_neg (fun q => c3 q.1)]
    rw [e9]
    exact ⟨rfl, ad, rfl, hX⟩
set_option maxHeartbeats 4000000 in
set_option maxRecDepth 100000 in
theorem c_X4_share (l : Launch) (D : va_G) (cT : Nat → ClassId) {M : hmp} {fu fd : Nat → UInt64} {ad : Nat → Nat → Nat} {z : SG} {n : Nat} (hX : XS cT fu fd ad M z) (hI : INV n z) (hn : n < 512) (cv f t : Int32) (sz : Nat) : Met l yX4_share (wz yX4_share cX4_share 5 (some .int)) ({ frames := 1, cells := 0, slots := 0, locals := 21 } : Room) (mP D cT [.ref (ad 0 0), .int cv, .int f, .int t] M sz) (mQi (fun rr MM => rr = (sp_share z cv f t).1 ∧ ∃ ad1, ad1 0 0 = ad 0 0 ∧ XS cT fu fd ad1 MM (sp_share z cv f t).2) D M sz) 0 0 (FA M sz) := by
  refine mk_m (by decide +kernel) (Nat.le_of_ble_eq_true rfl) ?_
  intro p e s m args below meth c S hK hsz hM hr hlocks hnm ls hl
  have hx := S.1
  have hb := S.2.1
  have hml := S.2.2.1
  have hown := S.2.2.2.1
  have hts := S.2.2.2.2
  have hl : lv_has ls 5 [(0, .ref (ad 0 0)), (1, .int cv), (2, .int f), (3, .int t)] := hl
  refine lv_iload_n hx hb dX4_share_0 rfl (lv_at hl 2 rfl) ?_
  refine lv_bipush (v := 6) hx hb dX4_share_1 (by decide) ?_
  refine pc_b (rS (rest := []) S hK (c_X4_isBelow l D cT s.heap f 6 (n := 6) (by decide) rfl) sm_X4_isBelow w_1_77 ⟨Nat.le_of_ble_eq_true rfl, Nat.le_of_ble_eq_true rfl⟩ ⟨rfl, rfl⟩ rfl hl.1 rfl (Nat.le_of_ble_eq_true rfl) dX4_share_3 ⟨Nat.le_of_ble_eq_true rfl, Nat.le_of_ble_eq_true rfl⟩) (fun c3 => ?_) (fun c3 => ?_)
  · skip
    refine lv_if_eq (tgt := 18) hx hb dX4_share_6 (by decide) (fun h => absurd h (by decide)) (fun _ => ?_)
    refine lv_iload_n hx hb dX4_share_9 rfl (lv_at hl 3 rfl) ?_
    refine lv_bipush (v := 6) hx hb dX4_share_10 (by decide) ?_
    refine pc_b (rS (rest := []) S hK (c_X4_isBelow l D cT s.heap t 6 (n := 6) (by decide) rfl) sm_X4_isBelow w_1_77 ⟨Nat.le_of_ble_eq_true rfl, Nat.le_of_ble_eq_true rfl⟩ ⟨rfl, rfl⟩ rfl hl.1 rfl (Nat.le_of_ble_eq_true rfl) dX4_share_12 ⟨Nat.le_of_ble_eq_true rfl, Nat.le_of_ble_eq_true rfl⟩) (fun c12 => ?_) (fun c12 => ?_)
    · skip
      refine lv_if_ne (tgt := 20) hx hb dX4_share_15 (by decide) (fun _ => ?_) (fun h => absurd h (by decide))
      refine lv_aload_n hx hb dX4_share_20 rfl (lv_at hl 0 rfl) ?_
      refine lv_iload_n hx hb dX4_share_21 rfl (lv_at hl 1 rfl) ?_
      refine pc_a (rV (rest := []) S hK hM.pr cI4 (XS.c0 hX) rfl (c_X4_rowsOf l D cT s.heap hM.pr hX cv) sm_X4_rowsOf w_S_0 w_1_80 ⟨Nat.le_of_ble_eq_true rfl, Nat.le_of_ble_eq_true rfl⟩ ⟨rfl, rfl⟩ rfl hl.1 rfl (Nat.le_of_ble_eq_true rfl) dX4_share_22 ⟨Nat.le_of_ble_eq_true rfl, Nat.le_of_ble_eq_true rfl⟩) ?_
      refine lv_astore (lv' := [(4, .ref (ad 0 (rws cv))), (0, .ref (ad 0 0)), (1, .int cv), (2, .int f), (3, .int t)]) hx hb dX4_share_25 hl (by decide) rfl (fun ls hl => ?_)
      refine lv_aload hx hb dX4_share_27 (lv_at hl 0 rfl) ?_
      refine lv_iload_n hx hb dX4_share_29 rfl (lv_at hl 4 rfl) ?_
      refine lv_aload hx hb dX4_share_30 (lv_at hl 0 rfl) ?_
      refine lv_iload_n hx hb dX4_share_32 rfl (lv_at hl 3 rfl) ?_
      refine hx_rows S hK hM.pr hX cv c3 dX4_share_33 (fun n33 => ?_) (fun n33 => ?_)
      · skip
        refine hm_aastAN S hK hM (hX.rows cv) c12 dX4_share_34 (fun H locs M2 hM2 hM => ?_)
        have hX0 := hX
        have hX := XS.uRw (M1 := M2) (x := (z.1 2 (slot cv f))) c12 hX (by rw [show orf (ad 1) (z.1 2 (slot cv f)) = none from if_pos n33]; exact hM2)
        refine lv_aload hx hb dX4_share_35 (lv_at hl 0 rfl) ?_
        refine lv_iload_n hx hb dX4_share_37 rfl (lv_at hl 4 rfl) ?_
        refine hx_rows S hK hM.pr hX cv c12 dX4_share_38 (fun _ => ?_) (fun w => absurd (show (setI z 2 (slot cv t) (z.1 2 (slot cv f))).1 2 (slot cv t) < 0 by rw [setI_s]; exact n33) w)
        refine lv_ifnullN (tgt := 46) hx hb dX4_share_39 (by decide) ?_
        refine lv_iconst (v := 0) hx hb dX4_share_46 (by decide) ?_
        refine mr_i S hM hr hlocks dX4_share_47 ⟨Nat.le_of_ble_eq_true rfl, Nat.le_of_ble_eq_true rfl⟩ ?_
        have e9 : sp_share z cv f t = (0, (setI z 2 (slot cv t) (z.1 2 (slot cv f)))) := by unfold sp_share; rw [if_pos ⟨c3, c12⟩, show (if z.1 2 (slot cv f) < 0 then (0 : Int32) else 1) = 0 from if_pos n33]; rfl
        rw [e9]
        exact ⟨rfl, ad, rfl, hX⟩
      · skip
        refine hm_aastA S hK hM (hX.rows cv) (hX.row (hI.slr (by omega) (slot_lt (cv := cv) c3).2.1 n33)) c12 dX4_share_34 (fun H locs M2 hM2 hM => ?_)
        have hX := XS.uRw (M1 := M2) (x := (z.1 2 (slot cv f))) c12 hX (by rw [show orf (ad 1) (z.1 2 (slot cv f)) = some (ad 1 (cl (z.1 2 (slot cv f)))) from if_neg n33]; exact hM2)
        refine lv_aload hx hb dX4_share_35 (lv_at hl 0 rfl) ?_
        refine lv_iload_n hx hb dX4_share_37 rfl (lv_at hl 4 rfl) ?_
        refine hx_rows S hK hM.pr hX cv c12 dX4_share_38 (fun w => absurd (by rw [setI_s] at w; exact w) n33) (fun _ => ?_)
        refine lv_ifnull hx hb dX4_share_39 ?_
        refine lv_iconst (v := 1) hx hb dX4_share_42 (by decide) ?_
        refine lv_goto (tgt := 47) hx hb dX4_share_43 (by decide) ?_
        refine mr_i S hM hr hlocks dX4_share_47 ⟨Nat.le_of_ble_eq_true rfl, Nat.le_of_ble_eq_true rfl⟩ ?_
        have e9 : sp_share z cv f t = (1, (setI z 2 (slot cv t) (z.1 2 (slot cv f)))) := by unfold sp_share; rw [if_pos ⟨c3, c12⟩, show (if z.1 2 (slot cv f) < 0 then (0 : Int32) else 1) = 1 from if_neg n33]; rfl
        rw [e9]
        exact ⟨rfl, ad, rfl, hX⟩
    · skip
      refine lv_if_ne (tgt := 20) hx hb dX4_share_15 (by decide) (fun h => absurd rfl h) (fun _ => ?_)
      refine lv_iconst (v := (-1)) hx hb dX4_share_18 (by decide) ?_
      refine mr_i S hM hr hlocks dX4_share_19 ⟨Nat.le_of_ble_eq_true rfl, Nat.le_of_ble_eq_true rfl⟩ ?_
      have e9 : sp_share z cv f t = (-1, z) := by unfold sp_share; rw [if_neg (fun q => c12 q.2)]
      rw [e9]
      exact ⟨rfl, ad, rfl, hX⟩
  · skip
    refine lv_if_eq (tgt := 18) hx hb dX4_share_6 (by decide) (fun _ => ?_) (fun h => absurd (by decide) h)
    refine lv_iconst (v := (-1)) hx hb dX4_share_18 (by decide) ?_
    refine mr_i S hM hr hlocks dX4_share_19 ⟨Nat.le_of_ble_eq_true rfl, Nat.le_of_ble_eq_true rfl⟩ ?_
    have e9 : sp_share z cv f t = (-1, z) := by unfold sp_share; rw [if_neg (fun q => c3 q.1)]
    rw [e9]
    exact ⟨rfl, ad, rfl, hX⟩
set_option maxHeartbeats 4000000 in
set_option maxRecDepth 100000 in
theorem c_X4_drop (l : Launch) (D : va_G) (cT : Nat → ClassId) {M : hmp} {fu fd : Nat → UInt64} {ad : Nat → Nat → Nat} {z : SG} {n : Nat} (hX : XS cT fu fd ad M z) (hI : INV n z) (hn : n < 512) (cv k : Int32) (sz : Nat) : Met l yX4_drop (wz yX4_drop cX4_drop 5 (some .int)) ({ frames := 1, cells := 0, slots := 0, locals := 21 } : Room) (mP D cT [.ref (ad 0 0), .int cv, .int k] M sz) (mQi (fun rr MM => rr = (sp_drop z cv k).1 ∧ ∃ ad1, ad1 0 0 = ad 0 0 ∧ XS cT fu fd ad1 MM (sp_drop z cv k).2) D M sz) 0 0 (FA M sz) := by
  refine mk_m (by decide +kernel) (Nat.le_of_ble_eq_true rfl) ?_
  intro p e s m args below meth c S hK hsz hM hr hlocks hnm ls hl
  have hx := S.1
  have hb := S.2.1
  have hml := S.2.2.1
  have hown := S.2.2.2.1
  have hts := S.2.2.2.2
  have hl : lv_has ls 5 [(0, .ref (ad 0 0)), (1, .int cv), (2, .int k)] := hl
  refine lv_iload_n hx hb dX4_drop_0 rfl (lv_at hl 2 rfl) ?_
  refine lv_bipush (v := 6) hx hb dX4_drop_1 (by decide) ?_
  refine pc_b (rS (rest := []) S hK (c_X4_isBelow l D cT s.heap k 6 (n := 6) (by decide) rfl) sm_X4_isBelow w_1_77 ⟨Nat.le_of_ble_eq_true rfl, Nat.le_of_ble_eq_true rfl⟩ ⟨rfl, rfl⟩ rfl hl.1 rfl (Nat.le_of_ble_eq_true rfl) dX4_drop_3 ⟨Nat.le_of_ble_eq_true rfl, Nat.le_of_ble_eq_true rfl⟩) (fun c3 => ?_) (fun c3 => ?_)
  · skip
    refine lv_if_ne (tgt := 11) hx hb dX4_drop_6 (by decide) (fun _ => ?_) (fun h => absurd h (by decide))
    refine lv_aload_n hx hb dX4_drop_11 rfl (lv_at hl 0 rfl) ?_
    refine lv_iload_n hx hb dX4_drop_12 rfl (lv_at hl 1 rfl) ?_
    refine pc_a (rV (rest := []) S hK hM.pr cI4 (XS.c0 hX) rfl (c_X4_rowsOf l D cT s.heap hM.pr hX cv) sm_X4_rowsOf w_S_0 w_1_80 ⟨Nat.le_of_ble_eq_true rfl, Nat.le_of_ble_eq_true rfl⟩ ⟨rfl, rfl⟩ rfl hl.1 rfl (Nat.le_of_ble_eq_true rfl) dX4_drop_13 ⟨Nat.le_of_ble_eq_true rfl, Nat.le_of_ble_eq_true rfl⟩) ?_
    refine lv_astore_n (lv' := [(3, .ref (ad 0 (rws cv))), (0, .ref (ad 0 0)), (1, .int cv), (2, .int k)]) hx hb dX4_drop_16 rfl hl (by decide) rfl (fun ls hl => ?_)
    refine lv_aload_n hx hb dX4_drop_17 rfl (lv_at hl 0 rfl) ?_
    refine lv_iload_n hx hb dX4_drop_18 rfl (lv_at hl 3 rfl) ?_
    refine hx_rows S hK hM.pr hX cv c3 dX4_drop_19 (fun n19 => ?_) (fun n19 => ?_)
    · skip
      refine lv_ifnullN (tgt := 27) hx hb dX4_drop_20 (by decide) ?_
      refine lv_iconst (v := 0) hx hb dX4_drop_27 (by decide) ?_
      refine lv_istore (lv' := [(4, .int 0), (3, .ref (ad 0 (rws cv))), (0, .ref (ad 0 0)), (1, .int cv), (2, .int k)]) hx hb dX4_drop_28 hl (by decide) rfl (fun ls hl => ?_)
      refine lv_aload_n hx hb dX4_drop_30 rfl (lv_at hl 1 rfl) ?_
      refine lv_iload_n hx hb dX4_drop_31 rfl (lv_at hl 4 rfl) ?_
      refine lv_null hx hb dX4_drop_32 ?_
      refine hm_aastAN S hK hM (hX.rows cv) c3 dX4_drop_33 (fun H locs M2 hM2 hM => ?_)
      have hX := XS.uRw (x := -1) c3 hX hM2
      refine lv_iload hx hb dX4_drop_34 (lv_at hl 0 rfl) ?_
      refine lv_if_eq (tgt := 43) hx hb dX4_drop_36 (by decide) (fun _ => ?_) (fun h => absurd (by decide) h)
      refine lv_iconst (v := 0) hx hb dX4_drop_43 (by decide) ?_
      refine mr_i S hM hr hlocks dX4_drop_44 ⟨Nat.le_of_ble_eq_true rfl, Nat.le_of_ble_eq_true rfl⟩ ?_
      have e9 : sp_drop z cv k = (0, (setI z 2 (slot cv k) (-1))) := by unfold sp_drop; rw [if_pos c3, show (if z.1 2 (slot cv k) < 0 then (0 : Int32) else 1) = 0 from if_pos n19]; rfl
      rw [e9]
      exact ⟨rfl, ad, rfl, hX⟩
    · skip
      refine lv_ifnull hx hb dX4_drop_20 ?_
      refine lv_iconst (v := 1) hx hb dX4_drop_23 (by decide) ?_
      refine lv_goto (tgt := 28) hx hb dX4_drop_24 (by decide) ?_
      refine lv_istore (lv' := [(4, .int 1), (3, .ref (ad 0 (rws cv))), (0, .ref (ad 0 0)), (1, .int cv), (2, .int k)]) hx hb dX4_drop_28 hl (by decide) rfl (fun ls hl => ?_)
      refine lv_aload_n hx hb dX4_drop_30 rfl (lv_at hl 1 rfl) ?_
      refine lv_iload_n hx hb dX4_drop_31 rfl (lv_at hl 4 rfl) ?_
      refine lv_null hx hb dX4_drop_32 ?_
      refine hm_aastAN S hK hM (hX.rows cv) c3 dX4_drop_33 (fun H locs M2 hM2 hM => ?_)
      have hX := XS.uRw (x := -1) c3 hX hM2
      refine lv_iload hx hb dX4_drop_34 (lv_at hl 0 rfl) ?_
      refine lv_if_eq (tgt := 43) hx hb dX4_drop_36 (by decide) (fun h => absurd h (by decide)) (fun _ => ?_)
      refine lv_iconst (v := 1) hx hb dX4_drop_39 (by decide) ?_
      refine lv_goto (tgt := 44) hx hb dX4_drop_40 (by decide) ?_
      refine mr_i S hM hr hlocks dX4_drop_44 ⟨Nat.le_of_ble_eq_true rfl, Nat.le_of_ble_eq_true rfl⟩ ?_
      have e9 : sp_drop z cv k = (1, (setI z 2 (slot cv k) (-1))) := by unfold sp_drop; rw [if_pos c3, show (if z.1 2 (slot cv k) < 0 then (0 : Int32) else 1) = 1 from if_neg n19]; rfl
      rw [e9]
      exact ⟨rfl, ad, rfl, hX⟩
  · skip
    refine lv_if_ne (tgt := 11) hx hb dX4_drop_6 (by decide) (fun h => absurd rfl h) (fun _ => ?_)
    refine lv_iconst (v := (-1)) hx hb dX4_drop_9 (by decide) ?_
    refine mr_i S hM hr hlocks dX4_drop_10 ⟨Nat.le_of_ble_eq_true rfl, Nat.le_of_ble_eq_true rfl⟩ ?_
    have e9 : sp_drop z cv k = (-1, z) := by unfold sp_drop; rw [if_neg (fun q => c3 q)]
    rw [e9]
    exact ⟨rfl, ad, rfl, hX⟩
set_option maxHeartbeats 4000000 in
set_option maxRecDepth 100000 in
theorem c_X4_set (l : Launch) (D : va_G) (cT : Nat → ClassId) {M : hmp} {fu fd : Nat → UInt64} {ad : Nat → Nat → Nat} {z : SG} {n : Nat} (hX : XS cT fu fd ad M z) (hI : INV n z) (hn : n < 512) (cv k i : Int32) (b : Int64) (sz : Nat) : Met l yX4_set (wz yX4_set cX4_set 7 (some .int)) ({ frames := 5, cells := 0, slots := 0, locals := 127 } : Room) (mP D cT [.ref (ad 0 0), .int cv, .int k, .int i, .long b] M sz) (mQi (fun rr MM => rr = (sp_set z cv k i b).1 ∧ ∃ ad1, ad1 0 0 = ad 0 0 ∧ XS cT fu fd ad1 MM (sp_set z cv k i b).2) D M sz) 0 0 (FA M sz) := by
  refine mk_m (by decide +kernel) (Nat.le_of_ble_eq_true rfl) ?_
  intro p e s m args below meth c S hK hsz hM hr hlocks hnm ls hl
  have hx := S.1
  have hb := S.2.1
  have hml := S.2.2.1
  have hown := S.2.2.2.1
  have hts := S.2.2.2.2
  have hl : lv_has ls 7 [(0, .ref (ad 0 0)), (1, .int cv), (2, .int k), (3, .int i), (4, .long b)] := hl
  refine lv_iload_n hx hb dX4_set_0 rfl (lv_at hl 2 rfl) ?_
  refine lv_bipush (v := 6) hx hb dX4_set_1 (by decide) ?_
  refine pc_b (rS (rest := []) S hK (c_X4_isBelow l D cT s.heap k 6 (n := 6) (by decide) rfl) sm_X4_isBelow w_1_77 ⟨Nat.le_of_ble_eq_true rfl, Nat.le_of_ble_eq_true rfl⟩ ⟨rfl, rfl⟩ rfl hl.1 rfl (Nat.le_of_ble_eq_true rfl) dX4_set_3 ⟨Nat.le_of_ble_eq_true rfl, Nat.le_of_ble_eq_true rfl⟩) (fun c3 => ?_) (fun c3 => ?_)
  · skip
    refine lv_if_eq (tgt := 32) hx hb dX4_set_6 (by decide) (fun h => absurd h (by decide)) (fun _ => ?_)
    refine lv_iload_n hx hb dX4_set_9 rfl (lv_at hl 1 rfl) ?_
    refine lv_if_eq (tgt := 24) hx hb dX4_set_10 (by decide) (fun c10 => ?_) (fun c10 => ?_)
    · skip
      refine lv_lload hx hb dX4_set_24 (lv_at hl 4 rfl) ?_
      refine pc_b (rS (rest := []) S hK (c_X2_isFloat l D cT s.heap b) sm_X2_isFloat w_1_100 ⟨Nat.le_of_ble_eq_true rfl, Nat.le_of_ble_eq_true rfl⟩ ⟨rfl, rfl⟩ rfl hl.1 rfl (Nat.le_of_ble_eq_true rfl) dX4_set_26 ⟨Nat.le_of_ble_eq_true rfl, Nat.le_of_ble_eq_true rfl⟩) (fun c26 => ?_) (fun c26 => ?_)
      · skip
        refine lv_if_ne (tgt := 34) hx hb dX4_set_29 (by decide) (fun _ => ?_) (fun h => absurd h (by decide))
        refine lv_aload_n hx hb dX4_set_34 rfl (lv_at hl 0 rfl) ?_
        refine lv_iload_n hx hb dX4_set_35 rfl (lv_at hl 1 rfl) ?_
        refine pc_a (rV (rest := []) S hK hM.pr cI4 (XS.c0 hX) rfl (c_X4_rowsOf l D cT s.heap hM.pr hX cv) sm_X4_rowsOf w_S_0 w_1_80 ⟨Nat.le_of_ble_eq_true rfl, Nat.le_of_ble_eq_true rfl⟩ ⟨rfl, rfl⟩ rfl hl.1 rfl (Nat.le_of_ble_eq_true rfl) dX4_set_36 ⟨Nat.le_of_ble_eq_true rfl, Nat.le_of_ble_eq_true rfl⟩) ?_
        refine lv_iload_n hx hb dX4_set_39 rfl (lv_at hl 2 rfl) ?_
        refine hx_rows S hK hM.pr hX cv c3 dX4_set_40 (fun n40 => ?_) (fun n40 => ?_)
        · skip
          refine lv_astoreN (lv' := [(6, .null), (0, .ref (ad 0 0)), (1, .int cv), (2, .int k), (3, .int i), (4, .long b)]) hx hb dX4_set_41 hl (by decide) rfl (fun ls hl => ?_)
          refine lv_aloadN hx hb dX4_set_43 (lv_at hl 0 rfl) ?_
          refine lv_ifnonnullN hx hb dX4_set_45 ?_
          refine lv_iconst (v := 1) hx hb dX4_set_48 (by decide) ?_
          refine pc_i (rS (rest := []) S hK (c_X4_answerFor l D cT s.heap 1) sm_X4_answerFor w_1_104 ⟨Nat.le_of_ble_eq_true rfl, Nat.le_of_ble_eq_true rfl⟩ ⟨rfl, rfl⟩ rfl hl.1 rfl (Nat.le_of_ble_eq_true rfl) dX4_set_49 ⟨Nat.le_of_ble_eq_true rfl, Nat.le_of_ble_eq_true rfl⟩) (fun r1 hr1 => ?_)
          subst hr1
          refine mr_i S hM hr hlocks dX4_set_52 ⟨Nat.le_of_ble_eq_true rfl, Nat.le_of_ble_eq_true rfl⟩ ?_
          have hok : okB cv b := by unfold okB; rw [if_pos c10]; exact c26
          have e9 : sp_set z cv k i b = ((-10 - 1), z) := by unfold sp_set; rw [if_pos ⟨c3, hok⟩, show ask z cv k i = 1 from if_pos n40, if_neg (by decide)]
          rw [e9]
          exact ⟨rfl, ad, rfl, hX⟩
        · skip
          refine lv_astore (lv' := [(6, .ref (ad 1 (cl (z.1 2 (slot cv k))))), (0, .ref (ad 0 0)), (1, .int cv), (2, .int k), (3, .int i), (4, .long b)]) hx hb dX4_set_41 hl (by decide) rfl (fun ls hl => ?_)
          refine lv_aload hx hb dX4_set_43 (lv_at hl 0 rfl) ?_
          refine lv_ifnonnull (tgt := 53) hx hb dX4_set_45 (by decide) ?_
          have hrl := hI.slr (show n ≤ 512 by omega) (slot_lt (cv := cv) c3).2.1 n40
          have hsz := (hI.sl (show n ≤ 512 by omega) (slot_lt (cv := cv) c3).2.1 n40).2
          have hsz2 := in_cl hsz
          refine lv_iload_n hx hb dX4_set_53 rfl (lv_at hl 4 rfl) ?_
          refine lv_aload hx hb dX4_set_54 (lv_at hl 0 rfl) ?_
          refine hm_alen S hK hM.pr (hX.row hrl) rfl dX4_set_56 ?_
          refine pc_b (rS (rest := []) S hK (c_X4_isBelow l D cT s.heap i (nI (cl (z.1 1 (cl (z.1 2 (slot cv k)))))) (n := cl (z.1 1 (cl (z.1 2 (slot cv k))))) (by omega) rfl) sm_X4_isBelow w_1_77 ⟨Nat.le_of_ble_eq_true rfl, Nat.le_of_ble_eq_true rfl⟩ ⟨rfl, rfl⟩ rfl hl.1 rfl (Nat.le_of_ble_eq_true rfl) dX4_set_57 ⟨Nat.le_of_ble_eq_true rfl, Nat.le_of_ble_eq_true rfl⟩) (fun c57 => ?_) (fun c57 => ?_)
          · skip
            refine lv_if_ne (tgt := 68) hx hb dX4_set_60 (by decide) (fun _ => ?_) (fun h => absurd h (by decide))
            refine lv_aload hx hb dX4_set_68 (lv_at hl 0 rfl) ?_
            refine lv_iload_n hx hb dX4_set_70 rfl (lv_at hl 4 rfl) ?_
            refine lv_iload_n hx hb dX4_set_71 rfl (lv_at hl 2 rfl) ?_
            refine lv_if_eq (tgt := 87) hx hb dX4_set_72 (by decide) (fun _ => ?_) (fun w => absurd c10 w)
            refine lv_aload_n hx hb dX4_set_87 rfl (lv_at hl 1 rfl) ?_
            refine hm_get S hK hM.pr cI4 (XS.c0 hX) 0 (by decide) w_1_41 rfl dX4_set_88 ?_
            refine lv_lload hx hb dX4_set_91 (lv_at hl 5 rfl) ?_
            refine pc_f (rV (rest := [.int i, .ref (ad 1 (cl (z.1 2 (slot cv k))))]) S hK hM.pr cI2 hX.num.1 rfl (x_floatOf l D cT s.heap hM.pr hX.num b c26) sm_X2_floatOf w_1_130 w_1_128 ⟨Nat.le_of_ble_eq_true rfl, Nat.le_of_ble_eq_true rfl⟩ ⟨rfl, rfl⟩ rfl hl.1 rfl (Nat.le_of_ble_eq_true rfl) dX4_set_93 ⟨Nat.le_of_ble_eq_true rfl, Nat.le_of_ble_eq_true rfl⟩) (fun r2 hr2 => ?_)
            subst hr2
            refine lv_f2d hx hb dX4_set_96 (n64_fin (fin_f2d c26)) ?_
            refine hm_dast S hK hM (hX.row hrl) c57 dX4_set_97 (fun H locs M2 hM2 hM => ?_)
            have hX := XS.uItem hrl (show cl i < 16 by have := in_cl c57; omega) hX hM2
            refine lv_iconst (v := 1) hx hb dX4_set_98 (by decide) ?_
            refine mr_i S hM hr hlocks dX4_set_99 ⟨Nat.le_of_ble_eq_true rfl, Nat.le_of_ble_eq_true rfl⟩ ?_
            have hok : okB cv b := by unfold okB; rw [if_pos c10]; exact c26
            have e9 : sp_set z cv k i b = (1, (setF z 0 (16 * (cl (z.1 2 (slot cv k))) + cl i) (FP.f2d (lo32 b)))) := by unfold sp_set; rw [if_pos ⟨c3, hok⟩, if_pos (show ask z cv k i = 0 from (if_neg n40).trans (if_pos c57)), show numB cv b = FP.f2d (lo32 b) from if_pos c10]; rfl
            rw [e9]
            exact ⟨rfl, ad, rfl, hX⟩
          · skip
            refine lv_if_ne (tgt := 68) hx hb dX4_set_60 (by decide) (fun h => absurd rfl h) (fun _ => ?_)
            refine lv_iconst (v := 2) hx hb dX4_set_63 (by decide) ?_
            refine pc_i (rS (rest := []) S hK (c_X4_answerFor l D cT s.heap 2) sm_X4_answerFor w_1_104 ⟨Nat.le_of_ble_eq_true rfl, Nat.le_of_ble_eq_true rfl⟩ ⟨rfl, rfl⟩ rfl hl.1 rfl (Nat.le_of_ble_eq_true rfl) dX4_set_64 ⟨Nat.le_of_ble_eq_true rfl, Nat.le_of_ble_eq_true rfl⟩) (fun r3 hr3 => ?_)
            subst hr3
            refine mr_i S hM hr hlocks dX4_set_67 ⟨Nat.le_of_ble_eq_true rfl, Nat.le_of_ble_eq_true rfl⟩ ?_
            have hok : okB cv b := by unfold okB; rw [if_pos c10]; exact c26
            have e9 : sp_set z cv k i b = ((-10 - 2), z) := by unfold sp_set; rw [if_pos ⟨c3, hok⟩, show ask z cv k i = 2 from (if_neg n40).trans (if_neg c57), if_neg (by decide)]
            rw [e9]
            exact ⟨rfl, ad, rfl, hX⟩
      · skip
        refine lv_if_ne (tgt := 34) hx hb dX4_set_29 (by decide) (fun h => absurd rfl h) (fun _ => ?_)
        refine lv_iconst (v := (-1)) hx hb dX4_set_32 (by decide) ?_
        refine mr_i S hM hr hlocks dX4_set_33 ⟨Nat.le_of_ble_eq_true rfl, Nat.le_of_ble_eq_true rfl⟩ ?_
        have e9 : sp_set z cv k i b = (-1, z) := by unfold sp_set; exact if_neg (fun q => by have q2 := q.2; unfold okB at q2; rw [if_pos c10] at q2; exact c26 q2)
        rw [e9]
        exact ⟨rfl, ad, rfl, hX⟩
    · skip
      refine lv_lload hx hb dX4_set_13 (lv_at hl 4 rfl) ?_
      refine pc_b (rS (rest := []) S hK (c_X2_isDouble l D cT s.heap b) sm_X2_isDouble w_1_96 ⟨Nat.le_of_ble_eq_true rfl, Nat.le_of_ble_eq_true rfl⟩ ⟨rfl, rfl⟩ rfl hl.1 rfl (Nat.le_of_ble_eq_true rfl) dX4_set_15 ⟨Nat.le_of_ble_eq_true rfl, Nat.le_of_ble_eq_true rfl⟩) (fun c15 => ?_) (fun c15 => ?_)
      · skip
        refine lv_if_eq (tgt := 32) hx hb dX4_set_18 (by decide) (fun h => absurd h (by decide)) (fun _ => ?_)
        refine lv_goto (tgt := 34) hx hb dX4_set_21 (by decide) ?_
        refine lv_aload_n hx hb dX4_set_34 rfl (lv_at hl 0 rfl) ?_
        refine lv_iload_n hx hb dX4_set_35 rfl (lv_at hl 1 rfl) ?_
        refine pc_a (rV (rest := []) S hK hM.pr cI4 (XS.c0 hX) rfl (c_X4_rowsOf l D cT s.heap hM.pr hX cv) sm_X4_rowsOf w_S_0 w_1_80 ⟨Nat.le_of_ble_eq_true rfl, Nat.le_of_ble_eq_true rfl⟩ ⟨rfl, rfl⟩ rfl hl.1 rfl (Nat.le_of_ble_eq_true rfl) dX4_set_36 ⟨Nat.le_of_ble_eq_true rfl, Nat.le_of_ble_eq_true rfl⟩) ?_
        refine lv_iload_n hx hb dX4_set_39 rfl (lv_at hl 2 rfl) ?_
        refine hx_rows S hK hM.pr hX cv c3 dX4_set_40 (fun n40 => ?_) (fun n40 => ?_)
        · skip
          refine lv_astoreN (lv' := [(6, .null), (0, .ref (ad 0 0)), (1, .int cv), (2, .int k), (3, .int i), (4, .long b)]) hx hb dX4_set_41 hl (by decide) rfl (fun ls hl => ?_)
          refine lv_aloadN hx hb dX4_set_43 (lv_at hl 0 rfl) ?_
          refine lv_ifnonnullN hx hb dX4_set_45 ?_
          refine lv_iconst (v := 1) hx hb dX4_set_48 (by decide) ?_
          refine pc_i (rS (rest := []) S hK (c_X4_answerFor l D cT s.heap 1) sm_X4_answerFor w_1_104 ⟨Nat.le_of_ble_eq_true rfl, Nat.le_of_ble_eq_true rfl⟩ ⟨rfl, rfl⟩ rfl hl.1 rfl (Nat.le_of_ble_eq_true rfl) dX4_set_49 ⟨Nat.le_of_ble_eq_true rfl, Nat.le_of_ble_eq_true rfl⟩) (fun r4 hr4 => ?_)
          subst hr4
          refine mr_i S hM hr hlocks dX4_set_52 ⟨Nat.le_of_ble_eq_true rfl, Nat.le_of_ble_eq_true rfl⟩ ?_
          have hok : okB cv b := by unfold okB; rw [if_neg c10]; exact c15
          have e9 : sp_set z cv k i b = ((-10 - 1), z) := by unfold sp_set; rw [if_pos ⟨c3, hok⟩, show ask z cv k i = 1 from if_pos n40, if_neg (by decide)]
          rw [e9]
          exact ⟨rfl, ad, rfl, hX⟩
        · skip
          refine lv_astore (lv' := [(6, .ref (ad 1 (cl (z.1 2 (slot cv k))))), (0, .ref (ad 0 0)), (1, .int cv), (2, .int k), (3, .int i), (4, .long b)]) hx hb dX4_set_41 hl (by decide) rfl (fun ls hl => ?_)
          refine lv_aload hx hb dX4_set_43 (lv_at hl 0 rfl) ?_
          refine lv_ifnonnull (tgt := 53) hx hb dX4_set_45 (by decide) ?_
          have hrl := hI.slr (show n ≤ 512 by omega) (slot_lt (cv := cv) c3).2.1 n40
          have hsz := (hI.sl (show n ≤ 512 by omega) (slot_lt (cv := cv) c3).2.1 n40).2
          have hsz2 := in_cl hsz
          refine lv_iload_n hx hb dX4_set_53 rfl (lv_at hl 4 rfl) ?_
          refine lv_aload hx hb dX4_set_54 (lv_at hl 0 rfl) ?_
          refine hm_alen S hK hM.pr (hX.row hrl) rfl dX4_set_56 ?_
          refine pc_b (rS (rest := []) S hK (c_X4_isBelow l D cT s.heap i (nI (cl (z.1 1 (cl (z.1 2 (slot cv k)))))) (n := cl (z.1 1 (cl (z.1 2 (slot cv k))))) (by omega) rfl) sm_X4_isBelow w_1_77 ⟨Nat.le_of_ble_eq_true rfl, Nat.le_of_ble_eq_true rfl⟩ ⟨rfl, rfl⟩ rfl hl.1 rfl (Nat.le_of_ble_eq_true rfl) dX4_set_57 ⟨Nat.le_of_ble_eq_true rfl, Nat.le_of_ble_eq_true rfl⟩) (fun c57 => ?_) (fun c57 => ?_)
          · skip
            refine lv_if_ne (tgt := 68) hx hb dX4_set_60 (by decide) (fun _ => ?_) (fun h => absurd h (by decide))
            refine lv_aload hx hb dX4_set_68 (lv_at hl 0 rfl) ?_
            refine lv_iload_n hx hb dX4_set_70 rfl (lv_at hl 4 rfl) ?_
            refine lv_iload_n hx hb dX4_set_71 rfl (lv_at hl 2 rfl) ?_
            refine lv_if_eq (tgt := 87) hx hb dX4_set_72 (by decide) (fun w => absurd w c10) (fun _ => ?_)
            refine lv_aload_n hx hb dX4_set_75 rfl (lv_at hl 1 rfl) ?_
            refine hm_get S hK hM.pr cI4 (XS.c0 hX) 0 (by decide) w_1_41 rfl dX4_set_76 ?_
            refine lv_lload hx hb dX4_set_79 (lv_at hl 5 rfl) ?_
            refine pc_d (rV (rest := [.int i, .ref (ad 1 (cl (z.1 2 (slot cv k))))]) S hK hM.pr cI2 hX.num.1 rfl (x_doubleOf l D cT s.heap hM.pr hX.num b c15) sm_X2_doubleOf w_1_109 w_1_107 ⟨Nat.le_of_ble_eq_true rfl, Nat.le_of_ble_eq_true rfl⟩ ⟨rfl, rfl⟩ rfl hl.1 rfl (Nat.le_of_ble_eq_true rfl) dX4_set_81 ⟨Nat.le_of_ble_eq_true rfl, Nat.le_of_ble_eq_true rfl⟩) (fun r5 hr5 => ?_)
            subst hr5
            refine lv_goto (tgt := 97) hx hb dX4_set_84 (by decide) ?_
            refine hm_dast S hK hM (hX.row hrl) c57 dX4_set_97 (fun H locs M2 hM2 hM => ?_)
            have hX := XS.uItem hrl (show cl i < 16 by have := in_cl c57; omega) hX hM2
            refine lv_iconst (v := 1) hx hb dX4_set_98 (by decide) ?_
            refine mr_i S hM hr hlocks dX4_set_99 ⟨Nat.le_of_ble_eq_true rfl, Nat.le_of_ble_eq_true rfl⟩ ?_
            have hok : okB cv b := by unfold okB; rw [if_neg c10]; exact c15
            have e9 : sp_set z cv k i b = (1, (setF z 0 (16 * (cl (z.1 2 (slot cv k))) + cl i) (Int64.toUInt64 b))) := by unfold sp_set; rw [if_pos ⟨c3, hok⟩, if_pos (show ask z cv k i = 0 from (if_neg n40).trans (if_pos c57)), show numB cv b = b.toUInt64 from if_neg c10]; rfl
            rw [e9]
            exact ⟨rfl, ad, rfl, hX⟩
          · skip
            refine lv_if_ne (tgt := 68) hx hb dX4_set_60 (by decide) (fun h => absurd rfl h) (fun _ => ?_)
            refine lv_iconst (v := 2) hx hb dX4_set_63 (by decide) ?_
            refine pc_i (rS (rest := []) S hK (c_X4_answerFor l D cT s.heap 2) sm_X4_answerFor w_1_104 ⟨Nat.le_of_ble_eq_true rfl, Nat.le_of_ble_eq_true rfl⟩ ⟨rfl, rfl⟩ rfl hl.1 rfl (Nat.le_of_ble_eq_true rfl) dX4_set_64 ⟨Nat.le_of_ble_eq_true rfl, Nat.le_of_ble_eq_true rfl⟩) (fun r6 hr6 => ?_)
            subst hr6
            refine mr_i S hM hr hlocks dX4_set_67 ⟨Nat.le_of_ble_eq_true rfl, Nat.le_of_ble_eq_true rfl⟩ ?_
            have hok : okB cv b := by unfold okB; rw [if_neg c10]; exact c15
            have e9 : sp_set z cv k i b = ((-10 - 2), z) := by unfold sp_set; rw [if_pos ⟨c3, hok⟩, show ask z cv k i = 2 from (if_neg n40).trans (if_neg c57), if_neg (by decide)]
            rw [e9]
            exact ⟨rfl, ad, rfl, hX⟩
      · skip
        refine lv_if_eq (tgt := 32) hx hb dX4_set_18 (by decide) (fun _ => ?_) (fun h => absurd (by decide) h)
        refine lv_iconst (v := (-1)) hx hb dX4_set_32 (by decide) ?_
        refine mr_i S hM hr hlocks dX4_set_33 ⟨Nat.le_of_ble_eq_true rfl, Nat.le_of_ble_eq_true rfl⟩ ?_
        have e9 : sp_set z cv k i b = (-1, z) := by unfold sp_set; exact if_neg (fun q => by have q2 := q.2; unfold okB at q2; rw [if_neg c10] at q2; exact c15 q2)
        rw [e9]
        exact ⟨rfl, ad, rfl, hX⟩
  · skip
    refine lv_if_eq (tgt := 32) hx hb dX4_set_6 (by decide) (fun _ => ?_) (fun h => absurd (by decide) h)
    refine lv_iconst (v := (-1)) hx hb dX4_set_32 (by decide) ?_
    refine mr_i S hM hr hlocks dX4_set_33 ⟨Nat.le_of_ble_eq_true rfl, Nat.le_of_ble_eq_true rfl⟩ ?_
    have e9 : sp_set z cv k i b = (-1, z) := by unfold sp_set; exact if_neg (fun q => c3 q.1)
    rw [e9]
    exact ⟨rfl, ad, rfl, hX⟩
set_option maxHeartbeats 4000000 in
set_option maxRecDepth 100000 in
theorem c_X4_get (l : Launch) (D : va_G) (cT : Nat → ClassId) {M : hmp} {fu fd : Nat → UInt64} {ad : Nat → Nat → Nat} {z : SG} {n : Nat} (hX : XS cT fu fd ad M z) (hI : INV n z) (hn : n < 512) (cv k i : Int32) (sz : Nat) : Met l yX4_get (wz yX4_get cX4_get 5 (some .int)) ({ frames := 4, cells := 0, slots := 0, locals := 103 } : Room) (mP D cT [.ref (ad 0 0), .int cv, .int k, .int i] M sz) (mQi (fun rr MM => rr = (sp_get z cv k i).1 ∧ ∃ ad1, ad1 0 0 = ad 0 0 ∧ XS cT fu fd ad1 MM (sp_get z cv k i).2) D M sz) 0 0 (FA M sz) := by
  refine mk_m (by decide +kernel) (Nat.le_of_ble_eq_true rfl) ?_
  intro p e s m args below meth c S hK hsz hM hr hlocks hnm ls hl
  have hx := S.1
  have hb := S.2.1
  have hml := S.2.2.1
  have hown := S.2.2.2.1
  have hts := S.2.2.2.2
  have hl : lv_has ls 5 [(0, .ref (ad 0 0)), (1, .int cv), (2, .int k), (3, .int i)] := hl
  refine lv_iload_n hx hb dX4_get_0 rfl (lv_at hl 2 rfl) ?_
  refine lv_bipush (v := 6) hx hb dX4_get_1 (by decide) ?_
  refine pc_b (rS (rest := []) S hK (c_X4_isBelow l D cT s.heap k 6 (n := 6) (by decide) rfl) sm_X4_isBelow w_1_77 ⟨Nat.le_of_ble_eq_true rfl, Nat.le_of_ble_eq_true rfl⟩ ⟨rfl, rfl⟩ rfl hl.1 rfl (Nat.le_of_ble_eq_true rfl) dX4_get_3 ⟨Nat.le_of_ble_eq_true rfl, Nat.le_of_ble_eq_true rfl⟩) (fun c3 => ?_) (fun c3 => ?_)
  · skip
    refine lv_if_ne (tgt := 11) hx hb dX4_get_6 (by decide) (fun _ => ?_) (fun h => absurd h (by decide))
    refine lv_aload_n hx hb dX4_get_11 rfl (lv_at hl 0 rfl) ?_
    refine lv_iload_n hx hb dX4_get_12 rfl (lv_at hl 1 rfl) ?_
    refine pc_a (rV (rest := []) S hK hM.pr cI4 (XS.c0 hX) rfl (c_X4_rowsOf l D cT s.heap hM.pr hX cv) sm_X4_rowsOf w_S_0 w_1_80 ⟨Nat.le_of_ble_eq_true rfl, Nat.le_of_ble_eq_true rfl⟩ ⟨rfl, rfl⟩ rfl hl.1 rfl (Nat.le_of_ble_eq_true rfl) dX4_get_13 ⟨Nat.le_of_ble_eq_true rfl, Nat.le_of_ble_eq_true rfl⟩) ?_
    refine lv_iload_n hx hb dX4_get_16 rfl (lv_at hl 2 rfl) ?_
    refine hx_rows S hK hM.pr hX cv c3 dX4_get_17 (fun n17 => ?_) (fun n17 => ?_)
    · skip
      refine lv_astoreN (lv' := [(4, .null), (0, .ref (ad 0 0)), (1, .int cv), (2, .int k), (3, .int i)]) hx hb dX4_get_18 hl (by decide) rfl (fun ls hl => ?_)
      refine lv_aloadN hx hb dX4_get_20 (lv_at hl 0 rfl) ?_
      refine lv_ifnonnullN hx hb dX4_get_22 ?_
      refine lv_iconst (v := 1) hx hb dX4_get_25 (by decide) ?_
      refine pc_i (rS (rest := []) S hK (c_X4_answerFor l D cT s.heap 1) sm_X4_answerFor w_1_104 ⟨Nat.le_of_ble_eq_true rfl, Nat.le_of_ble_eq_true rfl⟩ ⟨rfl, rfl⟩ rfl hl.1 rfl (Nat.le_of_ble_eq_true rfl) dX4_get_26 ⟨Nat.le_of_ble_eq_true rfl, Nat.le_of_ble_eq_true rfl⟩) (fun r1 hr1 => ?_)
      subst hr1
      refine mr_i S hM hr hlocks dX4_get_29 ⟨Nat.le_of_ble_eq_true rfl, Nat.le_of_ble_eq_true rfl⟩ ?_
      have e9 : sp_get z cv k i = ((-10 - 1), z) := by unfold sp_get; rw [if_pos c3, show ask z cv k i = 1 from if_pos n17, if_neg (by decide)]
      rw [e9]
      exact ⟨rfl, ad, rfl, hX⟩
    · skip
      refine lv_astore (lv' := [(4, .ref (ad 1 (cl (z.1 2 (slot cv k))))), (0, .ref (ad 0 0)), (1, .int cv), (2, .int k), (3, .int i)]) hx hb dX4_get_18 hl (by decide) rfl (fun ls hl => ?_)
      refine lv_aload hx hb dX4_get_20 (lv_at hl 0 rfl) ?_
      refine lv_ifnonnull (tgt := 30) hx hb dX4_get_22 (by decide) ?_
      have hrl := hI.slr (show n ≤ 512 by omega) (slot_lt (cv := cv) c3).2.1 n17
      have hsz := (hI.sl (show n ≤ 512 by omega) (slot_lt (cv := cv) c3).2.1 n17).2
      have hsz2 := in_cl hsz
      refine lv_iload_n hx hb dX4_get_30 rfl (lv_at hl 4 rfl) ?_
      refine lv_aload hx hb dX4_get_31 (lv_at hl 0 rfl) ?_
      refine hm_alen S hK hM.pr (hX.row hrl) rfl dX4_get_33 ?_
      refine pc_b (rS (rest := []) S hK (c_X4_isBelow l D cT s.heap i (nI (cl (z.1 1 (cl (z.1 2 (slot cv k)))))) (n := cl (z.1 1 (cl (z.1 2 (slot cv k))))) (by omega) rfl) sm_X4_isBelow w_1_77 ⟨Nat.le_of_ble_eq_true rfl, Nat.le_of_ble_eq_true rfl⟩ ⟨rfl, rfl⟩ rfl hl.1 rfl (Nat.le_of_ble_eq_true rfl) dX4_get_34 ⟨Nat.le_of_ble_eq_true rfl, Nat.le_of_ble_eq_true rfl⟩) (fun c34 => ?_) (fun c34 => ?_)
      · skip
        refine lv_if_ne (tgt := 45) hx hb dX4_get_37 (by decide) (fun _ => ?_) (fun h => absurd h (by decide))
        have hxf := hI.it (j := cl i) (slot_lt (cv := cv) c3).2.1 n17 (by have := in_cl c34; omega)
        refine lv_aload_n hx hb dX4_get_45 rfl (lv_at hl 1 rfl) ?_
        refine lv_iload_n hx hb dX4_get_46 rfl (lv_at hl 2 rfl) ?_
        refine lv_if_eq (tgt := 64) hx hb dX4_get_47 (by decide) (fun c47 => ?_) (fun c47 => ?_)
        · skip
          have hsl0 : slot cv k = cl k := by have := (slot_lt (cv := cv) c3).2.2; rw [if_pos c47] at this; exact this
          have hxfl := hI.itf (k := cl k) (j := cl i) (in_cl c3) (by rw [← hsl0]; exact n17) (by have := in_cl c34; omega)
          rw [← hsl0] at hxfl
          refine lv_aload_n hx hb dX4_get_64 rfl (lv_at hl 1 rfl) ?_
          refine hm_get S hK hM.pr cI4 (XS.c0 hX) 0 (by decide) w_1_41 rfl dX4_get_65 ?_
          refine lv_aload hx hb dX4_get_68 (lv_at hl 0 rfl) ?_
          refine lv_iload_n hx hb dX4_get_70 rfl (lv_at hl 4 rfl) ?_
          refine hm_dald S hK hM.pr (hX.row hrl) c34 dX4_get_71 ?_
          refine lv_topd (fun z2 hz2 => ?_)
          have hz2 : z2 = (z.2.1 0 (itm z cv k i)) := by rw [hz2]; exact if_pos (by have := in_cl c34; show cl i < 16; omega)
          subst hz2
          refine lv_d2f hx hb dX4_get_72 (n32_of (d2f_nn (fin64_nn hxf))) ?_
          refine pc_i (rV (rest := [.ref (ad 0 0)]) S hK hM.pr cI2 hX.num.1 rfl (c_X2_bitsOfFloat l D cT s.heap hM.pr hX.num (FP.d2f (z.2.1 0 (itm z cv k i))) (flo_fin32 hxfl)) sm_X2_bitsOfFloat w_1_154 w_1_152 ⟨Nat.le_of_ble_eq_true rfl, Nat.le_of_ble_eq_true rfl⟩ ⟨rfl, rfl⟩ rfl hl.1 rfl (Nat.le_of_ble_eq_true rfl) dX4_get_73 ⟨Nat.le_of_ble_eq_true rfl, Nat.le_of_ble_eq_true rfl⟩) (fun r3 hr3 => ?_)
          subst hr3
          refine lv_i2l hx hb dX4_get_76 rfl ?_
          refine mc_i hM (rVm (rest := []) S hK hM cI4 (XS.c0 hX) rfl (c_X4_tell l D cT hX hI hn (Int32.toInt64 (UInt32.toInt32 (FP.d2f (z.2.1 0 (itm z cv k i))))) s.heap.size) sm_X4_tell w_S_5 w_1_156 ⟨Nat.le_of_ble_eq_true rfl, Nat.le_of_ble_eq_true rfl⟩ ⟨rfl, rfl⟩ rfl hl.1 rfl (Nat.le_of_ble_eq_true rfl) dX4_get_77 ⟨Nat.le_of_ble_eq_true rfl, Nat.le_of_ble_eq_true rfl⟩) (fun r4 M5 H locs hpr4 hM _ _ _ => ?_)
          obtain ⟨rfl, hX⟩ := hpr4
          refine mr_i S hM hr hlocks dX4_get_80 ⟨Nat.le_of_ble_eq_true rfl, Nat.le_of_ble_eq_true rfl⟩ ?_
          have e9 : sp_get z cv k i = (1, (toldS z (Int32.toInt64 (UInt32.toInt32 (FP.d2f (z.2.1 0 (itm z cv k i))))))) := by unfold sp_get; rw [if_pos c3, if_pos (show ask z cv k i = 0 from (if_neg n17).trans (if_pos c34)), show bitB cv (z.2.1 0 (itm z cv k i)) = (FP.d2f (z.2.1 0 (itm z cv k i))).toInt32.toInt64 from if_pos c47]
          rw [e9]
          exact ⟨rfl, ad, rfl, hX⟩
        · skip
          refine lv_aload_n hx hb dX4_get_50 rfl (lv_at hl 1 rfl) ?_
          refine hm_get S hK hM.pr cI4 (XS.c0 hX) 0 (by decide) w_1_41 rfl dX4_get_51 ?_
          refine lv_aload hx hb dX4_get_54 (lv_at hl 0 rfl) ?_
          refine lv_iload_n hx hb dX4_get_56 rfl (lv_at hl 4 rfl) ?_
          refine hm_dald S hK hM.pr (hX.row hrl) c34 dX4_get_57 ?_
          refine lv_topd (fun z6 hz6 => ?_)
          have hz6 : z6 = (z.2.1 0 (itm z cv k i)) := by rw [hz6]; exact if_pos (by have := in_cl c34; show cl i < 16; omega)
          subst hz6
          refine pc_l (rV (rest := [.ref (ad 0 0)]) S hK hM.pr cI2 hX.num.1 rfl (c_X2_bitsOfDouble l D cT s.heap hM.pr hX.num (z.2.1 0 (itm z cv k i)) hxf) sm_X2_bitsOfDouble w_1_140 w_1_138 ⟨Nat.le_of_ble_eq_true rfl, Nat.le_of_ble_eq_true rfl⟩ ⟨rfl, rfl⟩ rfl hl.1 rfl (Nat.le_of_ble_eq_true rfl) dX4_get_58 ⟨Nat.le_of_ble_eq_true rfl, Nat.le_of_ble_eq_true rfl⟩) (fun r7 hr7 => ?_)
          subst hr7
          refine lv_goto (tgt := 77) hx hb dX4_get_61 (by decide) ?_
          refine mc_i hM (rVm (rest := []) S hK hM cI4 (XS.c0 hX) rfl (c_X4_tell l D cT hX hI hn (UInt64.toInt64 (z.2.1 0 (itm z cv k i))) s.heap.size) sm_X4_tell w_S_5 w_1_156 ⟨Nat.le_of_ble_eq_true rfl, Nat.le_of_ble_eq_true rfl⟩ ⟨rfl, rfl⟩ rfl hl.1 rfl (Nat.le_of_ble_eq_true rfl) dX4_get_77 ⟨Nat.le_of_ble_eq_true rfl, Nat.le_of_ble_eq_true rfl⟩) (fun r8 M9 H locs hpr8 hM _ _ _ => ?_)
          obtain ⟨rfl, hX⟩ := hpr8
          refine mr_i S hM hr hlocks dX4_get_80 ⟨Nat.le_of_ble_eq_true rfl, Nat.le_of_ble_eq_true rfl⟩ ?_
          have e9 : sp_get z cv k i = (1, (toldS z (UInt64.toInt64 (z.2.1 0 (itm z cv k i))))) := by unfold sp_get; rw [if_pos c3, if_pos (show ask z cv k i = 0 from (if_neg n17).trans (if_pos c34)), show bitB cv (z.2.1 0 (itm z cv k i)) = (z.2.1 0 (itm z cv k i)).toInt64 from if_neg c47]
          rw [e9]
          exact ⟨rfl, ad, rfl, hX⟩
      · skip
        refine lv_if_ne (tgt := 45) hx hb dX4_get_37 (by decide) (fun h => absurd rfl h) (fun _ => ?_)
        refine lv_iconst (v := 2) hx hb dX4_get_40 (by decide) ?_
        refine pc_i (rS (rest := []) S hK (c_X4_answerFor l D cT s.heap 2) sm_X4_answerFor w_1_104 ⟨Nat.le_of_ble_eq_true rfl, Nat.le_of_ble_eq_true rfl⟩ ⟨rfl, rfl⟩ rfl hl.1 rfl (Nat.le_of_ble_eq_true rfl) dX4_get_41 ⟨Nat.le_of_ble_eq_true rfl, Nat.le_of_ble_eq_true rfl⟩) (fun r10 hr10 => ?_)
        subst hr10
        refine mr_i S hM hr hlocks dX4_get_44 ⟨Nat.le_of_ble_eq_true rfl, Nat.le_of_ble_eq_true rfl⟩ ?_
        have e9 : sp_get z cv k i = ((-10 - 2), z) := by unfold sp_get; rw [if_pos c3, show ask z cv k i = 2 from (if_neg n17).trans (if_neg c34), if_neg (by decide)]
        rw [e9]
        exact ⟨rfl, ad, rfl, hX⟩
  · skip
    refine lv_if_ne (tgt := 11) hx hb dX4_get_6 (by decide) (fun h => absurd rfl h) (fun _ => ?_)
    refine lv_iconst (v := (-1)) hx hb dX4_get_9 (by decide) ?_
    refine mr_i S hM hr hlocks dX4_get_10 ⟨Nat.le_of_ble_eq_true rfl, Nat.le_of_ble_eq_true rfl⟩ ?_
    have e9 : sp_get z cv k i = (-1, z) := by unfold sp_get; exact if_neg c3
    rw [e9]
    exact ⟨rfl, ad, rfl, hX⟩
set_option maxHeartbeats 4000000 in
set_option maxRecDepth 100000 in
theorem c_X4_wrap (l : Launch) (D : va_G) (cT : Nat → ClassId) {M : hmp} {fu fd : Nat → UInt64} {ad : Nat → Nat → Nat} {z : SG} {n : Nat} (hX : XS cT fu fd ad M z) (hI : INV n z) (hn : n < 512) (cv k i j : Int32) (sz : Nat) : Met l yX4_wrap (wz yX4_wrap cX4_wrap 6 (some .int)) ({ frames := 2, cells := 0, slots := 0, locals := 52 } : Room) (mP D cT [.ref (ad 0 0), .int cv, .int k, .int i, .int j] M sz) (mQi (fun rr MM => rr = (sp_wrap z cv k i j).1 ∧ ∃ ad1, ad1 0 0 = ad 0 0 ∧ XS cT fu fd ad1 MM (sp_wrap z cv k i j).2) D M sz) 0 0 (FA M sz) := by
  refine mk_m (by decide +kernel) (Nat.le_of_ble_eq_true rfl) ?_
  intro p e s m args below meth c S hK hsz hM hr hlocks hnm ls hl
  have hx := S.1
  have hb := S.2.1
  have hml := S.2.2.1
  have hown := S.2.2.2.1
  have hts := S.2.2.2.2
  have hl : lv_has ls 6 [(0, .ref (ad 0 0)), (1, .int cv), (2, .int k), (3, .int i), (4, .int j)] := hl
  refine lv_iload_n hx hb dX4_wrap_0 rfl (lv_at hl 2 rfl) ?_
  refine lv_bipush (v := 6) hx hb dX4_wrap_1 (by decide) ?_
  refine pc_b (rS (rest := []) S hK (c_X4_isBelow l D cT s.heap k 6 (n := 6) (by decide) rfl) sm_X4_isBelow w_1_77 ⟨Nat.le_of_ble_eq_true rfl, Nat.le_of_ble_eq_true rfl⟩ ⟨rfl, rfl⟩ rfl hl.1 rfl (Nat.le_of_ble_eq_true rfl) dX4_wrap_3 ⟨Nat.le_of_ble_eq_true rfl, Nat.le_of_ble_eq_true rfl⟩) (fun c3 => ?_) (fun c3 => ?_)
  · skip
    refine lv_if_ne (tgt := 11) hx hb dX4_wrap_6 (by decide) (fun _ => ?_) (fun h => absurd h (by decide))
    refine lv_aload_n hx hb dX4_wrap_11 rfl (lv_at hl 0 rfl) ?_
    refine lv_iload_n hx hb dX4_wrap_12 rfl (lv_at hl 1 rfl) ?_
    refine pc_a (rV (rest := []) S hK hM.pr cI4 (XS.c0 hX) rfl (c_X4_rowsOf l D cT s.heap hM.pr hX cv) sm_X4_rowsOf w_S_0 w_1_80 ⟨Nat.le_of_ble_eq_true rfl, Nat.le_of_ble_eq_true rfl⟩ ⟨rfl, rfl⟩ rfl hl.1 rfl (Nat.le_of_ble_eq_true rfl) dX4_wrap_13 ⟨Nat.le_of_ble_eq_true rfl, Nat.le_of_ble_eq_true rfl⟩) ?_
    refine lv_iload_n hx hb dX4_wrap_16 rfl (lv_at hl 2 rfl) ?_
    refine hx_rows S hK hM.pr hX cv c3 dX4_wrap_17 (fun n17 => ?_) (fun n17 => ?_)
    · skip
      refine lv_astoreN (lv' := [(5, .null), (0, .ref (ad 0 0)), (1, .int cv), (2, .int k), (3, .int i), (4, .int j)]) hx hb dX4_wrap_18 hl (by decide) rfl (fun ls hl => ?_)
      refine lv_aloadN hx hb dX4_wrap_20 (lv_at hl 0 rfl) ?_
      refine lv_ifnonnullN hx hb dX4_wrap_22 ?_
      refine lv_iconst (v := 1) hx hb dX4_wrap_25 (by decide) ?_
      refine pc_i (rS (rest := []) S hK (c_X4_answerFor l D cT s.heap 1) sm_X4_answerFor w_1_104 ⟨Nat.le_of_ble_eq_true rfl, Nat.le_of_ble_eq_true rfl⟩ ⟨rfl, rfl⟩ rfl hl.1 rfl (Nat.le_of_ble_eq_true rfl) dX4_wrap_26 ⟨Nat.le_of_ble_eq_true rfl, Nat.le_of_ble_eq_true rfl⟩) (fun r1 hr1 => ?_)
      subst hr1
      refine mr_i S hM hr hlocks dX4_wrap_29 ⟨Nat.le_of_ble_eq_true rfl, Nat.le_of_ble_eq_true rfl⟩ ?_
      have e9 : sp_wrap z cv k i j = ((-10 - 1), z) := by unfold sp_wrap; rw [if_pos c3, show ask z cv k i = 1 from if_pos n17, if_neg (fun q => absurd q.1 (by decide)), if_neg (by decide)]
      rw [e9]
      exact ⟨rfl, ad, rfl, hX⟩
    · skip
      refine lv_astore (lv' := [(5, .ref (ad 1 (cl (z.1 2 (slot cv k))))), (0, .ref (ad 0 0)), (1, .int cv), (2, .int k), (3, .int i), (4, .int j)]) hx hb dX4_wrap_18 hl (by decide) rfl (fun ls hl => ?_)
      refine lv_aload hx hb dX4_wrap_20 (lv_at hl 0 rfl) ?_
      refine lv_ifnonnull (tgt := 30) hx hb dX4_wrap_22 (by decide) ?_
      have hrl := hI.slr (show n ≤ 512 by omega) (slot_lt (cv := cv) c3).2.1 n17
      have hsz := (hI.sl (show n ≤ 512 by omega) (slot_lt (cv := cv) c3).2.1 n17).2
      have hsz2 := in_cl hsz
      refine lv_iload_n hx hb dX4_wrap_30 rfl (lv_at hl 4 rfl) ?_
      refine lv_aload hx hb dX4_wrap_31 (lv_at hl 0 rfl) ?_
      refine hm_alen S hK hM.pr (hX.row hrl) rfl dX4_wrap_33 ?_
      refine pc_b (rS (rest := []) S hK (c_X4_isBelow l D cT s.heap i (nI (cl (z.1 1 (cl (z.1 2 (slot cv k)))))) (n := cl (z.1 1 (cl (z.1 2 (slot cv k))))) (by omega) rfl) sm_X4_isBelow w_1_77 ⟨Nat.le_of_ble_eq_true rfl, Nat.le_of_ble_eq_true rfl⟩ ⟨rfl, rfl⟩ rfl hl.1 rfl (Nat.le_of_ble_eq_true rfl) dX4_wrap_34 ⟨Nat.le_of_ble_eq_true rfl, Nat.le_of_ble_eq_true rfl⟩) (fun c34 => ?_) (fun c34 => ?_)
      · skip
        refine lv_if_eq (tgt := 51) hx hb dX4_wrap_37 (by decide) (fun h => absurd h (by decide)) (fun _ => ?_)
        refine lv_iload hx hb dX4_wrap_40 (lv_at hl 5 rfl) ?_
        refine lv_aload hx hb dX4_wrap_42 (lv_at hl 0 rfl) ?_
        refine hm_alen S hK hM.pr (hX.row hrl) rfl dX4_wrap_44 ?_
        refine pc_b (rS (rest := []) S hK (c_X4_isBelow l D cT s.heap j (nI (cl (z.1 1 (cl (z.1 2 (slot cv k)))))) (n := cl (z.1 1 (cl (z.1 2 (slot cv k))))) (by omega) rfl) sm_X4_isBelow w_1_77 ⟨Nat.le_of_ble_eq_true rfl, Nat.le_of_ble_eq_true rfl⟩ ⟨rfl, rfl⟩ rfl hl.1 rfl (Nat.le_of_ble_eq_true rfl) dX4_wrap_45 ⟨Nat.le_of_ble_eq_true rfl, Nat.le_of_ble_eq_true rfl⟩) (fun c45 => ?_) (fun c45 => ?_)
        · skip
          refine lv_if_ne (tgt := 56) hx hb dX4_wrap_48 (by decide) (fun _ => ?_) (fun h => absurd h (by decide))
          have hxi := hI.it (j := cl i) (slot_lt (cv := cv) c3).2.1 n17 (by have := in_cl c34; omega)
          have hxj := hI.it (j := cl j) (slot_lt (cv := cv) c3).2.1 n17 (by have := in_cl c45; omega)
          refine lv_aload hx hb dX4_wrap_56 (lv_at hl 0 rfl) ?_
          refine lv_iload hx hb dX4_wrap_58 (lv_at hl 5 rfl) ?_
          refine hm_dald S hK hM.pr (hX.row hrl) c45 dX4_wrap_60 ?_
          refine lv_topd (fun z2 hz2 => ?_)
          have hz2 : z2 = (z.2.1 0 (itm z cv k j)) := by rw [hz2]; exact if_pos (by have := in_cl c45; show cl j < 16; omega)
          subst hz2
          refine lv_dconst0 hx hb dX4_wrap_61 ?_
          refine lv_dcmp hx hb dX4_wrap_62 ?_
          refine lv_if_ne (tgt := 71) hx hb dX4_wrap_63 (by decide) (fun c63 => ?_) (fun c63 => ?_)
          · replace c63 := (cv_dcmp_l_ne _ _).mp c63
            have y0 : 0 < zmg (z.2.1 0 (itm z cv k j)) := Nat.pos_of_ne_zero (fun q => c63 ((eq0_iff hxj).mpr q))
            refine lv_aload hx hb dX4_wrap_71 (lv_at hl 0 rfl) ?_
            refine lv_iload_n hx hb dX4_wrap_73 rfl (lv_at hl 4 rfl) ?_
            refine lv_aload hx hb dX4_wrap_74 (lv_at hl 0 rfl) ?_
            refine lv_iload_n hx hb dX4_wrap_76 rfl (lv_at hl 4 rfl) ?_
            refine hm_dald S hK hM.pr (hX.row hrl) c34 dX4_wrap_77 ?_
            refine lv_topd (fun z3 hz3 => ?_)
            have hz3 : z3 = (z.2.1 0 (itm z cv k i)) := by rw [hz3]; exact if_pos (by have := in_cl c34; show cl i < 16; omega)
            subst hz3
            refine lv_aload hx hb dX4_wrap_78 (lv_at hl 0 rfl) ?_
            refine lv_iload hx hb dX4_wrap_80 (lv_at hl 5 rfl) ?_
            refine hm_dald S hK hM.pr (hX.row hrl) c45 dX4_wrap_82 ?_
            refine lv_topd (fun z4 hz4 => ?_)
            have hz4 : z4 = (z.2.1 0 (itm z cv k j)) := by rw [hz4]; exact if_pos (by have := in_cl c45; show cl j < 16; omega)
            subst hz4
            refine pc_d (rS (rest := [.int i, .ref (ad 1 (cl (z.1 2 (slot cv k))))]) S hK (c_X2_rest l D cT s.heap (z.2.1 0 (itm z cv k i)) (z.2.1 0 (itm z cv k j)) hxi hxj y0) sm_X2_rest w_1_164 ⟨Nat.le_of_ble_eq_true rfl, Nat.le_of_ble_eq_true rfl⟩ ⟨rfl, rfl⟩ rfl hl.1 rfl (Nat.le_of_ble_eq_true rfl) dX4_wrap_83 ⟨Nat.le_of_ble_eq_true rfl, Nat.le_of_ble_eq_true rfl⟩) (fun r5 hr5 => ?_)
            subst hr5
            refine hm_dast S hK hM (hX.row hrl) c34 dX4_wrap_86 (fun H locs M2 hM2 hM => ?_)
            have hX := XS.uItem hrl (show cl i < 16 by have := in_cl c34; omega) hX hM2
            refine lv_iconst (v := 1) hx hb dX4_wrap_87 (by decide) ?_
            refine mr_i S hM hr hlocks dX4_wrap_88 ⟨Nat.le_of_ble_eq_true rfl, Nat.le_of_ble_eq_true rfl⟩ ?_
            have e9 : sp_wrap z cv k i j = (1, (setF z 0 (16 * (cl (z.1 2 (slot cv k))) + cl i) (FP.drem (z.2.1 0 (itm z cv k i)) (z.2.1 0 (itm z cv k j))))) := by unfold sp_wrap; rw [if_pos c3, if_pos ⟨show ask z cv k i = 0 from (if_neg n17).trans (if_pos c34), show ask z cv k j = 0 from (if_neg n17).trans (if_pos c45)⟩, if_neg c63]; rfl
            rw [e9]
            exact ⟨rfl, ad, rfl, hX⟩
          · replace c63 := (cv_dcmp_l_ne_n _ _).mp c63
            refine lv_iconst (v := 5) hx hb dX4_wrap_66 (by decide) ?_
            refine pc_i (rS (rest := []) S hK (c_X4_answerFor l D cT s.heap 5) sm_X4_answerFor w_1_104 ⟨Nat.le_of_ble_eq_true rfl, Nat.le_of_ble_eq_true rfl⟩ ⟨rfl, rfl⟩ rfl hl.1 rfl (Nat.le_of_ble_eq_true rfl) dX4_wrap_67 ⟨Nat.le_of_ble_eq_true rfl, Nat.le_of_ble_eq_true rfl⟩) (fun r6 hr6 => ?_)
            subst hr6
            refine mr_i S hM hr hlocks dX4_wrap_70 ⟨Nat.le_of_ble_eq_true rfl, Nat.le_of_ble_eq_true rfl⟩ ?_
            have e9 : sp_wrap z cv k i j = ((-10 - 5), z) := by unfold sp_wrap; rw [if_pos c3, if_pos ⟨show ask z cv k i = 0 from (if_neg n17).trans (if_pos c34), show ask z cv k j = 0 from (if_neg n17).trans (if_pos c45)⟩, if_pos c63]; rfl
            rw [e9]
            exact ⟨rfl, ad, rfl, hX⟩
        · skip
          refine lv_if_ne (tgt := 56) hx hb dX4_wrap_48 (by decide) (fun h => absurd rfl h) (fun _ => ?_)
          refine lv_iconst (v := 2) hx hb dX4_wrap_51 (by decide) ?_
          refine pc_i (rS (rest := []) S hK (c_X4_answerFor l D cT s.heap 2) sm_X4_answerFor w_1_104 ⟨Nat.le_of_ble_eq_true rfl, Nat.le_of_ble_eq_true rfl⟩ ⟨rfl, rfl⟩ rfl hl.1 rfl (Nat.le_of_ble_eq_true rfl) dX4_wrap_52 ⟨Nat.le_of_ble_eq_true rfl, Nat.le_of_ble_eq_true rfl⟩) (fun r7 hr7 => ?_)
          subst hr7
          refine mr_i S hM hr hlocks dX4_wrap_55 ⟨Nat.le_of_ble_eq_true rfl, Nat.le_of_ble_eq_true rfl⟩ ?_
          have e9 : sp_wrap z cv k i j = ((-10 - 2), z) := by unfold sp_wrap; rw [if_pos c3, show ask z cv k i = 0 from (if_neg n17).trans (if_pos c34), show ask z cv k j = 2 from (if_neg n17).trans (if_neg c45), if_neg (fun q => absurd q.2 (by decide)), if_pos rfl]
          rw [e9]
          exact ⟨rfl, ad, rfl, hX⟩
      · skip
        refine lv_if_eq (tgt := 51) hx hb dX4_wrap_37 (by decide) (fun _ => ?_) (fun h => absurd (by decide) h)
        refine lv_iconst (v := 2) hx hb dX4_wrap_51 (by decide) ?_
        refine pc_i (rS (rest := []) S hK (c_X4_answerFor l D cT s.heap 2) sm_X4_answerFor w_1_104 ⟨Nat.le_of_ble_eq_true rfl, Nat.le_of_ble_eq_true rfl⟩ ⟨rfl, rfl⟩ rfl hl.1 rfl (Nat.le_of_ble_eq_true rfl) dX4_wrap_52 ⟨Nat.le_of_ble_eq_true rfl, Nat.le_of_ble_eq_true rfl⟩) (fun r8 hr8 => ?_)
        subst hr8
        refine mr_i S hM hr hlocks dX4_wrap_55 ⟨Nat.le_of_ble_eq_true rfl, Nat.le_of_ble_eq_true rfl⟩ ?_
        have e9 : sp_wrap z cv k i j = ((-10 - 2), z) := by unfold sp_wrap; rw [if_pos c3, show ask z cv k i = 2 from (if_neg n17).trans (if_neg c34), if_neg (fun q => absurd q.1 (by decide)), if_neg (by decide)]
        rw [e9]
        exact ⟨rfl, ad, rfl, hX⟩
  · skip
    refine lv_if_ne (tgt := 11) hx hb dX4_wrap_6 (by decide) (fun h => absurd rfl h) (fun _ => ?_)
    refine lv_iconst (v := (-1)) hx hb dX4_wrap_9 (by decide) ?_
    refine mr_i S hM hr hlocks dX4_wrap_10 ⟨Nat.le_of_ble_eq_true rfl, Nat.le_of_ble_eq_true rfl⟩ ?_
    have e9 : sp_wrap z cv k i j = (-1, z) := by unfold sp_wrap; exact if_neg c3
    rw [e9]
    exact ⟨rfl, ad, rfl, hX⟩
